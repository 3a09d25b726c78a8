theorem dX12_isForgotten_0 : decode cX12_isForgotten 0 = .ok (.aload_n 0, 1) := by decide +kernel
theorem dX12_isForgotten_1 : decode cX12_isForgotten 1 = .ok (.getfield 292, 3) := by decide +kernel
theorem dX12_isForgotten_4 : decode cX12_isForgotten 4 = .ok (.ifCond .ne 5, 3) := by decide +kernel
theorem dX12_isForgotten_7 : decode cX12_isForgotten 7 = .ok (.iconst 0, 1) := by decide +kernel
theorem dX12_isForgotten_8 : decode cX12_isForgotten 8 = .ok (.ireturn, 1) := by decide +kernel
theorem dX12_isForgotten_9 : decode cX12_isForgotten 9 = .ok (.aload_n 0, 1) := by decide +kernel
theorem dX12_isForgotten_10 : decode cX12_isForgotten 10 = .ok (.ldc2_w 296, 3) := by decide +kernel
theorem dX12_isForgotten_13 : decode cX12_isForgotten 13 = .ok (.aload_n 0, 1) := by decide +kernel
theorem dX12_isForgotten_14 : decode cX12_isForgotten 14 = .ok (.getfield 298, 3) := by decide +kernel
theorem dX12_isForgotten_17 : decode cX12_isForgotten 17 = .ok (.lmul, 1) := by decide +kernel
theorem dX12_isForgotten_18 : decode cX12_isForgotten 18 = .ok (.ldc2_w 301, 3) := by decide +kernel
theorem dX12_isForgotten_21 : decode cX12_isForgotten 21 = .ok (.ladd, 1) := by decide +kernel
theorem dX12_isForgotten_22 : decode cX12_isForgotten 22 = .ok (.ldc2_w 303, 3) := by decide +kernel
theorem dX12_isForgotten_25 : decode cX12_isForgotten 25 = .ok (.lrem, 1) := by decide +kernel
theorem dX12_isForgotten_26 : decode cX12_isForgotten 26 = .ok (.putfield 298, 3) := by decide +kernel
theorem dX12_isForgotten_29 : decode cX12_isForgotten 29 = .ok (.aload_n 0, 1) := by decide +kernel
theorem dX12_isForgotten_30 : decode cX12_isForgotten 30 = .ok (.getfield 298, 3) := by decide +kernel
theorem dX12_isForgotten_33 : decode cX12_isForgotten 33 = .ok (.ldc2_w 305, 3) := by decide +kernel
theorem dX12_isForgotten_36 : decode cX12_isForgotten 36 = .ok (.ldiv, 1) := by decide +kernel
theorem dX12_isForgotten_37 : decode cX12_isForgotten 37 = .ok (.ldc2_w 307, 3) := by decide +kernel
theorem dX12_isForgotten_40 : decode cX12_isForgotten 40 = .ok (.lrem, 1) := by decide +kernel
theorem dX12_isForgotten_41 : decode cX12_isForgotten 41 = .ok (.aload_n 0, 1) := by decide +kernel
theorem dX12_isForgotten_42 : decode cX12_isForgotten 42 = .ok (.getfield 71, 3) := by decide +kernel
theorem dX12_isForgotten_45 : decode cX12_isForgotten 45 = .ok (.iload_n 1, 1) := by decide +kernel
theorem dX12_isForgotten_46 : decode cX12_isForgotten 46 = .ok (.iaload, 1) := by decide +kernel
theorem dX12_isForgotten_47 : decode cX12_isForgotten 47 = .ok (.i2l, 1) := by decide +kernel
theorem dX12_isForgotten_48 : decode cX12_isForgotten 48 = .ok (.lcmp, 1) := by decide +kernel
theorem dX12_isForgotten_49 : decode cX12_isForgotten 49 = .ok (.ifCond .ge 7, 3) := by decide +kernel
theorem dX12_isForgotten_52 : decode cX12_isForgotten 52 = .ok (.iconst 1, 1) := by decide +kernel
theorem dX12_isForgotten_53 : decode cX12_isForgotten 53 = .ok (.goto 4, 3) := by decide +kernel
theorem dX12_isForgotten_56 : decode cX12_isForgotten 56 = .ok (.iconst 0, 1) := by decide +kernel
theorem dX12_isForgotten_57 : decode cX12_isForgotten 57 = .ok (.istore_n 2, 1) := by decide +kernel
theorem dX12_isForgotten_58 : decode cX12_isForgotten 58 = .ok (.aload_n 0, 1) := by decide +kernel
theorem dX12_isForgotten_59 : decode cX12_isForgotten 59 = .ok (.dup, 1) := by decide +kernel
theorem dX12_isForgotten_60 : decode cX12_isForgotten 60 = .ok (.getfield 309, 3) := by decide +kernel
theorem dX12_isForgotten_63 : decode cX12_isForgotten 63 = .ok (.iload_n 2, 1) := by decide +kernel
theorem dX12_isForgotten_64 : decode cX12_isForgotten 64 = .ok (.ifCond .eq 7, 3) := by decide +kernel
theorem dX12_isForgotten_67 : decode cX12_isForgotten 67 = .ok (.iconst 1, 1) := by decide +kernel
theorem dX12_isForgotten_68 : decode cX12_isForgotten 68 = .ok (.goto 4, 3) := by decide +kernel
theorem dX12_isForgotten_71 : decode cX12_isForgotten 71 = .ok (.iconst 0, 1) := by decide +kernel
theorem dX12_isForgotten_72 : decode cX12_isForgotten 72 = .ok (.iadd, 1) := by decide +kernel
theorem dX12_isForgotten_73 : decode cX12_isForgotten 73 = .ok (.putfield 309, 3) := by decide +kernel
theorem dX12_isForgotten_76 : decode cX12_isForgotten 76 = .ok (.iload_n 2, 1) := by decide +kernel
theorem dX12_isForgotten_77 : decode cX12_isForgotten 77 = .ok (.ireturn, 1) := by decide +kernel
theorem dX12_yearOf_0 : decode cX12_yearOf 0 = .ok (.iconst 0, 1) := by decide +kernel
theorem dX12_yearOf_1 : decode cX12_yearOf 1 = .ok (.istore_n 2, 1) := by decide +kernel
theorem dX12_yearOf_2 : decode cX12_yearOf 2 = .ok (.iload_n 2, 1) := by decide +kernel
theorem dX12_yearOf_3 : decode cX12_yearOf 3 = .ok (.iconst 2, 1) := by decide +kernel
theorem dX12_yearOf_4 : decode cX12_yearOf 4 = .ok (.if_icmp .ge 78, 3) := by decide +kernel
theorem dX12_yearOf_7 : decode cX12_yearOf 7 = .ok (.aload_n 0, 1) := by decide +kernel
theorem dX12_yearOf_8 : decode cX12_yearOf 8 = .ok (.getfield 65, 3) := by decide +kernel
theorem dX12_yearOf_11 : decode cX12_yearOf 11 = .ok (.iload_n 2, 1) := by decide +kernel
theorem dX12_yearOf_12 : decode cX12_yearOf 12 = .ok (.iconst 0, 1) := by decide +kernel
theorem dX12_yearOf_13 : decode cX12_yearOf 13 = .ok (.bastore, 1) := by decide +kernel
theorem dX12_yearOf_14 : decode cX12_yearOf 14 = .ok (.iload_n 2, 1) := by decide +kernel
theorem dX12_yearOf_15 : decode cX12_yearOf 15 = .ok (.aload_n 0, 1) := by decide +kernel
theorem dX12_yearOf_16 : decode cX12_yearOf 16 = .ok (.getfield 68, 3) := by decide +kernel
theorem dX12_yearOf_19 : decode cX12_yearOf 19 = .ok (.if_icmp .ne 10, 3) := by decide +kernel
theorem dX12_yearOf_22 : decode cX12_yearOf 22 = .ok (.aload_n 0, 1) := by decide +kernel
theorem dX12_yearOf_23 : decode cX12_yearOf 23 = .ok (.getfield 312, 3) := by decide +kernel
theorem dX12_yearOf_26 : decode cX12_yearOf 26 = .ok (.goto 34, 3) := by decide +kernel
theorem dX12_yearOf_29 : decode cX12_yearOf 29 = .ok (.aload_n 0, 1) := by decide +kernel
theorem dX12_yearOf_30 : decode cX12_yearOf 30 = .ok (.getfield 56, 3) := by decide +kernel
theorem dX12_yearOf_33 : decode cX12_yearOf 33 = .ok (.iload_n 2, 1) := by decide +kernel
theorem dX12_yearOf_34 : decode cX12_yearOf 34 = .ok (.baload, 1) := by decide +kernel
theorem dX12_yearOf_35 : decode cX12_yearOf 35 = .ok (.ifCond .eq 24, 3) := by decide +kernel
theorem dX12_yearOf_38 : decode cX12_yearOf 38 = .ok (.aload_n 0, 1) := by decide +kernel
theorem dX12_yearOf_39 : decode cX12_yearOf 39 = .ok (.iload_n 2, 1) := by decide +kernel
theorem dX12_yearOf_40 : decode cX12_yearOf 40 = .ok (.iload_n 1, 1) := by decide +kernel
theorem dX12_yearOf_41 : decode cX12_yearOf 41 = .ok (.invokevirtual 315, 3) := by decide +kernel
theorem dX12_yearOf_44 : decode cX12_yearOf 44 = .ok (.ifCond .eq 15, 3) := by decide +kernel
theorem dX12_yearOf_47 : decode cX12_yearOf 47 = .ok (.aload_n 0, 1) := by decide +kernel
theorem dX12_yearOf_48 : decode cX12_yearOf 48 = .ok (.iload_n 2, 1) := by decide +kernel
theorem dX12_yearOf_49 : decode cX12_yearOf 49 = .ok (.invokevirtual 318, 3) := by decide +kernel
theorem dX12_yearOf_52 : decode cX12_yearOf 52 = .ok (.ifCond .ne 7, 3) := by decide +kernel
theorem dX12_yearOf_55 : decode cX12_yearOf 55 = .ok (.iconst 1, 1) := by decide +kernel
theorem dX12_yearOf_56 : decode cX12_yearOf 56 = .ok (.goto 4, 3) := by decide +kernel
theorem dX12_yearOf_59 : decode cX12_yearOf 59 = .ok (.iconst 0, 1) := by decide +kernel
theorem dX12_yearOf_60 : decode cX12_yearOf 60 = .ok (.istore_n 3, 1) := by decide +kernel
theorem dX12_yearOf_61 : decode cX12_yearOf 61 = .ok (.aload_n 0, 1) := by decide +kernel
theorem dX12_yearOf_62 : decode cX12_yearOf 62 = .ok (.getfield 62, 3) := by decide +kernel
theorem dX12_yearOf_65 : decode cX12_yearOf 65 = .ok (.iload_n 2, 1) := by decide +kernel
theorem dX12_yearOf_66 : decode cX12_yearOf 66 = .ok (.iload_n 3, 1) := by decide +kernel
theorem dX12_yearOf_67 : decode cX12_yearOf 67 = .ok (.ifCond .eq 7, 3) := by decide +kernel
theorem dX12_yearOf_70 : decode cX12_yearOf 70 = .ok (.iconst 1, 1) := by decide +kernel
theorem dX12_yearOf_71 : decode cX12_yearOf 71 = .ok (.goto 4, 3) := by decide +kernel
theorem dX12_yearOf_74 : decode cX12_yearOf 74 = .ok (.iconst 0, 1) := by decide +kernel
theorem dX12_yearOf_75 : decode cX12_yearOf 75 = .ok (.iastore, 1) := by decide +kernel
theorem dX12_yearOf_76 : decode cX12_yearOf 76 = .ok (.iinc 2 1, 3) := by decide +kernel
theorem dX12_yearOf_79 : decode cX12_yearOf 79 = .ok (.goto (-77), 3) := by decide +kernel
theorem dX12_yearOf_82 : decode cX12_yearOf 82 = .ok (.aload_n 0, 1) := by decide +kernel
theorem dX12_yearOf_83 : decode cX12_yearOf 83 = .ok (.getfield 74, 3) := by decide +kernel
theorem dX12_yearOf_86 : decode cX12_yearOf 86 = .ok (.astore_n 2, 1) := by decide +kernel
theorem dX12_yearOf_87 : decode cX12_yearOf 87 = .ok (.iconst 0, 1) := by decide +kernel
theorem dX12_yearOf_88 : decode cX12_yearOf 88 = .ok (.istore_n 3, 1) := by decide +kernel
theorem dX12_yearOf_89 : decode cX12_yearOf 89 = .ok (.iload_n 3, 1) := by decide +kernel
theorem dX12_yearOf_90 : decode cX12_yearOf 90 = .ok (.iconst 2, 1) := by decide +kernel
theorem dX12_yearOf_91 : decode cX12_yearOf 91 = .ok (.if_icmp .ge 40, 3) := by decide +kernel
theorem dX12_yearOf_94 : decode cX12_yearOf 94 = .ok (.aload_n 2, 1) := by decide +kernel
theorem dX12_yearOf_95 : decode cX12_yearOf 95 = .ok (.iload_n 3, 1) := by decide +kernel
theorem dX12_yearOf_96 : decode cX12_yearOf 96 = .ok (.aload_n 0, 1) := by decide +kernel
theorem dX12_yearOf_97 : decode cX12_yearOf 97 = .ok (.getfield 62, 3) := by decide +kernel
theorem dX12_yearOf_100 : decode cX12_yearOf 100 = .ok (.iconst 1, 1) := by decide +kernel
theorem dX12_yearOf_101 : decode cX12_yearOf 101 = .ok (.iload_n 3, 1) := by decide +kernel
theorem dX12_yearOf_102 : decode cX12_yearOf 102 = .ok (.isub, 1) := by decide +kernel
theorem dX12_yearOf_103 : decode cX12_yearOf 103 = .ok (.iaload, 1) := by decide +kernel
theorem dX12_yearOf_104 : decode cX12_yearOf 104 = .ok (.iconst 1, 1) := by decide +kernel
theorem dX12_yearOf_105 : decode cX12_yearOf 105 = .ok (.if_icmp .ne 18, 3) := by decide +kernel
theorem dX12_yearOf_108 : decode cX12_yearOf 108 = .ok (.aload_n 0, 1) := by decide +kernel
theorem dX12_yearOf_109 : decode cX12_yearOf 109 = .ok (.getfield 59, 3) := by decide +kernel
theorem dX12_yearOf_112 : decode cX12_yearOf 112 = .ok (.iconst 1, 1) := by decide +kernel
theorem dX12_yearOf_113 : decode cX12_yearOf 113 = .ok (.iload_n 3, 1) := by decide +kernel
theorem dX12_yearOf_114 : decode cX12_yearOf 114 = .ok (.isub, 1) := by decide +kernel
theorem dX12_yearOf_115 : decode cX12_yearOf 115 = .ok (.baload, 1) := by decide +kernel
theorem dX12_yearOf_116 : decode cX12_yearOf 116 = .ok (.ifCond .eq 7, 3) := by decide +kernel
theorem dX12_yearOf_119 : decode cX12_yearOf 119 = .ok (.iconst 1, 1) := by decide +kernel
theorem dX12_yearOf_120 : decode cX12_yearOf 120 = .ok (.goto 4, 3) := by decide +kernel
theorem dX12_yearOf_123 : decode cX12_yearOf 123 = .ok (.iconst 0, 1) := by decide +kernel
theorem dX12_yearOf_124 : decode cX12_yearOf 124 = .ok (.bastore, 1) := by decide +kernel
theorem dX12_yearOf_125 : decode cX12_yearOf 125 = .ok (.iinc 3 1, 3) := by decide +kernel
theorem dX12_yearOf_128 : decode cX12_yearOf 128 = .ok (.goto (-39), 3) := by decide +kernel
theorem dX12_yearOf_131 : decode cX12_yearOf 131 = .ok (.iconst 0, 1) := by decide +kernel
theorem dX12_yearOf_132 : decode cX12_yearOf 132 = .ok (.istore_n 3, 1) := by decide +kernel
theorem dX12_yearOf_133 : decode cX12_yearOf 133 = .ok (.iload_n 3, 1) := by decide +kernel
theorem dX12_yearOf_134 : decode cX12_yearOf 134 = .ok (.iconst 2, 1) := by decide +kernel
theorem dX12_yearOf_135 : decode cX12_yearOf 135 = .ok (.if_icmp .ge 67, 3) := by decide +kernel
theorem dX12_yearOf_138 : decode cX12_yearOf 138 = .ok (.iload_n 3, 1) := by decide +kernel
theorem dX12_yearOf_139 : decode cX12_yearOf 139 = .ok (.aload_n 0, 1) := by decide +kernel
theorem dX12_yearOf_140 : decode cX12_yearOf 140 = .ok (.getfield 68, 3) := by decide +kernel
theorem dX12_yearOf_143 : decode cX12_yearOf 143 = .ok (.if_icmp .eq 53, 3) := by decide +kernel
theorem dX12_yearOf_146 : decode cX12_yearOf 146 = .ok (.aload_n 0, 1) := by decide +kernel
theorem dX12_yearOf_147 : decode cX12_yearOf 147 = .ok (.getfield 56, 3) := by decide +kernel
theorem dX12_yearOf_150 : decode cX12_yearOf 150 = .ok (.iload_n 3, 1) := by decide +kernel
theorem dX12_yearOf_151 : decode cX12_yearOf 151 = .ok (.baload, 1) := by decide +kernel
theorem dX12_yearOf_152 : decode cX12_yearOf 152 = .ok (.ifCond .eq 44, 3) := by decide +kernel
theorem dX12_yearOf_155 : decode cX12_yearOf 155 = .ok (.aload_n 0, 1) := by decide +kernel
theorem dX12_yearOf_156 : decode cX12_yearOf 156 = .ok (.getfield 62, 3) := by decide +kernel
theorem dX12_yearOf_159 : decode cX12_yearOf 159 = .ok (.iload_n 3, 1) := by decide +kernel
theorem dX12_yearOf_160 : decode cX12_yearOf 160 = .ok (.iaload, 1) := by decide +kernel
theorem dX12_yearOf_161 : decode cX12_yearOf 161 = .ok (.ifCond .ne 35, 3) := by decide +kernel
theorem dX12_yearOf_164 : decode cX12_yearOf 164 = .ok (.aload_n 0, 1) := by decide +kernel
theorem dX12_yearOf_165 : decode cX12_yearOf 165 = .ok (.getfield 53, 3) := by decide +kernel
theorem dX12_yearOf_168 : decode cX12_yearOf 168 = .ok (.iload_n 3, 1) := by decide +kernel
theorem dX12_yearOf_169 : decode cX12_yearOf 169 = .ok (.iaload, 1) := by decide +kernel
theorem dX12_yearOf_170 : decode cX12_yearOf 170 = .ok (.bipush 16, 2) := by decide +kernel
theorem dX12_yearOf_172 : decode cX12_yearOf 172 = .ok (.if_icmp .lt 24, 3) := by decide +kernel
theorem dX12_yearOf_175 : decode cX12_yearOf 175 = .ok (.aload_n 2, 1) := by decide +kernel
theorem dX12_yearOf_176 : decode cX12_yearOf 176 = .ok (.iload_n 3, 1) := by decide +kernel
theorem dX12_yearOf_177 : decode cX12_yearOf 177 = .ok (.baload, 1) := by decide +kernel
theorem dX12_yearOf_178 : decode cX12_yearOf 178 = .ok (.ifCond .eq 18, 3) := by decide +kernel
theorem dX12_yearOf_181 : decode cX12_yearOf 181 = .ok (.aload_n 0, 1) := by decide +kernel
theorem dX12_yearOf_182 : decode cX12_yearOf 182 = .ok (.iload_n 3, 1) := by decide +kernel
theorem dX12_yearOf_183 : decode cX12_yearOf 183 = .ok (.invokevirtual 318, 3) := by decide +kernel
theorem dX12_yearOf_186 : decode cX12_yearOf 186 = .ok (.ifCond .ne 10, 3) := by decide +kernel
theorem dX12_yearOf_189 : decode cX12_yearOf 189 = .ok (.aload_n 0, 1) := by decide +kernel
theorem dX12_yearOf_190 : decode cX12_yearOf 190 = .ok (.getfield 62, 3) := by decide +kernel
theorem dX12_yearOf_193 : decode cX12_yearOf 193 = .ok (.iload_n 3, 1) := by decide +kernel
theorem dX12_yearOf_194 : decode cX12_yearOf 194 = .ok (.iconst 2, 1) := by decide +kernel
theorem dX12_yearOf_195 : decode cX12_yearOf 195 = .ok (.iastore, 1) := by decide +kernel
theorem dX12_yearOf_196 : decode cX12_yearOf 196 = .ok (.iinc 3 1, 3) := by decide +kernel
theorem dX12_yearOf_199 : decode cX12_yearOf 199 = .ok (.goto (-66), 3) := by decide +kernel
theorem dX12_yearOf_202 : decode cX12_yearOf 202 = .ok (.iload_n 1, 1) := by decide +kernel
theorem dX12_yearOf_203 : decode cX12_yearOf 203 = .ok (.iconst 5, 1) := by decide +kernel
theorem dX12_yearOf_204 : decode cX12_yearOf 204 = .ok (.iand, 1) := by decide +kernel
theorem dX12_yearOf_205 : decode cX12_yearOf 205 = .ok (.iconst 1, 1) := by decide +kernel
theorem dX12_yearOf_206 : decode cX12_yearOf 206 = .ok (.ishl, 1) := by decide +kernel
theorem dX12_yearOf_207 : decode cX12_yearOf 207 = .ok (.istore_n 3, 1) := by decide +kernel
theorem dX12_yearOf_208 : decode cX12_yearOf 208 = .ok (.iconst 0, 1) := by decide +kernel
theorem dX12_yearOf_209 : decode cX12_yearOf 209 = .ok (.istore 4, 2) := by decide +kernel
theorem dX12_yearOf_211 : decode cX12_yearOf 211 = .ok (.iload 4, 2) := by decide +kernel
theorem dX12_yearOf_213 : decode cX12_yearOf 213 = .ok (.iconst 2, 1) := by decide +kernel
theorem dX12_yearOf_214 : decode cX12_yearOf 214 = .ok (.if_icmp .ge 68, 3) := by decide +kernel
theorem dX12_yearOf_217 : decode cX12_yearOf 217 = .ok (.aload_n 0, 1) := by decide +kernel
theorem dX12_yearOf_218 : decode cX12_yearOf 218 = .ok (.getfield 65, 3) := by decide +kernel
theorem dX12_yearOf_221 : decode cX12_yearOf 221 = .ok (.iload 4, 2) := by decide +kernel
theorem dX12_yearOf_223 : decode cX12_yearOf 223 = .ok (.aload_n 0, 1) := by decide +kernel
theorem dX12_yearOf_224 : decode cX12_yearOf 224 = .ok (.getfield 62, 3) := by decide +kernel
theorem dX12_yearOf_227 : decode cX12_yearOf 227 = .ok (.iconst 1, 1) := by decide +kernel
theorem dX12_yearOf_228 : decode cX12_yearOf 228 = .ok (.iload 4, 2) := by decide +kernel
theorem dX12_yearOf_230 : decode cX12_yearOf 230 = .ok (.isub, 1) := by decide +kernel
theorem dX12_yearOf_231 : decode cX12_yearOf 231 = .ok (.iaload, 1) := by decide +kernel
theorem dX12_yearOf_232 : decode cX12_yearOf 232 = .ok (.ifCond .le 19, 3) := by decide +kernel
theorem dX12_yearOf_235 : decode cX12_yearOf 235 = .ok (.aload_n 0, 1) := by decide +kernel
theorem dX12_yearOf_236 : decode cX12_yearOf 236 = .ok (.getfield 59, 3) := by decide +kernel
theorem dX12_yearOf_239 : decode cX12_yearOf 239 = .ok (.iconst 1, 1) := by decide +kernel
theorem dX12_yearOf_240 : decode cX12_yearOf 240 = .ok (.iload 4, 2) := by decide +kernel
theorem dX12_yearOf_242 : decode cX12_yearOf 242 = .ok (.isub, 1) := by decide +kernel
theorem dX12_yearOf_243 : decode cX12_yearOf 243 = .ok (.baload, 1) := by decide +kernel
theorem dX12_yearOf_244 : decode cX12_yearOf 244 = .ok (.ifCond .eq 7, 3) := by decide +kernel
theorem dX12_yearOf_247 : decode cX12_yearOf 247 = .ok (.iconst 1, 1) := by decide +kernel
theorem dX12_yearOf_248 : decode cX12_yearOf 248 = .ok (.goto 4, 3) := by decide +kernel
theorem dX12_yearOf_251 : decode cX12_yearOf 251 = .ok (.iconst 0, 1) := by decide +kernel
theorem dX12_yearOf_252 : decode cX12_yearOf 252 = .ok (.bastore, 1) := by decide +kernel
theorem dX12_yearOf_253 : decode cX12_yearOf 253 = .ok (.iload_n 3, 1) := by decide +kernel
theorem dX12_yearOf_254 : decode cX12_yearOf 254 = .ok (.aload_n 0, 1) := by decide +kernel
theorem dX12_yearOf_255 : decode cX12_yearOf 255 = .ok (.getfield 65, 3) := by decide +kernel
theorem dX12_yearOf_258 : decode cX12_yearOf 258 = .ok (.iload 4, 2) := by decide +kernel
theorem dX12_yearOf_260 : decode cX12_yearOf 260 = .ok (.baload, 1) := by decide +kernel
theorem dX12_yearOf_261 : decode cX12_yearOf 261 = .ok (.ifCond .eq 12, 3) := by decide +kernel
theorem dX12_yearOf_264 : decode cX12_yearOf 264 = .ok (.iconst 1, 1) := by decide +kernel
theorem dX12_yearOf_265 : decode cX12_yearOf 265 = .ok (.iconst 2, 1) := by decide +kernel
theorem dX12_yearOf_266 : decode cX12_yearOf 266 = .ok (.iload 4, 2) := by decide +kernel
theorem dX12_yearOf_268 : decode cX12_yearOf 268 = .ok (.imul, 1) := by decide +kernel
theorem dX12_yearOf_269 : decode cX12_yearOf 269 = .ok (.ishl, 1) := by decide +kernel
theorem dX12_yearOf_270 : decode cX12_yearOf 270 = .ok (.goto 4, 3) := by decide +kernel
theorem dX12_yearOf_273 : decode cX12_yearOf 273 = .ok (.iconst 0, 1) := by decide +kernel
theorem dX12_yearOf_274 : decode cX12_yearOf 274 = .ok (.ior, 1) := by decide +kernel
theorem dX12_yearOf_275 : decode cX12_yearOf 275 = .ok (.istore_n 3, 1) := by decide +kernel
theorem dX12_yearOf_276 : decode cX12_yearOf 276 = .ok (.iinc 4 1, 3) := by decide +kernel
theorem dX12_yearOf_279 : decode cX12_yearOf 279 = .ok (.goto (-68), 3) := by decide +kernel
theorem dX12_yearOf_282 : decode cX12_yearOf 282 = .ok (.iload_n 3, 1) := by decide +kernel
theorem dX12_yearOf_283 : decode cX12_yearOf 283 = .ok (.ireturn, 1) := by decide +kernel
theorem dX12_rulesAlone_0 : decode cX12_rulesAlone 0 = .ok (.aload_n 0, 1) := by decide +kernel
theorem dX12_rulesAlone_1 : decode cX12_rulesAlone 1 = .ok (.getfield 53, 3) := by decide +kernel
theorem dX12_rulesAlone_4 : decode cX12_rulesAlone 4 = .ok (.iconst 0, 1) := by decide +kernel
theorem dX12_rulesAlone_5 : decode cX12_rulesAlone 5 = .ok (.iload_n 1, 1) := by decide +kernel
theorem dX12_rulesAlone_6 : decode cX12_rulesAlone 6 = .ok (.iastore, 1) := by decide +kernel
theorem dX12_rulesAlone_7 : decode cX12_rulesAlone 7 = .ok (.aload_n 0, 1) := by decide +kernel
theorem dX12_rulesAlone_8 : decode cX12_rulesAlone 8 = .ok (.getfield 53, 3) := by decide +kernel
theorem dX12_rulesAlone_11 : decode cX12_rulesAlone 11 = .ok (.iconst 1, 1) := by decide +kernel
theorem dX12_rulesAlone_12 : decode cX12_rulesAlone 12 = .ok (.iload_n 2, 1) := by decide +kernel
theorem dX12_rulesAlone_13 : decode cX12_rulesAlone 13 = .ok (.iastore, 1) := by decide +kernel
theorem dX12_rulesAlone_14 : decode cX12_rulesAlone 14 = .ok (.iconst 0, 1) := by decide +kernel
theorem dX12_rulesAlone_15 : decode cX12_rulesAlone 15 = .ok (.istore_n 3, 1) := by decide +kernel
theorem dX12_rulesAlone_16 : decode cX12_rulesAlone 16 = .ok (.iload_n 3, 1) := by decide +kernel
theorem dX12_rulesAlone_17 : decode cX12_rulesAlone 17 = .ok (.iconst 2, 1) := by decide +kernel
theorem dX12_rulesAlone_18 : decode cX12_rulesAlone 18 = .ok (.if_icmp .ge 23, 3) := by decide +kernel
theorem dX12_rulesAlone_21 : decode cX12_rulesAlone 21 = .ok (.aload_n 0, 1) := by decide +kernel
theorem dX12_rulesAlone_22 : decode cX12_rulesAlone 22 = .ok (.getfield 56, 3) := by decide +kernel
theorem dX12_rulesAlone_25 : decode cX12_rulesAlone 25 = .ok (.iload_n 3, 1) := by decide +kernel
theorem dX12_rulesAlone_26 : decode cX12_rulesAlone 26 = .ok (.iconst 1, 1) := by decide +kernel
theorem dX12_rulesAlone_27 : decode cX12_rulesAlone 27 = .ok (.bastore, 1) := by decide +kernel
theorem dX12_rulesAlone_28 : decode cX12_rulesAlone 28 = .ok (.aload_n 0, 1) := by decide +kernel
theorem dX12_rulesAlone_29 : decode cX12_rulesAlone 29 = .ok (.getfield 59, 3) := by decide +kernel
theorem dX12_rulesAlone_32 : decode cX12_rulesAlone 32 = .ok (.iload_n 3, 1) := by decide +kernel
theorem dX12_rulesAlone_33 : decode cX12_rulesAlone 33 = .ok (.iconst 1, 1) := by decide +kernel
theorem dX12_rulesAlone_34 : decode cX12_rulesAlone 34 = .ok (.bastore, 1) := by decide +kernel
theorem dX12_rulesAlone_35 : decode cX12_rulesAlone 35 = .ok (.iinc 3 1, 3) := by decide +kernel
theorem dX12_rulesAlone_38 : decode cX12_rulesAlone 38 = .ok (.goto (-22), 3) := by decide +kernel
theorem dX12_rulesAlone_41 : decode cX12_rulesAlone 41 = .ok (.return_, 1) := by decide +kernel
theorem dX12_cardsNow_0 : decode cX12_cardsNow 0 = .ok (.aload_n 0, 1) := by decide +kernel
theorem dX12_cardsNow_1 : decode cX12_cardsNow 1 = .ok (.getfield 62, 3) := by decide +kernel
theorem dX12_cardsNow_4 : decode cX12_cardsNow 4 = .ok (.iconst 0, 1) := by decide +kernel
theorem dX12_cardsNow_5 : decode cX12_cardsNow 5 = .ok (.iaload, 1) := by decide +kernel
theorem dX12_cardsNow_6 : decode cX12_cardsNow 6 = .ok (.ifCond .le 7, 3) := by decide +kernel
theorem dX12_cardsNow_9 : decode cX12_cardsNow 9 = .ok (.iconst 1, 1) := by decide +kernel
theorem dX12_cardsNow_10 : decode cX12_cardsNow 10 = .ok (.goto 4, 3) := by decide +kernel
theorem dX12_cardsNow_13 : decode cX12_cardsNow 13 = .ok (.iconst 0, 1) := by decide +kernel
theorem dX12_cardsNow_14 : decode cX12_cardsNow 14 = .ok (.aload_n 0, 1) := by decide +kernel
theorem dX12_cardsNow_15 : decode cX12_cardsNow 15 = .ok (.getfield 62, 3) := by decide +kernel
theorem dX12_cardsNow_18 : decode cX12_cardsNow 18 = .ok (.iconst 1, 1) := by decide +kernel
theorem dX12_cardsNow_19 : decode cX12_cardsNow 19 = .ok (.iaload, 1) := by decide +kernel
theorem dX12_cardsNow_20 : decode cX12_cardsNow 20 = .ok (.ifCond .le 7, 3) := by decide +kernel
theorem dX12_cardsNow_23 : decode cX12_cardsNow 23 = .ok (.iconst 1, 1) := by decide +kernel
theorem dX12_cardsNow_24 : decode cX12_cardsNow 24 = .ok (.goto 4, 3) := by decide +kernel
theorem dX12_cardsNow_27 : decode cX12_cardsNow 27 = .ok (.iconst 0, 1) := by decide +kernel
theorem dX12_cardsNow_28 : decode cX12_cardsNow 28 = .ok (.iadd, 1) := by decide +kernel
theorem dX12_cardsNow_29 : decode cX12_cardsNow 29 = .ok (.ireturn, 1) := by decide +kernel
theorem dX12_isDead_0 : decode cX12_isDead 0 = .ok (.aload_n 0, 1) := by decide +kernel
theorem dX12_isDead_1 : decode cX12_isDead 1 = .ok (.iload_n 1, 1) := by decide +kernel
theorem dX12_isDead_2 : decode cX12_isDead 2 = .ok (.iconst 3, 1) := by decide +kernel
theorem dX12_isDead_3 : decode cX12_isDead 3 = .ok (.invokevirtual 273, 3) := by decide +kernel
theorem dX12_isDead_6 : decode cX12_isDead 6 = .ok (.iconst (-1), 1) := by decide +kernel
theorem dX12_isDead_7 : decode cX12_isDead 7 = .ok (.if_icmp .eq 17, 3) := by decide +kernel
theorem dX12_isDead_10 : decode cX12_isDead 10 = .ok (.iload_n 2, 1) := by decide +kernel
theorem dX12_isDead_11 : decode cX12_isDead 11 = .ok (.aload_n 0, 1) := by decide +kernel
theorem dX12_isDead_12 : decode cX12_isDead 12 = .ok (.iload_n 1, 1) := by decide +kernel
theorem dX12_isDead_13 : decode cX12_isDead 13 = .ok (.iconst 3, 1) := by decide +kernel
theorem dX12_isDead_14 : decode cX12_isDead 14 = .ok (.invokevirtual 273, 3) := by decide +kernel
theorem dX12_isDead_17 : decode cX12_isDead 17 = .ok (.if_icmp .lt 7, 3) := by decide +kernel
theorem dX12_isDead_20 : decode cX12_isDead 20 = .ok (.iconst 1, 1) := by decide +kernel
theorem dX12_isDead_21 : decode cX12_isDead 21 = .ok (.goto 4, 3) := by decide +kernel
theorem dX12_isDead_24 : decode cX12_isDead 24 = .ok (.iconst 0, 1) := by decide +kernel
theorem dX12_isDead_25 : decode cX12_isDead 25 = .ok (.ireturn, 1) := by decide +kernel
theorem dX12_asTold_0 : decode cX12_asTold 0 = .ok (.iconst 0, 1) := by decide +kernel
theorem dX12_asTold_1 : decode cX12_asTold 1 = .ok (.istore_n 3, 1) := by decide +kernel
theorem dX12_asTold_2 : decode cX12_asTold 2 = .ok (.iload_n 3, 1) := by decide +kernel
theorem dX12_asTold_3 : decode cX12_asTold 3 = .ok (.iconst 2, 1) := by decide +kernel
theorem dX12_asTold_4 : decode cX12_asTold 4 = .ok (.if_icmp .ge 139, 3) := by decide +kernel
theorem dX12_asTold_7 : decode cX12_asTold 7 = .ok (.aload_n 0, 1) := by decide +kernel
theorem dX12_asTold_8 : decode cX12_asTold 8 = .ok (.iload_n 1, 1) := by decide +kernel
theorem dX12_asTold_9 : decode cX12_asTold 9 = .ok (.iload_n 3, 1) := by decide +kernel
theorem dX12_asTold_10 : decode cX12_asTold 10 = .ok (.invokevirtual 321, 3) := by decide +kernel
theorem dX12_asTold_13 : decode cX12_asTold 13 = .ok (.istore 4, 2) := by decide +kernel
theorem dX12_asTold_15 : decode cX12_asTold 15 = .ok (.aload_n 0, 1) := by decide +kernel
theorem dX12_asTold_16 : decode cX12_asTold 16 = .ok (.iload_n 1, 1) := by decide +kernel
theorem dX12_asTold_17 : decode cX12_asTold 17 = .ok (.iconst 1, 1) := by decide +kernel
theorem dX12_asTold_18 : decode cX12_asTold 18 = .ok (.iload_n 3, 1) := by decide +kernel
theorem dX12_asTold_19 : decode cX12_asTold 19 = .ok (.isub, 1) := by decide +kernel
theorem dX12_asTold_20 : decode cX12_asTold 20 = .ok (.invokevirtual 321, 3) := by decide +kernel
theorem dX12_asTold_23 : decode cX12_asTold 23 = .ok (.istore 5, 2) := by decide +kernel
theorem dX12_asTold_25 : decode cX12_asTold 25 = .ok (.aload_n 0, 1) := by decide +kernel
theorem dX12_asTold_26 : decode cX12_asTold 26 = .ok (.getfield 53, 3) := by decide +kernel
theorem dX12_asTold_29 : decode cX12_asTold 29 = .ok (.iload_n 3, 1) := by decide +kernel
theorem dX12_asTold_30 : decode cX12_asTold 30 = .ok (.aload_n 0, 1) := by decide +kernel
theorem dX12_asTold_31 : decode cX12_asTold 31 = .ok (.iload 4, 2) := by decide +kernel
theorem dX12_asTold_33 : decode cX12_asTold 33 = .ok (.invokevirtual 324, 3) := by decide +kernel
theorem dX12_asTold_36 : decode cX12_asTold 36 = .ok (.iastore, 1) := by decide +kernel
theorem dX12_asTold_37 : decode cX12_asTold 37 = .ok (.aload_n 0, 1) := by decide +kernel
theorem dX12_asTold_38 : decode cX12_asTold 38 = .ok (.getfield 71, 3) := by decide +kernel
theorem dX12_asTold_41 : decode cX12_asTold 41 = .ok (.iload_n 3, 1) := by decide +kernel
theorem dX12_asTold_42 : decode cX12_asTold 42 = .ok (.aload_n 0, 1) := by decide +kernel
theorem dX12_asTold_43 : decode cX12_asTold 43 = .ok (.iload 4, 2) := by decide +kernel
theorem dX12_asTold_45 : decode cX12_asTold 45 = .ok (.iconst 2, 1) := by decide +kernel
theorem dX12_asTold_46 : decode cX12_asTold 46 = .ok (.invokevirtual 273, 3) := by decide +kernel
theorem dX12_asTold_49 : decode cX12_asTold 49 = .ok (.iastore, 1) := by decide +kernel
theorem dX12_asTold_50 : decode cX12_asTold 50 = .ok (.aload_n 0, 1) := by decide +kernel
theorem dX12_asTold_51 : decode cX12_asTold 51 = .ok (.getfield 56, 3) := by decide +kernel
theorem dX12_asTold_54 : decode cX12_asTold 54 = .ok (.iload_n 3, 1) := by decide +kernel
theorem dX12_asTold_55 : decode cX12_asTold 55 = .ok (.aload_n 0, 1) := by decide +kernel
theorem dX12_asTold_56 : decode cX12_asTold 56 = .ok (.iload 4, 2) := by decide +kernel
theorem dX12_asTold_58 : decode cX12_asTold 58 = .ok (.iload_n 2, 1) := by decide +kernel
theorem dX12_asTold_59 : decode cX12_asTold 59 = .ok (.invokevirtual 327, 3) := by decide +kernel
theorem dX12_asTold_62 : decode cX12_asTold 62 = .ok (.ifCond .ne 7, 3) := by decide +kernel
theorem dX12_asTold_65 : decode cX12_asTold 65 = .ok (.iconst 1, 1) := by decide +kernel
theorem dX12_asTold_66 : decode cX12_asTold 66 = .ok (.goto 4, 3) := by decide +kernel
theorem dX12_asTold_69 : decode cX12_asTold 69 = .ok (.iconst 0, 1) := by decide +kernel
theorem dX12_asTold_70 : decode cX12_asTold 70 = .ok (.bastore, 1) := by decide +kernel
theorem dX12_asTold_71 : decode cX12_asTold 71 = .ok (.aload_n 0, 1) := by decide +kernel
theorem dX12_asTold_72 : decode cX12_asTold 72 = .ok (.getfield 59, 3) := by decide +kernel
theorem dX12_asTold_75 : decode cX12_asTold 75 = .ok (.iload_n 3, 1) := by decide +kernel
theorem dX12_asTold_76 : decode cX12_asTold 76 = .ok (.aload_n 0, 1) := by decide +kernel
theorem dX12_asTold_77 : decode cX12_asTold 77 = .ok (.getfield 46, 3) := by decide +kernel
theorem dX12_asTold_80 : decode cX12_asTold 80 = .ok (.iconst 0, 1) := by decide +kernel
theorem dX12_asTold_81 : decode cX12_asTold 81 = .ok (.laload, 1) := by decide +kernel
theorem dX12_asTold_82 : decode cX12_asTold 82 = .ok (.iload_n 2, 1) := by decide +kernel
theorem dX12_asTold_83 : decode cX12_asTold 83 = .ok (.lshr, 1) := by decide +kernel
theorem dX12_asTold_84 : decode cX12_asTold 84 = .ok (.lconst 1, 1) := by decide +kernel
theorem dX12_asTold_85 : decode cX12_asTold 85 = .ok (.land, 1) := by decide +kernel
theorem dX12_asTold_86 : decode cX12_asTold 86 = .ok (.lconst 0, 1) := by decide +kernel
theorem dX12_asTold_87 : decode cX12_asTold 87 = .ok (.lcmp, 1) := by decide +kernel
theorem dX12_asTold_88 : decode cX12_asTold 88 = .ok (.ifCond .ne 47, 3) := by decide +kernel
theorem dX12_asTold_91 : decode cX12_asTold 91 = .ok (.aload_n 0, 1) := by decide +kernel
theorem dX12_asTold_92 : decode cX12_asTold 92 = .ok (.getfield 43, 3) := by decide +kernel
theorem dX12_asTold_95 : decode cX12_asTold 95 = .ok (.iconst 2, 1) := by decide +kernel
theorem dX12_asTold_96 : decode cX12_asTold 96 = .ok (.iload_n 1, 1) := by decide +kernel
theorem dX12_asTold_97 : decode cX12_asTold 97 = .ok (.imul, 1) := by decide +kernel
theorem dX12_asTold_98 : decode cX12_asTold 98 = .ok (.iload_n 3, 1) := by decide +kernel
theorem dX12_asTold_99 : decode cX12_asTold 99 = .ok (.iadd, 1) := by decide +kernel
theorem dX12_asTold_100 : decode cX12_asTold 100 = .ok (.laload, 1) := by decide +kernel
theorem dX12_asTold_101 : decode cX12_asTold 101 = .ok (.iload_n 2, 1) := by decide +kernel
theorem dX12_asTold_102 : decode cX12_asTold 102 = .ok (.lshr, 1) := by decide +kernel
theorem dX12_asTold_103 : decode cX12_asTold 103 = .ok (.lconst 1, 1) := by decide +kernel
theorem dX12_asTold_104 : decode cX12_asTold 104 = .ok (.land, 1) := by decide +kernel
theorem dX12_asTold_105 : decode cX12_asTold 105 = .ok (.lconst 0, 1) := by decide +kernel
theorem dX12_asTold_106 : decode cX12_asTold 106 = .ok (.lcmp, 1) := by decide +kernel
theorem dX12_asTold_107 : decode cX12_asTold 107 = .ok (.ifCond .ne 28, 3) := by decide +kernel
theorem dX12_asTold_110 : decode cX12_asTold 110 = .ok (.aload_n 0, 1) := by decide +kernel
theorem dX12_asTold_111 : decode cX12_asTold 111 = .ok (.iload 5, 2) := by decide +kernel
theorem dX12_asTold_113 : decode cX12_asTold 113 = .ok (.iload_n 2, 1) := by decide +kernel
theorem dX12_asTold_114 : decode cX12_asTold 114 = .ok (.invokevirtual 327, 3) := by decide +kernel
theorem dX12_asTold_117 : decode cX12_asTold 117 = .ok (.ifCond .ne 18, 3) := by decide +kernel
theorem dX12_asTold_120 : decode cX12_asTold 120 = .ok (.aload_n 0, 1) := by decide +kernel
theorem dX12_asTold_121 : decode cX12_asTold 121 = .ok (.iload 5, 2) := by decide +kernel
theorem dX12_asTold_123 : decode cX12_asTold 123 = .ok (.iconst 4, 1) := by decide +kernel
theorem dX12_asTold_124 : decode cX12_asTold 124 = .ok (.invokevirtual 273, 3) := by decide +kernel
theorem dX12_asTold_127 : decode cX12_asTold 127 = .ok (.iload_n 2, 1) := by decide +kernel
theorem dX12_asTold_128 : decode cX12_asTold 128 = .ok (.if_icmp .eq 7, 3) := by decide +kernel
theorem dX12_asTold_131 : decode cX12_asTold 131 = .ok (.iconst 1, 1) := by decide +kernel
theorem dX12_asTold_132 : decode cX12_asTold 132 = .ok (.goto 4, 3) := by decide +kernel
theorem dX12_asTold_135 : decode cX12_asTold 135 = .ok (.iconst 0, 1) := by decide +kernel
theorem dX12_asTold_136 : decode cX12_asTold 136 = .ok (.bastore, 1) := by decide +kernel
theorem dX12_asTold_137 : decode cX12_asTold 137 = .ok (.iinc 3 1, 3) := by decide +kernel
theorem dX12_asTold_140 : decode cX12_asTold 140 = .ok (.goto (-138), 3) := by decide +kernel
theorem dX12_asTold_143 : decode cX12_asTold 143 = .ok (.return_, 1) := by decide +kernel
theorem dX12_keepsYear_0 : decode cX12_keepsYear 0 = .ok (.iconst 0, 1) := by decide +kernel
theorem dX12_keepsYear_1 : decode cX12_keepsYear 1 = .ok (.istore 4, 2) := by decide +kernel
theorem dX12_keepsYear_3 : decode cX12_keepsYear 3 = .ok (.iload 4, 2) := by decide +kernel
theorem dX12_keepsYear_5 : decode cX12_keepsYear 5 = .ok (.iconst 2, 1) := by decide +kernel
theorem dX12_keepsYear_6 : decode cX12_keepsYear 6 = .ok (.if_icmp .ge 55, 3) := by decide +kernel
theorem dX12_keepsYear_9 : decode cX12_keepsYear 9 = .ok (.aload_n 0, 1) := by decide +kernel
theorem dX12_keepsYear_10 : decode cX12_keepsYear 10 = .ok (.getfield 77, 3) := by decide +kernel
theorem dX12_keepsYear_13 : decode cX12_keepsYear 13 = .ok (.bipush 32, 2) := by decide +kernel
theorem dX12_keepsYear_15 : decode cX12_keepsYear 15 = .ok (.iload_n 2, 1) := by decide +kernel
theorem dX12_keepsYear_16 : decode cX12_keepsYear 16 = .ok (.imul, 1) := by decide +kernel
theorem dX12_keepsYear_17 : decode cX12_keepsYear 17 = .ok (.iconst 2, 1) := by decide +kernel
theorem dX12_keepsYear_18 : decode cX12_keepsYear 18 = .ok (.iload_n 1, 1) := by decide +kernel
theorem dX12_keepsYear_19 : decode cX12_keepsYear 19 = .ok (.imul, 1) := by decide +kernel
theorem dX12_keepsYear_20 : decode cX12_keepsYear 20 = .ok (.iadd, 1) := by decide +kernel
theorem dX12_keepsYear_21 : decode cX12_keepsYear 21 = .ok (.iload 4, 2) := by decide +kernel
theorem dX12_keepsYear_23 : decode cX12_keepsYear 23 = .ok (.iadd, 1) := by decide +kernel
theorem dX12_keepsYear_24 : decode cX12_keepsYear 24 = .ok (.aload_n 0, 1) := by decide +kernel
theorem dX12_keepsYear_25 : decode cX12_keepsYear 25 = .ok (.getfield 62, 3) := by decide +kernel
theorem dX12_keepsYear_28 : decode cX12_keepsYear 28 = .ok (.iload 4, 2) := by decide +kernel
theorem dX12_keepsYear_30 : decode cX12_keepsYear 30 = .ok (.iaload, 1) := by decide +kernel
theorem dX12_keepsYear_31 : decode cX12_keepsYear 31 = .ok (.iastore, 1) := by decide +kernel
theorem dX12_keepsYear_32 : decode cX12_keepsYear 32 = .ok (.aload_n 0, 1) := by decide +kernel
theorem dX12_keepsYear_33 : decode cX12_keepsYear 33 = .ok (.getfield 80, 3) := by decide +kernel
theorem dX12_keepsYear_36 : decode cX12_keepsYear 36 = .ok (.bipush 32, 2) := by decide +kernel
theorem dX12_keepsYear_38 : decode cX12_keepsYear 38 = .ok (.iload_n 2, 1) := by decide +kernel
theorem dX12_keepsYear_39 : decode cX12_keepsYear 39 = .ok (.imul, 1) := by decide +kernel
theorem dX12_keepsYear_40 : decode cX12_keepsYear 40 = .ok (.iconst 2, 1) := by decide +kernel
theorem dX12_keepsYear_41 : decode cX12_keepsYear 41 = .ok (.iload_n 1, 1) := by decide +kernel
theorem dX12_keepsYear_42 : decode cX12_keepsYear 42 = .ok (.imul, 1) := by decide +kernel
theorem dX12_keepsYear_43 : decode cX12_keepsYear 43 = .ok (.iadd, 1) := by decide +kernel
theorem dX12_keepsYear_44 : decode cX12_keepsYear 44 = .ok (.iload 4, 2) := by decide +kernel
theorem dX12_keepsYear_46 : decode cX12_keepsYear 46 = .ok (.iadd, 1) := by decide +kernel
theorem dX12_keepsYear_47 : decode cX12_keepsYear 47 = .ok (.aload_n 0, 1) := by decide +kernel
theorem dX12_keepsYear_48 : decode cX12_keepsYear 48 = .ok (.getfield 65, 3) := by decide +kernel
theorem dX12_keepsYear_51 : decode cX12_keepsYear 51 = .ok (.iload 4, 2) := by decide +kernel
theorem dX12_keepsYear_53 : decode cX12_keepsYear 53 = .ok (.baload, 1) := by decide +kernel
theorem dX12_keepsYear_54 : decode cX12_keepsYear 54 = .ok (.bastore, 1) := by decide +kernel
theorem dX12_keepsYear_55 : decode cX12_keepsYear 55 = .ok (.iinc 4 1, 3) := by decide +kernel
theorem dX12_keepsYear_58 : decode cX12_keepsYear 58 = .ok (.goto (-55), 3) := by decide +kernel
theorem dX12_keepsYear_61 : decode cX12_keepsYear 61 = .ok (.aload_n 0, 1) := by decide +kernel
theorem dX12_keepsYear_62 : decode cX12_keepsYear 62 = .ok (.getfield 83, 3) := by decide +kernel
theorem dX12_keepsYear_65 : decode cX12_keepsYear 65 = .ok (.bipush 16, 2) := by decide +kernel
theorem dX12_keepsYear_67 : decode cX12_keepsYear 67 = .ok (.iload_n 2, 1) := by decide +kernel
theorem dX12_keepsYear_68 : decode cX12_keepsYear 68 = .ok (.iconst 1, 1) := by decide +kernel
theorem dX12_keepsYear_69 : decode cX12_keepsYear 69 = .ok (.iadd, 1) := by decide +kernel
theorem dX12_keepsYear_70 : decode cX12_keepsYear 70 = .ok (.imul, 1) := by decide +kernel
theorem dX12_keepsYear_71 : decode cX12_keepsYear 71 = .ok (.iload_n 1, 1) := by decide +kernel
theorem dX12_keepsYear_72 : decode cX12_keepsYear 72 = .ok (.iadd, 1) := by decide +kernel
theorem dX12_keepsYear_73 : decode cX12_keepsYear 73 = .ok (.iload_n 3, 1) := by decide +kernel
theorem dX12_keepsYear_74 : decode cX12_keepsYear 74 = .ok (.iastore, 1) := by decide +kernel
theorem dX12_keepsYear_75 : decode cX12_keepsYear 75 = .ok (.return_, 1) := by decide +kernel
theorem dX12_goes_0 : decode cX12_goes 0 = .ok (.iconst 0, 1) := by decide +kernel
theorem dX12_goes_1 : decode cX12_goes 1 = .ok (.istore_n 1, 1) := by decide +kernel
theorem dX12_goes_2 : decode cX12_goes 2 = .ok (.iload_n 1, 1) := by decide +kernel
theorem dX12_goes_3 : decode cX12_goes 3 = .ok (.aload_n 0, 1) := by decide +kernel
theorem dX12_goes_4 : decode cX12_goes 4 = .ok (.getfield 34, 3) := by decide +kernel
theorem dX12_goes_7 : decode cX12_goes 7 = .ok (.iconst 4, 1) := by decide +kernel
theorem dX12_goes_8 : decode cX12_goes 8 = .ok (.iaload, 1) := by decide +kernel
theorem dX12_goes_9 : decode cX12_goes 9 = .ok (.if_icmp .ge 25, 3) := by decide +kernel
theorem dX12_goes_12 : decode cX12_goes 12 = .ok (.aload_n 0, 1) := by decide +kernel
theorem dX12_goes_13 : decode cX12_goes 13 = .ok (.getfield 83, 3) := by decide +kernel
theorem dX12_goes_16 : decode cX12_goes 16 = .ok (.iload_n 1, 1) := by decide +kernel
theorem dX12_goes_17 : decode cX12_goes 17 = .ok (.aload_n 0, 1) := by decide +kernel
theorem dX12_goes_18 : decode cX12_goes 18 = .ok (.getfield 40, 3) := by decide +kernel
theorem dX12_goes_21 : decode cX12_goes 21 = .ok (.iconst 3, 1) := by decide +kernel
theorem dX12_goes_22 : decode cX12_goes 22 = .ok (.iload_n 1, 1) := by decide +kernel
theorem dX12_goes_23 : decode cX12_goes 23 = .ok (.imul, 1) := by decide +kernel
theorem dX12_goes_24 : decode cX12_goes 24 = .ok (.iconst 2, 1) := by decide +kernel
theorem dX12_goes_25 : decode cX12_goes 25 = .ok (.iadd, 1) := by decide +kernel
theorem dX12_goes_26 : decode cX12_goes 26 = .ok (.iaload, 1) := by decide +kernel
theorem dX12_goes_27 : decode cX12_goes 27 = .ok (.iastore, 1) := by decide +kernel
theorem dX12_goes_28 : decode cX12_goes 28 = .ok (.iinc 1 1, 3) := by decide +kernel
theorem dX12_goes_31 : decode cX12_goes 31 = .ok (.goto (-29), 3) := by decide +kernel
theorem dX12_goes_34 : decode cX12_goes 34 = .ok (.iconst 0, 1) := by decide +kernel
theorem dX12_goes_35 : decode cX12_goes 35 = .ok (.istore_n 1, 1) := by decide +kernel
theorem dX12_goes_36 : decode cX12_goes 36 = .ok (.iload_n 1, 1) := by decide +kernel
theorem dX12_goes_37 : decode cX12_goes 37 = .ok (.aload_n 0, 1) := by decide +kernel
theorem dX12_goes_38 : decode cX12_goes 38 = .ok (.getfield 34, 3) := by decide +kernel
theorem dX12_goes_41 : decode cX12_goes 41 = .ok (.iconst 0, 1) := by decide +kernel
theorem dX12_goes_42 : decode cX12_goes 42 = .ok (.iaload, 1) := by decide +kernel
theorem dX12_goes_43 : decode cX12_goes 43 = .ok (.if_icmp .ge 54, 3) := by decide +kernel
theorem dX12_goes_46 : decode cX12_goes 46 = .ok (.iconst 0, 1) := by decide +kernel
theorem dX12_goes_47 : decode cX12_goes 47 = .ok (.istore_n 2, 1) := by decide +kernel
theorem dX12_goes_48 : decode cX12_goes 48 = .ok (.iload_n 2, 1) := by decide +kernel
theorem dX12_goes_49 : decode cX12_goes 49 = .ok (.aload_n 0, 1) := by decide +kernel
theorem dX12_goes_50 : decode cX12_goes 50 = .ok (.getfield 34, 3) := by decide +kernel
theorem dX12_goes_53 : decode cX12_goes 53 = .ok (.iconst 4, 1) := by decide +kernel
theorem dX12_goes_54 : decode cX12_goes 54 = .ok (.iaload, 1) := by decide +kernel
theorem dX12_goes_55 : decode cX12_goes 55 = .ok (.if_icmp .ge 36, 3) := by decide +kernel
theorem dX12_goes_58 : decode cX12_goes 58 = .ok (.aload_n 0, 1) := by decide +kernel
theorem dX12_goes_59 : decode cX12_goes 59 = .ok (.iload_n 2, 1) := by decide +kernel
theorem dX12_goes_60 : decode cX12_goes 60 = .ok (.iload_n 1, 1) := by decide +kernel
theorem dX12_goes_61 : decode cX12_goes 61 = .ok (.invokevirtual 330, 3) := by decide +kernel
theorem dX12_goes_64 : decode cX12_goes 64 = .ok (.aload_n 0, 1) := by decide +kernel
theorem dX12_goes_65 : decode cX12_goes 65 = .ok (.iload_n 2, 1) := by decide +kernel
theorem dX12_goes_66 : decode cX12_goes 66 = .ok (.iload_n 1, 1) := by decide +kernel
theorem dX12_goes_67 : decode cX12_goes 67 = .ok (.aload_n 0, 1) := by decide +kernel
theorem dX12_goes_68 : decode cX12_goes 68 = .ok (.aload_n 0, 1) := by decide +kernel
theorem dX12_goes_69 : decode cX12_goes 69 = .ok (.getfield 83, 3) := by decide +kernel
theorem dX12_goes_72 : decode cX12_goes 72 = .ok (.bipush 16, 2) := by decide +kernel
theorem dX12_goes_74 : decode cX12_goes 74 = .ok (.iload_n 1, 1) := by decide +kernel
theorem dX12_goes_75 : decode cX12_goes 75 = .ok (.imul, 1) := by decide +kernel
theorem dX12_goes_76 : decode cX12_goes 76 = .ok (.iload_n 2, 1) := by decide +kernel
theorem dX12_goes_77 : decode cX12_goes 77 = .ok (.iadd, 1) := by decide +kernel
theorem dX12_goes_78 : decode cX12_goes 78 = .ok (.iaload, 1) := by decide +kernel
theorem dX12_goes_79 : decode cX12_goes 79 = .ok (.invokevirtual 333, 3) := by decide +kernel
theorem dX12_goes_82 : decode cX12_goes 82 = .ok (.invokevirtual 336, 3) := by decide +kernel
theorem dX12_goes_85 : decode cX12_goes 85 = .ok (.iinc 2 1, 3) := by decide +kernel
theorem dX12_goes_88 : decode cX12_goes 88 = .ok (.goto (-40), 3) := by decide +kernel
theorem dX12_goes_91 : decode cX12_goes 91 = .ok (.iinc 1 1, 3) := by decide +kernel
theorem dX12_goes_94 : decode cX12_goes 94 = .ok (.goto (-58), 3) := by decide +kernel
theorem dX12_goes_97 : decode cX12_goes 97 = .ok (.return_, 1) := by decide +kernel
theorem dX12_sentOf_0 : decode cX12_sentOf 0 = .ok (.aload_n 0, 1) := by decide +kernel
theorem dX12_sentOf_1 : decode cX12_sentOf 1 = .ok (.getfield 77, 3) := by decide +kernel
theorem dX12_sentOf_4 : decode cX12_sentOf 4 = .ok (.bipush 32, 2) := by decide +kernel
theorem dX12_sentOf_6 : decode cX12_sentOf 6 = .ok (.iload_n 3, 1) := by decide +kernel
theorem dX12_sentOf_7 : decode cX12_sentOf 7 = .ok (.imul, 1) := by decide +kernel
theorem dX12_sentOf_8 : decode cX12_sentOf 8 = .ok (.iconst 2, 1) := by decide +kernel
theorem dX12_sentOf_9 : decode cX12_sentOf 9 = .ok (.iload_n 1, 1) := by decide +kernel
theorem dX12_sentOf_10 : decode cX12_sentOf 10 = .ok (.imul, 1) := by decide +kernel
theorem dX12_sentOf_11 : decode cX12_sentOf 11 = .ok (.iadd, 1) := by decide +kernel
theorem dX12_sentOf_12 : decode cX12_sentOf 12 = .ok (.iload_n 2, 1) := by decide +kernel
theorem dX12_sentOf_13 : decode cX12_sentOf 13 = .ok (.iadd, 1) := by decide +kernel
theorem dX12_sentOf_14 : decode cX12_sentOf 14 = .ok (.iaload, 1) := by decide +kernel
theorem dX12_sentOf_15 : decode cX12_sentOf 15 = .ok (.ireturn, 1) := by decide +kernel
theorem dX12_gotOf_0 : decode cX12_gotOf 0 = .ok (.aload_n 0, 1) := by decide +kernel
theorem dX12_gotOf_1 : decode cX12_gotOf 1 = .ok (.getfield 80, 3) := by decide +kernel
theorem dX12_gotOf_4 : decode cX12_gotOf 4 = .ok (.bipush 32, 2) := by decide +kernel
theorem dX12_gotOf_6 : decode cX12_gotOf 6 = .ok (.iload_n 3, 1) := by decide +kernel
theorem dX12_gotOf_7 : decode cX12_gotOf 7 = .ok (.imul, 1) := by decide +kernel
theorem dX12_gotOf_8 : decode cX12_gotOf 8 = .ok (.iconst 2, 1) := by decide +kernel
theorem dX12_gotOf_9 : decode cX12_gotOf 9 = .ok (.iload_n 1, 1) := by decide +kernel
theorem dX12_gotOf_10 : decode cX12_gotOf 10 = .ok (.imul, 1) := by decide +kernel
theorem dX12_gotOf_11 : decode cX12_gotOf 11 = .ok (.iadd, 1) := by decide +kernel
theorem dX12_gotOf_12 : decode cX12_gotOf 12 = .ok (.iload_n 2, 1) := by decide +kernel
theorem dX12_gotOf_13 : decode cX12_gotOf 13 = .ok (.iadd, 1) := by decide +kernel
theorem dX12_gotOf_14 : decode cX12_gotOf 14 = .ok (.baload, 1) := by decide +kernel
theorem dX12_gotOf_15 : decode cX12_gotOf 15 = .ok (.ireturn, 1) := by decide +kernel
theorem dX12_sends_0 : decode cX12_sends 0 = .ok (.aload_n 0, 1) := by decide +kernel
theorem dX12_sends_1 : decode cX12_sends 1 = .ok (.iconst 0, 1) := by decide +kernel
theorem dX12_sends_2 : decode cX12_sends 2 = .ok (.putfield 107, 3) := by decide +kernel
theorem dX12_sends_5 : decode cX12_sends 5 = .ok (.aload_n 0, 1) := by decide +kernel
theorem dX12_sends_6 : decode cX12_sends 6 = .ok (.iload_n 1, 1) := by decide +kernel
theorem dX12_sends_7 : decode cX12_sends 7 = .ok (.invokevirtual 281, 3) := by decide +kernel
theorem dX12_sends_10 : decode cX12_sends 10 = .ok (.ifCond .eq 19, 3) := by decide +kernel
theorem dX12_sends_13 : decode cX12_sends 13 = .ok (.iload_n 2, 1) := by decide +kernel
theorem dX12_sends_14 : decode cX12_sends 14 = .ok (.invokestatic 340, 3) := by decide +kernel
theorem dX12_sends_17 : decode cX12_sends 17 = .ok (.ifCond .eq 12, 3) := by decide +kernel
theorem dX12_sends_20 : decode cX12_sends 20 = .ok (.aload_n 0, 1) := by decide +kernel
theorem dX12_sends_21 : decode cX12_sends 21 = .ok (.iload_n 3, 1) := by decide +kernel
theorem dX12_sends_22 : decode cX12_sends 22 = .ok (.i2l, 1) := by decide +kernel
theorem dX12_sends_23 : decode cX12_sends 23 = .ok (.invokevirtual 343, 3) := by decide +kernel
theorem dX12_sends_26 : decode cX12_sends 26 = .ok (.ifCond .ne 6, 3) := by decide +kernel
theorem dX12_sends_29 : decode cX12_sends 29 = .ok (.bipush (-2), 2) := by decide +kernel
theorem dX12_sends_31 : decode cX12_sends 31 = .ok (.ireturn, 1) := by decide +kernel
theorem dX12_sends_32 : decode cX12_sends 32 = .ok (.aload_n 0, 1) := by decide +kernel
theorem dX12_sends_33 : decode cX12_sends 33 = .ok (.invokevirtual 346, 3) := by decide +kernel
theorem dX12_sends_36 : decode cX12_sends 36 = .ok (.aload_n 0, 1) := by decide +kernel
theorem dX12_sends_37 : decode cX12_sends 37 = .ok (.iload_n 1, 1) := by decide +kernel
theorem dX12_sends_38 : decode cX12_sends 38 = .ok (.iload_n 2, 1) := by decide +kernel
theorem dX12_sends_39 : decode cX12_sends 39 = .ok (.iload_n 3, 1) := by decide +kernel
theorem dX12_sends_40 : decode cX12_sends 40 = .ok (.invokevirtual 349, 3) := by decide +kernel
theorem dX12_sends_43 : decode cX12_sends 43 = .ok (.ireturn, 1) := by decide +kernel
