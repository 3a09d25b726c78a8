theorem dX12_isBit_0 : decode cX12_isBit 0 = .ok (.iload_n 0, 1) := by decide +kernel
theorem dX12_isBit_1 : decode cX12_isBit 1 = .ok (.iload_n 1, 1) := by decide +kernel
theorem dX12_isBit_2 : decode cX12_isBit 2 = .ok (.ishr, 1) := by decide +kernel
theorem dX12_isBit_3 : decode cX12_isBit 3 = .ok (.iconst 1, 1) := by decide +kernel
theorem dX12_isBit_4 : decode cX12_isBit 4 = .ok (.iand, 1) := by decide +kernel
theorem dX12_isBit_5 : decode cX12_isBit 5 = .ok (.iconst 1, 1) := by decide +kernel
theorem dX12_isBit_6 : decode cX12_isBit 6 = .ok (.if_icmp .ne 7, 3) := by decide +kernel
theorem dX12_isBit_9 : decode cX12_isBit 9 = .ok (.iconst 1, 1) := by decide +kernel
theorem dX12_isBit_10 : decode cX12_isBit 10 = .ok (.goto 4, 3) := by decide +kernel
theorem dX12_isBit_13 : decode cX12_isBit 13 = .ok (.iconst 0, 1) := by decide +kernel
theorem dX12_isBit_14 : decode cX12_isBit 14 = .ok (.ireturn, 1) := by decide +kernel
theorem dX12_wouldSend_0 : decode cX12_wouldSend 0 = .ok (.iload_n 2, 1) := by decide +kernel
theorem dX12_wouldSend_1 : decode cX12_wouldSend 1 = .ok (.iconst 2, 1) := by decide +kernel
theorem dX12_wouldSend_2 : decode cX12_wouldSend 2 = .ok (.iload_n 1, 1) := by decide +kernel
theorem dX12_wouldSend_3 : decode cX12_wouldSend 3 = .ok (.imul, 1) := by decide +kernel
theorem dX12_wouldSend_4 : decode cX12_wouldSend 4 = .ok (.ishr, 1) := by decide +kernel
theorem dX12_wouldSend_5 : decode cX12_wouldSend 5 = .ok (.iconst 3, 1) := by decide +kernel
theorem dX12_wouldSend_6 : decode cX12_wouldSend 6 = .ok (.iand, 1) := by decide +kernel
theorem dX12_wouldSend_7 : decode cX12_wouldSend 7 = .ok (.istore_n 3, 1) := by decide +kernel
theorem dX12_wouldSend_8 : decode cX12_wouldSend 8 = .ok (.aload_n 0, 1) := by decide +kernel
theorem dX12_wouldSend_9 : decode cX12_wouldSend 9 = .ok (.getfield 53, 3) := by decide +kernel
theorem dX12_wouldSend_12 : decode cX12_wouldSend 12 = .ok (.iload_n 1, 1) := by decide +kernel
theorem dX12_wouldSend_13 : decode cX12_wouldSend 13 = .ok (.iaload, 1) := by decide +kernel
theorem dX12_wouldSend_14 : decode cX12_wouldSend 14 = .ok (.bipush 15, 2) := by decide +kernel
theorem dX12_wouldSend_16 : decode cX12_wouldSend 16 = .ok (.iand, 1) := by decide +kernel
theorem dX12_wouldSend_17 : decode cX12_wouldSend 17 = .ok (.iload_n 3, 1) := by decide +kernel
theorem dX12_wouldSend_18 : decode cX12_wouldSend 18 = .ok (.invokestatic 288, 3) := by decide +kernel
theorem dX12_wouldSend_21 : decode cX12_wouldSend 21 = .ok (.ireturn, 1) := by decide +kernel
theorem dX12_isForgotten_0 : decode cX12_isForgotten 0 = .ok (.aload_n 0, 1) := by decide +kernel
theorem dX12_isForgotten_1 : decode cX12_isForgotten 1 = .ok (.getfield 292, 3) := by decide +kernel
theorem dX12_isForgotten_4 : decode cX12_isForgotten 4 = .ok (.ifCond .ne 5, 3) := by decide +kernel
theorem dX12_isForgotten_7 : decode cX12_isForgotten 7 = .ok (.iconst 0, 1) := by decide +kernel
theorem dX12_isForgotten_8 : decode cX12_isForgotten 8 = .ok (.ireturn, 1) := by decide +kernel
theorem dX12_yearOf_0 : decode cX12_yearOf 0 = .ok (.iconst 0, 1) := by decide +kernel
theorem dX12_yearOf_1 : decode cX12_yearOf 1 = .ok (.istore_n 2, 1) := by decide +kernel
theorem dX12_yearOf_2 : decode cX12_yearOf 2 = .ok (.iload_n 2, 1) := by decide +kernel
theorem dX12_yearOf_3 : decode cX12_yearOf 3 = .ok (.iconst 2, 1) := by decide +kernel
theorem dX12_yearOf_4 : decode cX12_yearOf 4 = .ok (.if_icmp .ge 78, 3) := by decide +kernel
theorem dX12_yearOf_7 : decode cX12_yearOf 7 = .ok (.aload_n 0, 1) := by decide +kernel
theorem dX12_yearOf_8 : decode cX12_yearOf 8 = .ok (.getfield 65, 3) := by decide +kernel
theorem dX12_yearOf_11 : decode cX12_yearOf 11 = .ok (.iload_n 2, 1) := by decide +kernel
theorem dX12_yearOf_12 : decode cX12_yearOf 12 = .ok (.iconst 0, 1) := by decide +kernel
theorem dX12_yearOf_13 : decode cX12_yearOf 13 = .ok (.bastore, 1) := by decide +kernel
theorem dX12_yearOf_14 : decode cX12_yearOf 14 = .ok (.iload_n 2, 1) := by decide +kernel
theorem dX12_yearOf_15 : decode cX12_yearOf 15 = .ok (.aload_n 0, 1) := by decide +kernel
theorem dX12_yearOf_16 : decode cX12_yearOf 16 = .ok (.getfield 68, 3) := by decide +kernel
theorem dX12_yearOf_19 : decode cX12_yearOf 19 = .ok (.if_icmp .ne 10, 3) := by decide +kernel
theorem dX12_yearOf_29 : decode cX12_yearOf 29 = .ok (.aload_n 0, 1) := by decide +kernel
theorem dX12_yearOf_30 : decode cX12_yearOf 30 = .ok (.getfield 56, 3) := by decide +kernel
theorem dX12_yearOf_33 : decode cX12_yearOf 33 = .ok (.iload_n 2, 1) := by decide +kernel
theorem dX12_yearOf_34 : decode cX12_yearOf 34 = .ok (.baload, 1) := by decide +kernel
theorem dX12_yearOf_35 : decode cX12_yearOf 35 = .ok (.ifCond .eq 24, 3) := by decide +kernel
theorem dX12_yearOf_38 : decode cX12_yearOf 38 = .ok (.aload_n 0, 1) := by decide +kernel
theorem dX12_yearOf_39 : decode cX12_yearOf 39 = .ok (.iload_n 2, 1) := by decide +kernel
theorem dX12_yearOf_40 : decode cX12_yearOf 40 = .ok (.iload_n 1, 1) := by decide +kernel
theorem dX12_yearOf_41 : decode cX12_yearOf 41 = .ok (.invokevirtual 315, 3) := by decide +kernel
theorem dX12_yearOf_44 : decode cX12_yearOf 44 = .ok (.ifCond .eq 15, 3) := by decide +kernel
theorem dX12_yearOf_47 : decode cX12_yearOf 47 = .ok (.aload_n 0, 1) := by decide +kernel
theorem dX12_yearOf_48 : decode cX12_yearOf 48 = .ok (.iload_n 2, 1) := by decide +kernel
theorem dX12_yearOf_49 : decode cX12_yearOf 49 = .ok (.invokevirtual 318, 3) := by decide +kernel
theorem dX12_yearOf_52 : decode cX12_yearOf 52 = .ok (.ifCond .ne 7, 3) := by decide +kernel
theorem dX12_yearOf_55 : decode cX12_yearOf 55 = .ok (.iconst 1, 1) := by decide +kernel
theorem dX12_yearOf_56 : decode cX12_yearOf 56 = .ok (.goto 4, 3) := by decide +kernel
theorem dX12_yearOf_59 : decode cX12_yearOf 59 = .ok (.iconst 0, 1) := by decide +kernel
theorem dX12_yearOf_60 : decode cX12_yearOf 60 = .ok (.istore_n 3, 1) := by decide +kernel
theorem dX12_yearOf_61 : decode cX12_yearOf 61 = .ok (.aload_n 0, 1) := by decide +kernel
theorem dX12_yearOf_62 : decode cX12_yearOf 62 = .ok (.getfield 62, 3) := by decide +kernel
theorem dX12_yearOf_65 : decode cX12_yearOf 65 = .ok (.iload_n 2, 1) := by decide +kernel
theorem dX12_yearOf_66 : decode cX12_yearOf 66 = .ok (.iload_n 3, 1) := by decide +kernel
theorem dX12_yearOf_67 : decode cX12_yearOf 67 = .ok (.ifCond .eq 7, 3) := by decide +kernel
theorem dX12_yearOf_70 : decode cX12_yearOf 70 = .ok (.iconst 1, 1) := by decide +kernel
theorem dX12_yearOf_71 : decode cX12_yearOf 71 = .ok (.goto 4, 3) := by decide +kernel
theorem dX12_yearOf_74 : decode cX12_yearOf 74 = .ok (.iconst 0, 1) := by decide +kernel
theorem dX12_yearOf_75 : decode cX12_yearOf 75 = .ok (.iastore, 1) := by decide +kernel
theorem dX12_yearOf_76 : decode cX12_yearOf 76 = .ok (.iinc 2 1, 3) := by decide +kernel
theorem dX12_yearOf_79 : decode cX12_yearOf 79 = .ok (.goto (-77), 3) := by decide +kernel
theorem dX12_yearOf_82 : decode cX12_yearOf 82 = .ok (.aload_n 0, 1) := by decide +kernel
theorem dX12_yearOf_83 : decode cX12_yearOf 83 = .ok (.getfield 74, 3) := by decide +kernel
theorem dX12_yearOf_86 : decode cX12_yearOf 86 = .ok (.astore_n 2, 1) := by decide +kernel
theorem dX12_yearOf_87 : decode cX12_yearOf 87 = .ok (.iconst 0, 1) := by decide +kernel
theorem dX12_yearOf_88 : decode cX12_yearOf 88 = .ok (.istore_n 3, 1) := by decide +kernel
theorem dX12_yearOf_89 : decode cX12_yearOf 89 = .ok (.iload_n 3, 1) := by decide +kernel
theorem dX12_yearOf_90 : decode cX12_yearOf 90 = .ok (.iconst 2, 1) := by decide +kernel
theorem dX12_yearOf_91 : decode cX12_yearOf 91 = .ok (.if_icmp .ge 40, 3) := by decide +kernel
theorem dX12_yearOf_94 : decode cX12_yearOf 94 = .ok (.aload_n 2, 1) := by decide +kernel
theorem dX12_yearOf_95 : decode cX12_yearOf 95 = .ok (.iload_n 3, 1) := by decide +kernel
theorem dX12_yearOf_96 : decode cX12_yearOf 96 = .ok (.aload_n 0, 1) := by decide +kernel
theorem dX12_yearOf_97 : decode cX12_yearOf 97 = .ok (.getfield 62, 3) := by decide +kernel
theorem dX12_yearOf_100 : decode cX12_yearOf 100 = .ok (.iconst 1, 1) := by decide +kernel
theorem dX12_yearOf_101 : decode cX12_yearOf 101 = .ok (.iload_n 3, 1) := by decide +kernel
theorem dX12_yearOf_102 : decode cX12_yearOf 102 = .ok (.isub, 1) := by decide +kernel
theorem dX12_yearOf_103 : decode cX12_yearOf 103 = .ok (.iaload, 1) := by decide +kernel
theorem dX12_yearOf_104 : decode cX12_yearOf 104 = .ok (.iconst 1, 1) := by decide +kernel
theorem dX12_yearOf_105 : decode cX12_yearOf 105 = .ok (.if_icmp .ne 18, 3) := by decide +kernel
theorem dX12_yearOf_108 : decode cX12_yearOf 108 = .ok (.aload_n 0, 1) := by decide +kernel
theorem dX12_yearOf_109 : decode cX12_yearOf 109 = .ok (.getfield 59, 3) := by decide +kernel
theorem dX12_yearOf_112 : decode cX12_yearOf 112 = .ok (.iconst 1, 1) := by decide +kernel
theorem dX12_yearOf_113 : decode cX12_yearOf 113 = .ok (.iload_n 3, 1) := by decide +kernel
theorem dX12_yearOf_114 : decode cX12_yearOf 114 = .ok (.isub, 1) := by decide +kernel
theorem dX12_yearOf_115 : decode cX12_yearOf 115 = .ok (.baload, 1) := by decide +kernel
theorem dX12_yearOf_116 : decode cX12_yearOf 116 = .ok (.ifCond .eq 7, 3) := by decide +kernel
theorem dX12_yearOf_119 : decode cX12_yearOf 119 = .ok (.iconst 1, 1) := by decide +kernel
theorem dX12_yearOf_120 : decode cX12_yearOf 120 = .ok (.goto 4, 3) := by decide +kernel
theorem dX12_yearOf_123 : decode cX12_yearOf 123 = .ok (.iconst 0, 1) := by decide +kernel
theorem dX12_yearOf_124 : decode cX12_yearOf 124 = .ok (.bastore, 1) := by decide +kernel
theorem dX12_yearOf_125 : decode cX12_yearOf 125 = .ok (.iinc 3 1, 3) := by decide +kernel
theorem dX12_yearOf_128 : decode cX12_yearOf 128 = .ok (.goto (-39), 3) := by decide +kernel
theorem dX12_yearOf_131 : decode cX12_yearOf 131 = .ok (.iconst 0, 1) := by decide +kernel
theorem dX12_yearOf_132 : decode cX12_yearOf 132 = .ok (.istore_n 3, 1) := by decide +kernel
theorem dX12_yearOf_133 : decode cX12_yearOf 133 = .ok (.iload_n 3, 1) := by decide +kernel
theorem dX12_yearOf_134 : decode cX12_yearOf 134 = .ok (.iconst 2, 1) := by decide +kernel
theorem dX12_yearOf_135 : decode cX12_yearOf 135 = .ok (.if_icmp .ge 67, 3) := by decide +kernel
theorem dX12_yearOf_138 : decode cX12_yearOf 138 = .ok (.iload_n 3, 1) := by decide +kernel
theorem dX12_yearOf_139 : decode cX12_yearOf 139 = .ok (.aload_n 0, 1) := by decide +kernel
theorem dX12_yearOf_140 : decode cX12_yearOf 140 = .ok (.getfield 68, 3) := by decide +kernel
theorem dX12_yearOf_143 : decode cX12_yearOf 143 = .ok (.if_icmp .eq 53, 3) := by decide +kernel
theorem dX12_yearOf_146 : decode cX12_yearOf 146 = .ok (.aload_n 0, 1) := by decide +kernel
theorem dX12_yearOf_147 : decode cX12_yearOf 147 = .ok (.getfield 56, 3) := by decide +kernel
theorem dX12_yearOf_150 : decode cX12_yearOf 150 = .ok (.iload_n 3, 1) := by decide +kernel
theorem dX12_yearOf_151 : decode cX12_yearOf 151 = .ok (.baload, 1) := by decide +kernel
theorem dX12_yearOf_152 : decode cX12_yearOf 152 = .ok (.ifCond .eq 44, 3) := by decide +kernel
theorem dX12_yearOf_155 : decode cX12_yearOf 155 = .ok (.aload_n 0, 1) := by decide +kernel
theorem dX12_yearOf_156 : decode cX12_yearOf 156 = .ok (.getfield 62, 3) := by decide +kernel
theorem dX12_yearOf_159 : decode cX12_yearOf 159 = .ok (.iload_n 3, 1) := by decide +kernel
theorem dX12_yearOf_160 : decode cX12_yearOf 160 = .ok (.iaload, 1) := by decide +kernel
theorem dX12_yearOf_161 : decode cX12_yearOf 161 = .ok (.ifCond .ne 35, 3) := by decide +kernel
theorem dX12_yearOf_164 : decode cX12_yearOf 164 = .ok (.aload_n 0, 1) := by decide +kernel
theorem dX12_yearOf_165 : decode cX12_yearOf 165 = .ok (.getfield 53, 3) := by decide +kernel
theorem dX12_yearOf_168 : decode cX12_yearOf 168 = .ok (.iload_n 3, 1) := by decide +kernel
theorem dX12_yearOf_169 : decode cX12_yearOf 169 = .ok (.iaload, 1) := by decide +kernel
theorem dX12_yearOf_170 : decode cX12_yearOf 170 = .ok (.bipush 16, 2) := by decide +kernel
theorem dX12_yearOf_172 : decode cX12_yearOf 172 = .ok (.if_icmp .lt 24, 3) := by decide +kernel
theorem dX12_yearOf_175 : decode cX12_yearOf 175 = .ok (.aload_n 2, 1) := by decide +kernel
theorem dX12_yearOf_176 : decode cX12_yearOf 176 = .ok (.iload_n 3, 1) := by decide +kernel
theorem dX12_yearOf_177 : decode cX12_yearOf 177 = .ok (.baload, 1) := by decide +kernel
theorem dX12_yearOf_178 : decode cX12_yearOf 178 = .ok (.ifCond .eq 18, 3) := by decide +kernel
theorem dX12_yearOf_181 : decode cX12_yearOf 181 = .ok (.aload_n 0, 1) := by decide +kernel
theorem dX12_yearOf_182 : decode cX12_yearOf 182 = .ok (.iload_n 3, 1) := by decide +kernel
theorem dX12_yearOf_183 : decode cX12_yearOf 183 = .ok (.invokevirtual 318, 3) := by decide +kernel
theorem dX12_yearOf_186 : decode cX12_yearOf 186 = .ok (.ifCond .ne 10, 3) := by decide +kernel
theorem dX12_yearOf_189 : decode cX12_yearOf 189 = .ok (.aload_n 0, 1) := by decide +kernel
theorem dX12_yearOf_190 : decode cX12_yearOf 190 = .ok (.getfield 62, 3) := by decide +kernel
theorem dX12_yearOf_193 : decode cX12_yearOf 193 = .ok (.iload_n 3, 1) := by decide +kernel
theorem dX12_yearOf_194 : decode cX12_yearOf 194 = .ok (.iconst 2, 1) := by decide +kernel
theorem dX12_yearOf_195 : decode cX12_yearOf 195 = .ok (.iastore, 1) := by decide +kernel
theorem dX12_yearOf_196 : decode cX12_yearOf 196 = .ok (.iinc 3 1, 3) := by decide +kernel
theorem dX12_yearOf_199 : decode cX12_yearOf 199 = .ok (.goto (-66), 3) := by decide +kernel
theorem dX12_yearOf_202 : decode cX12_yearOf 202 = .ok (.iload_n 1, 1) := by decide +kernel
theorem dX12_yearOf_203 : decode cX12_yearOf 203 = .ok (.iconst 5, 1) := by decide +kernel
theorem dX12_yearOf_204 : decode cX12_yearOf 204 = .ok (.iand, 1) := by decide +kernel
theorem dX12_yearOf_205 : decode cX12_yearOf 205 = .ok (.iconst 1, 1) := by decide +kernel
theorem dX12_yearOf_206 : decode cX12_yearOf 206 = .ok (.ishl, 1) := by decide +kernel
theorem dX12_yearOf_207 : decode cX12_yearOf 207 = .ok (.istore_n 3, 1) := by decide +kernel
theorem dX12_yearOf_208 : decode cX12_yearOf 208 = .ok (.iconst 0, 1) := by decide +kernel
theorem dX12_yearOf_209 : decode cX12_yearOf 209 = .ok (.istore 4, 2) := by decide +kernel
theorem dX12_yearOf_211 : decode cX12_yearOf 211 = .ok (.iload 4, 2) := by decide +kernel
theorem dX12_yearOf_213 : decode cX12_yearOf 213 = .ok (.iconst 2, 1) := by decide +kernel
theorem dX12_yearOf_214 : decode cX12_yearOf 214 = .ok (.if_icmp .ge 68, 3) := by decide +kernel
theorem dX12_yearOf_217 : decode cX12_yearOf 217 = .ok (.aload_n 0, 1) := by decide +kernel
theorem dX12_yearOf_218 : decode cX12_yearOf 218 = .ok (.getfield 65, 3) := by decide +kernel
theorem dX12_yearOf_221 : decode cX12_yearOf 221 = .ok (.iload 4, 2) := by decide +kernel
theorem dX12_yearOf_223 : decode cX12_yearOf 223 = .ok (.aload_n 0, 1) := by decide +kernel
theorem dX12_yearOf_224 : decode cX12_yearOf 224 = .ok (.getfield 62, 3) := by decide +kernel
theorem dX12_yearOf_227 : decode cX12_yearOf 227 = .ok (.iconst 1, 1) := by decide +kernel
theorem dX12_yearOf_228 : decode cX12_yearOf 228 = .ok (.iload 4, 2) := by decide +kernel
theorem dX12_yearOf_230 : decode cX12_yearOf 230 = .ok (.isub, 1) := by decide +kernel
theorem dX12_yearOf_231 : decode cX12_yearOf 231 = .ok (.iaload, 1) := by decide +kernel
theorem dX12_yearOf_232 : decode cX12_yearOf 232 = .ok (.ifCond .le 19, 3) := by decide +kernel
theorem dX12_yearOf_235 : decode cX12_yearOf 235 = .ok (.aload_n 0, 1) := by decide +kernel
theorem dX12_yearOf_236 : decode cX12_yearOf 236 = .ok (.getfield 59, 3) := by decide +kernel
theorem dX12_yearOf_239 : decode cX12_yearOf 239 = .ok (.iconst 1, 1) := by decide +kernel
theorem dX12_yearOf_240 : decode cX12_yearOf 240 = .ok (.iload 4, 2) := by decide +kernel
theorem dX12_yearOf_242 : decode cX12_yearOf 242 = .ok (.isub, 1) := by decide +kernel
theorem dX12_yearOf_243 : decode cX12_yearOf 243 = .ok (.baload, 1) := by decide +kernel
theorem dX12_yearOf_244 : decode cX12_yearOf 244 = .ok (.ifCond .eq 7, 3) := by decide +kernel
theorem dX12_yearOf_247 : decode cX12_yearOf 247 = .ok (.iconst 1, 1) := by decide +kernel
theorem dX12_yearOf_248 : decode cX12_yearOf 248 = .ok (.goto 4, 3) := by decide +kernel
theorem dX12_yearOf_251 : decode cX12_yearOf 251 = .ok (.iconst 0, 1) := by decide +kernel
theorem dX12_yearOf_252 : decode cX12_yearOf 252 = .ok (.bastore, 1) := by decide +kernel
theorem dX12_yearOf_253 : decode cX12_yearOf 253 = .ok (.iload_n 3, 1) := by decide +kernel
theorem dX12_yearOf_254 : decode cX12_yearOf 254 = .ok (.aload_n 0, 1) := by decide +kernel
theorem dX12_yearOf_255 : decode cX12_yearOf 255 = .ok (.getfield 65, 3) := by decide +kernel
theorem dX12_yearOf_258 : decode cX12_yearOf 258 = .ok (.iload 4, 2) := by decide +kernel
theorem dX12_yearOf_260 : decode cX12_yearOf 260 = .ok (.baload, 1) := by decide +kernel
theorem dX12_yearOf_261 : decode cX12_yearOf 261 = .ok (.ifCond .eq 12, 3) := by decide +kernel
theorem dX12_yearOf_264 : decode cX12_yearOf 264 = .ok (.iconst 1, 1) := by decide +kernel
theorem dX12_yearOf_265 : decode cX12_yearOf 265 = .ok (.iconst 2, 1) := by decide +kernel
theorem dX12_yearOf_266 : decode cX12_yearOf 266 = .ok (.iload 4, 2) := by decide +kernel
theorem dX12_yearOf_268 : decode cX12_yearOf 268 = .ok (.imul, 1) := by decide +kernel
theorem dX12_yearOf_269 : decode cX12_yearOf 269 = .ok (.ishl, 1) := by decide +kernel
theorem dX12_yearOf_270 : decode cX12_yearOf 270 = .ok (.goto 4, 3) := by decide +kernel
theorem dX12_yearOf_273 : decode cX12_yearOf 273 = .ok (.iconst 0, 1) := by decide +kernel
theorem dX12_yearOf_274 : decode cX12_yearOf 274 = .ok (.ior, 1) := by decide +kernel
theorem dX12_yearOf_275 : decode cX12_yearOf 275 = .ok (.istore_n 3, 1) := by decide +kernel
theorem dX12_yearOf_276 : decode cX12_yearOf 276 = .ok (.iinc 4 1, 3) := by decide +kernel
theorem dX12_yearOf_279 : decode cX12_yearOf 279 = .ok (.goto (-68), 3) := by decide +kernel
theorem dX12_yearOf_282 : decode cX12_yearOf 282 = .ok (.iload_n 3, 1) := by decide +kernel
theorem dX12_yearOf_283 : decode cX12_yearOf 283 = .ok (.ireturn, 1) := by decide +kernel
theorem dX12_rulesAlone_0 : decode cX12_rulesAlone 0 = .ok (.aload_n 0, 1) := by decide +kernel
theorem dX12_rulesAlone_1 : decode cX12_rulesAlone 1 = .ok (.getfield 53, 3) := by decide +kernel
theorem dX12_rulesAlone_4 : decode cX12_rulesAlone 4 = .ok (.iconst 0, 1) := by decide +kernel
theorem dX12_rulesAlone_5 : decode cX12_rulesAlone 5 = .ok (.iload_n 1, 1) := by decide +kernel
theorem dX12_rulesAlone_6 : decode cX12_rulesAlone 6 = .ok (.iastore, 1) := by decide +kernel
theorem dX12_rulesAlone_7 : decode cX12_rulesAlone 7 = .ok (.aload_n 0, 1) := by decide +kernel
theorem dX12_rulesAlone_8 : decode cX12_rulesAlone 8 = .ok (.getfield 53, 3) := by decide +kernel
theorem dX12_rulesAlone_11 : decode cX12_rulesAlone 11 = .ok (.iconst 1, 1) := by decide +kernel
theorem dX12_rulesAlone_12 : decode cX12_rulesAlone 12 = .ok (.iload_n 2, 1) := by decide +kernel
theorem dX12_rulesAlone_13 : decode cX12_rulesAlone 13 = .ok (.iastore, 1) := by decide +kernel
theorem dX12_rulesAlone_14 : decode cX12_rulesAlone 14 = .ok (.iconst 0, 1) := by decide +kernel
theorem dX12_rulesAlone_15 : decode cX12_rulesAlone 15 = .ok (.istore_n 3, 1) := by decide +kernel
theorem dX12_rulesAlone_16 : decode cX12_rulesAlone 16 = .ok (.iload_n 3, 1) := by decide +kernel
theorem dX12_rulesAlone_17 : decode cX12_rulesAlone 17 = .ok (.iconst 2, 1) := by decide +kernel
theorem dX12_rulesAlone_18 : decode cX12_rulesAlone 18 = .ok (.if_icmp .ge 23, 3) := by decide +kernel
theorem dX12_rulesAlone_21 : decode cX12_rulesAlone 21 = .ok (.aload_n 0, 1) := by decide +kernel
theorem dX12_rulesAlone_22 : decode cX12_rulesAlone 22 = .ok (.getfield 56, 3) := by decide +kernel
theorem dX12_rulesAlone_25 : decode cX12_rulesAlone 25 = .ok (.iload_n 3, 1) := by decide +kernel
theorem dX12_rulesAlone_26 : decode cX12_rulesAlone 26 = .ok (.iconst 1, 1) := by decide +kernel
theorem dX12_rulesAlone_27 : decode cX12_rulesAlone 27 = .ok (.bastore, 1) := by decide +kernel
theorem dX12_rulesAlone_28 : decode cX12_rulesAlone 28 = .ok (.aload_n 0, 1) := by decide +kernel
theorem dX12_rulesAlone_29 : decode cX12_rulesAlone 29 = .ok (.getfield 59, 3) := by decide +kernel
theorem dX12_rulesAlone_32 : decode cX12_rulesAlone 32 = .ok (.iload_n 3, 1) := by decide +kernel
theorem dX12_rulesAlone_33 : decode cX12_rulesAlone 33 = .ok (.iconst 1, 1) := by decide +kernel
theorem dX12_rulesAlone_34 : decode cX12_rulesAlone 34 = .ok (.bastore, 1) := by decide +kernel
theorem dX12_rulesAlone_35 : decode cX12_rulesAlone 35 = .ok (.iinc 3 1, 3) := by decide +kernel
theorem dX12_rulesAlone_38 : decode cX12_rulesAlone 38 = .ok (.goto (-22), 3) := by decide +kernel
theorem dX12_rulesAlone_41 : decode cX12_rulesAlone 41 = .ok (.return_, 1) := by decide +kernel
theorem dX12_cardsNow_0 : decode cX12_cardsNow 0 = .ok (.aload_n 0, 1) := by decide +kernel
theorem dX12_cardsNow_1 : decode cX12_cardsNow 1 = .ok (.getfield 62, 3) := by decide +kernel
theorem dX12_cardsNow_4 : decode cX12_cardsNow 4 = .ok (.iconst 0, 1) := by decide +kernel
theorem dX12_cardsNow_5 : decode cX12_cardsNow 5 = .ok (.iaload, 1) := by decide +kernel
theorem dX12_cardsNow_6 : decode cX12_cardsNow 6 = .ok (.ifCond .le 7, 3) := by decide +kernel
theorem dX12_cardsNow_9 : decode cX12_cardsNow 9 = .ok (.iconst 1, 1) := by decide +kernel
theorem dX12_cardsNow_10 : decode cX12_cardsNow 10 = .ok (.goto 4, 3) := by decide +kernel
theorem dX12_cardsNow_13 : decode cX12_cardsNow 13 = .ok (.iconst 0, 1) := by decide +kernel
theorem dX12_cardsNow_14 : decode cX12_cardsNow 14 = .ok (.aload_n 0, 1) := by decide +kernel
theorem dX12_cardsNow_15 : decode cX12_cardsNow 15 = .ok (.getfield 62, 3) := by decide +kernel
theorem dX12_cardsNow_18 : decode cX12_cardsNow 18 = .ok (.iconst 1, 1) := by decide +kernel
theorem dX12_cardsNow_19 : decode cX12_cardsNow 19 = .ok (.iaload, 1) := by decide +kernel
theorem dX12_cardsNow_20 : decode cX12_cardsNow 20 = .ok (.ifCond .le 7, 3) := by decide +kernel
theorem dX12_cardsNow_23 : decode cX12_cardsNow 23 = .ok (.iconst 1, 1) := by decide +kernel
theorem dX12_cardsNow_24 : decode cX12_cardsNow 24 = .ok (.goto 4, 3) := by decide +kernel
theorem dX12_cardsNow_27 : decode cX12_cardsNow 27 = .ok (.iconst 0, 1) := by decide +kernel
theorem dX12_cardsNow_28 : decode cX12_cardsNow 28 = .ok (.iadd, 1) := by decide +kernel
theorem dX12_cardsNow_29 : decode cX12_cardsNow 29 = .ok (.ireturn, 1) := by decide +kernel
theorem dX12_fates_0 : decode cX12_fates 0 = .ok (.aload_n 0, 1) := by decide +kernel
theorem dX12_fates_1 : decode cX12_fates 1 = .ok (.iload_n 1, 1) := by decide +kernel
theorem dX12_fates_2 : decode cX12_fates 2 = .ok (.iload_n 2, 1) := by decide +kernel
theorem dX12_fates_3 : decode cX12_fates 3 = .ok (.invokevirtual 382, 3) := by decide +kernel
theorem dX12_fates_6 : decode cX12_fates 6 = .ok (.iconst 0, 1) := by decide +kernel
theorem dX12_fates_7 : decode cX12_fates 7 = .ok (.istore 4, 2) := by decide +kernel
theorem dX12_fates_9 : decode cX12_fates 9 = .ok (.iload 4, 2) := by decide +kernel
theorem dX12_fates_11 : decode cX12_fates 11 = .ok (.bipush 16, 2) := by decide +kernel
theorem dX12_fates_13 : decode cX12_fates 13 = .ok (.if_icmp .ge 17, 3) := by decide +kernel
theorem dX12_fates_16 : decode cX12_fates 16 = .ok (.aload_n 0, 1) := by decide +kernel
theorem dX12_fates_17 : decode cX12_fates 17 = .ok (.getfield 86, 3) := by decide +kernel
theorem dX12_fates_20 : decode cX12_fates 20 = .ok (.iload 4, 2) := by decide +kernel
theorem dX12_fates_22 : decode cX12_fates 22 = .ok (.iconst (-1), 1) := by decide +kernel
theorem dX12_fates_23 : decode cX12_fates 23 = .ok (.iastore, 1) := by decide +kernel
theorem dX12_fates_24 : decode cX12_fates 24 = .ok (.iinc 4 1, 3) := by decide +kernel
theorem dX12_fates_27 : decode cX12_fates 27 = .ok (.goto (-18), 3) := by decide +kernel
theorem dX12_fates_30 : decode cX12_fates 30 = .ok (.iload_n 3, 1) := by decide +kernel
theorem dX12_fates_31 : decode cX12_fates 31 = .ok (.istore 4, 2) := by decide +kernel
theorem dX12_fates_33 : decode cX12_fates 33 = .ok (.iconst 0, 1) := by decide +kernel
theorem dX12_fates_34 : decode cX12_fates 34 = .ok (.istore 5, 2) := by decide +kernel
theorem dX12_fates_36 : decode cX12_fates 36 = .ok (.aload_n 0, 1) := by decide +kernel
theorem dX12_fates_37 : decode cX12_fates 37 = .ok (.getfield 86, 3) := by decide +kernel
theorem dX12_fates_40 : decode cX12_fates 40 = .ok (.iload 4, 2) := by decide +kernel
theorem dX12_fates_42 : decode cX12_fates 42 = .ok (.iaload, 1) := by decide +kernel
theorem dX12_fates_43 : decode cX12_fates 43 = .ok (.iconst (-1), 1) := by decide +kernel
theorem dX12_fates_44 : decode cX12_fates 44 = .ok (.if_icmp .ne 35, 3) := by decide +kernel
theorem dX12_fates_47 : decode cX12_fates 47 = .ok (.aload_n 0, 1) := by decide +kernel
theorem dX12_fates_48 : decode cX12_fates 48 = .ok (.getfield 86, 3) := by decide +kernel
theorem dX12_fates_51 : decode cX12_fates 51 = .ok (.iload 4, 2) := by decide +kernel
theorem dX12_fates_53 : decode cX12_fates 53 = .ok (.iload 5, 2) := by decide +kernel
theorem dX12_fates_55 : decode cX12_fates 55 = .ok (.iastore, 1) := by decide +kernel
theorem dX12_fates_56 : decode cX12_fates 56 = .ok (.aload_n 0, 1) := by decide +kernel
theorem dX12_fates_57 : decode cX12_fates 57 = .ok (.getfield 89, 3) := by decide +kernel
theorem dX12_fates_60 : decode cX12_fates 60 = .ok (.iload 5, 2) := by decide +kernel
theorem dX12_fates_62 : decode cX12_fates 62 = .ok (.iload 4, 2) := by decide +kernel
theorem dX12_fates_64 : decode cX12_fates 64 = .ok (.iastore, 1) := by decide +kernel
theorem dX12_fates_65 : decode cX12_fates 65 = .ok (.aload_n 0, 1) := by decide +kernel
theorem dX12_fates_66 : decode cX12_fates 66 = .ok (.iload 4, 2) := by decide +kernel
theorem dX12_fates_68 : decode cX12_fates 68 = .ok (.invokevirtual 333, 3) := by decide +kernel
theorem dX12_fates_71 : decode cX12_fates 71 = .ok (.istore 4, 2) := by decide +kernel
theorem dX12_fates_73 : decode cX12_fates 73 = .ok (.iinc 5 1, 3) := by decide +kernel
theorem dX12_fates_76 : decode cX12_fates 76 = .ok (.goto (-40), 3) := by decide +kernel
theorem dX12_fates_79 : decode cX12_fates 79 = .ok (.aload_n 0, 1) := by decide +kernel
theorem dX12_fates_80 : decode cX12_fates 80 = .ok (.aload_n 0, 1) := by decide +kernel
theorem dX12_fates_81 : decode cX12_fates 81 = .ok (.getfield 86, 3) := by decide +kernel
theorem dX12_fates_84 : decode cX12_fates 84 = .ok (.iload 4, 2) := by decide +kernel
theorem dX12_fates_86 : decode cX12_fates 86 = .ok (.iaload, 1) := by decide +kernel
theorem dX12_fates_87 : decode cX12_fates 87 = .ok (.putfield 385, 3) := by decide +kernel
theorem dX12_fates_90 : decode cX12_fates 90 = .ok (.aload_n 0, 1) := by decide +kernel
theorem dX12_fates_91 : decode cX12_fates 91 = .ok (.iload 5, 2) := by decide +kernel
theorem dX12_fates_93 : decode cX12_fates 93 = .ok (.aload_n 0, 1) := by decide +kernel
theorem dX12_fates_94 : decode cX12_fates 94 = .ok (.getfield 385, 3) := by decide +kernel
theorem dX12_fates_97 : decode cX12_fates 97 = .ok (.isub, 1) := by decide +kernel
theorem dX12_fates_98 : decode cX12_fates 98 = .ok (.putfield 388, 3) := by decide +kernel
theorem dX12_fates_101 : decode cX12_fates 101 = .ok (.aload_n 0, 1) := by decide +kernel
theorem dX12_fates_102 : decode cX12_fates 102 = .ok (.iconst 0, 1) := by decide +kernel
theorem dX12_fates_103 : decode cX12_fates 103 = .ok (.putfield 391, 3) := by decide +kernel
theorem dX12_fates_106 : decode cX12_fates 106 = .ok (.iconst 0, 1) := by decide +kernel
theorem dX12_fates_107 : decode cX12_fates 107 = .ok (.istore 6, 2) := by decide +kernel
theorem dX12_fates_109 : decode cX12_fates 109 = .ok (.iload 6, 2) := by decide +kernel
theorem dX12_fates_111 : decode cX12_fates 111 = .ok (.aload_n 0, 1) := by decide +kernel
theorem dX12_fates_112 : decode cX12_fates 112 = .ok (.getfield 388, 3) := by decide +kernel
theorem dX12_fates_115 : decode cX12_fates 115 = .ok (.if_icmp .ge 30, 3) := by decide +kernel
theorem dX12_fates_118 : decode cX12_fates 118 = .ok (.aload_n 0, 1) := by decide +kernel
theorem dX12_fates_119 : decode cX12_fates 119 = .ok (.iload 4, 2) := by decide +kernel
theorem dX12_fates_121 : decode cX12_fates 121 = .ok (.invokevirtual 333, 3) := by decide +kernel
theorem dX12_fates_124 : decode cX12_fates 124 = .ok (.istore 4, 2) := by decide +kernel
theorem dX12_fates_126 : decode cX12_fates 126 = .ok (.aload_n 0, 1) := by decide +kernel
theorem dX12_fates_127 : decode cX12_fates 127 = .ok (.dup, 1) := by decide +kernel
theorem dX12_fates_128 : decode cX12_fates 128 = .ok (.getfield 391, 3) := by decide +kernel
theorem dX12_fates_131 : decode cX12_fates 131 = .ok (.aload_n 0, 1) := by decide +kernel
theorem dX12_fates_132 : decode cX12_fates 132 = .ok (.invokevirtual 394, 3) := by decide +kernel
theorem dX12_fates_135 : decode cX12_fates 135 = .ok (.iadd, 1) := by decide +kernel
theorem dX12_fates_136 : decode cX12_fates 136 = .ok (.putfield 391, 3) := by decide +kernel
theorem dX12_fates_139 : decode cX12_fates 139 = .ok (.iinc 6 1, 3) := by decide +kernel
theorem dX12_fates_142 : decode cX12_fates 142 = .ok (.goto (-33), 3) := by decide +kernel
theorem dX12_fates_145 : decode cX12_fates 145 = .ok (.aload_n 0, 1) := by decide +kernel
theorem dX12_fates_146 : decode cX12_fates 146 = .ok (.aload_n 0, 1) := by decide +kernel
theorem dX12_fates_147 : decode cX12_fates 147 = .ok (.getfield 391, 3) := by decide +kernel
theorem dX12_fates_150 : decode cX12_fates 150 = .ok (.ifCond .ne 7, 3) := by decide +kernel
theorem dX12_fates_153 : decode cX12_fates 153 = .ok (.iconst 0, 1) := by decide +kernel
theorem dX12_fates_154 : decode cX12_fates 154 = .ok (.goto 21, 3) := by decide +kernel
theorem dX12_fates_157 : decode cX12_fates 157 = .ok (.aload_n 0, 1) := by decide +kernel
theorem dX12_fates_158 : decode cX12_fates 158 = .ok (.getfield 391, 3) := by decide +kernel
theorem dX12_fates_161 : decode cX12_fates 161 = .ok (.iconst 2, 1) := by decide +kernel
theorem dX12_fates_162 : decode cX12_fates 162 = .ok (.aload_n 0, 1) := by decide +kernel
theorem dX12_fates_163 : decode cX12_fates 163 = .ok (.getfield 388, 3) := by decide +kernel
theorem dX12_fates_166 : decode cX12_fates 166 = .ok (.imul, 1) := by decide +kernel
theorem dX12_fates_167 : decode cX12_fates 167 = .ok (.if_icmp .ne 7, 3) := by decide +kernel
theorem dX12_fates_170 : decode cX12_fates 170 = .ok (.iconst 1, 1) := by decide +kernel
theorem dX12_fates_171 : decode cX12_fates 171 = .ok (.goto 4, 3) := by decide +kernel
theorem dX12_fates_174 : decode cX12_fates 174 = .ok (.iconst 2, 1) := by decide +kernel
theorem dX12_fates_175 : decode cX12_fates 175 = .ok (.putfield 397, 3) := by decide +kernel
theorem dX12_fates_178 : decode cX12_fates 178 = .ok (.return_, 1) := by decide +kernel
theorem dX12_fateOf_0 : decode cX12_fateOf 0 = .ok (.aload_n 0, 1) := by decide +kernel
theorem dX12_fateOf_1 : decode cX12_fateOf 1 = .ok (.iload_n 1, 1) := by decide +kernel
theorem dX12_fateOf_2 : decode cX12_fateOf 2 = .ok (.iload_n 2, 1) := by decide +kernel
theorem dX12_fateOf_3 : decode cX12_fateOf 3 = .ok (.iload_n 3, 1) := by decide +kernel
theorem dX12_fateOf_4 : decode cX12_fateOf 4 = .ok (.invokevirtual 400, 3) := by decide +kernel
theorem dX12_fateOf_7 : decode cX12_fateOf 7 = .ok (.aload_n 0, 1) := by decide +kernel
theorem dX12_fateOf_8 : decode cX12_fateOf 8 = .ok (.getfield 397, 3) := by decide +kernel
theorem dX12_fateOf_11 : decode cX12_fateOf 11 = .ok (.ireturn, 1) := by decide +kernel
theorem dX12_fateNow_0 : decode cX12_fateNow 0 = .ok (.iload_n 1, 1) := by decide +kernel
theorem dX12_fateNow_1 : decode cX12_fateNow 1 = .ok (.ifCond .ne 10, 3) := by decide +kernel
theorem dX12_fateNow_4 : decode cX12_fateNow 4 = .ok (.aload_n 0, 1) := by decide +kernel
theorem dX12_fateNow_5 : decode cX12_fateNow 5 = .ok (.getfield 385, 3) := by decide +kernel
theorem dX12_fateNow_8 : decode cX12_fateNow 8 = .ok (.goto 31, 3) := by decide +kernel
theorem dX12_fateNow_11 : decode cX12_fateNow 11 = .ok (.iload_n 1, 1) := by decide +kernel
theorem dX12_fateNow_12 : decode cX12_fateNow 12 = .ok (.iconst 1, 1) := by decide +kernel
theorem dX12_fateNow_13 : decode cX12_fateNow 13 = .ok (.if_icmp .ne 10, 3) := by decide +kernel
theorem dX12_fateNow_16 : decode cX12_fateNow 16 = .ok (.aload_n 0, 1) := by decide +kernel
theorem dX12_fateNow_17 : decode cX12_fateNow 17 = .ok (.getfield 388, 3) := by decide +kernel
theorem dX12_fateNow_20 : decode cX12_fateNow 20 = .ok (.goto 19, 3) := by decide +kernel
theorem dX12_fateNow_23 : decode cX12_fateNow 23 = .ok (.iload_n 1, 1) := by decide +kernel
theorem dX12_fateNow_24 : decode cX12_fateNow 24 = .ok (.iconst 2, 1) := by decide +kernel
theorem dX12_fateNow_25 : decode cX12_fateNow 25 = .ok (.if_icmp .ne 10, 3) := by decide +kernel
theorem dX12_fateNow_28 : decode cX12_fateNow 28 = .ok (.aload_n 0, 1) := by decide +kernel
theorem dX12_fateNow_29 : decode cX12_fateNow 29 = .ok (.getfield 391, 3) := by decide +kernel
theorem dX12_fateNow_32 : decode cX12_fateNow 32 = .ok (.goto 7, 3) := by decide +kernel
theorem dX12_fateNow_35 : decode cX12_fateNow 35 = .ok (.aload_n 0, 1) := by decide +kernel
theorem dX12_fateNow_36 : decode cX12_fateNow 36 = .ok (.getfield 397, 3) := by decide +kernel
theorem dX12_fateNow_39 : decode cX12_fateNow 39 = .ok (.ireturn, 1) := by decide +kernel
theorem dX12_fate_0 : decode cX12_fate 0 = .ok (.aload_n 0, 1) := by decide +kernel
theorem dX12_fate_1 : decode cX12_fate 1 = .ok (.iconst 0, 1) := by decide +kernel
theorem dX12_fate_2 : decode cX12_fate 2 = .ok (.putfield 107, 3) := by decide +kernel
theorem dX12_fate_5 : decode cX12_fate 5 = .ok (.iload_n 1, 1) := by decide +kernel
theorem dX12_fate_6 : decode cX12_fate 6 = .ok (.invokestatic 403, 3) := by decide +kernel
theorem dX12_fate_9 : decode cX12_fate 9 = .ok (.ifCond .eq 35, 3) := by decide +kernel
theorem dX12_fate_12 : decode cX12_fate 12 = .ok (.iload_n 2, 1) := by decide +kernel
theorem dX12_fate_13 : decode cX12_fate 13 = .ok (.invokestatic 403, 3) := by decide +kernel
theorem dX12_fate_16 : decode cX12_fate 16 = .ok (.ifCond .eq 28, 3) := by decide +kernel
theorem dX12_fate_19 : decode cX12_fate 19 = .ok (.iload_n 3, 1) := by decide +kernel
theorem dX12_fate_20 : decode cX12_fate 20 = .ok (.i2l, 1) := by decide +kernel
theorem dX12_fate_21 : decode cX12_fate 21 = .ok (.lconst 0, 1) := by decide +kernel
theorem dX12_fate_22 : decode cX12_fate 22 = .ok (.ldc2_w 286, 3) := by decide +kernel
theorem dX12_fate_25 : decode cX12_fate 25 = .ok (.invokestatic 112, 3) := by decide +kernel
theorem dX12_fate_28 : decode cX12_fate 28 = .ok (.ifCond .eq 16, 3) := by decide +kernel
theorem dX12_fate_31 : decode cX12_fate 31 = .ok (.iload 4, 2) := by decide +kernel
theorem dX12_fate_33 : decode cX12_fate 33 = .ok (.i2l, 1) := by decide +kernel
theorem dX12_fate_34 : decode cX12_fate 34 = .ok (.lconst 0, 1) := by decide +kernel
theorem dX12_fate_35 : decode cX12_fate 35 = .ok (.ldc2_w 110, 3) := by decide +kernel
theorem dX12_fate_38 : decode cX12_fate 38 = .ok (.invokestatic 112, 3) := by decide +kernel
theorem dX12_fate_41 : decode cX12_fate 41 = .ok (.ifCond .ne 6, 3) := by decide +kernel
theorem dX12_fate_44 : decode cX12_fate 44 = .ok (.bipush (-2), 2) := by decide +kernel
theorem dX12_fate_46 : decode cX12_fate 46 = .ok (.ireturn, 1) := by decide +kernel
theorem dX12_fate_47 : decode cX12_fate 47 = .ok (.aload_n 0, 1) := by decide +kernel
theorem dX12_fate_48 : decode cX12_fate 48 = .ok (.iload_n 1, 1) := by decide +kernel
theorem dX12_fate_49 : decode cX12_fate 49 = .ok (.iload_n 2, 1) := by decide +kernel
theorem dX12_fate_50 : decode cX12_fate 50 = .ok (.iload_n 3, 1) := by decide +kernel
theorem dX12_fate_51 : decode cX12_fate 51 = .ok (.invokevirtual 400, 3) := by decide +kernel
theorem dX12_fate_54 : decode cX12_fate 54 = .ok (.aload_n 0, 1) := by decide +kernel
theorem dX12_fate_55 : decode cX12_fate 55 = .ok (.iload 4, 2) := by decide +kernel
theorem dX12_fate_57 : decode cX12_fate 57 = .ok (.invokevirtual 406, 3) := by decide +kernel
theorem dX12_fate_60 : decode cX12_fate 60 = .ok (.ireturn, 1) := by decide +kernel
theorem dX12_basin_0 : decode cX12_basin 0 = .ok (.aload_n 0, 1) := by decide +kernel
theorem dX12_basin_1 : decode cX12_basin 1 = .ok (.iconst 0, 1) := by decide +kernel
theorem dX12_basin_2 : decode cX12_basin 2 = .ok (.putfield 107, 3) := by decide +kernel
theorem dX12_basin_5 : decode cX12_basin 5 = .ok (.iload_n 1, 1) := by decide +kernel
theorem dX12_basin_6 : decode cX12_basin 6 = .ok (.invokestatic 403, 3) := by decide +kernel
theorem dX12_basin_9 : decode cX12_basin 9 = .ok (.ifCond .eq 22, 3) := by decide +kernel
theorem dX12_basin_12 : decode cX12_basin 12 = .ok (.iload_n 2, 1) := by decide +kernel
theorem dX12_basin_13 : decode cX12_basin 13 = .ok (.invokestatic 403, 3) := by decide +kernel
theorem dX12_basin_16 : decode cX12_basin 16 = .ok (.ifCond .eq 15, 3) := by decide +kernel
theorem dX12_basin_19 : decode cX12_basin 19 = .ok (.iload_n 3, 1) := by decide +kernel
theorem dX12_basin_20 : decode cX12_basin 20 = .ok (.i2l, 1) := by decide +kernel
theorem dX12_basin_21 : decode cX12_basin 21 = .ok (.lconst 0, 1) := by decide +kernel
theorem dX12_basin_22 : decode cX12_basin 22 = .ok (.ldc2_w 284, 3) := by decide +kernel
theorem dX12_basin_25 : decode cX12_basin 25 = .ok (.invokestatic 112, 3) := by decide +kernel
theorem dX12_basin_28 : decode cX12_basin 28 = .ok (.ifCond .ne 6, 3) := by decide +kernel
theorem dX12_basin_31 : decode cX12_basin 31 = .ok (.bipush (-2), 2) := by decide +kernel
theorem dX12_basin_33 : decode cX12_basin 33 = .ok (.ireturn, 1) := by decide +kernel
theorem dX12_basin_34 : decode cX12_basin 34 = .ok (.iconst 0, 1) := by decide +kernel
theorem dX12_basin_35 : decode cX12_basin 35 = .ok (.istore 4, 2) := by decide +kernel
theorem dX12_basin_37 : decode cX12_basin 37 = .ok (.iconst 0, 1) := by decide +kernel
theorem dX12_basin_38 : decode cX12_basin 38 = .ok (.istore 5, 2) := by decide +kernel
theorem dX12_basin_40 : decode cX12_basin 40 = .ok (.iload 5, 2) := by decide +kernel
theorem dX12_basin_42 : decode cX12_basin 42 = .ok (.bipush 16, 2) := by decide +kernel
theorem dX12_basin_44 : decode cX12_basin 44 = .ok (.if_icmp .ge 31, 3) := by decide +kernel
theorem dX12_basin_47 : decode cX12_basin 47 = .ok (.iload 4, 2) := by decide +kernel
theorem dX12_basin_49 : decode cX12_basin 49 = .ok (.aload_n 0, 1) := by decide +kernel
theorem dX12_basin_50 : decode cX12_basin 50 = .ok (.iload_n 1, 1) := by decide +kernel
theorem dX12_basin_51 : decode cX12_basin 51 = .ok (.iload_n 2, 1) := by decide +kernel
theorem dX12_basin_52 : decode cX12_basin 52 = .ok (.iload 5, 2) := by decide +kernel
theorem dX12_basin_54 : decode cX12_basin 54 = .ok (.invokevirtual 415, 3) := by decide +kernel
theorem dX12_basin_57 : decode cX12_basin 57 = .ok (.iload_n 3, 1) := by decide +kernel
theorem dX12_basin_58 : decode cX12_basin 58 = .ok (.if_icmp .ne 7, 3) := by decide +kernel
theorem dX12_basin_61 : decode cX12_basin 61 = .ok (.iconst 1, 1) := by decide +kernel
theorem dX12_basin_62 : decode cX12_basin 62 = .ok (.goto 4, 3) := by decide +kernel
theorem dX12_basin_65 : decode cX12_basin 65 = .ok (.iconst 0, 1) := by decide +kernel
theorem dX12_basin_66 : decode cX12_basin 66 = .ok (.iadd, 1) := by decide +kernel
theorem dX12_basin_67 : decode cX12_basin 67 = .ok (.istore 4, 2) := by decide +kernel
theorem dX12_basin_69 : decode cX12_basin 69 = .ok (.iinc 5 1, 3) := by decide +kernel
theorem dX12_basin_72 : decode cX12_basin 72 = .ok (.goto (-32), 3) := by decide +kernel
theorem dX12_basin_75 : decode cX12_basin 75 = .ok (.iload 4, 2) := by decide +kernel
theorem dX12_basin_77 : decode cX12_basin 77 = .ok (.ireturn, 1) := by decide +kernel
theorem dX12_longest_0 : decode cX12_longest 0 = .ok (.aload_n 0, 1) := by decide +kernel
theorem dX12_longest_1 : decode cX12_longest 1 = .ok (.iconst 0, 1) := by decide +kernel
theorem dX12_longest_2 : decode cX12_longest 2 = .ok (.putfield 107, 3) := by decide +kernel
theorem dX12_longest_5 : decode cX12_longest 5 = .ok (.iload_n 1, 1) := by decide +kernel
theorem dX12_longest_6 : decode cX12_longest 6 = .ok (.invokestatic 403, 3) := by decide +kernel
theorem dX12_longest_9 : decode cX12_longest 9 = .ok (.ifCond .eq 10, 3) := by decide +kernel
theorem dX12_longest_12 : decode cX12_longest 12 = .ok (.iload_n 2, 1) := by decide +kernel
theorem dX12_longest_13 : decode cX12_longest 13 = .ok (.invokestatic 403, 3) := by decide +kernel
theorem dX12_longest_16 : decode cX12_longest 16 = .ok (.ifCond .ne 6, 3) := by decide +kernel
theorem dX12_longest_19 : decode cX12_longest 19 = .ok (.bipush (-2), 2) := by decide +kernel
theorem dX12_longest_21 : decode cX12_longest 21 = .ok (.ireturn, 1) := by decide +kernel
theorem dX12_longest_22 : decode cX12_longest 22 = .ok (.iconst 0, 1) := by decide +kernel
theorem dX12_longest_23 : decode cX12_longest 23 = .ok (.istore_n 3, 1) := by decide +kernel
theorem dX12_longest_24 : decode cX12_longest 24 = .ok (.iconst 0, 1) := by decide +kernel
theorem dX12_longest_25 : decode cX12_longest 25 = .ok (.istore 4, 2) := by decide +kernel
theorem dX12_longest_27 : decode cX12_longest 27 = .ok (.iload 4, 2) := by decide +kernel
theorem dX12_longest_29 : decode cX12_longest 29 = .ok (.bipush 16, 2) := by decide +kernel
theorem dX12_longest_31 : decode cX12_longest 31 = .ok (.if_icmp .ge 34, 3) := by decide +kernel
theorem dX12_longest_34 : decode cX12_longest 34 = .ok (.aload_n 0, 1) := by decide +kernel
theorem dX12_longest_35 : decode cX12_longest 35 = .ok (.iload_n 1, 1) := by decide +kernel
theorem dX12_longest_36 : decode cX12_longest 36 = .ok (.iload_n 2, 1) := by decide +kernel
theorem dX12_longest_37 : decode cX12_longest 37 = .ok (.iload 4, 2) := by decide +kernel
theorem dX12_longest_39 : decode cX12_longest 39 = .ok (.invokevirtual 400, 3) := by decide +kernel
theorem dX12_longest_42 : decode cX12_longest 42 = .ok (.aload_n 0, 1) := by decide +kernel
theorem dX12_longest_43 : decode cX12_longest 43 = .ok (.getfield 388, 3) := by decide +kernel
theorem dX12_longest_46 : decode cX12_longest 46 = .ok (.iload_n 3, 1) := by decide +kernel
theorem dX12_longest_47 : decode cX12_longest 47 = .ok (.if_icmp .le 10, 3) := by decide +kernel
theorem dX12_longest_50 : decode cX12_longest 50 = .ok (.aload_n 0, 1) := by decide +kernel
theorem dX12_longest_51 : decode cX12_longest 51 = .ok (.getfield 388, 3) := by decide +kernel
theorem dX12_longest_54 : decode cX12_longest 54 = .ok (.goto 4, 3) := by decide +kernel
theorem dX12_longest_57 : decode cX12_longest 57 = .ok (.iload_n 3, 1) := by decide +kernel
theorem dX12_longest_58 : decode cX12_longest 58 = .ok (.istore_n 3, 1) := by decide +kernel
theorem dX12_longest_59 : decode cX12_longest 59 = .ok (.iinc 4 1, 3) := by decide +kernel
theorem dX12_longest_62 : decode cX12_longest 62 = .ok (.goto (-35), 3) := by decide +kernel
theorem dX12_longest_65 : decode cX12_longest 65 = .ok (.iload_n 3, 1) := by decide +kernel
theorem dX12_longest_66 : decode cX12_longest 66 = .ok (.ireturn, 1) := by decide +kernel
theorem dX12_faithful_0 : decode cX12_faithful 0 = .ok (.aload_n 0, 1) := by decide +kernel
theorem dX12_faithful_1 : decode cX12_faithful 1 = .ok (.iconst 0, 1) := by decide +kernel
theorem dX12_faithful_2 : decode cX12_faithful 2 = .ok (.putfield 107, 3) := by decide +kernel
theorem dX12_faithful_5 : decode cX12_faithful 5 = .ok (.iload_n 1, 1) := by decide +kernel
theorem dX12_faithful_6 : decode cX12_faithful 6 = .ok (.invokestatic 403, 3) := by decide +kernel
theorem dX12_faithful_9 : decode cX12_faithful 9 = .ok (.ifCond .ne 6, 3) := by decide +kernel
theorem dX12_faithful_12 : decode cX12_faithful 12 = .ok (.bipush (-2), 2) := by decide +kernel
theorem dX12_faithful_14 : decode cX12_faithful 14 = .ok (.ireturn, 1) := by decide +kernel
theorem dX12_faithful_15 : decode cX12_faithful 15 = .ok (.iconst 0, 1) := by decide +kernel
theorem dX12_faithful_16 : decode cX12_faithful 16 = .ok (.istore_n 2, 1) := by decide +kernel
theorem dX12_faithful_17 : decode cX12_faithful 17 = .ok (.iconst 0, 1) := by decide +kernel
theorem dX12_faithful_18 : decode cX12_faithful 18 = .ok (.istore_n 3, 1) := by decide +kernel
theorem dX12_faithful_19 : decode cX12_faithful 19 = .ok (.iload_n 3, 1) := by decide +kernel
theorem dX12_faithful_20 : decode cX12_faithful 20 = .ok (.bipush 32, 2) := by decide +kernel
theorem dX12_faithful_22 : decode cX12_faithful 22 = .ok (.if_icmp .ge 64, 3) := by decide +kernel
theorem dX12_faithful_25 : decode cX12_faithful 25 = .ok (.iconst 1, 1) := by decide +kernel
theorem dX12_faithful_26 : decode cX12_faithful 26 = .ok (.istore 4, 2) := by decide +kernel
theorem dX12_faithful_28 : decode cX12_faithful 28 = .ok (.iconst 0, 1) := by decide +kernel
theorem dX12_faithful_29 : decode cX12_faithful 29 = .ok (.istore 5, 2) := by decide +kernel
theorem dX12_faithful_31 : decode cX12_faithful 31 = .ok (.iload 5, 2) := by decide +kernel
theorem dX12_faithful_33 : decode cX12_faithful 33 = .ok (.bipush 16, 2) := by decide +kernel
theorem dX12_faithful_35 : decode cX12_faithful 35 = .ok (.if_icmp .ge 32, 3) := by decide +kernel
theorem dX12_faithful_38 : decode cX12_faithful 38 = .ok (.iload 4, 2) := by decide +kernel
theorem dX12_faithful_40 : decode cX12_faithful 40 = .ok (.ifCond .eq 27, 3) := by decide +kernel
theorem dX12_faithful_43 : decode cX12_faithful 43 = .ok (.aload_n 0, 1) := by decide +kernel
theorem dX12_faithful_44 : decode cX12_faithful 44 = .ok (.iload_n 3, 1) := by decide +kernel
theorem dX12_faithful_45 : decode cX12_faithful 45 = .ok (.iload_n 1, 1) := by decide +kernel
theorem dX12_faithful_46 : decode cX12_faithful 46 = .ok (.iload 5, 2) := by decide +kernel
theorem dX12_faithful_48 : decode cX12_faithful 48 = .ok (.invokevirtual 415, 3) := by decide +kernel
theorem dX12_faithful_51 : decode cX12_faithful 51 = .ok (.ifCond .eq 7, 3) := by decide +kernel
theorem dX12_faithful_54 : decode cX12_faithful 54 = .ok (.iconst 1, 1) := by decide +kernel
theorem dX12_faithful_55 : decode cX12_faithful 55 = .ok (.goto 4, 3) := by decide +kernel
theorem dX12_faithful_58 : decode cX12_faithful 58 = .ok (.iconst 0, 1) := by decide +kernel
theorem dX12_faithful_59 : decode cX12_faithful 59 = .ok (.istore 4, 2) := by decide +kernel
theorem dX12_faithful_61 : decode cX12_faithful 61 = .ok (.iinc 5 1, 3) := by decide +kernel
theorem dX12_faithful_64 : decode cX12_faithful 64 = .ok (.goto (-33), 3) := by decide +kernel
theorem dX12_faithful_67 : decode cX12_faithful 67 = .ok (.iload_n 2, 1) := by decide +kernel
theorem dX12_faithful_68 : decode cX12_faithful 68 = .ok (.iload 4, 2) := by decide +kernel
theorem dX12_faithful_70 : decode cX12_faithful 70 = .ok (.ifCond .eq 7, 3) := by decide +kernel
theorem dX12_faithful_73 : decode cX12_faithful 73 = .ok (.iconst 1, 1) := by decide +kernel
theorem dX12_faithful_74 : decode cX12_faithful 74 = .ok (.goto 4, 3) := by decide +kernel
theorem dX12_faithful_77 : decode cX12_faithful 77 = .ok (.iconst 0, 1) := by decide +kernel
theorem dX12_faithful_78 : decode cX12_faithful 78 = .ok (.iadd, 1) := by decide +kernel
theorem dX12_faithful_79 : decode cX12_faithful 79 = .ok (.istore_n 2, 1) := by decide +kernel
theorem dX12_faithful_80 : decode cX12_faithful 80 = .ok (.iinc 3 1, 3) := by decide +kernel
theorem dX12_faithful_83 : decode cX12_faithful 83 = .ok (.goto (-64), 3) := by decide +kernel
theorem dX12_faithful_86 : decode cX12_faithful 86 = .ok (.iload_n 2, 1) := by decide +kernel
theorem dX12_faithful_87 : decode cX12_faithful 87 = .ok (.ireturn, 1) := by decide +kernel
