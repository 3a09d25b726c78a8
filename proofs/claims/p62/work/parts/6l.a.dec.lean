theorem dX12_bestOf_0 : decode cX12_bestOf 0 = .ok (.iconst 0, 1) := by decide +kernel
theorem dX12_bestOf_1 : decode cX12_bestOf 1 = .ok (.istore_n 2, 1) := by decide +kernel
theorem dX12_bestOf_2 : decode cX12_bestOf 2 = .ok (.iload_n 2, 1) := by decide +kernel
theorem dX12_bestOf_3 : decode cX12_bestOf 3 = .ok (.aload_n 0, 1) := by decide +kernel
theorem dX12_bestOf_4 : decode cX12_bestOf 4 = .ok (.getfield 34, 3) := by decide +kernel
theorem dX12_bestOf_7 : decode cX12_bestOf 7 = .ok (.iconst 3, 1) := by decide +kernel
theorem dX12_bestOf_8 : decode cX12_bestOf 8 = .ok (.iaload, 1) := by decide +kernel
theorem dX12_bestOf_9 : decode cX12_bestOf 9 = .ok (.if_icmp .ge 39, 3) := by decide +kernel
theorem dX12_bestOf_12 : decode cX12_bestOf 12 = .ok (.aload_n 0, 1) := by decide +kernel
theorem dX12_bestOf_13 : decode cX12_bestOf 13 = .ok (.getfield 101, 3) := by decide +kernel
theorem dX12_bestOf_16 : decode cX12_bestOf 16 = .ok (.iconst 2, 1) := by decide +kernel
theorem dX12_bestOf_17 : decode cX12_bestOf 17 = .ok (.iload_n 2, 1) := by decide +kernel
theorem dX12_bestOf_18 : decode cX12_bestOf 18 = .ok (.imul, 1) := by decide +kernel
theorem dX12_bestOf_19 : decode cX12_bestOf 19 = .ok (.aload_n 0, 1) := by decide +kernel
theorem dX12_bestOf_20 : decode cX12_bestOf 20 = .ok (.iload_n 2, 1) := by decide +kernel
theorem dX12_bestOf_21 : decode cX12_bestOf 21 = .ok (.iconst 0, 1) := by decide +kernel
theorem dX12_bestOf_22 : decode cX12_bestOf 22 = .ok (.invokevirtual 273, 3) := by decide +kernel
theorem dX12_bestOf_25 : decode cX12_bestOf 25 = .ok (.iastore, 1) := by decide +kernel
theorem dX12_bestOf_26 : decode cX12_bestOf 26 = .ok (.aload_n 0, 1) := by decide +kernel
theorem dX12_bestOf_27 : decode cX12_bestOf 27 = .ok (.getfield 101, 3) := by decide +kernel
theorem dX12_bestOf_30 : decode cX12_bestOf 30 = .ok (.iconst 2, 1) := by decide +kernel
theorem dX12_bestOf_31 : decode cX12_bestOf 31 = .ok (.iload_n 2, 1) := by decide +kernel
theorem dX12_bestOf_32 : decode cX12_bestOf 32 = .ok (.imul, 1) := by decide +kernel
theorem dX12_bestOf_33 : decode cX12_bestOf 33 = .ok (.iconst 1, 1) := by decide +kernel
theorem dX12_bestOf_34 : decode cX12_bestOf 34 = .ok (.iadd, 1) := by decide +kernel
theorem dX12_bestOf_35 : decode cX12_bestOf 35 = .ok (.aload_n 0, 1) := by decide +kernel
theorem dX12_bestOf_36 : decode cX12_bestOf 36 = .ok (.iload_n 2, 1) := by decide +kernel
theorem dX12_bestOf_37 : decode cX12_bestOf 37 = .ok (.iconst 1, 1) := by decide +kernel
theorem dX12_bestOf_38 : decode cX12_bestOf 38 = .ok (.invokevirtual 273, 3) := by decide +kernel
theorem dX12_bestOf_41 : decode cX12_bestOf 41 = .ok (.iastore, 1) := by decide +kernel
theorem dX12_bestOf_42 : decode cX12_bestOf 42 = .ok (.iinc 2 1, 3) := by decide +kernel
theorem dX12_bestOf_45 : decode cX12_bestOf 45 = .ok (.goto (-43), 3) := by decide +kernel
theorem dX12_bestOf_48 : decode cX12_bestOf 48 = .ok (.iconst (-1), 1) := by decide +kernel
theorem dX12_bestOf_49 : decode cX12_bestOf 49 = .ok (.istore_n 2, 1) := by decide +kernel
theorem dX12_bestOf_50 : decode cX12_bestOf 50 = .ok (.iconst 0, 1) := by decide +kernel
theorem dX12_bestOf_51 : decode cX12_bestOf 51 = .ok (.istore_n 3, 1) := by decide +kernel
theorem dX12_bestOf_52 : decode cX12_bestOf 52 = .ok (.iload_n 3, 1) := by decide +kernel
theorem dX12_bestOf_53 : decode cX12_bestOf 53 = .ok (.bipush 32, 2) := by decide +kernel
theorem dX12_bestOf_55 : decode cX12_bestOf 55 = .ok (.if_icmp .ge 147, 3) := by decide +kernel
theorem dX12_bestOf_58 : decode cX12_bestOf 58 = .ok (.iconst 0, 1) := by decide +kernel
theorem dX12_bestOf_59 : decode cX12_bestOf 59 = .ok (.istore 4, 2) := by decide +kernel
theorem dX12_bestOf_61 : decode cX12_bestOf 61 = .ok (.iload 4, 2) := by decide +kernel
theorem dX12_bestOf_63 : decode cX12_bestOf 63 = .ok (.aload_n 0, 1) := by decide +kernel
theorem dX12_bestOf_64 : decode cX12_bestOf 64 = .ok (.getfield 34, 3) := by decide +kernel
theorem dX12_bestOf_67 : decode cX12_bestOf 67 = .ok (.iconst 3, 1) := by decide +kernel
theorem dX12_bestOf_68 : decode cX12_bestOf 68 = .ok (.iaload, 1) := by decide +kernel
theorem dX12_bestOf_69 : decode cX12_bestOf 69 = .ok (.if_icmp .ge 51, 3) := by decide +kernel
theorem dX12_bestOf_72 : decode cX12_bestOf 72 = .ok (.iload_n 1, 1) := by decide +kernel
theorem dX12_bestOf_73 : decode cX12_bestOf 73 = .ok (.iload 4, 2) := by decide +kernel
theorem dX12_bestOf_75 : decode cX12_bestOf 75 = .ok (.invokestatic 288, 3) := by decide +kernel
theorem dX12_bestOf_78 : decode cX12_bestOf 78 = .ok (.ifCond .ne 6, 3) := by decide +kernel
theorem dX12_bestOf_81 : decode cX12_bestOf 81 = .ok (.goto 33, 3) := by decide +kernel
theorem dX12_bestOf_84 : decode cX12_bestOf 84 = .ok (.aload_n 0, 1) := by decide +kernel
theorem dX12_bestOf_85 : decode cX12_bestOf 85 = .ok (.getfield 37, 3) := by decide +kernel
theorem dX12_bestOf_88 : decode cX12_bestOf 88 = .ok (.iconst 5, 1) := by decide +kernel
theorem dX12_bestOf_89 : decode cX12_bestOf 89 = .ok (.iload 4, 2) := by decide +kernel
theorem dX12_bestOf_91 : decode cX12_bestOf 91 = .ok (.imul, 1) := by decide +kernel
theorem dX12_bestOf_92 : decode cX12_bestOf 92 = .ok (.iconst 0, 1) := by decide +kernel
theorem dX12_bestOf_93 : decode cX12_bestOf 93 = .ok (.iadd, 1) := by decide +kernel
theorem dX12_bestOf_94 : decode cX12_bestOf 94 = .ok (.iload_n 3, 1) := by decide +kernel
theorem dX12_bestOf_95 : decode cX12_bestOf 95 = .ok (.bipush 16, 2) := by decide +kernel
theorem dX12_bestOf_97 : decode cX12_bestOf 97 = .ok (.irem, 1) := by decide +kernel
theorem dX12_bestOf_98 : decode cX12_bestOf 98 = .ok (.iastore, 1) := by decide +kernel
theorem dX12_bestOf_99 : decode cX12_bestOf 99 = .ok (.aload_n 0, 1) := by decide +kernel
theorem dX12_bestOf_100 : decode cX12_bestOf 100 = .ok (.getfield 37, 3) := by decide +kernel
theorem dX12_bestOf_103 : decode cX12_bestOf 103 = .ok (.iconst 5, 1) := by decide +kernel
theorem dX12_bestOf_104 : decode cX12_bestOf 104 = .ok (.iload 4, 2) := by decide +kernel
theorem dX12_bestOf_106 : decode cX12_bestOf 106 = .ok (.imul, 1) := by decide +kernel
theorem dX12_bestOf_107 : decode cX12_bestOf 107 = .ok (.iconst 1, 1) := by decide +kernel
theorem dX12_bestOf_108 : decode cX12_bestOf 108 = .ok (.iadd, 1) := by decide +kernel
theorem dX12_bestOf_109 : decode cX12_bestOf 109 = .ok (.iload_n 3, 1) := by decide +kernel
theorem dX12_bestOf_110 : decode cX12_bestOf 110 = .ok (.bipush 16, 2) := by decide +kernel
theorem dX12_bestOf_112 : decode cX12_bestOf 112 = .ok (.idiv, 1) := by decide +kernel
theorem dX12_bestOf_113 : decode cX12_bestOf 113 = .ok (.iastore, 1) := by decide +kernel
theorem dX12_bestOf_114 : decode cX12_bestOf 114 = .ok (.iinc 4 1, 3) := by decide +kernel
theorem dX12_bestOf_117 : decode cX12_bestOf 117 = .ok (.goto (-56), 3) := by decide +kernel
theorem dX12_bestOf_120 : decode cX12_bestOf 120 = .ok (.aload_n 0, 1) := by decide +kernel
theorem dX12_bestOf_121 : decode cX12_bestOf 121 = .ok (.invokevirtual 346, 3) := by decide +kernel
theorem dX12_bestOf_124 : decode cX12_bestOf 124 = .ok (.iconst 0, 1) := by decide +kernel
theorem dX12_bestOf_125 : decode cX12_bestOf 125 = .ok (.istore 4, 2) := by decide +kernel
theorem dX12_bestOf_127 : decode cX12_bestOf 127 = .ok (.iconst 0, 1) := by decide +kernel
theorem dX12_bestOf_128 : decode cX12_bestOf 128 = .ok (.istore 5, 2) := by decide +kernel
theorem dX12_bestOf_130 : decode cX12_bestOf 130 = .ok (.iload 5, 2) := by decide +kernel
theorem dX12_bestOf_132 : decode cX12_bestOf 132 = .ok (.aload_n 0, 1) := by decide +kernel
theorem dX12_bestOf_133 : decode cX12_bestOf 133 = .ok (.getfield 34, 3) := by decide +kernel
theorem dX12_bestOf_136 : decode cX12_bestOf 136 = .ok (.iconst 3, 1) := by decide +kernel
theorem dX12_bestOf_137 : decode cX12_bestOf 137 = .ok (.iaload, 1) := by decide +kernel
theorem dX12_bestOf_138 : decode cX12_bestOf 138 = .ok (.if_icmp .ge 33, 3) := by decide +kernel
theorem dX12_bestOf_141 : decode cX12_bestOf 141 = .ok (.iload 4, 2) := by decide +kernel
theorem dX12_bestOf_143 : decode cX12_bestOf 143 = .ok (.iload_n 1, 1) := by decide +kernel
theorem dX12_bestOf_144 : decode cX12_bestOf 144 = .ok (.iload 5, 2) := by decide +kernel
theorem dX12_bestOf_146 : decode cX12_bestOf 146 = .ok (.invokestatic 288, 3) := by decide +kernel
theorem dX12_bestOf_149 : decode cX12_bestOf 149 = .ok (.ifCond .eq 12, 3) := by decide +kernel
theorem dX12_bestOf_152 : decode cX12_bestOf 152 = .ok (.aload_n 0, 1) := by decide +kernel
theorem dX12_bestOf_153 : decode cX12_bestOf 153 = .ok (.iload 5, 2) := by decide +kernel
theorem dX12_bestOf_155 : decode cX12_bestOf 155 = .ok (.invokevirtual 370, 3) := by decide +kernel
theorem dX12_bestOf_158 : decode cX12_bestOf 158 = .ok (.goto 4, 3) := by decide +kernel
theorem dX12_bestOf_161 : decode cX12_bestOf 161 = .ok (.iconst 0, 1) := by decide +kernel
theorem dX12_bestOf_162 : decode cX12_bestOf 162 = .ok (.iadd, 1) := by decide +kernel
theorem dX12_bestOf_163 : decode cX12_bestOf 163 = .ok (.istore 4, 2) := by decide +kernel
theorem dX12_bestOf_165 : decode cX12_bestOf 165 = .ok (.iinc 5 1, 3) := by decide +kernel
theorem dX12_bestOf_168 : decode cX12_bestOf 168 = .ok (.goto (-38), 3) := by decide +kernel
theorem dX12_bestOf_171 : decode cX12_bestOf 171 = .ok (.iload_n 2, 1) := by decide +kernel
theorem dX12_bestOf_172 : decode cX12_bestOf 172 = .ok (.iconst (-1), 1) := by decide +kernel
theorem dX12_bestOf_173 : decode cX12_bestOf 173 = .ok (.if_icmp .eq 15, 3) := by decide +kernel
theorem dX12_bestOf_176 : decode cX12_bestOf 176 = .ok (.iload 4, 2) := by decide +kernel
theorem dX12_bestOf_178 : decode cX12_bestOf 178 = .ok (.aload_n 0, 1) := by decide +kernel
theorem dX12_bestOf_179 : decode cX12_bestOf 179 = .ok (.getfield 497, 3) := by decide +kernel
theorem dX12_bestOf_182 : decode cX12_bestOf 182 = .ok (.if_icmp .lt 6, 3) := by decide +kernel
theorem dX12_bestOf_185 : decode cX12_bestOf 185 = .ok (.goto 11, 3) := by decide +kernel
theorem dX12_bestOf_188 : decode cX12_bestOf 188 = .ok (.iload_n 3, 1) := by decide +kernel
theorem dX12_bestOf_189 : decode cX12_bestOf 189 = .ok (.istore_n 2, 1) := by decide +kernel
theorem dX12_bestOf_190 : decode cX12_bestOf 190 = .ok (.aload_n 0, 1) := by decide +kernel
theorem dX12_bestOf_191 : decode cX12_bestOf 191 = .ok (.iload 4, 2) := by decide +kernel
theorem dX12_bestOf_193 : decode cX12_bestOf 193 = .ok (.putfield 497, 3) := by decide +kernel
theorem dX12_bestOf_196 : decode cX12_bestOf 196 = .ok (.iinc 3 1, 3) := by decide +kernel
theorem dX12_bestOf_199 : decode cX12_bestOf 199 = .ok (.goto (-147), 3) := by decide +kernel
theorem dX12_bestOf_202 : decode cX12_bestOf 202 = .ok (.iconst 0, 1) := by decide +kernel
theorem dX12_bestOf_203 : decode cX12_bestOf 203 = .ok (.istore_n 3, 1) := by decide +kernel
theorem dX12_bestOf_204 : decode cX12_bestOf 204 = .ok (.iload_n 3, 1) := by decide +kernel
theorem dX12_bestOf_205 : decode cX12_bestOf 205 = .ok (.aload_n 0, 1) := by decide +kernel
theorem dX12_bestOf_206 : decode cX12_bestOf 206 = .ok (.getfield 34, 3) := by decide +kernel
theorem dX12_bestOf_209 : decode cX12_bestOf 209 = .ok (.iconst 3, 1) := by decide +kernel
theorem dX12_bestOf_210 : decode cX12_bestOf 210 = .ok (.iaload, 1) := by decide +kernel
theorem dX12_bestOf_211 : decode cX12_bestOf 211 = .ok (.if_icmp .ge 47, 3) := by decide +kernel
theorem dX12_bestOf_214 : decode cX12_bestOf 214 = .ok (.aload_n 0, 1) := by decide +kernel
theorem dX12_bestOf_215 : decode cX12_bestOf 215 = .ok (.getfield 37, 3) := by decide +kernel
theorem dX12_bestOf_218 : decode cX12_bestOf 218 = .ok (.iconst 5, 1) := by decide +kernel
theorem dX12_bestOf_219 : decode cX12_bestOf 219 = .ok (.iload_n 3, 1) := by decide +kernel
theorem dX12_bestOf_220 : decode cX12_bestOf 220 = .ok (.imul, 1) := by decide +kernel
theorem dX12_bestOf_221 : decode cX12_bestOf 221 = .ok (.iconst 0, 1) := by decide +kernel
theorem dX12_bestOf_222 : decode cX12_bestOf 222 = .ok (.iadd, 1) := by decide +kernel
theorem dX12_bestOf_223 : decode cX12_bestOf 223 = .ok (.aload_n 0, 1) := by decide +kernel
theorem dX12_bestOf_224 : decode cX12_bestOf 224 = .ok (.getfield 101, 3) := by decide +kernel
theorem dX12_bestOf_227 : decode cX12_bestOf 227 = .ok (.iconst 2, 1) := by decide +kernel
theorem dX12_bestOf_228 : decode cX12_bestOf 228 = .ok (.iload_n 3, 1) := by decide +kernel
theorem dX12_bestOf_229 : decode cX12_bestOf 229 = .ok (.imul, 1) := by decide +kernel
theorem dX12_bestOf_230 : decode cX12_bestOf 230 = .ok (.iaload, 1) := by decide +kernel
theorem dX12_bestOf_231 : decode cX12_bestOf 231 = .ok (.iastore, 1) := by decide +kernel
theorem dX12_bestOf_232 : decode cX12_bestOf 232 = .ok (.aload_n 0, 1) := by decide +kernel
theorem dX12_bestOf_233 : decode cX12_bestOf 233 = .ok (.getfield 37, 3) := by decide +kernel
theorem dX12_bestOf_236 : decode cX12_bestOf 236 = .ok (.iconst 5, 1) := by decide +kernel
theorem dX12_bestOf_237 : decode cX12_bestOf 237 = .ok (.iload_n 3, 1) := by decide +kernel
theorem dX12_bestOf_238 : decode cX12_bestOf 238 = .ok (.imul, 1) := by decide +kernel
theorem dX12_bestOf_239 : decode cX12_bestOf 239 = .ok (.iconst 1, 1) := by decide +kernel
theorem dX12_bestOf_240 : decode cX12_bestOf 240 = .ok (.iadd, 1) := by decide +kernel
theorem dX12_bestOf_241 : decode cX12_bestOf 241 = .ok (.aload_n 0, 1) := by decide +kernel
theorem dX12_bestOf_242 : decode cX12_bestOf 242 = .ok (.getfield 101, 3) := by decide +kernel
theorem dX12_bestOf_245 : decode cX12_bestOf 245 = .ok (.iconst 2, 1) := by decide +kernel
theorem dX12_bestOf_246 : decode cX12_bestOf 246 = .ok (.iload_n 3, 1) := by decide +kernel
theorem dX12_bestOf_247 : decode cX12_bestOf 247 = .ok (.imul, 1) := by decide +kernel
theorem dX12_bestOf_248 : decode cX12_bestOf 248 = .ok (.iconst 1, 1) := by decide +kernel
theorem dX12_bestOf_249 : decode cX12_bestOf 249 = .ok (.iadd, 1) := by decide +kernel
theorem dX12_bestOf_250 : decode cX12_bestOf 250 = .ok (.iaload, 1) := by decide +kernel
theorem dX12_bestOf_251 : decode cX12_bestOf 251 = .ok (.iastore, 1) := by decide +kernel
theorem dX12_bestOf_252 : decode cX12_bestOf 252 = .ok (.iinc 3 1, 3) := by decide +kernel
theorem dX12_bestOf_255 : decode cX12_bestOf 255 = .ok (.goto (-51), 3) := by decide +kernel
theorem dX12_bestOf_258 : decode cX12_bestOf 258 = .ok (.iload_n 2, 1) := by decide +kernel
theorem dX12_bestOf_259 : decode cX12_bestOf 259 = .ok (.ireturn, 1) := by decide +kernel
theorem dX12_best_0 : decode cX12_best 0 = .ok (.aload_n 0, 1) := by decide +kernel
theorem dX12_best_1 : decode cX12_best 1 = .ok (.iconst 0, 1) := by decide +kernel
theorem dX12_best_2 : decode cX12_best 2 = .ok (.putfield 107, 3) := by decide +kernel
theorem dX12_best_5 : decode cX12_best 5 = .ok (.aload_n 0, 1) := by decide +kernel
theorem dX12_best_6 : decode cX12_best 6 = .ok (.iload_n 1, 1) := by decide +kernel
theorem dX12_best_7 : decode cX12_best 7 = .ok (.invokevirtual 276, 3) := by decide +kernel
theorem dX12_best_10 : decode cX12_best 10 = .ok (.ifCond .eq 13, 3) := by decide +kernel
theorem dX12_best_13 : decode cX12_best 13 = .ok (.aload_n 0, 1) := by decide +kernel
theorem dX12_best_14 : decode cX12_best 14 = .ok (.iconst 1, 1) := by decide +kernel
theorem dX12_best_15 : decode cX12_best 15 = .ok (.iload_n 1, 1) := by decide +kernel
theorem dX12_best_16 : decode cX12_best 16 = .ok (.ishl, 1) := by decide +kernel
theorem dX12_best_17 : decode cX12_best 17 = .ok (.invokevirtual 500, 3) := by decide +kernel
theorem dX12_best_20 : decode cX12_best 20 = .ok (.goto 5, 3) := by decide +kernel
theorem dX12_best_23 : decode cX12_best 23 = .ok (.bipush (-2), 2) := by decide +kernel
theorem dX12_best_25 : decode cX12_best 25 = .ok (.ireturn, 1) := by decide +kernel
theorem dX12_bestCost_0 : decode cX12_bestCost 0 = .ok (.aload_n 0, 1) := by decide +kernel
theorem dX12_bestCost_1 : decode cX12_bestCost 1 = .ok (.iconst 0, 1) := by decide +kernel
theorem dX12_bestCost_2 : decode cX12_bestCost 2 = .ok (.putfield 107, 3) := by decide +kernel
theorem dX12_bestCost_5 : decode cX12_bestCost 5 = .ok (.aload_n 0, 1) := by decide +kernel
theorem dX12_bestCost_6 : decode cX12_bestCost 6 = .ok (.iload_n 1, 1) := by decide +kernel
theorem dX12_bestCost_7 : decode cX12_bestCost 7 = .ok (.invokevirtual 276, 3) := by decide +kernel
theorem dX12_bestCost_10 : decode cX12_bestCost 10 = .ok (.ifCond .ne 6, 3) := by decide +kernel
theorem dX12_bestCost_13 : decode cX12_bestCost 13 = .ok (.bipush (-2), 2) := by decide +kernel
theorem dX12_bestCost_15 : decode cX12_bestCost 15 = .ok (.ireturn, 1) := by decide +kernel
theorem dX12_bestCost_16 : decode cX12_bestCost 16 = .ok (.aload_n 0, 1) := by decide +kernel
theorem dX12_bestCost_17 : decode cX12_bestCost 17 = .ok (.iconst 1, 1) := by decide +kernel
theorem dX12_bestCost_18 : decode cX12_bestCost 18 = .ok (.iload_n 1, 1) := by decide +kernel
theorem dX12_bestCost_19 : decode cX12_bestCost 19 = .ok (.ishl, 1) := by decide +kernel
theorem dX12_bestCost_20 : decode cX12_bestCost 20 = .ok (.invokevirtual 500, 3) := by decide +kernel
theorem dX12_bestCost_23 : decode cX12_bestCost 23 = .ok (.pop, 1) := by decide +kernel
theorem dX12_bestCost_24 : decode cX12_bestCost 24 = .ok (.aload_n 0, 1) := by decide +kernel
theorem dX12_bestCost_25 : decode cX12_bestCost 25 = .ok (.getfield 497, 3) := by decide +kernel
theorem dX12_bestCost_28 : decode cX12_bestCost 28 = .ok (.ireturn, 1) := by decide +kernel
theorem dX12_isSet_0 : decode cX12_isSet 0 = .ok (.aload_n 0, 1) := by decide +kernel
theorem dX12_isSet_1 : decode cX12_isSet 1 = .ok (.invokevirtual 373, 3) := by decide +kernel
theorem dX12_isSet_4 : decode cX12_isSet 4 = .ok (.ifCond .eq 27, 3) := by decide +kernel
theorem dX12_isSet_7 : decode cX12_isSet 7 = .ok (.iload_n 1, 1) := by decide +kernel
theorem dX12_isSet_8 : decode cX12_isSet 8 = .ok (.i2l, 1) := by decide +kernel
theorem dX12_isSet_9 : decode cX12_isSet 9 = .ok (.lconst 1, 1) := by decide +kernel
theorem dX12_isSet_10 : decode cX12_isSet 10 = .ok (.iconst 1, 1) := by decide +kernel
theorem dX12_isSet_11 : decode cX12_isSet 11 = .ok (.aload_n 0, 1) := by decide +kernel
theorem dX12_isSet_12 : decode cX12_isSet 12 = .ok (.getfield 34, 3) := by decide +kernel
theorem dX12_isSet_15 : decode cX12_isSet 15 = .ok (.iconst 3, 1) := by decide +kernel
theorem dX12_isSet_16 : decode cX12_isSet 16 = .ok (.iaload, 1) := by decide +kernel
theorem dX12_isSet_17 : decode cX12_isSet 17 = .ok (.ishl, 1) := by decide +kernel
theorem dX12_isSet_18 : decode cX12_isSet 18 = .ok (.iconst 1, 1) := by decide +kernel
theorem dX12_isSet_19 : decode cX12_isSet 19 = .ok (.isub, 1) := by decide +kernel
theorem dX12_isSet_20 : decode cX12_isSet 20 = .ok (.i2l, 1) := by decide +kernel
theorem dX12_isSet_21 : decode cX12_isSet 21 = .ok (.invokestatic 112, 3) := by decide +kernel
theorem dX12_isSet_24 : decode cX12_isSet 24 = .ok (.ifCond .eq 7, 3) := by decide +kernel
theorem dX12_isSet_27 : decode cX12_isSet 27 = .ok (.iconst 1, 1) := by decide +kernel
theorem dX12_isSet_28 : decode cX12_isSet 28 = .ok (.goto 4, 3) := by decide +kernel
theorem dX12_isSet_31 : decode cX12_isSet 31 = .ok (.iconst 0, 1) := by decide +kernel
theorem dX12_isSet_32 : decode cX12_isSet 32 = .ok (.ireturn, 1) := by decide +kernel
