theorem dX12_bestOf_0 : decode cX12_bestOf 0 = .ok (.iconst 0, 1) := by decide +kernel
theorem dX12_bestOf_1 : decode cX12_bestOf 1 = .ok (.istore_n 2, 1) := by decide +kernel
theorem dX12_bestOf_2 : decode cX12_bestOf 2 = .ok (.iload_n 2, 1) := by decide +kernel
theorem dX12_bestOf_3 : decode cX12_bestOf 3 = .ok (.aload_n 0, 1) := by decide +kernel
theorem dX12_bestOf_4 : decode cX12_bestOf 4 = .ok (.getfield 34, 3) := by decide +kernel
theorem dX12_bestOf_7 : decode cX12_bestOf 7 = .ok (.iconst 3, 1) := by decide +kernel
theorem dX12_bestOf_8 : decode cX12_bestOf 8 = .ok (.iaload, 1) := by decide +kernel
theorem dX12_bestOf_9 : decode cX12_bestOf 9 = .ok (.if_icmp .ge 39, 3) := by decide +kernel
theorem dX12_bestOf_12 : decode cX12_bestOf 12 = .ok (.aload_n 0, 1) := by decide +kernel
theorem dX12_bestOf_13 : decode cX12_bestOf 13 = .ok (.getfield 101, 3) := by decide +kernel
theorem dX12_bestOf_16 : decode cX12_bestOf 16 = .ok (.iconst 2, 1) := by decide +kernel
theorem dX12_bestOf_17 : decode cX12_bestOf 17 = .ok (.iload_n 2, 1) := by decide +kernel
theorem dX12_bestOf_18 : decode cX12_bestOf 18 = .ok (.imul, 1) := by decide +kernel
theorem dX12_bestOf_19 : decode cX12_bestOf 19 = .ok (.aload_n 0, 1) := by decide +kernel
theorem dX12_bestOf_20 : decode cX12_bestOf 20 = .ok (.iload_n 2, 1) := by decide +kernel
theorem dX12_bestOf_21 : decode cX12_bestOf 21 = .ok (.iconst 0, 1) := by decide +kernel
theorem dX12_bestOf_22 : decode cX12_bestOf 22 = .ok (.invokevirtual 273, 3) := by decide +kernel
theorem dX12_bestOf_25 : decode cX12_bestOf 25 = .ok (.iastore, 1) := by decide +kernel
theorem dX12_bestOf_26 : decode cX12_bestOf 26 = .ok (.aload_n 0, 1) := by decide +kernel
theorem dX12_bestOf_27 : decode cX12_bestOf 27 = .ok (.getfield 101, 3) := by decide +kernel
theorem dX12_bestOf_30 : decode cX12_bestOf 30 = .ok (.iconst 2, 1) := by decide +kernel
theorem dX12_bestOf_31 : decode cX12_bestOf 31 = .ok (.iload_n 2, 1) := by decide +kernel
theorem dX12_bestOf_32 : decode cX12_bestOf 32 = .ok (.imul, 1) := by decide +kernel
theorem dX12_bestOf_33 : decode cX12_bestOf 33 = .ok (.iconst 1, 1) := by decide +kernel
theorem dX12_bestOf_34 : decode cX12_bestOf 34 = .ok (.iadd, 1) := by decide +kernel
theorem dX12_bestOf_35 : decode cX12_bestOf 35 = .ok (.aload_n 0, 1) := by decide +kernel
theorem dX12_bestOf_36 : decode cX12_bestOf 36 = .ok (.iload_n 2, 1) := by decide +kernel
theorem dX12_bestOf_37 : decode cX12_bestOf 37 = .ok (.iconst 1, 1) := by decide +kernel
theorem dX12_bestOf_38 : decode cX12_bestOf 38 = .ok (.invokevirtual 273, 3) := by decide +kernel
theorem dX12_bestOf_41 : decode cX12_bestOf 41 = .ok (.iastore, 1) := by decide +kernel
theorem dX12_bestOf_42 : decode cX12_bestOf 42 = .ok (.iinc 2 1, 3) := by decide +kernel
theorem dX12_bestOf_45 : decode cX12_bestOf 45 = .ok (.goto (-43), 3) := by decide +kernel
theorem dX12_bestOf_48 : decode cX12_bestOf 48 = .ok (.iconst (-1), 1) := by decide +kernel
theorem dX12_bestOf_49 : decode cX12_bestOf 49 = .ok (.istore_n 2, 1) := by decide +kernel
theorem dX12_bestOf_50 : decode cX12_bestOf 50 = .ok (.iconst 0, 1) := by decide +kernel
theorem dX12_bestOf_51 : decode cX12_bestOf 51 = .ok (.istore_n 3, 1) := by decide +kernel
theorem dX12_bestOf_52 : decode cX12_bestOf 52 = .ok (.iload_n 3, 1) := by decide +kernel
theorem dX12_bestOf_53 : decode cX12_bestOf 53 = .ok (.bipush 32, 2) := by decide +kernel
theorem dX12_bestOf_55 : decode cX12_bestOf 55 = .ok (.if_icmp .ge 147, 3) := by decide +kernel
theorem dX12_bestOf_58 : decode cX12_bestOf 58 = .ok (.iconst 0, 1) := by decide +kernel
theorem dX12_bestOf_59 : decode cX12_bestOf 59 = .ok (.istore 4, 2) := by decide +kernel
theorem dX12_bestOf_61 : decode cX12_bestOf 61 = .ok (.iload 4, 2) := by decide +kernel
theorem dX12_bestOf_63 : decode cX12_bestOf 63 = .ok (.aload_n 0, 1) := by decide +kernel
theorem dX12_bestOf_64 : decode cX12_bestOf 64 = .ok (.getfield 34, 3) := by decide +kernel
theorem dX12_bestOf_67 : decode cX12_bestOf 67 = .ok (.iconst 3, 1) := by decide +kernel
theorem dX12_bestOf_68 : decode cX12_bestOf 68 = .ok (.iaload, 1) := by decide +kernel
theorem dX12_bestOf_69 : decode cX12_bestOf 69 = .ok (.if_icmp .ge 51, 3) := by decide +kernel
theorem dX12_bestOf_72 : decode cX12_bestOf 72 = .ok (.iload_n 1, 1) := by decide +kernel
theorem dX12_bestOf_73 : decode cX12_bestOf 73 = .ok (.iload 4, 2) := by decide +kernel
theorem dX12_bestOf_75 : decode cX12_bestOf 75 = .ok (.invokestatic 288, 3) := by decide +kernel
theorem dX12_bestOf_78 : decode cX12_bestOf 78 = .ok (.ifCond .ne 6, 3) := by decide +kernel
theorem dX12_bestOf_81 : decode cX12_bestOf 81 = .ok (.goto 33, 3) := by decide +kernel
theorem dX12_bestOf_84 : decode cX12_bestOf 84 = .ok (.aload_n 0, 1) := by decide +kernel
theorem dX12_bestOf_85 : decode cX12_bestOf 85 = .ok (.getfield 37, 3) := by decide +kernel
theorem dX12_bestOf_88 : decode cX12_bestOf 88 = .ok (.iconst 5, 1) := by decide +kernel
theorem dX12_bestOf_89 : decode cX12_bestOf 89 = .ok (.iload 4, 2) := by decide +kernel
theorem dX12_bestOf_91 : decode cX12_bestOf 91 = .ok (.imul, 1) := by decide +kernel
theorem dX12_bestOf_92 : decode cX12_bestOf 92 = .ok (.iconst 0, 1) := by decide +kernel
theorem dX12_bestOf_93 : decode cX12_bestOf 93 = .ok (.iadd, 1) := by decide +kernel
theorem dX12_bestOf_94 : decode cX12_bestOf 94 = .ok (.iload_n 3, 1) := by decide +kernel
theorem dX12_bestOf_95 : decode cX12_bestOf 95 = .ok (.bipush 16, 2) := by decide +kernel
theorem dX12_bestOf_97 : decode cX12_bestOf 97 = .ok (.irem, 1) := by decide +kernel
theorem dX12_bestOf_98 : decode cX12_bestOf 98 = .ok (.iastore, 1) := by decide +kernel
theorem dX12_bestOf_99 : decode cX12_bestOf 99 = .ok (.aload_n 0, 1) := by decide +kernel
theorem dX12_bestOf_100 : decode cX12_bestOf 100 = .ok (.getfield 37, 3) := by decide +kernel
theorem dX12_bestOf_103 : decode cX12_bestOf 103 = .ok (.iconst 5, 1) := by decide +kernel
theorem dX12_bestOf_104 : decode cX12_bestOf 104 = .ok (.iload 4, 2) := by decide +kernel
theorem dX12_bestOf_106 : decode cX12_bestOf 106 = .ok (.imul, 1) := by decide +kernel
theorem dX12_bestOf_107 : decode cX12_bestOf 107 = .ok (.iconst 1, 1) := by decide +kernel
theorem dX12_bestOf_108 : decode cX12_bestOf 108 = .ok (.iadd, 1) := by decide +kernel
theorem dX12_bestOf_109 : decode cX12_bestOf 109 = .ok (.iload_n 3, 1) := by decide +kernel
theorem dX12_bestOf_110 : decode cX12_bestOf 110 = .ok (.bipush 16, 2) := by decide +kernel
theorem dX12_bestOf_112 : decode cX12_bestOf 112 = .ok (.idiv, 1) := by decide +kernel
theorem dX12_bestOf_113 : decode cX12_bestOf 113 = .ok (.iastore, 1) := by decide +kernel
theorem dX12_bestOf_114 : decode cX12_bestOf 114 = .ok (.iinc 4 1, 3) := by decide +kernel
theorem dX12_bestOf_117 : decode cX12_bestOf 117 = .ok (.goto (-56), 3) := by decide +kernel
theorem dX12_bestOf_120 : decode cX12_bestOf 120 = .ok (.aload_n 0, 1) := by decide +kernel
theorem dX12_bestOf_121 : decode cX12_bestOf 121 = .ok (.invokevirtual 346, 3) := by decide +kernel
theorem dX12_bestOf_124 : decode cX12_bestOf 124 = .ok (.iconst 0, 1) := by decide +kernel
theorem dX12_bestOf_125 : decode cX12_bestOf 125 = .ok (.istore 4, 2) := by decide +kernel
theorem dX12_bestOf_127 : decode cX12_bestOf 127 = .ok (.iconst 0, 1) := by decide +kernel
theorem dX12_bestOf_128 : decode cX12_bestOf 128 = .ok (.istore 5, 2) := by decide +kernel
theorem dX12_bestOf_130 : decode cX12_bestOf 130 = .ok (.iload 5, 2) := by decide +kernel
theorem dX12_bestOf_132 : decode cX12_bestOf 132 = .ok (.aload_n 0, 1) := by decide +kernel
theorem dX12_bestOf_133 : decode cX12_bestOf 133 = .ok (.getfield 34, 3) := by decide +kernel
theorem dX12_bestOf_136 : decode cX12_bestOf 136 = .ok (.iconst 3, 1) := by decide +kernel
theorem dX12_bestOf_137 : decode cX12_bestOf 137 = .ok (.iaload, 1) := by decide +kernel
theorem dX12_bestOf_138 : decode cX12_bestOf 138 = .ok (.if_icmp .ge 33, 3) := by decide +kernel
theorem dX12_bestOf_141 : decode cX12_bestOf 141 = .ok (.iload 4, 2) := by decide +kernel
theorem dX12_bestOf_143 : decode cX12_bestOf 143 = .ok (.iload_n 1, 1) := by decide +kernel
theorem dX12_bestOf_144 : decode cX12_bestOf 144 = .ok (.iload 5, 2) := by decide +kernel
theorem dX12_bestOf_146 : decode cX12_bestOf 146 = .ok (.invokestatic 288, 3) := by decide +kernel
theorem dX12_bestOf_149 : decode cX12_bestOf 149 = .ok (.ifCond .eq 12, 3) := by decide +kernel
theorem dX12_bestOf_152 : decode cX12_bestOf 152 = .ok (.aload_n 0, 1) := by decide +kernel
theorem dX12_bestOf_153 : decode cX12_bestOf 153 = .ok (.iload 5, 2) := by decide +kernel
theorem dX12_bestOf_155 : decode cX12_bestOf 155 = .ok (.invokevirtual 370, 3) := by decide +kernel
theorem dX12_bestOf_158 : decode cX12_bestOf 158 = .ok (.goto 4, 3) := by decide +kernel
theorem dX12_bestOf_161 : decode cX12_bestOf 161 = .ok (.iconst 0, 1) := by decide +kernel
theorem dX12_bestOf_162 : decode cX12_bestOf 162 = .ok (.iadd, 1) := by decide +kernel
theorem dX12_bestOf_163 : decode cX12_bestOf 163 = .ok (.istore 4, 2) := by decide +kernel
theorem dX12_bestOf_165 : decode cX12_bestOf 165 = .ok (.iinc 5 1, 3) := by decide +kernel
theorem dX12_bestOf_168 : decode cX12_bestOf 168 = .ok (.goto (-38), 3) := by decide +kernel
theorem dX12_bestOf_171 : decode cX12_bestOf 171 = .ok (.iload_n 2, 1) := by decide +kernel
theorem dX12_bestOf_172 : decode cX12_bestOf 172 = .ok (.iconst (-1), 1) := by decide +kernel
theorem dX12_bestOf_173 : decode cX12_bestOf 173 = .ok (.if_icmp .eq 15, 3) := by decide +kernel
theorem dX12_bestOf_176 : decode cX12_bestOf 176 = .ok (.iload 4, 2) := by decide +kernel
theorem dX12_bestOf_178 : decode cX12_bestOf 178 = .ok (.aload_n 0, 1) := by decide +kernel
theorem dX12_bestOf_179 : decode cX12_bestOf 179 = .ok (.getfield 497, 3) := by decide +kernel
theorem dX12_bestOf_182 : decode cX12_bestOf 182 = .ok (.if_icmp .lt 6, 3) := by decide +kernel
theorem dX12_bestOf_185 : decode cX12_bestOf 185 = .ok (.goto 11, 3) := by decide +kernel
theorem dX12_bestOf_188 : decode cX12_bestOf 188 = .ok (.iload_n 3, 1) := by decide +kernel
theorem dX12_bestOf_189 : decode cX12_bestOf 189 = .ok (.istore_n 2, 1) := by decide +kernel
theorem dX12_bestOf_190 : decode cX12_bestOf 190 = .ok (.aload_n 0, 1) := by decide +kernel
theorem dX12_bestOf_191 : decode cX12_bestOf 191 = .ok (.iload 4, 2) := by decide +kernel
theorem dX12_bestOf_193 : decode cX12_bestOf 193 = .ok (.putfield 497, 3) := by decide +kernel
theorem dX12_bestOf_196 : decode cX12_bestOf 196 = .ok (.iinc 3 1, 3) := by decide +kernel
theorem dX12_bestOf_199 : decode cX12_bestOf 199 = .ok (.goto (-147), 3) := by decide +kernel
theorem dX12_bestOf_202 : decode cX12_bestOf 202 = .ok (.iconst 0, 1) := by decide +kernel
theorem dX12_bestOf_203 : decode cX12_bestOf 203 = .ok (.istore_n 3, 1) := by decide +kernel
theorem dX12_bestOf_204 : decode cX12_bestOf 204 = .ok (.iload_n 3, 1) := by decide +kernel
theorem dX12_bestOf_205 : decode cX12_bestOf 205 = .ok (.aload_n 0, 1) := by decide +kernel
theorem dX12_bestOf_206 : decode cX12_bestOf 206 = .ok (.getfield 34, 3) := by decide +kernel
theorem dX12_bestOf_209 : decode cX12_bestOf 209 = .ok (.iconst 3, 1) := by decide +kernel
theorem dX12_bestOf_210 : decode cX12_bestOf 210 = .ok (.iaload, 1) := by decide +kernel
theorem dX12_bestOf_211 : decode cX12_bestOf 211 = .ok (.if_icmp .ge 47, 3) := by decide +kernel
theorem dX12_bestOf_214 : decode cX12_bestOf 214 = .ok (.aload_n 0, 1) := by decide +kernel
theorem dX12_bestOf_215 : decode cX12_bestOf 215 = .ok (.getfield 37, 3) := by decide +kernel
theorem dX12_bestOf_218 : decode cX12_bestOf 218 = .ok (.iconst 5, 1) := by decide +kernel
theorem dX12_bestOf_219 : decode cX12_bestOf 219 = .ok (.iload_n 3, 1) := by decide +kernel
theorem dX12_bestOf_220 : decode cX12_bestOf 220 = .ok (.imul, 1) := by decide +kernel
theorem dX12_bestOf_221 : decode cX12_bestOf 221 = .ok (.iconst 0, 1) := by decide +kernel
theorem dX12_bestOf_222 : decode cX12_bestOf 222 = .ok (.iadd, 1) := by decide +kernel
theorem dX12_bestOf_223 : decode cX12_bestOf 223 = .ok (.aload_n 0, 1) := by decide +kernel
theorem dX12_bestOf_224 : decode cX12_bestOf 224 = .ok (.getfield 101, 3) := by decide +kernel
theorem dX12_bestOf_227 : decode cX12_bestOf 227 = .ok (.iconst 2, 1) := by decide +kernel
theorem dX12_bestOf_228 : decode cX12_bestOf 228 = .ok (.iload_n 3, 1) := by decide +kernel
theorem dX12_bestOf_229 : decode cX12_bestOf 229 = .ok (.imul, 1) := by decide +kernel
theorem dX12_bestOf_230 : decode cX12_bestOf 230 = .ok (.iaload, 1) := by decide +kernel
theorem dX12_bestOf_231 : decode cX12_bestOf 231 = .ok (.iastore, 1) := by decide +kernel
theorem dX12_bestOf_232 : decode cX12_bestOf 232 = .ok (.aload_n 0, 1) := by decide +kernel
theorem dX12_bestOf_233 : decode cX12_bestOf 233 = .ok (.getfield 37, 3) := by decide +kernel
theorem dX12_bestOf_236 : decode cX12_bestOf 236 = .ok (.iconst 5, 1) := by decide +kernel
theorem dX12_bestOf_237 : decode cX12_bestOf 237 = .ok (.iload_n 3, 1) := by decide +kernel
theorem dX12_bestOf_238 : decode cX12_bestOf 238 = .ok (.imul, 1) := by decide +kernel
theorem dX12_bestOf_239 : decode cX12_bestOf 239 = .ok (.iconst 1, 1) := by decide +kernel
theorem dX12_bestOf_240 : decode cX12_bestOf 240 = .ok (.iadd, 1) := by decide +kernel
theorem dX12_bestOf_241 : decode cX12_bestOf 241 = .ok (.aload_n 0, 1) := by decide +kernel
theorem dX12_bestOf_242 : decode cX12_bestOf 242 = .ok (.getfield 101, 3) := by decide +kernel
theorem dX12_bestOf_245 : decode cX12_bestOf 245 = .ok (.iconst 2, 1) := by decide +kernel
theorem dX12_bestOf_246 : decode cX12_bestOf 246 = .ok (.iload_n 3, 1) := by decide +kernel
theorem dX12_bestOf_247 : decode cX12_bestOf 247 = .ok (.imul, 1) := by decide +kernel
theorem dX12_bestOf_248 : decode cX12_bestOf 248 = .ok (.iconst 1, 1) := by decide +kernel
theorem dX12_bestOf_249 : decode cX12_bestOf 249 = .ok (.iadd, 1) := by decide +kernel
theorem dX12_bestOf_250 : decode cX12_bestOf 250 = .ok (.iaload, 1) := by decide +kernel
theorem dX12_bestOf_251 : decode cX12_bestOf 251 = .ok (.iastore, 1) := by decide +kernel
theorem dX12_bestOf_252 : decode cX12_bestOf 252 = .ok (.iinc 3 1, 3) := by decide +kernel
theorem dX12_bestOf_255 : decode cX12_bestOf 255 = .ok (.goto (-51), 3) := by decide +kernel
theorem dX12_bestOf_258 : decode cX12_bestOf 258 = .ok (.iload_n 2, 1) := by decide +kernel
theorem dX12_bestOf_259 : decode cX12_bestOf 259 = .ok (.ireturn, 1) := by decide +kernel
theorem dX12_best_0 : decode cX12_best 0 = .ok (.aload_n 0, 1) := by decide +kernel
theorem dX12_best_1 : decode cX12_best 1 = .ok (.iconst 0, 1) := by decide +kernel
theorem dX12_best_2 : decode cX12_best 2 = .ok (.putfield 107, 3) := by decide +kernel
theorem dX12_best_5 : decode cX12_best 5 = .ok (.aload_n 0, 1) := by decide +kernel
theorem dX12_best_6 : decode cX12_best 6 = .ok (.iload_n 1, 1) := by decide +kernel
theorem dX12_best_7 : decode cX12_best 7 = .ok (.invokevirtual 276, 3) := by decide +kernel
theorem dX12_best_10 : decode cX12_best 10 = .ok (.ifCond .eq 13, 3) := by decide +kernel
theorem dX12_best_13 : decode cX12_best 13 = .ok (.aload_n 0, 1) := by decide +kernel
theorem dX12_best_14 : decode cX12_best 14 = .ok (.iconst 1, 1) := by decide +kernel
theorem dX12_best_15 : decode cX12_best 15 = .ok (.iload_n 1, 1) := by decide +kernel
theorem dX12_best_16 : decode cX12_best 16 = .ok (.ishl, 1) := by decide +kernel
theorem dX12_best_17 : decode cX12_best 17 = .ok (.invokevirtual 500, 3) := by decide +kernel
theorem dX12_best_20 : decode cX12_best 20 = .ok (.goto 5, 3) := by decide +kernel
theorem dX12_best_23 : decode cX12_best 23 = .ok (.bipush (-2), 2) := by decide +kernel
theorem dX12_best_25 : decode cX12_best 25 = .ok (.ireturn, 1) := by decide +kernel
theorem dX12_bestCost_0 : decode cX12_bestCost 0 = .ok (.aload_n 0, 1) := by decide +kernel
theorem dX12_bestCost_1 : decode cX12_bestCost 1 = .ok (.iconst 0, 1) := by decide +kernel
theorem dX12_bestCost_2 : decode cX12_bestCost 2 = .ok (.putfield 107, 3) := by decide +kernel
theorem dX12_bestCost_5 : decode cX12_bestCost 5 = .ok (.aload_n 0, 1) := by decide +kernel
theorem dX12_bestCost_6 : decode cX12_bestCost 6 = .ok (.iload_n 1, 1) := by decide +kernel
theorem dX12_bestCost_7 : decode cX12_bestCost 7 = .ok (.invokevirtual 276, 3) := by decide +kernel
theorem dX12_bestCost_10 : decode cX12_bestCost 10 = .ok (.ifCond .ne 6, 3) := by decide +kernel
theorem dX12_bestCost_13 : decode cX12_bestCost 13 = .ok (.bipush (-2), 2) := by decide +kernel
theorem dX12_bestCost_15 : decode cX12_bestCost 15 = .ok (.ireturn, 1) := by decide +kernel
theorem dX12_bestCost_16 : decode cX12_bestCost 16 = .ok (.aload_n 0, 1) := by decide +kernel
theorem dX12_bestCost_17 : decode cX12_bestCost 17 = .ok (.iconst 1, 1) := by decide +kernel
theorem dX12_bestCost_18 : decode cX12_bestCost 18 = .ok (.iload_n 1, 1) := by decide +kernel
theorem dX12_bestCost_19 : decode cX12_bestCost 19 = .ok (.ishl, 1) := by decide +kernel
theorem dX12_bestCost_20 : decode cX12_bestCost 20 = .ok (.invokevirtual 500, 3) := by decide +kernel
theorem dX12_bestCost_23 : decode cX12_bestCost 23 = .ok (.pop, 1) := by decide +kernel
theorem dX12_bestCost_24 : decode cX12_bestCost 24 = .ok (.aload_n 0, 1) := by decide +kernel
theorem dX12_bestCost_25 : decode cX12_bestCost 25 = .ok (.getfield 497, 3) := by decide +kernel
theorem dX12_bestCost_28 : decode cX12_bestCost 28 = .ok (.ireturn, 1) := by decide +kernel
theorem dX12_isSet_0 : decode cX12_isSet 0 = .ok (.aload_n 0, 1) := by decide +kernel
theorem dX12_isSet_1 : decode cX12_isSet 1 = .ok (.invokevirtual 373, 3) := by decide +kernel
theorem dX12_isSet_4 : decode cX12_isSet 4 = .ok (.ifCond .eq 27, 3) := by decide +kernel
theorem dX12_isSet_7 : decode cX12_isSet 7 = .ok (.iload_n 1, 1) := by decide +kernel
theorem dX12_isSet_8 : decode cX12_isSet 8 = .ok (.i2l, 1) := by decide +kernel
theorem dX12_isSet_9 : decode cX12_isSet 9 = .ok (.lconst 1, 1) := by decide +kernel
theorem dX12_isSet_10 : decode cX12_isSet 10 = .ok (.iconst 1, 1) := by decide +kernel
theorem dX12_isSet_11 : decode cX12_isSet 11 = .ok (.aload_n 0, 1) := by decide +kernel
theorem dX12_isSet_12 : decode cX12_isSet 12 = .ok (.getfield 34, 3) := by decide +kernel
theorem dX12_isSet_15 : decode cX12_isSet 15 = .ok (.iconst 3, 1) := by decide +kernel
theorem dX12_isSet_16 : decode cX12_isSet 16 = .ok (.iaload, 1) := by decide +kernel
theorem dX12_isSet_17 : decode cX12_isSet 17 = .ok (.ishl, 1) := by decide +kernel
theorem dX12_isSet_18 : decode cX12_isSet 18 = .ok (.iconst 1, 1) := by decide +kernel
theorem dX12_isSet_19 : decode cX12_isSet 19 = .ok (.isub, 1) := by decide +kernel
theorem dX12_isSet_20 : decode cX12_isSet 20 = .ok (.i2l, 1) := by decide +kernel
theorem dX12_isSet_21 : decode cX12_isSet 21 = .ok (.invokestatic 112, 3) := by decide +kernel
theorem dX12_isSet_24 : decode cX12_isSet 24 = .ok (.ifCond .eq 7, 3) := by decide +kernel
theorem dX12_isSet_27 : decode cX12_isSet 27 = .ok (.iconst 1, 1) := by decide +kernel
theorem dX12_isSet_28 : decode cX12_isSet 28 = .ok (.goto 4, 3) := by decide +kernel
theorem dX12_isSet_31 : decode cX12_isSet 31 = .ok (.iconst 0, 1) := by decide +kernel
theorem dX12_isSet_32 : decode cX12_isSet 32 = .ok (.ireturn, 1) := by decide +kernel
theorem dX12_family_0 : decode cX12_family 0 = .ok (.aload_n 0, 1) := by decide +kernel
theorem dX12_family_1 : decode cX12_family 1 = .ok (.iconst 0, 1) := by decide +kernel
theorem dX12_family_2 : decode cX12_family 2 = .ok (.putfield 107, 3) := by decide +kernel
theorem dX12_family_5 : decode cX12_family 5 = .ok (.aload_n 0, 1) := by decide +kernel
theorem dX12_family_6 : decode cX12_family 6 = .ok (.iload_n 1, 1) := by decide +kernel
theorem dX12_family_7 : decode cX12_family 7 = .ok (.invokevirtual 503, 3) := by decide +kernel
theorem dX12_family_10 : decode cX12_family 10 = .ok (.ifCond .eq 11, 3) := by decide +kernel
theorem dX12_family_13 : decode cX12_family 13 = .ok (.aload_n 0, 1) := by decide +kernel
theorem dX12_family_14 : decode cX12_family 14 = .ok (.iload_n 1, 1) := by decide +kernel
theorem dX12_family_15 : decode cX12_family 15 = .ok (.invokevirtual 500, 3) := by decide +kernel
theorem dX12_family_18 : decode cX12_family 18 = .ok (.goto 5, 3) := by decide +kernel
theorem dX12_family_21 : decode cX12_family 21 = .ok (.bipush (-2), 2) := by decide +kernel
theorem dX12_family_23 : decode cX12_family 23 = .ok (.ireturn, 1) := by decide +kernel
theorem dX12_together_0 : decode cX12_together 0 = .ok (.aload_n 0, 1) := by decide +kernel
theorem dX12_together_1 : decode cX12_together 1 = .ok (.iconst 0, 1) := by decide +kernel
theorem dX12_together_2 : decode cX12_together 2 = .ok (.putfield 107, 3) := by decide +kernel
theorem dX12_together_5 : decode cX12_together 5 = .ok (.aload_n 0, 1) := by decide +kernel
theorem dX12_together_6 : decode cX12_together 6 = .ok (.iload_n 1, 1) := by decide +kernel
theorem dX12_together_7 : decode cX12_together 7 = .ok (.invokevirtual 503, 3) := by decide +kernel
theorem dX12_together_10 : decode cX12_together 10 = .ok (.ifCond .ne 6, 3) := by decide +kernel
theorem dX12_together_13 : decode cX12_together 13 = .ok (.bipush (-2), 2) := by decide +kernel
theorem dX12_together_15 : decode cX12_together 15 = .ok (.ireturn, 1) := by decide +kernel
theorem dX12_together_16 : decode cX12_together 16 = .ok (.aload_n 0, 1) := by decide +kernel
theorem dX12_together_17 : decode cX12_together 17 = .ok (.iload_n 1, 1) := by decide +kernel
theorem dX12_together_18 : decode cX12_together 18 = .ok (.invokevirtual 500, 3) := by decide +kernel
theorem dX12_together_21 : decode cX12_together 21 = .ok (.pop, 1) := by decide +kernel
theorem dX12_together_22 : decode cX12_together 22 = .ok (.aload_n 0, 1) := by decide +kernel
theorem dX12_together_23 : decode cX12_together 23 = .ok (.getfield 497, 3) := by decide +kernel
theorem dX12_together_26 : decode cX12_together 26 = .ok (.ireturn, 1) := by decide +kernel
theorem dX12_whyNot_0 : decode cX12_whyNot 0 = .ok (.iload_n 1, 1) := by decide +kernel
theorem dX12_whyNot_1 : decode cX12_whyNot 1 = .ok (.invokestatic 116, 3) := by decide +kernel
theorem dX12_whyNot_4 : decode cX12_whyNot 4 = .ok (.ifCond .eq 11, 3) := by decide +kernel
theorem dX12_whyNot_7 : decode cX12_whyNot 7 = .ok (.aload_n 0, 1) := by decide +kernel
theorem dX12_whyNot_8 : decode cX12_whyNot 8 = .ok (.iload_n 2, 1) := by decide +kernel
theorem dX12_whyNot_9 : decode cX12_whyNot 9 = .ok (.invokevirtual 281, 3) := by decide +kernel
theorem dX12_whyNot_12 : decode cX12_whyNot 12 = .ok (.ifCond .ne 6, 3) := by decide +kernel
theorem dX12_whyNot_15 : decode cX12_whyNot 15 = .ok (.bipush (-2), 2) := by decide +kernel
theorem dX12_whyNot_17 : decode cX12_whyNot 17 = .ok (.ireturn, 1) := by decide +kernel
theorem dX12_whyNot_18 : decode cX12_whyNot 18 = .ok (.aload_n 0, 1) := by decide +kernel
theorem dX12_whyNot_19 : decode cX12_whyNot 19 = .ok (.getfield 7, 3) := by decide +kernel
theorem dX12_whyNot_22 : decode cX12_whyNot 22 = .ok (.iload_n 1, 1) := by decide +kernel
theorem dX12_whyNot_23 : decode cX12_whyNot 23 = .ok (.iaload, 1) := by decide +kernel
theorem dX12_whyNot_24 : decode cX12_whyNot 24 = .ok (.iconst (-1), 1) := by decide +kernel
theorem dX12_whyNot_25 : decode cX12_whyNot 25 = .ok (.if_icmp .ne 6, 3) := by decide +kernel
theorem dX12_whyNot_28 : decode cX12_whyNot 28 = .ok (.bipush (-6), 2) := by decide +kernel
theorem dX12_whyNot_30 : decode cX12_whyNot 30 = .ok (.ireturn, 1) := by decide +kernel
theorem dX12_whyNot_31 : decode cX12_whyNot 31 = .ok (.aload_n 0, 1) := by decide +kernel
theorem dX12_whyNot_32 : decode cX12_whyNot 32 = .ok (.getfield 13, 3) := by decide +kernel
theorem dX12_whyNot_35 : decode cX12_whyNot 35 = .ok (.iload_n 1, 1) := by decide +kernel
theorem dX12_whyNot_36 : decode cX12_whyNot 36 = .ok (.iaload, 1) := by decide +kernel
theorem dX12_whyNot_37 : decode cX12_whyNot 37 = .ok (.iconst 3, 1) := by decide +kernel
theorem dX12_whyNot_38 : decode cX12_whyNot 38 = .ok (.irem, 1) := by decide +kernel
theorem dX12_whyNot_39 : decode cX12_whyNot 39 = .ok (.ifCond .eq 6, 3) := by decide +kernel
theorem dX12_whyNot_42 : decode cX12_whyNot 42 = .ok (.bipush (-2), 2) := by decide +kernel
theorem dX12_whyNot_44 : decode cX12_whyNot 44 = .ok (.ireturn, 1) := by decide +kernel
theorem dX12_whyNot_45 : decode cX12_whyNot 45 = .ok (.iconst 0, 1) := by decide +kernel
theorem dX12_whyNot_46 : decode cX12_whyNot 46 = .ok (.istore_n 3, 1) := by decide +kernel
theorem dX12_whyNot_47 : decode cX12_whyNot 47 = .ok (.iload_n 3, 1) := by decide +kernel
theorem dX12_whyNot_48 : decode cX12_whyNot 48 = .ok (.aload_n 0, 1) := by decide +kernel
theorem dX12_whyNot_49 : decode cX12_whyNot 49 = .ok (.getfield 13, 3) := by decide +kernel
theorem dX12_whyNot_52 : decode cX12_whyNot 52 = .ok (.iload_n 1, 1) := by decide +kernel
theorem dX12_whyNot_53 : decode cX12_whyNot 53 = .ok (.iaload, 1) := by decide +kernel
theorem dX12_whyNot_54 : decode cX12_whyNot 54 = .ok (.if_icmp .ge 68, 3) := by decide +kernel
theorem dX12_whyNot_57 : decode cX12_whyNot 57 = .ok (.bipush 60, 2) := by decide +kernel
theorem dX12_whyNot_59 : decode cX12_whyNot 59 = .ok (.iload_n 1, 1) := by decide +kernel
theorem dX12_whyNot_60 : decode cX12_whyNot 60 = .ok (.imul, 1) := by decide +kernel
theorem dX12_whyNot_61 : decode cX12_whyNot 61 = .ok (.iload_n 3, 1) := by decide +kernel
theorem dX12_whyNot_62 : decode cX12_whyNot 62 = .ok (.iadd, 1) := by decide +kernel
theorem dX12_whyNot_63 : decode cX12_whyNot 63 = .ok (.istore 4, 2) := by decide +kernel
theorem dX12_whyNot_65 : decode cX12_whyNot 65 = .ok (.aload_n 0, 1) := by decide +kernel
theorem dX12_whyNot_66 : decode cX12_whyNot 66 = .ok (.aload_n 0, 1) := by decide +kernel
theorem dX12_whyNot_67 : decode cX12_whyNot 67 = .ok (.getfield 16, 3) := by decide +kernel
theorem dX12_whyNot_70 : decode cX12_whyNot 70 = .ok (.iload 4, 2) := by decide +kernel
theorem dX12_whyNot_72 : decode cX12_whyNot 72 = .ok (.laload, 1) := by decide +kernel
theorem dX12_whyNot_73 : decode cX12_whyNot 73 = .ok (.invokevirtual 343, 3) := by decide +kernel
theorem dX12_whyNot_76 : decode cX12_whyNot 76 = .ok (.ifCond .eq 37, 3) := by decide +kernel
theorem dX12_whyNot_79 : decode cX12_whyNot 79 = .ok (.aload_n 0, 1) := by decide +kernel
theorem dX12_whyNot_80 : decode cX12_whyNot 80 = .ok (.getfield 16, 3) := by decide +kernel
theorem dX12_whyNot_83 : decode cX12_whyNot 83 = .ok (.iload 4, 2) := by decide +kernel
theorem dX12_whyNot_85 : decode cX12_whyNot 85 = .ok (.iconst 1, 1) := by decide +kernel
theorem dX12_whyNot_86 : decode cX12_whyNot 86 = .ok (.iadd, 1) := by decide +kernel
theorem dX12_whyNot_87 : decode cX12_whyNot 87 = .ok (.laload, 1) := by decide +kernel
theorem dX12_whyNot_88 : decode cX12_whyNot 88 = .ok (.lconst 0, 1) := by decide +kernel
theorem dX12_whyNot_89 : decode cX12_whyNot 89 = .ok (.lconst 1, 1) := by decide +kernel
theorem dX12_whyNot_90 : decode cX12_whyNot 90 = .ok (.invokestatic 112, 3) := by decide +kernel
theorem dX12_whyNot_93 : decode cX12_whyNot 93 = .ok (.ifCond .eq 20, 3) := by decide +kernel
theorem dX12_whyNot_96 : decode cX12_whyNot 96 = .ok (.aload_n 0, 1) := by decide +kernel
theorem dX12_whyNot_97 : decode cX12_whyNot 97 = .ok (.getfield 16, 3) := by decide +kernel
theorem dX12_whyNot_100 : decode cX12_whyNot 100 = .ok (.iload 4, 2) := by decide +kernel
theorem dX12_whyNot_102 : decode cX12_whyNot 102 = .ok (.iconst 2, 1) := by decide +kernel
theorem dX12_whyNot_103 : decode cX12_whyNot 103 = .ok (.iadd, 1) := by decide +kernel
theorem dX12_whyNot_104 : decode cX12_whyNot 104 = .ok (.laload, 1) := by decide +kernel
theorem dX12_whyNot_105 : decode cX12_whyNot 105 = .ok (.lconst 0, 1) := by decide +kernel
theorem dX12_whyNot_106 : decode cX12_whyNot 106 = .ok (.lconst 1, 1) := by decide +kernel
theorem dX12_whyNot_107 : decode cX12_whyNot 107 = .ok (.invokestatic 112, 3) := by decide +kernel
theorem dX12_whyNot_110 : decode cX12_whyNot 110 = .ok (.ifCond .ne 6, 3) := by decide +kernel
theorem dX12_whyNot_113 : decode cX12_whyNot 113 = .ok (.bipush (-2), 2) := by decide +kernel
theorem dX12_whyNot_115 : decode cX12_whyNot 115 = .ok (.ireturn, 1) := by decide +kernel
theorem dX12_whyNot_116 : decode cX12_whyNot 116 = .ok (.iinc 3 3, 3) := by decide +kernel
theorem dX12_whyNot_119 : decode cX12_whyNot 119 = .ok (.goto (-72), 3) := by decide +kernel
theorem dX12_whyNot_122 : decode cX12_whyNot 122 = .ok (.iconst 0, 1) := by decide +kernel
theorem dX12_whyNot_123 : decode cX12_whyNot 123 = .ok (.ireturn, 1) := by decide +kernel
theorem dX12_tries_0 : decode cX12_tries 0 = .ok (.iload 4, 2) := by decide +kernel
theorem dX12_tries_2 : decode cX12_tries 2 = .ok (.istore 5, 2) := by decide +kernel
theorem dX12_tries_4 : decode cX12_tries 4 = .ok (.iconst 0, 1) := by decide +kernel
theorem dX12_tries_5 : decode cX12_tries 5 = .ok (.istore 6, 2) := by decide +kernel
theorem dX12_tries_7 : decode cX12_tries 7 = .ok (.iload 6, 2) := by decide +kernel
theorem dX12_tries_9 : decode cX12_tries 9 = .ok (.aload_n 0, 1) := by decide +kernel
theorem dX12_tries_10 : decode cX12_tries 10 = .ok (.getfield 34, 3) := by decide +kernel
theorem dX12_tries_13 : decode cX12_tries 13 = .ok (.iconst 0, 1) := by decide +kernel
theorem dX12_tries_14 : decode cX12_tries 14 = .ok (.iaload, 1) := by decide +kernel
theorem dX12_tries_15 : decode cX12_tries 15 = .ok (.if_icmp .ge 74, 3) := by decide +kernel
theorem dX12_tries_18 : decode cX12_tries 18 = .ok (.aload_n 0, 1) := by decide +kernel
theorem dX12_tries_19 : decode cX12_tries 19 = .ok (.iload_n 1, 1) := by decide +kernel
theorem dX12_tries_20 : decode cX12_tries 20 = .ok (.iload 6, 2) := by decide +kernel
theorem dX12_tries_22 : decode cX12_tries 22 = .ok (.invokevirtual 330, 3) := by decide +kernel
theorem dX12_tries_25 : decode cX12_tries 25 = .ok (.aload_n 0, 1) := by decide +kernel
theorem dX12_tries_26 : decode cX12_tries 26 = .ok (.getfield 53, 3) := by decide +kernel
theorem dX12_tries_29 : decode cX12_tries 29 = .ok (.iconst 0, 1) := by decide +kernel
theorem dX12_tries_30 : decode cX12_tries 30 = .ok (.iload_n 2, 1) := by decide +kernel
theorem dX12_tries_31 : decode cX12_tries 31 = .ok (.iastore, 1) := by decide +kernel
theorem dX12_tries_32 : decode cX12_tries 32 = .ok (.aload_n 0, 1) := by decide +kernel
theorem dX12_tries_33 : decode cX12_tries 33 = .ok (.getfield 53, 3) := by decide +kernel
theorem dX12_tries_36 : decode cX12_tries 36 = .ok (.iconst 1, 1) := by decide +kernel
theorem dX12_tries_37 : decode cX12_tries 37 = .ok (.iload_n 3, 1) := by decide +kernel
theorem dX12_tries_38 : decode cX12_tries 38 = .ok (.iastore, 1) := by decide +kernel
theorem dX12_tries_39 : decode cX12_tries 39 = .ok (.aload_n 0, 1) := by decide +kernel
theorem dX12_tries_40 : decode cX12_tries 40 = .ok (.iload 5, 2) := by decide +kernel
theorem dX12_tries_42 : decode cX12_tries 42 = .ok (.invokevirtual 333, 3) := by decide +kernel
theorem dX12_tries_45 : decode cX12_tries 45 = .ok (.istore 5, 2) := by decide +kernel
theorem dX12_tries_47 : decode cX12_tries 47 = .ok (.aload_n 0, 1) := by decide +kernel
theorem dX12_tries_48 : decode cX12_tries 48 = .ok (.getfield 104, 3) := by decide +kernel
theorem dX12_tries_51 : decode cX12_tries 51 = .ok (.iload 6, 2) := by decide +kernel
theorem dX12_tries_53 : decode cX12_tries 53 = .ok (.aload_n 0, 1) := by decide +kernel
theorem dX12_tries_54 : decode cX12_tries 54 = .ok (.getfield 65, 3) := by decide +kernel
theorem dX12_tries_57 : decode cX12_tries 57 = .ok (.iconst 0, 1) := by decide +kernel
theorem dX12_tries_58 : decode cX12_tries 58 = .ok (.baload, 1) := by decide +kernel
theorem dX12_tries_59 : decode cX12_tries 59 = .ok (.ifCond .eq 7, 3) := by decide +kernel
theorem dX12_tries_62 : decode cX12_tries 62 = .ok (.iconst 1, 1) := by decide +kernel
theorem dX12_tries_63 : decode cX12_tries 63 = .ok (.goto 4, 3) := by decide +kernel
theorem dX12_tries_66 : decode cX12_tries 66 = .ok (.iconst 0, 1) := by decide +kernel
theorem dX12_tries_67 : decode cX12_tries 67 = .ok (.aload_n 0, 1) := by decide +kernel
theorem dX12_tries_68 : decode cX12_tries 68 = .ok (.getfield 65, 3) := by decide +kernel
theorem dX12_tries_71 : decode cX12_tries 71 = .ok (.iconst 1, 1) := by decide +kernel
theorem dX12_tries_72 : decode cX12_tries 72 = .ok (.baload, 1) := by decide +kernel
theorem dX12_tries_73 : decode cX12_tries 73 = .ok (.ifCond .eq 7, 3) := by decide +kernel
theorem dX12_tries_76 : decode cX12_tries 76 = .ok (.iconst 2, 1) := by decide +kernel
theorem dX12_tries_77 : decode cX12_tries 77 = .ok (.goto 4, 3) := by decide +kernel
theorem dX12_tries_80 : decode cX12_tries 80 = .ok (.iconst 0, 1) := by decide +kernel
theorem dX12_tries_81 : decode cX12_tries 81 = .ok (.ior, 1) := by decide +kernel
theorem dX12_tries_82 : decode cX12_tries 82 = .ok (.iastore, 1) := by decide +kernel
theorem dX12_tries_83 : decode cX12_tries 83 = .ok (.iinc 6 1, 3) := by decide +kernel
theorem dX12_tries_86 : decode cX12_tries 86 = .ok (.goto (-79), 3) := by decide +kernel
theorem dX12_tries_89 : decode cX12_tries 89 = .ok (.return_, 1) := by decide +kernel
theorem dX12_firstOdd_0 : decode cX12_firstOdd 0 = .ok (.iconst 0, 1) := by decide +kernel
theorem dX12_firstOdd_1 : decode cX12_firstOdd 1 = .ok (.istore_n 2, 1) := by decide +kernel
theorem dX12_firstOdd_2 : decode cX12_firstOdd 2 = .ok (.iconst 3, 1) := by decide +kernel
theorem dX12_firstOdd_3 : decode cX12_firstOdd 3 = .ok (.iload_n 2, 1) := by decide +kernel
theorem dX12_firstOdd_4 : decode cX12_firstOdd 4 = .ok (.imul, 1) := by decide +kernel
theorem dX12_firstOdd_5 : decode cX12_firstOdd 5 = .ok (.aload_n 0, 1) := by decide +kernel
theorem dX12_firstOdd_6 : decode cX12_firstOdd 6 = .ok (.getfield 13, 3) := by decide +kernel
theorem dX12_firstOdd_9 : decode cX12_firstOdd 9 = .ok (.iload_n 1, 1) := by decide +kernel
theorem dX12_firstOdd_10 : decode cX12_firstOdd 10 = .ok (.iaload, 1) := by decide +kernel
theorem dX12_firstOdd_11 : decode cX12_firstOdd 11 = .ok (.if_icmp .ge 58, 3) := by decide +kernel
theorem dX12_firstOdd_14 : decode cX12_firstOdd 14 = .ok (.bipush 60, 2) := by decide +kernel
theorem dX12_firstOdd_16 : decode cX12_firstOdd 16 = .ok (.iload_n 1, 1) := by decide +kernel
theorem dX12_firstOdd_17 : decode cX12_firstOdd 17 = .ok (.imul, 1) := by decide +kernel
theorem dX12_firstOdd_18 : decode cX12_firstOdd 18 = .ok (.iconst 3, 1) := by decide +kernel
theorem dX12_firstOdd_19 : decode cX12_firstOdd 19 = .ok (.iload_n 2, 1) := by decide +kernel
theorem dX12_firstOdd_20 : decode cX12_firstOdd 20 = .ok (.imul, 1) := by decide +kernel
theorem dX12_firstOdd_21 : decode cX12_firstOdd 21 = .ok (.iadd, 1) := by decide +kernel
theorem dX12_firstOdd_22 : decode cX12_firstOdd 22 = .ok (.istore_n 3, 1) := by decide +kernel
theorem dX12_firstOdd_23 : decode cX12_firstOdd 23 = .ok (.aload_n 0, 1) := by decide +kernel
theorem dX12_firstOdd_24 : decode cX12_firstOdd 24 = .ok (.getfield 104, 3) := by decide +kernel
theorem dX12_firstOdd_27 : decode cX12_firstOdd 27 = .ok (.aload_n 0, 1) := by decide +kernel
theorem dX12_firstOdd_28 : decode cX12_firstOdd 28 = .ok (.getfield 16, 3) := by decide +kernel
theorem dX12_firstOdd_31 : decode cX12_firstOdd 31 = .ok (.iload_n 3, 1) := by decide +kernel
theorem dX12_firstOdd_32 : decode cX12_firstOdd 32 = .ok (.laload, 1) := by decide +kernel
theorem dX12_firstOdd_33 : decode cX12_firstOdd 33 = .ok (.l2i, 1) := by decide +kernel
theorem dX12_firstOdd_34 : decode cX12_firstOdd 34 = .ok (.iaload, 1) := by decide +kernel
theorem dX12_firstOdd_35 : decode cX12_firstOdd 35 = .ok (.i2l, 1) := by decide +kernel
theorem dX12_firstOdd_36 : decode cX12_firstOdd 36 = .ok (.aload_n 0, 1) := by decide +kernel
theorem dX12_firstOdd_37 : decode cX12_firstOdd 37 = .ok (.getfield 16, 3) := by decide +kernel
theorem dX12_firstOdd_40 : decode cX12_firstOdd 40 = .ok (.iload_n 3, 1) := by decide +kernel
theorem dX12_firstOdd_41 : decode cX12_firstOdd 41 = .ok (.iconst 1, 1) := by decide +kernel
theorem dX12_firstOdd_42 : decode cX12_firstOdd 42 = .ok (.iadd, 1) := by decide +kernel
theorem dX12_firstOdd_43 : decode cX12_firstOdd 43 = .ok (.laload, 1) := by decide +kernel
theorem dX12_firstOdd_44 : decode cX12_firstOdd 44 = .ok (.ldc2_w 284, 3) := by decide +kernel
theorem dX12_firstOdd_47 : decode cX12_firstOdd 47 = .ok (.aload_n 0, 1) := by decide +kernel
theorem dX12_firstOdd_48 : decode cX12_firstOdd 48 = .ok (.getfield 16, 3) := by decide +kernel
theorem dX12_firstOdd_51 : decode cX12_firstOdd 51 = .ok (.iload_n 3, 1) := by decide +kernel
theorem dX12_firstOdd_52 : decode cX12_firstOdd 52 = .ok (.iconst 2, 1) := by decide +kernel
theorem dX12_firstOdd_53 : decode cX12_firstOdd 53 = .ok (.iadd, 1) := by decide +kernel
theorem dX12_firstOdd_54 : decode cX12_firstOdd 54 = .ok (.laload, 1) := by decide +kernel
theorem dX12_firstOdd_55 : decode cX12_firstOdd 55 = .ok (.lmul, 1) := by decide +kernel
theorem dX12_firstOdd_56 : decode cX12_firstOdd 56 = .ok (.ladd, 1) := by decide +kernel
theorem dX12_firstOdd_57 : decode cX12_firstOdd 57 = .ok (.lcmp, 1) := by decide +kernel
theorem dX12_firstOdd_58 : decode cX12_firstOdd 58 = .ok (.ifCond .eq 5, 3) := by decide +kernel
theorem dX12_firstOdd_61 : decode cX12_firstOdd 61 = .ok (.iload_n 2, 1) := by decide +kernel
theorem dX12_firstOdd_62 : decode cX12_firstOdd 62 = .ok (.ireturn, 1) := by decide +kernel
theorem dX12_firstOdd_63 : decode cX12_firstOdd 63 = .ok (.iinc 2 1, 3) := by decide +kernel
theorem dX12_firstOdd_66 : decode cX12_firstOdd 66 = .ok (.goto (-64), 3) := by decide +kernel
theorem dX12_firstOdd_69 : decode cX12_firstOdd 69 = .ok (.iconst (-1), 1) := by decide +kernel
theorem dX12_firstOdd_70 : decode cX12_firstOdd 70 = .ok (.ireturn, 1) := by decide +kernel
