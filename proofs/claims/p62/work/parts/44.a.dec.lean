theorem dX11_hurtsByQuitting_0 : decode cX11_hurtsByQuitting 0 = .ok (.aload_n 0, 1) := by decide +kernel
theorem dX11_hurtsByQuitting_1 : decode cX11_hurtsByQuitting 1 = .ok (.getfield 37, 3) := by decide +kernel
theorem dX11_hurtsByQuitting_4 : decode cX11_hurtsByQuitting 4 = .ok (.aload_n 0, 1) := by decide +kernel
theorem dX11_hurtsByQuitting_5 : decode cX11_hurtsByQuitting 5 = .ok (.getfield 19, 3) := by decide +kernel
theorem dX11_hurtsByQuitting_8 : decode cX11_hurtsByQuitting 8 = .ok (.iload_n 1, 1) := by decide +kernel
theorem dX11_hurtsByQuitting_9 : decode cX11_hurtsByQuitting 9 = .ok (.invokevirtual 328, 3) := by decide +kernel
theorem dX11_hurtsByQuitting_12 : decode cX11_hurtsByQuitting 12 = .ok (.aload_n 0, 1) := by decide +kernel
theorem dX11_hurtsByQuitting_13 : decode cX11_hurtsByQuitting 13 = .ok (.getfield 37, 3) := by decide +kernel
theorem dX11_hurtsByQuitting_16 : decode cX11_hurtsByQuitting 16 = .ok (.getfield 427, 3) := by decide +kernel
theorem dX11_hurtsByQuitting_19 : decode cX11_hurtsByQuitting 19 = .ok (.iload_n 2, 1) := by decide +kernel
theorem dX11_hurtsByQuitting_20 : decode cX11_hurtsByQuitting 20 = .ok (.dup2, 1) := by decide +kernel
theorem dX11_hurtsByQuitting_21 : decode cX11_hurtsByQuitting 21 = .ok (.laload, 1) := by decide +kernel
theorem dX11_hurtsByQuitting_22 : decode cX11_hurtsByQuitting 22 = .ok (.lconst 1, 1) := by decide +kernel
theorem dX11_hurtsByQuitting_23 : decode cX11_hurtsByQuitting 23 = .ok (.iload_n 3, 1) := by decide +kernel
theorem dX11_hurtsByQuitting_24 : decode cX11_hurtsByQuitting 24 = .ok (.lshl, 1) := by decide +kernel
theorem dX11_hurtsByQuitting_25 : decode cX11_hurtsByQuitting 25 = .ok (.lconst 1, 1) := by decide +kernel
theorem dX11_hurtsByQuitting_26 : decode cX11_hurtsByQuitting 26 = .ok (.lsub, 1) := by decide +kernel
theorem dX11_hurtsByQuitting_27 : decode cX11_hurtsByQuitting 27 = .ok (.land, 1) := by decide +kernel
theorem dX11_hurtsByQuitting_28 : decode cX11_hurtsByQuitting 28 = .ok (.lastore, 1) := by decide +kernel
theorem dX11_hurtsByQuitting_29 : decode cX11_hurtsByQuitting 29 = .ok (.aload_n 0, 1) := by decide +kernel
theorem dX11_hurtsByQuitting_30 : decode cX11_hurtsByQuitting 30 = .ok (.getfield 37, 3) := by decide +kernel
theorem dX11_hurtsByQuitting_33 : decode cX11_hurtsByQuitting 33 = .ok (.invokevirtual 430, 3) := by decide +kernel
theorem dX11_hurtsByQuitting_36 : decode cX11_hurtsByQuitting 36 = .ok (.aload_n 0, 1) := by decide +kernel
theorem dX11_hurtsByQuitting_37 : decode cX11_hurtsByQuitting 37 = .ok (.getfield 37, 3) := by decide +kernel
theorem dX11_hurtsByQuitting_40 : decode cX11_hurtsByQuitting 40 = .ok (.iconst 1, 1) := by decide +kernel
theorem dX11_hurtsByQuitting_41 : decode cX11_hurtsByQuitting 41 = .ok (.iload_n 2, 1) := by decide +kernel
theorem dX11_hurtsByQuitting_42 : decode cX11_hurtsByQuitting 42 = .ok (.isub, 1) := by decide +kernel
theorem dX11_hurtsByQuitting_43 : decode cX11_hurtsByQuitting 43 = .ok (.invokevirtual 433, 3) := by decide +kernel
theorem dX11_hurtsByQuitting_46 : decode cX11_hurtsByQuitting 46 = .ok (.ireturn, 1) := by decide +kernel
theorem dX11_cheapestRule_0 : decode cX11_cheapestRule 0 = .ok (.iconst 0, 1) := by decide +kernel
theorem dX11_cheapestRule_1 : decode cX11_cheapestRule 1 = .ok (.istore_n 2, 1) := by decide +kernel
theorem dX11_cheapestRule_2 : decode cX11_cheapestRule 2 = .ok (.aload_n 0, 1) := by decide +kernel
theorem dX11_cheapestRule_3 : decode cX11_cheapestRule 3 = .ok (.iload_n 1, 1) := by decide +kernel
theorem dX11_cheapestRule_4 : decode cX11_cheapestRule 4 = .ok (.iconst 0, 1) := by decide +kernel
theorem dX11_cheapestRule_5 : decode cX11_cheapestRule 5 = .ok (.invokevirtual 319, 3) := by decide +kernel
theorem dX11_cheapestRule_8 : decode cX11_cheapestRule 8 = .ok (.istore_n 3, 1) := by decide +kernel
theorem dX11_cheapestRule_9 : decode cX11_cheapestRule 9 = .ok (.iconst 1, 1) := by decide +kernel
theorem dX11_cheapestRule_10 : decode cX11_cheapestRule 10 = .ok (.istore 4, 2) := by decide +kernel
theorem dX11_cheapestRule_12 : decode cX11_cheapestRule 12 = .ok (.iload 4, 2) := by decide +kernel
theorem dX11_cheapestRule_14 : decode cX11_cheapestRule 14 = .ok (.bipush 32, 2) := by decide +kernel
theorem dX11_cheapestRule_16 : decode cX11_cheapestRule 16 = .ok (.if_icmp .ge 30, 3) := by decide +kernel
theorem dX11_cheapestRule_19 : decode cX11_cheapestRule 19 = .ok (.aload_n 0, 1) := by decide +kernel
theorem dX11_cheapestRule_20 : decode cX11_cheapestRule 20 = .ok (.iload_n 1, 1) := by decide +kernel
theorem dX11_cheapestRule_21 : decode cX11_cheapestRule 21 = .ok (.iload 4, 2) := by decide +kernel
theorem dX11_cheapestRule_23 : decode cX11_cheapestRule 23 = .ok (.invokevirtual 319, 3) := by decide +kernel
theorem dX11_cheapestRule_26 : decode cX11_cheapestRule 26 = .ok (.istore 5, 2) := by decide +kernel
theorem dX11_cheapestRule_28 : decode cX11_cheapestRule 28 = .ok (.iload 5, 2) := by decide +kernel
theorem dX11_cheapestRule_30 : decode cX11_cheapestRule 30 = .ok (.iload_n 3, 1) := by decide +kernel
theorem dX11_cheapestRule_31 : decode cX11_cheapestRule 31 = .ok (.if_icmp .ge 9, 3) := by decide +kernel
theorem dX11_cheapestRule_34 : decode cX11_cheapestRule 34 = .ok (.iload 5, 2) := by decide +kernel
theorem dX11_cheapestRule_36 : decode cX11_cheapestRule 36 = .ok (.istore_n 3, 1) := by decide +kernel
theorem dX11_cheapestRule_37 : decode cX11_cheapestRule 37 = .ok (.iload 4, 2) := by decide +kernel
theorem dX11_cheapestRule_39 : decode cX11_cheapestRule 39 = .ok (.istore_n 2, 1) := by decide +kernel
theorem dX11_cheapestRule_40 : decode cX11_cheapestRule 40 = .ok (.iinc 4 1, 3) := by decide +kernel
theorem dX11_cheapestRule_43 : decode cX11_cheapestRule 43 = .ok (.goto (-31), 3) := by decide +kernel
theorem dX11_cheapestRule_46 : decode cX11_cheapestRule 46 = .ok (.iload_n 2, 1) := by decide +kernel
theorem dX11_cheapestRule_47 : decode cX11_cheapestRule 47 = .ok (.ireturn, 1) := by decide +kernel
theorem dX11_costWith_0 : decode cX11_costWith 0 = .ok (.iconst 0, 1) := by decide +kernel
theorem dX11_costWith_1 : decode cX11_costWith 1 = .ok (.istore_n 3, 1) := by decide +kernel
theorem dX11_costWith_2 : decode cX11_costWith 2 = .ok (.iconst 0, 1) := by decide +kernel
theorem dX11_costWith_3 : decode cX11_costWith 3 = .ok (.istore 4, 2) := by decide +kernel
theorem dX11_costWith_5 : decode cX11_costWith 5 = .ok (.iload 4, 2) := by decide +kernel
theorem dX11_costWith_7 : decode cX11_costWith 7 = .ok (.aload_n 0, 1) := by decide +kernel
theorem dX11_costWith_8 : decode cX11_costWith 8 = .ok (.getfield 19, 3) := by decide +kernel
theorem dX11_costWith_11 : decode cX11_costWith 11 = .ok (.getfield 194, 3) := by decide +kernel
theorem dX11_costWith_14 : decode cX11_costWith 14 = .ok (.if_icmp .ge 181, 3) := by decide +kernel
theorem dX11_costWith_17 : decode cX11_costWith 17 = .ok (.iload_n 1, 1) := by decide +kernel
theorem dX11_costWith_18 : decode cX11_costWith 18 = .ok (.i2l, 1) := by decide +kernel
theorem dX11_costWith_19 : decode cX11_costWith 19 = .ok (.aload_n 0, 1) := by decide +kernel
theorem dX11_costWith_20 : decode cX11_costWith 20 = .ok (.getfield 19, 3) := by decide +kernel
theorem dX11_costWith_23 : decode cX11_costWith 23 = .ok (.getfield 138, 3) := by decide +kernel
theorem dX11_costWith_26 : decode cX11_costWith 26 = .ok (.iconst 2, 1) := by decide +kernel
theorem dX11_costWith_27 : decode cX11_costWith 27 = .ok (.iload 4, 2) := by decide +kernel
theorem dX11_costWith_29 : decode cX11_costWith 29 = .ok (.imul, 1) := by decide +kernel
theorem dX11_costWith_30 : decode cX11_costWith 30 = .ok (.iaload, 1) := by decide +kernel
theorem dX11_costWith_31 : decode cX11_costWith 31 = .ok (.invokestatic 167, 3) := by decide +kernel
theorem dX11_costWith_34 : decode cX11_costWith 34 = .ok (.istore 5, 2) := by decide +kernel
theorem dX11_costWith_36 : decode cX11_costWith 36 = .ok (.iload_n 1, 1) := by decide +kernel
theorem dX11_costWith_37 : decode cX11_costWith 37 = .ok (.i2l, 1) := by decide +kernel
theorem dX11_costWith_38 : decode cX11_costWith 38 = .ok (.aload_n 0, 1) := by decide +kernel
theorem dX11_costWith_39 : decode cX11_costWith 39 = .ok (.getfield 19, 3) := by decide +kernel
theorem dX11_costWith_42 : decode cX11_costWith 42 = .ok (.getfield 138, 3) := by decide +kernel
theorem dX11_costWith_45 : decode cX11_costWith 45 = .ok (.iconst 2, 1) := by decide +kernel
theorem dX11_costWith_46 : decode cX11_costWith 46 = .ok (.iload 4, 2) := by decide +kernel
theorem dX11_costWith_48 : decode cX11_costWith 48 = .ok (.imul, 1) := by decide +kernel
theorem dX11_costWith_49 : decode cX11_costWith 49 = .ok (.iconst 1, 1) := by decide +kernel
theorem dX11_costWith_50 : decode cX11_costWith 50 = .ok (.iadd, 1) := by decide +kernel
theorem dX11_costWith_51 : decode cX11_costWith 51 = .ok (.iaload, 1) := by decide +kernel
theorem dX11_costWith_52 : decode cX11_costWith 52 = .ok (.invokestatic 167, 3) := by decide +kernel
theorem dX11_costWith_55 : decode cX11_costWith 55 = .ok (.istore 6, 2) := by decide +kernel
theorem dX11_costWith_57 : decode cX11_costWith 57 = .ok (.iload 5, 2) := by decide +kernel
theorem dX11_costWith_59 : decode cX11_costWith 59 = .ok (.ifCond .ne 8, 3) := by decide +kernel
theorem dX11_costWith_62 : decode cX11_costWith 62 = .ok (.iload 6, 2) := by decide +kernel
theorem dX11_costWith_64 : decode cX11_costWith 64 = .ok (.ifCond .eq 125, 3) := by decide +kernel
theorem dX11_costWith_67 : decode cX11_costWith 67 = .ok (.aload_n 0, 1) := by decide +kernel
theorem dX11_costWith_68 : decode cX11_costWith 68 = .ok (.getfield 37, 3) := by decide +kernel
theorem dX11_costWith_71 : decode cX11_costWith 71 = .ok (.aload_n 0, 1) := by decide +kernel
theorem dX11_costWith_72 : decode cX11_costWith 72 = .ok (.getfield 19, 3) := by decide +kernel
theorem dX11_costWith_75 : decode cX11_costWith 75 = .ok (.iload 4, 2) := by decide +kernel
theorem dX11_costWith_77 : decode cX11_costWith 77 = .ok (.invokevirtual 328, 3) := by decide +kernel
theorem dX11_costWith_80 : decode cX11_costWith 80 = .ok (.aload_n 0, 1) := by decide +kernel
theorem dX11_costWith_81 : decode cX11_costWith 81 = .ok (.getfield 37, 3) := by decide +kernel
theorem dX11_costWith_84 : decode cX11_costWith 84 = .ok (.getfield 338, 3) := by decide +kernel
theorem dX11_costWith_87 : decode cX11_costWith 87 = .ok (.iconst 0, 1) := by decide +kernel
theorem dX11_costWith_88 : decode cX11_costWith 88 = .ok (.iload 5, 2) := by decide +kernel
theorem dX11_costWith_90 : decode cX11_costWith 90 = .ok (.ifCond .eq 7, 3) := by decide +kernel
theorem dX11_costWith_93 : decode cX11_costWith 93 = .ok (.iload_n 2, 1) := by decide +kernel
theorem dX11_costWith_94 : decode cX11_costWith 94 = .ok (.goto 12, 3) := by decide +kernel
theorem dX11_costWith_97 : decode cX11_costWith 97 = .ok (.aload_n 0, 1) := by decide +kernel
theorem dX11_costWith_98 : decode cX11_costWith 98 = .ok (.getfield 37, 3) := by decide +kernel
theorem dX11_costWith_101 : decode cX11_costWith 101 = .ok (.getfield 338, 3) := by decide +kernel
theorem dX11_costWith_104 : decode cX11_costWith 104 = .ok (.iconst 0, 1) := by decide +kernel
theorem dX11_costWith_105 : decode cX11_costWith 105 = .ok (.iaload, 1) := by decide +kernel
theorem dX11_costWith_106 : decode cX11_costWith 106 = .ok (.iastore, 1) := by decide +kernel
theorem dX11_costWith_107 : decode cX11_costWith 107 = .ok (.aload_n 0, 1) := by decide +kernel
theorem dX11_costWith_108 : decode cX11_costWith 108 = .ok (.getfield 37, 3) := by decide +kernel
theorem dX11_costWith_111 : decode cX11_costWith 111 = .ok (.getfield 338, 3) := by decide +kernel
theorem dX11_costWith_114 : decode cX11_costWith 114 = .ok (.iconst 1, 1) := by decide +kernel
theorem dX11_costWith_115 : decode cX11_costWith 115 = .ok (.iload 6, 2) := by decide +kernel
theorem dX11_costWith_117 : decode cX11_costWith 117 = .ok (.ifCond .eq 7, 3) := by decide +kernel
theorem dX11_costWith_120 : decode cX11_costWith 120 = .ok (.iload_n 2, 1) := by decide +kernel
theorem dX11_costWith_121 : decode cX11_costWith 121 = .ok (.goto 12, 3) := by decide +kernel
theorem dX11_costWith_124 : decode cX11_costWith 124 = .ok (.aload_n 0, 1) := by decide +kernel
theorem dX11_costWith_125 : decode cX11_costWith 125 = .ok (.getfield 37, 3) := by decide +kernel
theorem dX11_costWith_128 : decode cX11_costWith 128 = .ok (.getfield 338, 3) := by decide +kernel
theorem dX11_costWith_131 : decode cX11_costWith 131 = .ok (.iconst 1, 1) := by decide +kernel
theorem dX11_costWith_132 : decode cX11_costWith 132 = .ok (.iaload, 1) := by decide +kernel
theorem dX11_costWith_133 : decode cX11_costWith 133 = .ok (.iastore, 1) := by decide +kernel
theorem dX11_costWith_134 : decode cX11_costWith 134 = .ok (.aload_n 0, 1) := by decide +kernel
theorem dX11_costWith_135 : decode cX11_costWith 135 = .ok (.getfield 37, 3) := by decide +kernel
theorem dX11_costWith_138 : decode cX11_costWith 138 = .ok (.invokevirtual 430, 3) := by decide +kernel
theorem dX11_costWith_141 : decode cX11_costWith 141 = .ok (.iload_n 3, 1) := by decide +kernel
theorem dX11_costWith_142 : decode cX11_costWith 142 = .ok (.iload 5, 2) := by decide +kernel
theorem dX11_costWith_144 : decode cX11_costWith 144 = .ok (.ifCond .eq 18, 3) := by decide +kernel
theorem dX11_costWith_147 : decode cX11_costWith 147 = .ok (.aload_n 0, 1) := by decide +kernel
theorem dX11_costWith_148 : decode cX11_costWith 148 = .ok (.getfield 37, 3) := by decide +kernel
theorem dX11_costWith_151 : decode cX11_costWith 151 = .ok (.aload_n 0, 1) := by decide +kernel
theorem dX11_costWith_152 : decode cX11_costWith 152 = .ok (.getfield 19, 3) := by decide +kernel
theorem dX11_costWith_155 : decode cX11_costWith 155 = .ok (.iconst 0, 1) := by decide +kernel
theorem dX11_costWith_156 : decode cX11_costWith 156 = .ok (.invokevirtual 436, 3) := by decide +kernel
theorem dX11_costWith_159 : decode cX11_costWith 159 = .ok (.goto 4, 3) := by decide +kernel
theorem dX11_costWith_162 : decode cX11_costWith 162 = .ok (.iconst 0, 1) := by decide +kernel
theorem dX11_costWith_163 : decode cX11_costWith 163 = .ok (.iadd, 1) := by decide +kernel
theorem dX11_costWith_164 : decode cX11_costWith 164 = .ok (.istore_n 3, 1) := by decide +kernel
theorem dX11_costWith_165 : decode cX11_costWith 165 = .ok (.iload_n 3, 1) := by decide +kernel
theorem dX11_costWith_166 : decode cX11_costWith 166 = .ok (.iload 6, 2) := by decide +kernel
theorem dX11_costWith_168 : decode cX11_costWith 168 = .ok (.ifCond .eq 18, 3) := by decide +kernel
theorem dX11_costWith_171 : decode cX11_costWith 171 = .ok (.aload_n 0, 1) := by decide +kernel
theorem dX11_costWith_172 : decode cX11_costWith 172 = .ok (.getfield 37, 3) := by decide +kernel
theorem dX11_costWith_175 : decode cX11_costWith 175 = .ok (.aload_n 0, 1) := by decide +kernel
theorem dX11_costWith_176 : decode cX11_costWith 176 = .ok (.getfield 19, 3) := by decide +kernel
theorem dX11_costWith_179 : decode cX11_costWith 179 = .ok (.iconst 1, 1) := by decide +kernel
theorem dX11_costWith_180 : decode cX11_costWith 180 = .ok (.invokevirtual 436, 3) := by decide +kernel
theorem dX11_costWith_183 : decode cX11_costWith 183 = .ok (.goto 4, 3) := by decide +kernel
theorem dX11_costWith_186 : decode cX11_costWith 186 = .ok (.iconst 0, 1) := by decide +kernel
theorem dX11_costWith_187 : decode cX11_costWith 187 = .ok (.iadd, 1) := by decide +kernel
theorem dX11_costWith_188 : decode cX11_costWith 188 = .ok (.istore_n 3, 1) := by decide +kernel
theorem dX11_costWith_189 : decode cX11_costWith 189 = .ok (.iinc 4 1, 3) := by decide +kernel
theorem dX11_costWith_192 : decode cX11_costWith 192 = .ok (.goto (-187), 3) := by decide +kernel
theorem dX11_costWith_195 : decode cX11_costWith 195 = .ok (.iload_n 3, 1) := by decide +kernel
theorem dX11_costWith_196 : decode cX11_costWith 196 = .ok (.ireturn, 1) := by decide +kernel
