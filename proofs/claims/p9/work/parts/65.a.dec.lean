theorem dX12_personLine_0 : decode cX12_personLine 0 = .ok (.iconst 5, 1) := by decide +kernel
theorem dX12_personLine_1 : decode cX12_personLine 1 = .ok (.bipush 40, 2) := by decide +kernel
theorem dX12_personLine_3 : decode cX12_personLine 3 = .ok (.aload_n 0, 1) := by decide +kernel
theorem dX12_personLine_4 : decode cX12_personLine 4 = .ok (.iconst 3, 1) := by decide +kernel
theorem dX12_personLine_5 : decode cX12_personLine 5 = .ok (.invokevirtual 189, 3) := by decide +kernel
theorem dX12_personLine_8 : decode cX12_personLine 8 = .ok (.iadd, 1) := by decide +kernel
theorem dX12_personLine_9 : decode cX12_personLine 9 = .ok (.imul, 1) := by decide +kernel
theorem dX12_personLine_10 : decode cX12_personLine 10 = .ok (.istore_n 1, 1) := by decide +kernel
theorem dX12_personLine_11 : decode cX12_personLine 11 = .ok (.aload_n 0, 1) := by decide +kernel
theorem dX12_personLine_12 : decode cX12_personLine 12 = .ok (.getfield 37, 3) := by decide +kernel
theorem dX12_personLine_15 : decode cX12_personLine 15 = .ok (.iload_n 1, 1) := by decide +kernel
theorem dX12_personLine_16 : decode cX12_personLine 16 = .ok (.aload_n 0, 1) := by decide +kernel
theorem dX12_personLine_17 : decode cX12_personLine 17 = .ok (.ldc2_w 193, 3) := by decide +kernel
theorem dX12_personLine_20 : decode cX12_personLine 20 = .ok (.iconst 0, 1) := by decide +kernel
theorem dX12_personLine_21 : decode cX12_personLine 21 = .ok (.bipush 15, 2) := by decide +kernel
theorem dX12_personLine_23 : decode cX12_personLine 23 = .ok (.invokevirtual 195, 3) := by decide +kernel
theorem dX12_personLine_26 : decode cX12_personLine 26 = .ok (.iastore, 1) := by decide +kernel
theorem dX12_personLine_27 : decode cX12_personLine 27 = .ok (.aload_n 0, 1) := by decide +kernel
theorem dX12_personLine_28 : decode cX12_personLine 28 = .ok (.getfield 37, 3) := by decide +kernel
theorem dX12_personLine_31 : decode cX12_personLine 31 = .ok (.iload_n 1, 1) := by decide +kernel
theorem dX12_personLine_32 : decode cX12_personLine 32 = .ok (.iconst 1, 1) := by decide +kernel
theorem dX12_personLine_33 : decode cX12_personLine 33 = .ok (.iadd, 1) := by decide +kernel
theorem dX12_personLine_34 : decode cX12_personLine 34 = .ok (.iconst 0, 1) := by decide +kernel
theorem dX12_personLine_35 : decode cX12_personLine 35 = .ok (.iastore, 1) := by decide +kernel
theorem dX12_personLine_36 : decode cX12_personLine 36 = .ok (.aload_n 0, 1) := by decide +kernel
theorem dX12_personLine_37 : decode cX12_personLine 37 = .ok (.getfield 37, 3) := by decide +kernel
theorem dX12_personLine_40 : decode cX12_personLine 40 = .ok (.iload_n 1, 1) := by decide +kernel
theorem dX12_personLine_41 : decode cX12_personLine 41 = .ok (.iconst 2, 1) := by decide +kernel
theorem dX12_personLine_42 : decode cX12_personLine 42 = .ok (.iadd, 1) := by decide +kernel
theorem dX12_personLine_43 : decode cX12_personLine 43 = .ok (.iconst 0, 1) := by decide +kernel
theorem dX12_personLine_44 : decode cX12_personLine 44 = .ok (.iastore, 1) := by decide +kernel
theorem dX12_personLine_45 : decode cX12_personLine 45 = .ok (.aload_n 0, 1) := by decide +kernel
theorem dX12_personLine_46 : decode cX12_personLine 46 = .ok (.getfield 37, 3) := by decide +kernel
theorem dX12_personLine_49 : decode cX12_personLine 49 = .ok (.iload_n 1, 1) := by decide +kernel
theorem dX12_personLine_50 : decode cX12_personLine 50 = .ok (.iconst 3, 1) := by decide +kernel
theorem dX12_personLine_51 : decode cX12_personLine 51 = .ok (.iadd, 1) := by decide +kernel
theorem dX12_personLine_52 : decode cX12_personLine 52 = .ok (.iconst (-1), 1) := by decide +kernel
theorem dX12_personLine_53 : decode cX12_personLine 53 = .ok (.iastore, 1) := by decide +kernel
theorem dX12_personLine_54 : decode cX12_personLine 54 = .ok (.aload_n 0, 1) := by decide +kernel
theorem dX12_personLine_55 : decode cX12_personLine 55 = .ok (.getfield 37, 3) := by decide +kernel
theorem dX12_personLine_58 : decode cX12_personLine 58 = .ok (.iload_n 1, 1) := by decide +kernel
theorem dX12_personLine_59 : decode cX12_personLine 59 = .ok (.iconst 4, 1) := by decide +kernel
theorem dX12_personLine_60 : decode cX12_personLine 60 = .ok (.iadd, 1) := by decide +kernel
theorem dX12_personLine_61 : decode cX12_personLine 61 = .ok (.iconst (-1), 1) := by decide +kernel
theorem dX12_personLine_62 : decode cX12_personLine 62 = .ok (.iastore, 1) := by decide +kernel
theorem dX12_personLine_63 : decode cX12_personLine 63 = .ok (.iconst 0, 1) := by decide +kernel
theorem dX12_personLine_64 : decode cX12_personLine 64 = .ok (.istore_n 2, 1) := by decide +kernel
theorem dX12_personLine_65 : decode cX12_personLine 65 = .ok (.aload_n 0, 1) := by decide +kernel
theorem dX12_personLine_66 : decode cX12_personLine 66 = .ok (.invokevirtual 198, 3) := by decide +kernel
theorem dX12_personLine_69 : decode cX12_personLine 69 = .ok (.ifCond .eq 115, 3) := by decide +kernel
theorem dX12_personLine_72 : decode cX12_personLine 72 = .ok (.aload_n 0, 1) := by decide +kernel
theorem dX12_personLine_73 : decode cX12_personLine 73 = .ok (.getfield 148, 3) := by decide +kernel
theorem dX12_personLine_76 : decode cX12_personLine 76 = .ok (.iconst 1, 1) := by decide +kernel
theorem dX12_personLine_77 : decode cX12_personLine 77 = .ok (.if_icmp .ne 107, 3) := by decide +kernel
theorem dX12_personLine_80 : decode cX12_personLine 80 = .ok (.aload_n 0, 1) := by decide +kernel
theorem dX12_personLine_81 : decode cX12_personLine 81 = .ok (.ldc2_w 202, 3) := by decide +kernel
theorem dX12_personLine_84 : decode cX12_personLine 84 = .ok (.invokevirtual 165, 3) := by decide +kernel
theorem dX12_personLine_87 : decode cX12_personLine 87 = .ok (.istore_n 3, 1) := by decide +kernel
theorem dX12_personLine_88 : decode cX12_personLine 88 = .ok (.aload_n 0, 1) := by decide +kernel
theorem dX12_personLine_89 : decode cX12_personLine 89 = .ok (.ldc2_w 204, 3) := by decide +kernel
theorem dX12_personLine_92 : decode cX12_personLine 92 = .ok (.invokevirtual 165, 3) := by decide +kernel
theorem dX12_personLine_95 : decode cX12_personLine 95 = .ok (.istore 4, 2) := by decide +kernel
theorem dX12_personLine_97 : decode cX12_personLine 97 = .ok (.iload_n 3, 1) := by decide +kernel
theorem dX12_personLine_98 : decode cX12_personLine 98 = .ok (.ifCond .ne 8, 3) := by decide +kernel
theorem dX12_personLine_101 : decode cX12_personLine 101 = .ok (.iload 4, 2) := by decide +kernel
theorem dX12_personLine_103 : decode cX12_personLine 103 = .ok (.ifCond .eq 28, 3) := by decide +kernel
theorem dX12_personLine_106 : decode cX12_personLine 106 = .ok (.iload_n 3, 1) := by decide +kernel
theorem dX12_personLine_107 : decode cX12_personLine 107 = .ok (.ifCond .eq 15, 3) := by decide +kernel
theorem dX12_personLine_110 : decode cX12_personLine 110 = .ok (.aload_n 0, 1) := by decide +kernel
theorem dX12_personLine_111 : decode cX12_personLine 111 = .ok (.getfield 37, 3) := by decide +kernel
theorem dX12_personLine_114 : decode cX12_personLine 114 = .ok (.iload_n 1, 1) := by decide +kernel
theorem dX12_personLine_115 : decode cX12_personLine 115 = .ok (.iconst 1, 1) := by decide +kernel
theorem dX12_personLine_116 : decode cX12_personLine 116 = .ok (.iadd, 1) := by decide +kernel
theorem dX12_personLine_117 : decode cX12_personLine 117 = .ok (.iaload, 1) := by decide +kernel
theorem dX12_personLine_118 : decode cX12_personLine 118 = .ok (.iconst 1, 1) := by decide +kernel
theorem dX12_personLine_119 : decode cX12_personLine 119 = .ok (.if_icmp .eq 12, 3) := by decide +kernel
theorem dX12_personLine_122 : decode cX12_personLine 122 = .ok (.iload 4, 2) := by decide +kernel
theorem dX12_personLine_124 : decode cX12_personLine 124 = .ok (.ifCond .eq 12, 3) := by decide +kernel
theorem dX12_personLine_127 : decode cX12_personLine 127 = .ok (.iload_n 2, 1) := by decide +kernel
theorem dX12_personLine_128 : decode cX12_personLine 128 = .ok (.ifCond .eq 8, 3) := by decide +kernel
theorem dX12_personLine_131 : decode cX12_personLine 131 = .ok (.aload_n 0, 1) := by decide +kernel
theorem dX12_personLine_132 : decode cX12_personLine 132 = .ok (.iconst 1, 1) := by decide +kernel
theorem dX12_personLine_133 : decode cX12_personLine 133 = .ok (.invokevirtual 175, 3) := by decide +kernel
theorem dX12_personLine_136 : decode cX12_personLine 136 = .ok (.aload_n 0, 1) := by decide +kernel
theorem dX12_personLine_137 : decode cX12_personLine 137 = .ok (.getfield 159, 3) := by decide +kernel
theorem dX12_personLine_140 : decode cX12_personLine 140 = .ok (.ifCond .eq 4, 3) := by decide +kernel
theorem dX12_personLine_143 : decode cX12_personLine 143 = .ok (.return_, 1) := by decide +kernel
theorem dX12_personLine_144 : decode cX12_personLine 144 = .ok (.aload_n 0, 1) := by decide +kernel
theorem dX12_personLine_145 : decode cX12_personLine 145 = .ok (.invokevirtual 169, 3) := by decide +kernel
theorem dX12_personLine_148 : decode cX12_personLine 148 = .ok (.iload_n 3, 1) := by decide +kernel
theorem dX12_personLine_149 : decode cX12_personLine 149 = .ok (.ifCond .eq 15, 3) := by decide +kernel
theorem dX12_personLine_152 : decode cX12_personLine 152 = .ok (.aload_n 0, 1) := by decide +kernel
theorem dX12_personLine_153 : decode cX12_personLine 153 = .ok (.getfield 37, 3) := by decide +kernel
theorem dX12_personLine_156 : decode cX12_personLine 156 = .ok (.iload_n 1, 1) := by decide +kernel
theorem dX12_personLine_157 : decode cX12_personLine 157 = .ok (.iconst 1, 1) := by decide +kernel
theorem dX12_personLine_158 : decode cX12_personLine 158 = .ok (.iadd, 1) := by decide +kernel
theorem dX12_personLine_159 : decode cX12_personLine 159 = .ok (.iconst 1, 1) := by decide +kernel
theorem dX12_personLine_160 : decode cX12_personLine 160 = .ok (.iastore, 1) := by decide +kernel
theorem dX12_personLine_161 : decode cX12_personLine 161 = .ok (.goto 20, 3) := by decide +kernel
theorem dX12_personLine_164 : decode cX12_personLine 164 = .ok (.aload_n 0, 1) := by decide +kernel
theorem dX12_personLine_165 : decode cX12_personLine 165 = .ok (.getfield 37, 3) := by decide +kernel
theorem dX12_personLine_168 : decode cX12_personLine 168 = .ok (.iload_n 1, 1) := by decide +kernel
theorem dX12_personLine_169 : decode cX12_personLine 169 = .ok (.iconst 2, 1) := by decide +kernel
theorem dX12_personLine_170 : decode cX12_personLine 170 = .ok (.iadd, 1) := by decide +kernel
theorem dX12_personLine_171 : decode cX12_personLine 171 = .ok (.aload_n 0, 1) := by decide +kernel
theorem dX12_personLine_172 : decode cX12_personLine 172 = .ok (.iconst 0, 1) := by decide +kernel
theorem dX12_personLine_173 : decode cX12_personLine 173 = .ok (.bipush 50, 2) := by decide +kernel
theorem dX12_personLine_175 : decode cX12_personLine 175 = .ok (.invokevirtual 182, 3) := by decide +kernel
theorem dX12_personLine_178 : decode cX12_personLine 178 = .ok (.iastore, 1) := by decide +kernel
theorem dX12_personLine_179 : decode cX12_personLine 179 = .ok (.iconst 1, 1) := by decide +kernel
theorem dX12_personLine_180 : decode cX12_personLine 180 = .ok (.istore_n 2, 1) := by decide +kernel
theorem dX12_personLine_181 : decode cX12_personLine 181 = .ok (.goto (-116), 3) := by decide +kernel
theorem dX12_personLine_184 : decode cX12_personLine 184 = .ok (.aload_n 0, 1) := by decide +kernel
theorem dX12_personLine_185 : decode cX12_personLine 185 = .ok (.getfield 34, 3) := by decide +kernel
theorem dX12_personLine_188 : decode cX12_personLine 188 = .ok (.bipush 23, 2) := by decide +kernel
theorem dX12_personLine_190 : decode cX12_personLine 190 = .ok (.dup2, 1) := by decide +kernel
theorem dX12_personLine_191 : decode cX12_personLine 191 = .ok (.iaload, 1) := by decide +kernel
theorem dX12_personLine_192 : decode cX12_personLine 192 = .ok (.iconst 1, 1) := by decide +kernel
theorem dX12_personLine_193 : decode cX12_personLine 193 = .ok (.iadd, 1) := by decide +kernel
theorem dX12_personLine_194 : decode cX12_personLine 194 = .ok (.iastore, 1) := by decide +kernel
theorem dX12_personLine_195 : decode cX12_personLine 195 = .ok (.return_, 1) := by decide +kernel
