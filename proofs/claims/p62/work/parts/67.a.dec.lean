theorem dX12_line_0 : decode cX12_line 0 = .ok (.aload_n 0, 1) := by decide +kernel
theorem dX12_line_1 : decode cX12_line 1 = .ok (.ldc2_w 219, 3) := by decide +kernel
theorem dX12_line_4 : decode cX12_line 4 = .ok (.invokevirtual 165, 3) := by decide +kernel
theorem dX12_line_7 : decode cX12_line 7 = .ok (.istore_n 1, 1) := by decide +kernel
theorem dX12_line_8 : decode cX12_line 8 = .ok (.aload_n 0, 1) := by decide +kernel
theorem dX12_line_9 : decode cX12_line 9 = .ok (.ldc2_w 221, 3) := by decide +kernel
theorem dX12_line_12 : decode cX12_line 12 = .ok (.invokevirtual 165, 3) := by decide +kernel
theorem dX12_line_15 : decode cX12_line 15 = .ok (.istore_n 2, 1) := by decide +kernel
theorem dX12_line_16 : decode cX12_line 16 = .ok (.iload_n 1, 1) := by decide +kernel
theorem dX12_line_17 : decode cX12_line 17 = .ok (.ifCond .eq 13, 3) := by decide +kernel
theorem dX12_line_20 : decode cX12_line 20 = .ok (.aload_n 0, 1) := by decide +kernel
theorem dX12_line_21 : decode cX12_line 21 = .ok (.iconst 3, 1) := by decide +kernel
theorem dX12_line_22 : decode cX12_line 22 = .ok (.invokevirtual 189, 3) := by decide +kernel
theorem dX12_line_25 : decode cX12_line 25 = .ok (.bipush 10, 2) := by decide +kernel
theorem dX12_line_27 : decode cX12_line 27 = .ok (.if_icmp .eq 17, 3) := by decide +kernel
theorem dX12_line_30 : decode cX12_line 30 = .ok (.iload_n 2, 1) := by decide +kernel
theorem dX12_line_31 : decode cX12_line 31 = .ok (.ifCond .eq 18, 3) := by decide +kernel
theorem dX12_line_34 : decode cX12_line 34 = .ok (.aload_n 0, 1) := by decide +kernel
theorem dX12_line_35 : decode cX12_line 35 = .ok (.iconst 4, 1) := by decide +kernel
theorem dX12_line_36 : decode cX12_line 36 = .ok (.invokevirtual 189, 3) := by decide +kernel
theorem dX12_line_39 : decode cX12_line 39 = .ok (.bipush 16, 2) := by decide +kernel
theorem dX12_line_41 : decode cX12_line 41 = .ok (.if_icmp .ne 8, 3) := by decide +kernel
theorem dX12_line_44 : decode cX12_line 44 = .ok (.aload_n 0, 1) := by decide +kernel
theorem dX12_line_45 : decode cX12_line 45 = .ok (.iconst 3, 1) := by decide +kernel
theorem dX12_line_46 : decode cX12_line 46 = .ok (.invokevirtual 175, 3) := by decide +kernel
theorem dX12_line_49 : decode cX12_line 49 = .ok (.aload_n 0, 1) := by decide +kernel
theorem dX12_line_50 : decode cX12_line 50 = .ok (.getfield 159, 3) := by decide +kernel
theorem dX12_line_53 : decode cX12_line 53 = .ok (.ifCond .eq 4, 3) := by decide +kernel
theorem dX12_line_56 : decode cX12_line 56 = .ok (.return_, 1) := by decide +kernel
theorem dX12_line_57 : decode cX12_line 57 = .ok (.aload_n 0, 1) := by decide +kernel
theorem dX12_line_58 : decode cX12_line 58 = .ok (.ldc2_w 223, 3) := by decide +kernel
theorem dX12_line_61 : decode cX12_line 61 = .ok (.invokevirtual 165, 3) := by decide +kernel
theorem dX12_line_64 : decode cX12_line 64 = .ok (.istore_n 3, 1) := by decide +kernel
theorem dX12_line_65 : decode cX12_line 65 = .ok (.iload_n 1, 1) := by decide +kernel
theorem dX12_line_66 : decode cX12_line 66 = .ok (.ifCond .ne 7, 3) := by decide +kernel
theorem dX12_line_69 : decode cX12_line 69 = .ok (.iload_n 2, 1) := by decide +kernel
theorem dX12_line_70 : decode cX12_line 70 = .ok (.ifCond .eq 25, 3) := by decide +kernel
theorem dX12_line_73 : decode cX12_line 73 = .ok (.aload_n 0, 1) := by decide +kernel
theorem dX12_line_74 : decode cX12_line 74 = .ok (.invokevirtual 169, 3) := by decide +kernel
theorem dX12_line_77 : decode cX12_line 77 = .ok (.iload_n 1, 1) := by decide +kernel
theorem dX12_line_78 : decode cX12_line 78 = .ok (.ifCond .eq 10, 3) := by decide +kernel
theorem dX12_line_81 : decode cX12_line 81 = .ok (.aload_n 0, 1) := by decide +kernel
theorem dX12_line_82 : decode cX12_line 82 = .ok (.invokevirtual 225, 3) := by decide +kernel
theorem dX12_line_85 : decode cX12_line 85 = .ok (.goto 124, 3) := by decide +kernel
theorem dX12_line_88 : decode cX12_line 88 = .ok (.aload_n 0, 1) := by decide +kernel
theorem dX12_line_89 : decode cX12_line 89 = .ok (.invokevirtual 228, 3) := by decide +kernel
theorem dX12_line_92 : decode cX12_line 92 = .ok (.goto 117, 3) := by decide +kernel
theorem dX12_line_95 : decode cX12_line 95 = .ok (.iload_n 3, 1) := by decide +kernel
theorem dX12_line_96 : decode cX12_line 96 = .ok (.ifCond .ne 13, 3) := by decide +kernel
theorem dX12_line_99 : decode cX12_line 99 = .ok (.aload_n 0, 1) := by decide +kernel
theorem dX12_line_100 : decode cX12_line 100 = .ok (.ldc2_w 231, 3) := by decide +kernel
theorem dX12_line_103 : decode cX12_line 103 = .ok (.invokevirtual 165, 3) := by decide +kernel
theorem dX12_line_106 : decode cX12_line 106 = .ok (.ifCond .eq 53, 3) := by decide +kernel
theorem dX12_line_109 : decode cX12_line 109 = .ok (.aload_n 0, 1) := by decide +kernel
theorem dX12_line_110 : decode cX12_line 110 = .ok (.invokevirtual 169, 3) := by decide +kernel
theorem dX12_line_113 : decode cX12_line 113 = .ok (.aload_n 0, 1) := by decide +kernel
theorem dX12_line_114 : decode cX12_line 114 = .ok (.invokevirtual 206, 3) := by decide +kernel
theorem dX12_line_117 : decode cX12_line 117 = .ok (.istore 4, 2) := by decide +kernel
theorem dX12_line_119 : decode cX12_line 119 = .ok (.aload_n 0, 1) := by decide +kernel
theorem dX12_line_120 : decode cX12_line 120 = .ok (.invokevirtual 216, 3) := by decide +kernel
theorem dX12_line_123 : decode cX12_line 123 = .ok (.istore 5, 2) := by decide +kernel
theorem dX12_line_125 : decode cX12_line 125 = .ok (.aload_n 0, 1) := by decide +kernel
theorem dX12_line_126 : decode cX12_line 126 = .ok (.invokevirtual 198, 3) := by decide +kernel
theorem dX12_line_129 : decode cX12_line 129 = .ok (.ifCond .eq 27, 3) := by decide +kernel
theorem dX12_line_132 : decode cX12_line 132 = .ok (.aload_n 0, 1) := by decide +kernel
theorem dX12_line_133 : decode cX12_line 133 = .ok (.getfield 37, 3) := by decide +kernel
theorem dX12_line_136 : decode cX12_line 136 = .ok (.iconst 5, 1) := by decide +kernel
theorem dX12_line_137 : decode cX12_line 137 = .ok (.bipush 40, 2) := by decide +kernel
theorem dX12_line_139 : decode cX12_line 139 = .ok (.iload 4, 2) := by decide +kernel
theorem dX12_line_141 : decode cX12_line 141 = .ok (.iadd, 1) := by decide +kernel
theorem dX12_line_142 : decode cX12_line 142 = .ok (.imul, 1) := by decide +kernel
theorem dX12_line_143 : decode cX12_line 143 = .ok (.iload_n 3, 1) := by decide +kernel
theorem dX12_line_144 : decode cX12_line 144 = .ok (.ifCond .eq 7, 3) := by decide +kernel
theorem dX12_line_147 : decode cX12_line 147 = .ok (.iconst 3, 1) := by decide +kernel
theorem dX12_line_148 : decode cX12_line 148 = .ok (.goto 4, 3) := by decide +kernel
theorem dX12_line_151 : decode cX12_line 151 = .ok (.iconst 4, 1) := by decide +kernel
theorem dX12_line_152 : decode cX12_line 152 = .ok (.iadd, 1) := by decide +kernel
theorem dX12_line_153 : decode cX12_line 153 = .ok (.iload 5, 2) := by decide +kernel
theorem dX12_line_155 : decode cX12_line 155 = .ok (.iastore, 1) := by decide +kernel
theorem dX12_line_156 : decode cX12_line 156 = .ok (.goto 53, 3) := by decide +kernel
theorem dX12_line_159 : decode cX12_line 159 = .ok (.aload_n 0, 1) := by decide +kernel
theorem dX12_line_160 : decode cX12_line 160 = .ok (.ldc2_w 233, 3) := by decide +kernel
theorem dX12_line_163 : decode cX12_line 163 = .ok (.invokevirtual 172, 3) := by decide +kernel
theorem dX12_line_166 : decode cX12_line 166 = .ok (.ifCond .eq 10, 3) := by decide +kernel
theorem dX12_line_169 : decode cX12_line 169 = .ok (.aload_n 0, 1) := by decide +kernel
theorem dX12_line_170 : decode cX12_line 170 = .ok (.invokevirtual 235, 3) := by decide +kernel
theorem dX12_line_173 : decode cX12_line 173 = .ok (.goto 36, 3) := by decide +kernel
theorem dX12_line_176 : decode cX12_line 176 = .ok (.aload_n 0, 1) := by decide +kernel
theorem dX12_line_177 : decode cX12_line 177 = .ok (.ldc2_w 238, 3) := by decide +kernel
theorem dX12_line_180 : decode cX12_line 180 = .ok (.invokevirtual 178, 3) := by decide +kernel
theorem dX12_line_183 : decode cX12_line 183 = .ok (.aload_n 0, 1) := by decide +kernel
theorem dX12_line_184 : decode cX12_line 184 = .ok (.invokevirtual 216, 3) := by decide +kernel
theorem dX12_line_187 : decode cX12_line 187 = .ok (.istore 4, 2) := by decide +kernel
theorem dX12_line_189 : decode cX12_line 189 = .ok (.aload_n 0, 1) := by decide +kernel
theorem dX12_line_190 : decode cX12_line 190 = .ok (.invokevirtual 198, 3) := by decide +kernel
theorem dX12_line_193 : decode cX12_line 193 = .ok (.ifCond .eq 16, 3) := by decide +kernel
theorem dX12_line_196 : decode cX12_line 196 = .ok (.aload_n 0, 1) := by decide +kernel
theorem dX12_line_197 : decode cX12_line 197 = .ok (.getfield 46, 3) := by decide +kernel
theorem dX12_line_200 : decode cX12_line 200 = .ok (.iconst 4, 1) := by decide +kernel
theorem dX12_line_201 : decode cX12_line 201 = .ok (.dup2, 1) := by decide +kernel
theorem dX12_line_202 : decode cX12_line 202 = .ok (.laload, 1) := by decide +kernel
theorem dX12_line_203 : decode cX12_line 203 = .ok (.lconst 1, 1) := by decide +kernel
theorem dX12_line_204 : decode cX12_line 204 = .ok (.iload 4, 2) := by decide +kernel
theorem dX12_line_206 : decode cX12_line 206 = .ok (.lshl, 1) := by decide +kernel
theorem dX12_line_207 : decode cX12_line 207 = .ok (.lor, 1) := by decide +kernel
theorem dX12_line_208 : decode cX12_line 208 = .ok (.lastore, 1) := by decide +kernel
theorem dX12_line_209 : decode cX12_line 209 = .ok (.return_, 1) := by decide +kernel
