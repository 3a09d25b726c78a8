theorem dX12_line_0 : decode cX12_line 0 = .ok (.aload_n 0, 1) := by decide +kernel
theorem dX12_line_1 : decode cX12_line 1 = .ok (.ldc2_w 219, 3) := by decide +kernel
theorem dX12_line_4 : decode cX12_line 4 = .ok (.invokevirtual 165, 3) := by decide +kernel
theorem dX12_line_7 : decode cX12_line 7 = .ok (.istore_n 1, 1) := by decide +kernel
theorem dX12_line_8 : decode cX12_line 8 = .ok (.aload_n 0, 1) := by decide +kernel
theorem dX12_line_9 : decode cX12_line 9 = .ok (.ldc2_w 221, 3) := by decide +kernel
theorem dX12_line_12 : decode cX12_line 12 = .ok (.invokevirtual 165, 3) := by decide +kernel
theorem dX12_line_15 : decode cX12_line 15 = .ok (.istore_n 2, 1) := by decide +kernel
theorem dX12_line_16 : decode cX12_line 16 = .ok (.iload_n 1, 1) := by decide +kernel
theorem dX12_line_17 : decode cX12_line 17 = .ok (.ifCond .eq 13, 3) := by decide +kernel
theorem dX12_line_20 : decode cX12_line 20 = .ok (.aload_n 0, 1) := by decide +kernel
theorem dX12_line_21 : decode cX12_line 21 = .ok (.iconst 3, 1) := by decide +kernel
theorem dX12_line_22 : decode cX12_line 22 = .ok (.invokevirtual 189, 3) := by decide +kernel
theorem dX12_line_25 : decode cX12_line 25 = .ok (.bipush 10, 2) := by decide +kernel
theorem dX12_line_27 : decode cX12_line 27 = .ok (.if_icmp .eq 17, 3) := by decide +kernel
theorem dX12_line_30 : decode cX12_line 30 = .ok (.iload_n 2, 1) := by decide +kernel
theorem dX12_line_31 : decode cX12_line 31 = .ok (.ifCond .eq 18, 3) := by decide +kernel
theorem dX12_line_34 : decode cX12_line 34 = .ok (.aload_n 0, 1) := by decide +kernel
theorem dX12_line_35 : decode cX12_line 35 = .ok (.iconst 4, 1) := by decide +kernel
theorem dX12_line_36 : decode cX12_line 36 = .ok (.invokevirtual 189, 3) := by decide +kernel
theorem dX12_line_39 : decode cX12_line 39 = .ok (.bipush 16, 2) := by decide +kernel
theorem dX12_line_41 : decode cX12_line 41 = .ok (.if_icmp .ne 8, 3) := by decide +kernel
theorem dX12_line_44 : decode cX12_line 44 = .ok (.aload_n 0, 1) := by decide +kernel
theorem dX12_line_45 : decode cX12_line 45 = .ok (.iconst 3, 1) := by decide +kernel
theorem dX12_line_46 : decode cX12_line 46 = .ok (.invokevirtual 175, 3) := by decide +kernel
theorem dX12_line_49 : decode cX12_line 49 = .ok (.aload_n 0, 1) := by decide +kernel
theorem dX12_line_50 : decode cX12_line 50 = .ok (.getfield 159, 3) := by decide +kernel
theorem dX12_line_53 : decode cX12_line 53 = .ok (.ifCond .eq 4, 3) := by decide +kernel
theorem dX12_line_56 : decode cX12_line 56 = .ok (.return_, 1) := by decide +kernel
theorem dX12_line_57 : decode cX12_line 57 = .ok (.aload_n 0, 1) := by decide +kernel
theorem dX12_line_58 : decode cX12_line 58 = .ok (.ldc2_w 223, 3) := by decide +kernel
theorem dX12_line_61 : decode cX12_line 61 = .ok (.invokevirtual 165, 3) := by decide +kernel
theorem dX12_line_64 : decode cX12_line 64 = .ok (.istore_n 3, 1) := by decide +kernel
theorem dX12_line_65 : decode cX12_line 65 = .ok (.iload_n 1, 1) := by decide +kernel
theorem dX12_line_66 : decode cX12_line 66 = .ok (.ifCond .ne 7, 3) := by decide +kernel
theorem dX12_line_69 : decode cX12_line 69 = .ok (.iload_n 2, 1) := by decide +kernel
theorem dX12_line_70 : decode cX12_line 70 = .ok (.ifCond .eq 25, 3) := by decide +kernel
theorem dX12_line_73 : decode cX12_line 73 = .ok (.aload_n 0, 1) := by decide +kernel
theorem dX12_line_74 : decode cX12_line 74 = .ok (.invokevirtual 169, 3) := by decide +kernel
theorem dX12_line_77 : decode cX12_line 77 = .ok (.iload_n 1, 1) := by decide +kernel
theorem dX12_line_78 : decode cX12_line 78 = .ok (.ifCond .eq 10, 3) := by decide +kernel
theorem dX12_line_81 : decode cX12_line 81 = .ok (.aload_n 0, 1) := by decide +kernel
theorem dX12_line_82 : decode cX12_line 82 = .ok (.invokevirtual 225, 3) := by decide +kernel
theorem dX12_line_85 : decode cX12_line 85 = .ok (.goto 124, 3) := by decide +kernel
theorem dX12_line_88 : decode cX12_line 88 = .ok (.aload_n 0, 1) := by decide +kernel
theorem dX12_line_89 : decode cX12_line 89 = .ok (.invokevirtual 228, 3) := by decide +kernel
theorem dX12_line_92 : decode cX12_line 92 = .ok (.goto 117, 3) := by decide +kernel
theorem dX12_line_95 : decode cX12_line 95 = .ok (.iload_n 3, 1) := by decide +kernel
theorem dX12_line_96 : decode cX12_line 96 = .ok (.ifCond .ne 13, 3) := by decide +kernel
theorem dX12_line_99 : decode cX12_line 99 = .ok (.aload_n 0, 1) := by decide +kernel
theorem dX12_line_100 : decode cX12_line 100 = .ok (.ldc2_w 231, 3) := by decide +kernel
theorem dX12_line_103 : decode cX12_line 103 = .ok (.invokevirtual 165, 3) := by decide +kernel
theorem dX12_line_106 : decode cX12_line 106 = .ok (.ifCond .eq 53, 3) := by decide +kernel
theorem dX12_line_109 : decode cX12_line 109 = .ok (.aload_n 0, 1) := by decide +kernel
theorem dX12_line_110 : decode cX12_line 110 = .ok (.invokevirtual 169, 3) := by decide +kernel
theorem dX12_line_113 : decode cX12_line 113 = .ok (.aload_n 0, 1) := by decide +kernel
theorem dX12_line_114 : decode cX12_line 114 = .ok (.invokevirtual 206, 3) := by decide +kernel
theorem dX12_line_117 : decode cX12_line 117 = .ok (.istore 4, 2) := by decide +kernel
theorem dX12_line_119 : decode cX12_line 119 = .ok (.aload_n 0, 1) := by decide +kernel
theorem dX12_line_120 : decode cX12_line 120 = .ok (.invokevirtual 216, 3) := by decide +kernel
theorem dX12_line_123 : decode cX12_line 123 = .ok (.istore 5, 2) := by decide +kernel
theorem dX12_line_125 : decode cX12_line 125 = .ok (.aload_n 0, 1) := by decide +kernel
theorem dX12_line_126 : decode cX12_line 126 = .ok (.invokevirtual 198, 3) := by decide +kernel
theorem dX12_line_129 : decode cX12_line 129 = .ok (.ifCond .eq 27, 3) := by decide +kernel
theorem dX12_line_132 : decode cX12_line 132 = .ok (.aload_n 0, 1) := by decide +kernel
theorem dX12_line_133 : decode cX12_line 133 = .ok (.getfield 37, 3) := by decide +kernel
theorem dX12_line_136 : decode cX12_line 136 = .ok (.iconst 5, 1) := by decide +kernel
theorem dX12_line_137 : decode cX12_line 137 = .ok (.bipush 40, 2) := by decide +kernel
theorem dX12_line_139 : decode cX12_line 139 = .ok (.iload 4, 2) := by decide +kernel
theorem dX12_line_141 : decode cX12_line 141 = .ok (.iadd, 1) := by decide +kernel
theorem dX12_line_142 : decode cX12_line 142 = .ok (.imul, 1) := by decide +kernel
theorem dX12_line_143 : decode cX12_line 143 = .ok (.iload_n 3, 1) := by decide +kernel
theorem dX12_line_144 : decode cX12_line 144 = .ok (.ifCond .eq 7, 3) := by decide +kernel
theorem dX12_line_147 : decode cX12_line 147 = .ok (.iconst 3, 1) := by decide +kernel
theorem dX12_line_148 : decode cX12_line 148 = .ok (.goto 4, 3) := by decide +kernel
theorem dX12_line_151 : decode cX12_line 151 = .ok (.iconst 4, 1) := by decide +kernel
theorem dX12_line_152 : decode cX12_line 152 = .ok (.iadd, 1) := by decide +kernel
theorem dX12_line_153 : decode cX12_line 153 = .ok (.iload 5, 2) := by decide +kernel
theorem dX12_line_155 : decode cX12_line 155 = .ok (.iastore, 1) := by decide +kernel
theorem dX12_line_156 : decode cX12_line 156 = .ok (.goto 53, 3) := by decide +kernel
theorem dX12_line_159 : decode cX12_line 159 = .ok (.aload_n 0, 1) := by decide +kernel
theorem dX12_line_160 : decode cX12_line 160 = .ok (.ldc2_w 233, 3) := by decide +kernel
theorem dX12_line_163 : decode cX12_line 163 = .ok (.invokevirtual 172, 3) := by decide +kernel
theorem dX12_line_166 : decode cX12_line 166 = .ok (.ifCond .eq 10, 3) := by decide +kernel
theorem dX12_line_169 : decode cX12_line 169 = .ok (.aload_n 0, 1) := by decide +kernel
theorem dX12_line_170 : decode cX12_line 170 = .ok (.invokevirtual 235, 3) := by decide +kernel
theorem dX12_line_173 : decode cX12_line 173 = .ok (.goto 36, 3) := by decide +kernel
theorem dX12_line_176 : decode cX12_line 176 = .ok (.aload_n 0, 1) := by decide +kernel
theorem dX12_line_177 : decode cX12_line 177 = .ok (.ldc2_w 238, 3) := by decide +kernel
theorem dX12_line_180 : decode cX12_line 180 = .ok (.invokevirtual 178, 3) := by decide +kernel
theorem dX12_line_183 : decode cX12_line 183 = .ok (.aload_n 0, 1) := by decide +kernel
theorem dX12_line_184 : decode cX12_line 184 = .ok (.invokevirtual 216, 3) := by decide +kernel
theorem dX12_line_187 : decode cX12_line 187 = .ok (.istore 4, 2) := by decide +kernel
theorem dX12_line_189 : decode cX12_line 189 = .ok (.aload_n 0, 1) := by decide +kernel
theorem dX12_line_190 : decode cX12_line 190 = .ok (.invokevirtual 198, 3) := by decide +kernel
theorem dX12_line_193 : decode cX12_line 193 = .ok (.ifCond .eq 16, 3) := by decide +kernel
theorem dX12_line_196 : decode cX12_line 196 = .ok (.aload_n 0, 1) := by decide +kernel
theorem dX12_line_197 : decode cX12_line 197 = .ok (.getfield 46, 3) := by decide +kernel
theorem dX12_line_200 : decode cX12_line 200 = .ok (.iconst 4, 1) := by decide +kernel
theorem dX12_line_201 : decode cX12_line 201 = .ok (.dup2, 1) := by decide +kernel
theorem dX12_line_202 : decode cX12_line 202 = .ok (.laload, 1) := by decide +kernel
theorem dX12_line_203 : decode cX12_line 203 = .ok (.lconst 1, 1) := by decide +kernel
theorem dX12_line_204 : decode cX12_line 204 = .ok (.iload 4, 2) := by decide +kernel
theorem dX12_line_206 : decode cX12_line 206 = .ok (.lshl, 1) := by decide +kernel
theorem dX12_line_207 : decode cX12_line 207 = .ok (.lor, 1) := by decide +kernel
theorem dX12_line_208 : decode cX12_line 208 = .ok (.lastore, 1) := by decide +kernel
theorem dX12_line_209 : decode cX12_line 209 = .ok (.return_, 1) := by decide +kernel
theorem dX12_clears_0 : decode cX12_clears 0 = .ok (.aload_n 0, 1) := by decide +kernel
theorem dX12_clears_1 : decode cX12_clears 1 = .ok (.getfield 31, 3) := by decide +kernel
theorem dX12_clears_4 : decode cX12_clears 4 = .ok (.iconst 4, 1) := by decide +kernel
theorem dX12_clears_5 : decode cX12_clears 5 = .ok (.iconst 0, 1) := by decide +kernel
theorem dX12_clears_6 : decode cX12_clears 6 = .ok (.iastore, 1) := by decide +kernel
theorem dX12_clears_7 : decode cX12_clears 7 = .ok (.aload_n 0, 1) := by decide +kernel
theorem dX12_clears_8 : decode cX12_clears 8 = .ok (.getfield 46, 3) := by decide +kernel
theorem dX12_clears_11 : decode cX12_clears 11 = .ok (.iconst 4, 1) := by decide +kernel
theorem dX12_clears_12 : decode cX12_clears 12 = .ok (.lconst 0, 1) := by decide +kernel
theorem dX12_clears_13 : decode cX12_clears 13 = .ok (.lastore, 1) := by decide +kernel
theorem dX12_clears_14 : decode cX12_clears 14 = .ok (.iconst 0, 1) := by decide +kernel
theorem dX12_clears_15 : decode cX12_clears 15 = .ok (.istore_n 1, 1) := by decide +kernel
theorem dX12_clears_16 : decode cX12_clears 16 = .ok (.iload_n 1, 1) := by decide +kernel
theorem dX12_clears_17 : decode cX12_clears 17 = .ok (.iconst 5, 1) := by decide +kernel
theorem dX12_clears_18 : decode cX12_clears 18 = .ok (.if_icmp .ge 19, 3) := by decide +kernel
theorem dX12_clears_21 : decode cX12_clears 21 = .ok (.aload_n 0, 1) := by decide +kernel
theorem dX12_clears_22 : decode cX12_clears 22 = .ok (.getfield 34, 3) := by decide +kernel
theorem dX12_clears_25 : decode cX12_clears 25 = .ok (.bipush 20, 2) := by decide +kernel
theorem dX12_clears_27 : decode cX12_clears 27 = .ok (.iload_n 1, 1) := by decide +kernel
theorem dX12_clears_28 : decode cX12_clears 28 = .ok (.iadd, 1) := by decide +kernel
theorem dX12_clears_29 : decode cX12_clears 29 = .ok (.iconst 0, 1) := by decide +kernel
theorem dX12_clears_30 : decode cX12_clears 30 = .ok (.iastore, 1) := by decide +kernel
theorem dX12_clears_31 : decode cX12_clears 31 = .ok (.iinc 1 1, 3) := by decide +kernel
theorem dX12_clears_34 : decode cX12_clears 34 = .ok (.goto (-18), 3) := by decide +kernel
theorem dX12_clears_37 : decode cX12_clears 37 = .ok (.return_, 1) := by decide +kernel
theorem dX12_copyRow_0 : decode cX12_copyRow 0 = .ok (.iconst 0, 1) := by decide +kernel
theorem dX12_copyRow_1 : decode cX12_copyRow 1 = .ok (.istore 4, 2) := by decide +kernel
theorem dX12_copyRow_3 : decode cX12_copyRow 3 = .ok (.iload 4, 2) := by decide +kernel
theorem dX12_copyRow_5 : decode cX12_copyRow 5 = .ok (.iload_n 1, 1) := by decide +kernel
theorem dX12_copyRow_6 : decode cX12_copyRow 6 = .ok (.if_icmp .ge 25, 3) := by decide +kernel
theorem dX12_copyRow_9 : decode cX12_copyRow 9 = .ok (.aload_n 0, 1) := by decide +kernel
theorem dX12_copyRow_10 : decode cX12_copyRow 10 = .ok (.iload_n 1, 1) := by decide +kernel
theorem dX12_copyRow_11 : decode cX12_copyRow 11 = .ok (.iload_n 3, 1) := by decide +kernel
theorem dX12_copyRow_12 : decode cX12_copyRow 12 = .ok (.imul, 1) := by decide +kernel
theorem dX12_copyRow_13 : decode cX12_copyRow 13 = .ok (.iload 4, 2) := by decide +kernel
theorem dX12_copyRow_15 : decode cX12_copyRow 15 = .ok (.iadd, 1) := by decide +kernel
theorem dX12_copyRow_16 : decode cX12_copyRow 16 = .ok (.aload_n 0, 1) := by decide +kernel
theorem dX12_copyRow_17 : decode cX12_copyRow 17 = .ok (.iload_n 1, 1) := by decide +kernel
theorem dX12_copyRow_18 : decode cX12_copyRow 18 = .ok (.iload_n 2, 1) := by decide +kernel
theorem dX12_copyRow_19 : decode cX12_copyRow 19 = .ok (.imul, 1) := by decide +kernel
theorem dX12_copyRow_20 : decode cX12_copyRow 20 = .ok (.iload 4, 2) := by decide +kernel
theorem dX12_copyRow_22 : decode cX12_copyRow 22 = .ok (.iadd, 1) := by decide +kernel
theorem dX12_copyRow_23 : decode cX12_copyRow 23 = .ok (.iaload, 1) := by decide +kernel
theorem dX12_copyRow_24 : decode cX12_copyRow 24 = .ok (.iastore, 1) := by decide +kernel
theorem dX12_copyRow_25 : decode cX12_copyRow 25 = .ok (.iinc 4 1, 3) := by decide +kernel
theorem dX12_copyRow_28 : decode cX12_copyRow 28 = .ok (.goto (-25), 3) := by decide +kernel
theorem dX12_copyRow_31 : decode cX12_copyRow 31 = .ok (.return_, 1) := by decide +kernel
theorem dX12_copyLand_0 : decode cX12_copyLand 0 = .ok (.aload_n 0, 1) := by decide +kernel
theorem dX12_copyLand_1 : decode cX12_copyLand 1 = .ok (.getfield 31, 3) := by decide +kernel
theorem dX12_copyLand_4 : decode cX12_copyLand 4 = .ok (.iconst 1, 1) := by decide +kernel
theorem dX12_copyLand_5 : decode cX12_copyLand 5 = .ok (.iload_n 1, 1) := by decide +kernel
theorem dX12_copyLand_6 : decode cX12_copyLand 6 = .ok (.iload_n 2, 1) := by decide +kernel
theorem dX12_copyLand_7 : decode cX12_copyLand 7 = .ok (.invokestatic 267, 3) := by decide +kernel
theorem dX12_copyLand_10 : decode cX12_copyLand 10 = .ok (.aload_n 0, 1) := by decide +kernel
theorem dX12_copyLand_11 : decode cX12_copyLand 11 = .ok (.getfield 34, 3) := by decide +kernel
theorem dX12_copyLand_14 : decode cX12_copyLand 14 = .ok (.iconst 5, 1) := by decide +kernel
theorem dX12_copyLand_15 : decode cX12_copyLand 15 = .ok (.iload_n 1, 1) := by decide +kernel
theorem dX12_copyLand_16 : decode cX12_copyLand 16 = .ok (.iload_n 2, 1) := by decide +kernel
theorem dX12_copyLand_17 : decode cX12_copyLand 17 = .ok (.invokestatic 267, 3) := by decide +kernel
theorem dX12_copyLand_20 : decode cX12_copyLand 20 = .ok (.aload_n 0, 1) := by decide +kernel
theorem dX12_copyLand_21 : decode cX12_copyLand 21 = .ok (.getfield 37, 3) := by decide +kernel
theorem dX12_copyLand_24 : decode cX12_copyLand 24 = .ok (.bipush 50, 2) := by decide +kernel
theorem dX12_copyLand_26 : decode cX12_copyLand 26 = .ok (.iload_n 1, 1) := by decide +kernel
theorem dX12_copyLand_27 : decode cX12_copyLand 27 = .ok (.iload_n 2, 1) := by decide +kernel
theorem dX12_copyLand_28 : decode cX12_copyLand 28 = .ok (.invokestatic 267, 3) := by decide +kernel
theorem dX12_copyLand_31 : decode cX12_copyLand 31 = .ok (.aload_n 0, 1) := by decide +kernel
theorem dX12_copyLand_32 : decode cX12_copyLand 32 = .ok (.getfield 40, 3) := by decide +kernel
theorem dX12_copyLand_35 : decode cX12_copyLand 35 = .ok (.bipush 48, 2) := by decide +kernel
theorem dX12_copyLand_37 : decode cX12_copyLand 37 = .ok (.iload_n 1, 1) := by decide +kernel
theorem dX12_copyLand_38 : decode cX12_copyLand 38 = .ok (.iload_n 2, 1) := by decide +kernel
theorem dX12_copyLand_39 : decode cX12_copyLand 39 = .ok (.invokestatic 267, 3) := by decide +kernel
theorem dX12_copyLand_42 : decode cX12_copyLand 42 = .ok (.iconst 0, 1) := by decide +kernel
theorem dX12_copyLand_43 : decode cX12_copyLand 43 = .ok (.istore_n 3, 1) := by decide +kernel
theorem dX12_copyLand_44 : decode cX12_copyLand 44 = .ok (.iload_n 3, 1) := by decide +kernel
theorem dX12_copyLand_45 : decode cX12_copyLand 45 = .ok (.bipush 32, 2) := by decide +kernel
theorem dX12_copyLand_47 : decode cX12_copyLand 47 = .ok (.if_icmp .ge 31, 3) := by decide +kernel
theorem dX12_copyLand_50 : decode cX12_copyLand 50 = .ok (.aload_n 0, 1) := by decide +kernel
theorem dX12_copyLand_51 : decode cX12_copyLand 51 = .ok (.getfield 43, 3) := by decide +kernel
theorem dX12_copyLand_54 : decode cX12_copyLand 54 = .ok (.bipush 32, 2) := by decide +kernel
theorem dX12_copyLand_56 : decode cX12_copyLand 56 = .ok (.iload_n 2, 1) := by decide +kernel
theorem dX12_copyLand_57 : decode cX12_copyLand 57 = .ok (.imul, 1) := by decide +kernel
theorem dX12_copyLand_58 : decode cX12_copyLand 58 = .ok (.iload_n 3, 1) := by decide +kernel
theorem dX12_copyLand_59 : decode cX12_copyLand 59 = .ok (.iadd, 1) := by decide +kernel
theorem dX12_copyLand_60 : decode cX12_copyLand 60 = .ok (.aload_n 0, 1) := by decide +kernel
theorem dX12_copyLand_61 : decode cX12_copyLand 61 = .ok (.getfield 43, 3) := by decide +kernel
theorem dX12_copyLand_64 : decode cX12_copyLand 64 = .ok (.bipush 32, 2) := by decide +kernel
theorem dX12_copyLand_66 : decode cX12_copyLand 66 = .ok (.iload_n 1, 1) := by decide +kernel
theorem dX12_copyLand_67 : decode cX12_copyLand 67 = .ok (.imul, 1) := by decide +kernel
theorem dX12_copyLand_68 : decode cX12_copyLand 68 = .ok (.iload_n 3, 1) := by decide +kernel
theorem dX12_copyLand_69 : decode cX12_copyLand 69 = .ok (.iadd, 1) := by decide +kernel
theorem dX12_copyLand_70 : decode cX12_copyLand 70 = .ok (.laload, 1) := by decide +kernel
theorem dX12_copyLand_71 : decode cX12_copyLand 71 = .ok (.lastore, 1) := by decide +kernel
theorem dX12_copyLand_72 : decode cX12_copyLand 72 = .ok (.iinc 3 1, 3) := by decide +kernel
theorem dX12_copyLand_75 : decode cX12_copyLand 75 = .ok (.goto (-31), 3) := by decide +kernel
theorem dX12_copyLand_78 : decode cX12_copyLand 78 = .ok (.aload_n 0, 1) := by decide +kernel
theorem dX12_copyLand_79 : decode cX12_copyLand 79 = .ok (.getfield 46, 3) := by decide +kernel
theorem dX12_copyLand_82 : decode cX12_copyLand 82 = .ok (.iload_n 2, 1) := by decide +kernel
theorem dX12_copyLand_83 : decode cX12_copyLand 83 = .ok (.aload_n 0, 1) := by decide +kernel
theorem dX12_copyLand_84 : decode cX12_copyLand 84 = .ok (.getfield 46, 3) := by decide +kernel
theorem dX12_copyLand_87 : decode cX12_copyLand 87 = .ok (.iload_n 1, 1) := by decide +kernel
theorem dX12_copyLand_88 : decode cX12_copyLand 88 = .ok (.laload, 1) := by decide +kernel
theorem dX12_copyLand_89 : decode cX12_copyLand 89 = .ok (.lastore, 1) := by decide +kernel
theorem dX12_copyLand_90 : decode cX12_copyLand 90 = .ok (.return_, 1) := by decide +kernel
