theorem dX0_stateOfSide_0 : decode cX0_stateOfSide 0 = .ok (.lload_n 0, 1) := by decide +kernel
theorem dX0_stateOfSide_1 : decode cX0_stateOfSide 1 = .ok (.iconst 2, 1) := by decide +kernel
theorem dX0_stateOfSide_2 : decode cX0_stateOfSide 2 = .ok (.lshl, 1) := by decide +kernel
theorem dX0_stateOfSide_3 : decode cX0_stateOfSide 3 = .ok (.iload_n 2, 1) := by decide +kernel
theorem dX0_stateOfSide_4 : decode cX0_stateOfSide 4 = .ok (.iconst 1, 1) := by decide +kernel
theorem dX0_stateOfSide_5 : decode cX0_stateOfSide 5 = .ok (.iand, 1) := by decide +kernel
theorem dX0_stateOfSide_6 : decode cX0_stateOfSide 6 = .ok (.iconst 1, 1) := by decide +kernel
theorem dX0_stateOfSide_7 : decode cX0_stateOfSide 7 = .ok (.ishl, 1) := by decide +kernel
theorem dX0_stateOfSide_8 : decode cX0_stateOfSide 8 = .ok (.i2l, 1) := by decide +kernel
theorem dX0_stateOfSide_9 : decode cX0_stateOfSide 9 = .ok (.lor, 1) := by decide +kernel
theorem dX0_stateOfSide_10 : decode cX0_stateOfSide 10 = .ok (.iload_n 2, 1) := by decide +kernel
theorem dX0_stateOfSide_11 : decode cX0_stateOfSide 11 = .ok (.iconst 1, 1) := by decide +kernel
theorem dX0_stateOfSide_12 : decode cX0_stateOfSide 12 = .ok (.ishr, 1) := by decide +kernel
theorem dX0_stateOfSide_13 : decode cX0_stateOfSide 13 = .ok (.i2l, 1) := by decide +kernel
theorem dX0_stateOfSide_14 : decode cX0_stateOfSide 14 = .ok (.lor, 1) := by decide +kernel
theorem dX0_stateOfSide_15 : decode cX0_stateOfSide 15 = .ok (.lstore 4, 2) := by decide +kernel
theorem dX0_stateOfSide_17 : decode cX0_stateOfSide 17 = .ok (.lload 4, 2) := by decide +kernel
theorem dX0_stateOfSide_19 : decode cX0_stateOfSide 19 = .ok (.iload_n 3, 1) := by decide +kernel
theorem dX0_stateOfSide_20 : decode cX0_stateOfSide 20 = .ok (.iconst 1, 1) := by decide +kernel
theorem dX0_stateOfSide_21 : decode cX0_stateOfSide 21 = .ok (.iadd, 1) := by decide +kernel
theorem dX0_stateOfSide_22 : decode cX0_stateOfSide 22 = .ok (.lshr, 1) := by decide +kernel
theorem dX0_stateOfSide_23 : decode cX0_stateOfSide 23 = .ok (.lconst 1, 1) := by decide +kernel
theorem dX0_stateOfSide_24 : decode cX0_stateOfSide 24 = .ok (.land, 1) := by decide +kernel
theorem dX0_stateOfSide_25 : decode cX0_stateOfSide 25 = .ok (.l2i, 1) := by decide +kernel
theorem dX0_stateOfSide_26 : decode cX0_stateOfSide 26 = .ok (.lload 4, 2) := by decide +kernel
theorem dX0_stateOfSide_28 : decode cX0_stateOfSide 28 = .ok (.iload_n 3, 1) := by decide +kernel
theorem dX0_stateOfSide_29 : decode cX0_stateOfSide 29 = .ok (.lshr, 1) := by decide +kernel
theorem dX0_stateOfSide_30 : decode cX0_stateOfSide 30 = .ok (.lconst 1, 1) := by decide +kernel
theorem dX0_stateOfSide_31 : decode cX0_stateOfSide 31 = .ok (.land, 1) := by decide +kernel
theorem dX0_stateOfSide_32 : decode cX0_stateOfSide 32 = .ok (.l2i, 1) := by decide +kernel
theorem dX0_stateOfSide_33 : decode cX0_stateOfSide 33 = .ok (.iconst 1, 1) := by decide +kernel
theorem dX0_stateOfSide_34 : decode cX0_stateOfSide 34 = .ok (.ishl, 1) := by decide +kernel
theorem dX0_stateOfSide_35 : decode cX0_stateOfSide 35 = .ok (.ior, 1) := by decide +kernel
theorem dX0_stateOfSide_36 : decode cX0_stateOfSide 36 = .ok (.ireturn, 1) := by decide +kernel
theorem dX2_take_0 : decode cX2_take 0 = .ok (.aload_n 0, 1) := by decide +kernel
theorem dX2_take_1 : decode cX2_take 1 = .ok (.aload_n 1, 1) := by decide +kernel
theorem dX2_take_2 : decode cX2_take 2 = .ok (.getfield 29, 3) := by decide +kernel
theorem dX2_take_5 : decode cX2_take 5 = .ok (.putfield 35, 3) := by decide +kernel
theorem dX2_take_8 : decode cX2_take 8 = .ok (.aload_n 0, 1) := by decide +kernel
theorem dX2_take_9 : decode cX2_take 9 = .ok (.aload_n 1, 1) := by decide +kernel
theorem dX2_take_10 : decode cX2_take 10 = .ok (.getfield 36, 3) := by decide +kernel
theorem dX2_take_13 : decode cX2_take 13 = .ok (.iload_n 2, 1) := by decide +kernel
theorem dX2_take_14 : decode cX2_take 14 = .ok (.iaload, 1) := by decide +kernel
theorem dX2_take_15 : decode cX2_take 15 = .ok (.putfield 39, 3) := by decide +kernel
theorem dX2_take_18 : decode cX2_take 18 = .ok (.iconst 0, 1) := by decide +kernel
theorem dX2_take_19 : decode cX2_take 19 = .ok (.istore_n 3, 1) := by decide +kernel
theorem dX2_take_20 : decode cX2_take 20 = .ok (.iload_n 3, 1) := by decide +kernel
theorem dX2_take_21 : decode cX2_take 21 = .ok (.iconst 2, 1) := by decide +kernel
theorem dX2_take_22 : decode cX2_take 22 = .ok (.if_icmp .ge 53, 3) := by decide +kernel
theorem dX2_take_25 : decode cX2_take 25 = .ok (.aload_n 0, 1) := by decide +kernel
theorem dX2_take_26 : decode cX2_take 26 = .ok (.getfield 7, 3) := by decide +kernel
theorem dX2_take_29 : decode cX2_take 29 = .ok (.iload_n 3, 1) := by decide +kernel
theorem dX2_take_30 : decode cX2_take 30 = .ok (.aload_n 1, 1) := by decide +kernel
theorem dX2_take_31 : decode cX2_take 31 = .ok (.iload_n 2, 1) := by decide +kernel
theorem dX2_take_32 : decode cX2_take 32 = .ok (.iload_n 3, 1) := by decide +kernel
theorem dX2_take_33 : decode cX2_take 33 = .ok (.invokevirtual 41, 3) := by decide +kernel
theorem dX2_take_36 : decode cX2_take 36 = .ok (.iastore, 1) := by decide +kernel
theorem dX2_take_37 : decode cX2_take 37 = .ok (.aload_n 0, 1) := by decide +kernel
theorem dX2_take_38 : decode cX2_take 38 = .ok (.getfield 13, 3) := by decide +kernel
theorem dX2_take_41 : decode cX2_take 41 = .ok (.iload_n 3, 1) := by decide +kernel
theorem dX2_take_42 : decode cX2_take 42 = .ok (.aload_n 1, 1) := by decide +kernel
theorem dX2_take_43 : decode cX2_take 43 = .ok (.aload_n 1, 1) := by decide +kernel
theorem dX2_take_44 : decode cX2_take 44 = .ok (.getfield 45, 3) := by decide +kernel
theorem dX2_take_47 : decode cX2_take 47 = .ok (.iconst 2, 1) := by decide +kernel
theorem dX2_take_48 : decode cX2_take 48 = .ok (.iload_n 2, 1) := by decide +kernel
theorem dX2_take_49 : decode cX2_take 49 = .ok (.imul, 1) := by decide +kernel
theorem dX2_take_50 : decode cX2_take 50 = .ok (.iload_n 3, 1) := by decide +kernel
theorem dX2_take_51 : decode cX2_take 51 = .ok (.iadd, 1) := by decide +kernel
theorem dX2_take_52 : decode cX2_take 52 = .ok (.iaload, 1) := by decide +kernel
theorem dX2_take_53 : decode cX2_take 53 = .ok (.invokevirtual 48, 3) := by decide +kernel
theorem dX2_take_56 : decode cX2_take 56 = .ok (.lastore, 1) := by decide +kernel
theorem dX2_take_57 : decode cX2_take 57 = .ok (.aload_n 0, 1) := by decide +kernel
theorem dX2_take_58 : decode cX2_take 58 = .ok (.getfield 17, 3) := by decide +kernel
theorem dX2_take_61 : decode cX2_take 61 = .ok (.iload_n 3, 1) := by decide +kernel
theorem dX2_take_62 : decode cX2_take 62 = .ok (.aload_n 1, 1) := by decide +kernel
theorem dX2_take_63 : decode cX2_take 63 = .ok (.iload_n 2, 1) := by decide +kernel
theorem dX2_take_64 : decode cX2_take 64 = .ok (.iload_n 3, 1) := by decide +kernel
theorem dX2_take_65 : decode cX2_take 65 = .ok (.invokevirtual 52, 3) := by decide +kernel
theorem dX2_take_68 : decode cX2_take 68 = .ok (.lastore, 1) := by decide +kernel
theorem dX2_take_69 : decode cX2_take 69 = .ok (.iinc 3 1, 3) := by decide +kernel
theorem dX2_take_72 : decode cX2_take 72 = .ok (.goto (-52), 3) := by decide +kernel
theorem dX2_take_75 : decode cX2_take 75 = .ok (.return_, 1) := by decide +kernel
theorem dX2_run_0 : decode cX2_run 0 = .ok (.aload_n 0, 1) := by decide +kernel
theorem dX2_run_1 : decode cX2_run 1 = .ok (.lconst 0, 1) := by decide +kernel
theorem dX2_run_2 : decode cX2_run 2 = .ok (.lconst 0, 1) := by decide +kernel
theorem dX2_run_3 : decode cX2_run 3 = .ok (.lconst 0, 1) := by decide +kernel
theorem dX2_run_4 : decode cX2_run 4 = .ok (.invokevirtual 56, 3) := by decide +kernel
theorem dX2_run_7 : decode cX2_run 7 = .ok (.pop, 1) := by decide +kernel
theorem dX2_run_8 : decode cX2_run 8 = .ok (.return_, 1) := by decide +kernel
theorem dX2_runWhile_0 : decode cX2_runWhile 0 = .ok (.iconst 0, 1) := by decide +kernel
theorem dX2_runWhile_1 : decode cX2_runWhile 1 = .ok (.istore 7, 2) := by decide +kernel
theorem dX2_runWhile_3 : decode cX2_runWhile 3 = .ok (.iload 7, 2) := by decide +kernel
theorem dX2_runWhile_5 : decode cX2_runWhile 5 = .ok (.iconst 2, 1) := by decide +kernel
theorem dX2_runWhile_6 : decode cX2_runWhile 6 = .ok (.if_icmp .ge 33, 3) := by decide +kernel
theorem dX2_runWhile_9 : decode cX2_runWhile 9 = .ok (.aload_n 0, 1) := by decide +kernel
theorem dX2_runWhile_10 : decode cX2_runWhile 10 = .ok (.getfield 20, 3) := by decide +kernel
theorem dX2_runWhile_13 : decode cX2_runWhile 13 = .ok (.iload 7, 2) := by decide +kernel
theorem dX2_runWhile_15 : decode cX2_runWhile 15 = .ok (.lconst 0, 1) := by decide +kernel
theorem dX2_runWhile_16 : decode cX2_runWhile 16 = .ok (.lastore, 1) := by decide +kernel
theorem dX2_runWhile_17 : decode cX2_runWhile 17 = .ok (.aload_n 0, 1) := by decide +kernel
theorem dX2_runWhile_18 : decode cX2_runWhile 18 = .ok (.getfield 23, 3) := by decide +kernel
theorem dX2_runWhile_21 : decode cX2_runWhile 21 = .ok (.iload 7, 2) := by decide +kernel
theorem dX2_runWhile_23 : decode cX2_runWhile 23 = .ok (.lconst 0, 1) := by decide +kernel
theorem dX2_runWhile_24 : decode cX2_runWhile 24 = .ok (.lastore, 1) := by decide +kernel
theorem dX2_runWhile_25 : decode cX2_runWhile 25 = .ok (.aload_n 0, 1) := by decide +kernel
theorem dX2_runWhile_26 : decode cX2_runWhile 26 = .ok (.getfield 26, 3) := by decide +kernel
theorem dX2_runWhile_29 : decode cX2_runWhile 29 = .ok (.iload 7, 2) := by decide +kernel
theorem dX2_runWhile_31 : decode cX2_runWhile 31 = .ok (.lconst 0, 1) := by decide +kernel
theorem dX2_runWhile_32 : decode cX2_runWhile 32 = .ok (.lastore, 1) := by decide +kernel
theorem dX2_runWhile_33 : decode cX2_runWhile 33 = .ok (.iinc 7 1, 3) := by decide +kernel
theorem dX2_runWhile_36 : decode cX2_runWhile 36 = .ok (.goto (-33), 3) := by decide +kernel
theorem dX2_runWhile_39 : decode cX2_runWhile 39 = .ok (.aload_n 0, 1) := by decide +kernel
theorem dX2_runWhile_40 : decode cX2_runWhile 40 = .ok (.getfield 7, 3) := by decide +kernel
theorem dX2_runWhile_43 : decode cX2_runWhile 43 = .ok (.iconst 0, 1) := by decide +kernel
theorem dX2_runWhile_44 : decode cX2_runWhile 44 = .ok (.iaload, 1) := by decide +kernel
theorem dX2_runWhile_45 : decode cX2_runWhile 45 = .ok (.aload_n 0, 1) := by decide +kernel
theorem dX2_runWhile_46 : decode cX2_runWhile 46 = .ok (.getfield 7, 3) := by decide +kernel
theorem dX2_runWhile_49 : decode cX2_runWhile 49 = .ok (.iconst 1, 1) := by decide +kernel
theorem dX2_runWhile_50 : decode cX2_runWhile 50 = .ok (.iaload, 1) := by decide +kernel
theorem dX2_runWhile_51 : decode cX2_runWhile 51 = .ok (.invokestatic 60, 3) := by decide +kernel
theorem dX2_runWhile_54 : decode cX2_runWhile 54 = .ok (.istore 7, 2) := by decide +kernel
theorem dX2_runWhile_56 : decode cX2_runWhile 56 = .ok (.aload_n 0, 1) := by decide +kernel
theorem dX2_runWhile_57 : decode cX2_runWhile 57 = .ok (.getfield 39, 3) := by decide +kernel
theorem dX2_runWhile_60 : decode cX2_runWhile 60 = .ok (.istore 8, 2) := by decide +kernel
theorem dX2_runWhile_62 : decode cX2_runWhile 62 = .ok (.iconst 0, 1) := by decide +kernel
theorem dX2_runWhile_63 : decode cX2_runWhile 63 = .ok (.istore 9, 2) := by decide +kernel
theorem dX2_runWhile_65 : decode cX2_runWhile 65 = .ok (.iload 9, 2) := by decide +kernel
theorem dX2_runWhile_67 : decode cX2_runWhile 67 = .ok (.aload_n 0, 1) := by decide +kernel
theorem dX2_runWhile_68 : decode cX2_runWhile 68 = .ok (.getfield 35, 3) := by decide +kernel
theorem dX2_runWhile_71 : decode cX2_runWhile 71 = .ok (.if_icmp .ge 162, 3) := by decide +kernel
theorem dX2_runWhile_74 : decode cX2_runWhile 74 = .ok (.aload_n 0, 1) := by decide +kernel
theorem dX2_runWhile_75 : decode cX2_runWhile 75 = .ok (.getfield 13, 3) := by decide +kernel
theorem dX2_runWhile_78 : decode cX2_runWhile 78 = .ok (.iconst 0, 1) := by decide +kernel
theorem dX2_runWhile_79 : decode cX2_runWhile 79 = .ok (.laload, 1) := by decide +kernel
theorem dX2_runWhile_80 : decode cX2_runWhile 80 = .ok (.aload_n 0, 1) := by decide +kernel
theorem dX2_runWhile_81 : decode cX2_runWhile 81 = .ok (.getfield 13, 3) := by decide +kernel
theorem dX2_runWhile_84 : decode cX2_runWhile 84 = .ok (.iconst 1, 1) := by decide +kernel
theorem dX2_runWhile_85 : decode cX2_runWhile 85 = .ok (.laload, 1) := by decide +kernel
theorem dX2_runWhile_86 : decode cX2_runWhile 86 = .ok (.iload 9, 2) := by decide +kernel
theorem dX2_runWhile_88 : decode cX2_runWhile 88 = .ok (.invokestatic 65, 3) := by decide +kernel
theorem dX2_runWhile_91 : decode cX2_runWhile 91 = .ok (.istore 10, 2) := by decide +kernel
theorem dX2_runWhile_93 : decode cX2_runWhile 93 = .ok (.aload_n 0, 1) := by decide +kernel
theorem dX2_runWhile_94 : decode cX2_runWhile 94 = .ok (.getfield 17, 3) := by decide +kernel
theorem dX2_runWhile_97 : decode cX2_runWhile 97 = .ok (.iconst 0, 1) := by decide +kernel
theorem dX2_runWhile_98 : decode cX2_runWhile 98 = .ok (.laload, 1) := by decide +kernel
theorem dX2_runWhile_99 : decode cX2_runWhile 99 = .ok (.aload_n 0, 1) := by decide +kernel
theorem dX2_runWhile_100 : decode cX2_runWhile 100 = .ok (.getfield 17, 3) := by decide +kernel
theorem dX2_runWhile_103 : decode cX2_runWhile 103 = .ok (.iconst 1, 1) := by decide +kernel
theorem dX2_runWhile_104 : decode cX2_runWhile 104 = .ok (.laload, 1) := by decide +kernel
theorem dX2_runWhile_105 : decode cX2_runWhile 105 = .ok (.iload 9, 2) := by decide +kernel
theorem dX2_runWhile_107 : decode cX2_runWhile 107 = .ok (.invokestatic 65, 3) := by decide +kernel
theorem dX2_runWhile_110 : decode cX2_runWhile 110 = .ok (.istore 11, 2) := by decide +kernel
theorem dX2_runWhile_112 : decode cX2_runWhile 112 = .ok (.aload_n 0, 1) := by decide +kernel
theorem dX2_runWhile_113 : decode cX2_runWhile 113 = .ok (.getfield 7, 3) := by decide +kernel
theorem dX2_runWhile_116 : decode cX2_runWhile 116 = .ok (.iconst 0, 1) := by decide +kernel
theorem dX2_runWhile_117 : decode cX2_runWhile 117 = .ok (.iaload, 1) := by decide +kernel
theorem dX2_runWhile_118 : decode cX2_runWhile 118 = .ok (.aload_n 0, 1) := by decide +kernel
theorem dX2_runWhile_119 : decode cX2_runWhile 119 = .ok (.getfield 7, 3) := by decide +kernel
theorem dX2_runWhile_122 : decode cX2_runWhile 122 = .ok (.iconst 1, 1) := by decide +kernel
theorem dX2_runWhile_123 : decode cX2_runWhile 123 = .ok (.iaload, 1) := by decide +kernel
theorem dX2_runWhile_124 : decode cX2_runWhile 124 = .ok (.iload 8, 2) := by decide +kernel
theorem dX2_runWhile_126 : decode cX2_runWhile 126 = .ok (.invokestatic 69, 3) := by decide +kernel
theorem dX2_runWhile_129 : decode cX2_runWhile 129 = .ok (.iload 10, 2) := by decide +kernel
theorem dX2_runWhile_131 : decode cX2_runWhile 131 = .ok (.iand, 1) := by decide +kernel
theorem dX2_runWhile_132 : decode cX2_runWhile 132 = .ok (.istore 12, 2) := by decide +kernel
theorem dX2_runWhile_134 : decode cX2_runWhile 134 = .ok (.iload 12, 2) := by decide +kernel
theorem dX2_runWhile_136 : decode cX2_runWhile 136 = .ok (.iload 7, 2) := by decide +kernel
theorem dX2_runWhile_138 : decode cX2_runWhile 138 = .ok (.iload 10, 2) := by decide +kernel
theorem dX2_runWhile_140 : decode cX2_runWhile 140 = .ok (.iand, 1) := by decide +kernel
theorem dX2_runWhile_141 : decode cX2_runWhile 141 = .ok (.iload 11, 2) := by decide +kernel
theorem dX2_runWhile_143 : decode cX2_runWhile 143 = .ok (.invokestatic 73, 3) := by decide +kernel
theorem dX2_runWhile_146 : decode cX2_runWhile 146 = .ok (.istore 13, 2) := by decide +kernel
theorem dX2_runWhile_148 : decode cX2_runWhile 148 = .ok (.iload 12, 2) := by decide +kernel
theorem dX2_runWhile_150 : decode cX2_runWhile 150 = .ok (.iload 13, 2) := by decide +kernel
theorem dX2_runWhile_152 : decode cX2_runWhile 152 = .ok (.ior, 1) := by decide +kernel
theorem dX2_runWhile_153 : decode cX2_runWhile 153 = .ok (.iload 11, 2) := by decide +kernel
theorem dX2_runWhile_155 : decode cX2_runWhile 155 = .ok (.iand, 1) := by decide +kernel
theorem dX2_runWhile_156 : decode cX2_runWhile 156 = .ok (.invokestatic 76, 3) := by decide +kernel
theorem dX2_runWhile_159 : decode cX2_runWhile 159 = .ok (.istore 14, 2) := by decide +kernel
theorem dX2_runWhile_161 : decode cX2_runWhile 161 = .ok (.aload_n 0, 1) := by decide +kernel
theorem dX2_runWhile_162 : decode cX2_runWhile 162 = .ok (.getfield 20, 3) := by decide +kernel
theorem dX2_runWhile_165 : decode cX2_runWhile 165 = .ok (.iload 9, 2) := by decide +kernel
theorem dX2_runWhile_167 : decode cX2_runWhile 167 = .ok (.iload 12, 2) := by decide +kernel
theorem dX2_runWhile_169 : decode cX2_runWhile 169 = .ok (.invokestatic 80, 3) := by decide +kernel
theorem dX2_runWhile_172 : decode cX2_runWhile 172 = .ok (.aload_n 0, 1) := by decide +kernel
theorem dX2_runWhile_173 : decode cX2_runWhile 173 = .ok (.getfield 23, 3) := by decide +kernel
theorem dX2_runWhile_176 : decode cX2_runWhile 176 = .ok (.iload 9, 2) := by decide +kernel
theorem dX2_runWhile_178 : decode cX2_runWhile 178 = .ok (.iload 13, 2) := by decide +kernel
theorem dX2_runWhile_180 : decode cX2_runWhile 180 = .ok (.invokestatic 80, 3) := by decide +kernel
theorem dX2_runWhile_183 : decode cX2_runWhile 183 = .ok (.aload_n 0, 1) := by decide +kernel
theorem dX2_runWhile_184 : decode cX2_runWhile 184 = .ok (.getfield 26, 3) := by decide +kernel
theorem dX2_runWhile_187 : decode cX2_runWhile 187 = .ok (.iload 9, 2) := by decide +kernel
theorem dX2_runWhile_189 : decode cX2_runWhile 189 = .ok (.iload 14, 2) := by decide +kernel
theorem dX2_runWhile_191 : decode cX2_runWhile 191 = .ok (.invokestatic 80, 3) := by decide +kernel
theorem dX2_runWhile_194 : decode cX2_runWhile 194 = .ok (.lload_n 1, 1) := by decide +kernel
theorem dX2_runWhile_195 : decode cX2_runWhile 195 = .ok (.iload 9, 2) := by decide +kernel
theorem dX2_runWhile_197 : decode cX2_runWhile 197 = .ok (.invokestatic 84, 3) := by decide +kernel
theorem dX2_runWhile_200 : decode cX2_runWhile 200 = .ok (.ifCond .eq 18, 3) := by decide +kernel
theorem dX2_runWhile_203 : decode cX2_runWhile 203 = .ok (.iload 14, 2) := by decide +kernel
theorem dX2_runWhile_205 : decode cX2_runWhile 205 = .ok (.lload_n 3, 1) := by decide +kernel
theorem dX2_runWhile_206 : decode cX2_runWhile 206 = .ok (.lload 5, 2) := by decide +kernel
theorem dX2_runWhile_208 : decode cX2_runWhile 208 = .ok (.iload 9, 2) := by decide +kernel
theorem dX2_runWhile_210 : decode cX2_runWhile 210 = .ok (.invokestatic 65, 3) := by decide +kernel
theorem dX2_runWhile_213 : decode cX2_runWhile 213 = .ok (.if_icmp .eq 5, 3) := by decide +kernel
theorem dX2_runWhile_216 : decode cX2_runWhile 216 = .ok (.iconst 0, 1) := by decide +kernel
theorem dX2_runWhile_217 : decode cX2_runWhile 217 = .ok (.ireturn, 1) := by decide +kernel
theorem dX2_runWhile_218 : decode cX2_runWhile 218 = .ok (.iload 8, 2) := by decide +kernel
theorem dX2_runWhile_220 : decode cX2_runWhile 220 = .ok (.iload 14, 2) := by decide +kernel
theorem dX2_runWhile_222 : decode cX2_runWhile 222 = .ok (.invokestatic 90, 3) := by decide +kernel
theorem dX2_runWhile_225 : decode cX2_runWhile 225 = .ok (.istore 8, 2) := by decide +kernel
theorem dX2_runWhile_227 : decode cX2_runWhile 227 = .ok (.iinc 9 1, 3) := by decide +kernel
theorem dX2_runWhile_230 : decode cX2_runWhile 230 = .ok (.goto (-165), 3) := by decide +kernel
theorem dX2_runWhile_233 : decode cX2_runWhile 233 = .ok (.iconst 1, 1) := by decide +kernel
theorem dX2_runWhile_234 : decode cX2_runWhile 234 = .ok (.ireturn, 1) := by decide +kernel
theorem dX2_hurtsOf_0 : decode cX2_hurtsOf 0 = .ok (.aload_n 0, 1) := by decide +kernel
theorem dX2_hurtsOf_1 : decode cX2_hurtsOf 1 = .ok (.getfield 20, 3) := by decide +kernel
theorem dX2_hurtsOf_4 : decode cX2_hurtsOf 4 = .ok (.iload_n 1, 1) := by decide +kernel
theorem dX2_hurtsOf_5 : decode cX2_hurtsOf 5 = .ok (.laload, 1) := by decide +kernel
theorem dX2_hurtsOf_6 : decode cX2_hurtsOf 6 = .ok (.aload_n 0, 1) := by decide +kernel
theorem dX2_hurtsOf_7 : decode cX2_hurtsOf 7 = .ok (.getfield 23, 3) := by decide +kernel
theorem dX2_hurtsOf_10 : decode cX2_hurtsOf 10 = .ok (.iload_n 1, 1) := by decide +kernel
theorem dX2_hurtsOf_11 : decode cX2_hurtsOf 11 = .ok (.laload, 1) := by decide +kernel
theorem dX2_hurtsOf_12 : decode cX2_hurtsOf 12 = .ok (.lor, 1) := by decide +kernel
theorem dX2_hurtsOf_13 : decode cX2_hurtsOf 13 = .ok (.aload_n 0, 1) := by decide +kernel
theorem dX2_hurtsOf_14 : decode cX2_hurtsOf 14 = .ok (.getfield 26, 3) := by decide +kernel
theorem dX2_hurtsOf_17 : decode cX2_hurtsOf 17 = .ok (.iload_n 1, 1) := by decide +kernel
theorem dX2_hurtsOf_18 : decode cX2_hurtsOf 18 = .ok (.laload, 1) := by decide +kernel
theorem dX2_hurtsOf_19 : decode cX2_hurtsOf 19 = .ok (.ldc2_w 93, 3) := by decide +kernel
theorem dX2_hurtsOf_22 : decode cX2_hurtsOf 22 = .ok (.lxor, 1) := by decide +kernel
theorem dX2_hurtsOf_23 : decode cX2_hurtsOf 23 = .ok (.land, 1) := by decide +kernel
theorem dX2_hurtsOf_24 : decode cX2_hurtsOf 24 = .ok (.invokestatic 95, 3) := by decide +kernel
theorem dX2_hurtsOf_27 : decode cX2_hurtsOf 27 = .ok (.ireturn, 1) := by decide +kernel
theorem dX2_costOf_0 : decode cX2_costOf 0 = .ok (.aload_n 1, 1) := by decide +kernel
theorem dX2_costOf_1 : decode cX2_costOf 1 = .ok (.getfield 101, 3) := by decide +kernel
theorem dX2_costOf_4 : decode cX2_costOf 4 = .ok (.aload_n 0, 1) := by decide +kernel
theorem dX2_costOf_5 : decode cX2_costOf 5 = .ok (.getfield 20, 3) := by decide +kernel
theorem dX2_costOf_8 : decode cX2_costOf 8 = .ok (.iload_n 2, 1) := by decide +kernel
theorem dX2_costOf_9 : decode cX2_costOf 9 = .ok (.laload, 1) := by decide +kernel
theorem dX2_costOf_10 : decode cX2_costOf 10 = .ok (.aload_n 0, 1) := by decide +kernel
theorem dX2_costOf_11 : decode cX2_costOf 11 = .ok (.getfield 23, 3) := by decide +kernel
theorem dX2_costOf_14 : decode cX2_costOf 14 = .ok (.iload_n 2, 1) := by decide +kernel
theorem dX2_costOf_15 : decode cX2_costOf 15 = .ok (.laload, 1) := by decide +kernel
theorem dX2_costOf_16 : decode cX2_costOf 16 = .ok (.lor, 1) := by decide +kernel
theorem dX2_costOf_17 : decode cX2_costOf 17 = .ok (.invokestatic 95, 3) := by decide +kernel
theorem dX2_costOf_20 : decode cX2_costOf 20 = .ok (.imul, 1) := by decide +kernel
theorem dX2_costOf_21 : decode cX2_costOf 21 = .ok (.aload_n 1, 1) := by decide +kernel
theorem dX2_costOf_22 : decode cX2_costOf 22 = .ok (.getfield 104, 3) := by decide +kernel
theorem dX2_costOf_25 : decode cX2_costOf 25 = .ok (.aload_n 0, 1) := by decide +kernel
theorem dX2_costOf_26 : decode cX2_costOf 26 = .ok (.iload_n 2, 1) := by decide +kernel
theorem dX2_costOf_27 : decode cX2_costOf 27 = .ok (.invokevirtual 107, 3) := by decide +kernel
theorem dX2_costOf_30 : decode cX2_costOf 30 = .ok (.imul, 1) := by decide +kernel
theorem dX2_costOf_31 : decode cX2_costOf 31 = .ok (.iadd, 1) := by decide +kernel
theorem dX2_costOf_32 : decode cX2_costOf 32 = .ok (.ireturn, 1) := by decide +kernel
theorem dX2_sidesOf_0 : decode cX2_sidesOf 0 = .ok (.lload_n 0, 1) := by decide +kernel
theorem dX2_sidesOf_1 : decode cX2_sidesOf 1 = .ok (.iload 4, 2) := by decide +kernel
theorem dX2_sidesOf_3 : decode cX2_sidesOf 3 = .ok (.lshr, 1) := by decide +kernel
theorem dX2_sidesOf_4 : decode cX2_sidesOf 4 = .ok (.lconst 1, 1) := by decide +kernel
theorem dX2_sidesOf_5 : decode cX2_sidesOf 5 = .ok (.land, 1) := by decide +kernel
theorem dX2_sidesOf_6 : decode cX2_sidesOf 6 = .ok (.l2i, 1) := by decide +kernel
theorem dX2_sidesOf_7 : decode cX2_sidesOf 7 = .ok (.lload_n 2, 1) := by decide +kernel
theorem dX2_sidesOf_8 : decode cX2_sidesOf 8 = .ok (.iload 4, 2) := by decide +kernel
theorem dX2_sidesOf_10 : decode cX2_sidesOf 10 = .ok (.lshr, 1) := by decide +kernel
theorem dX2_sidesOf_11 : decode cX2_sidesOf 11 = .ok (.lconst 1, 1) := by decide +kernel
theorem dX2_sidesOf_12 : decode cX2_sidesOf 12 = .ok (.land, 1) := by decide +kernel
theorem dX2_sidesOf_13 : decode cX2_sidesOf 13 = .ok (.l2i, 1) := by decide +kernel
theorem dX2_sidesOf_14 : decode cX2_sidesOf 14 = .ok (.iconst 1, 1) := by decide +kernel
theorem dX2_sidesOf_15 : decode cX2_sidesOf 15 = .ok (.ishl, 1) := by decide +kernel
theorem dX2_sidesOf_16 : decode cX2_sidesOf 16 = .ok (.ior, 1) := by decide +kernel
theorem dX2_sidesOf_17 : decode cX2_sidesOf 17 = .ok (.ireturn, 1) := by decide +kernel
theorem dX2_note_0 : decode cX2_note 0 = .ok (.aload_n 0, 1) := by decide +kernel
theorem dX2_note_1 : decode cX2_note 1 = .ok (.iconst 0, 1) := by decide +kernel
theorem dX2_note_2 : decode cX2_note 2 = .ok (.dup2, 1) := by decide +kernel
theorem dX2_note_3 : decode cX2_note 3 = .ok (.laload, 1) := by decide +kernel
theorem dX2_note_4 : decode cX2_note 4 = .ok (.iload_n 2, 1) := by decide +kernel
theorem dX2_note_5 : decode cX2_note 5 = .ok (.iconst 1, 1) := by decide +kernel
theorem dX2_note_6 : decode cX2_note 6 = .ok (.iand, 1) := by decide +kernel
theorem dX2_note_7 : decode cX2_note 7 = .ok (.i2l, 1) := by decide +kernel
theorem dX2_note_8 : decode cX2_note 8 = .ok (.iload_n 1, 1) := by decide +kernel
theorem dX2_note_9 : decode cX2_note 9 = .ok (.lshl, 1) := by decide +kernel
theorem dX2_note_10 : decode cX2_note 10 = .ok (.lor, 1) := by decide +kernel
theorem dX2_note_11 : decode cX2_note 11 = .ok (.lastore, 1) := by decide +kernel
theorem dX2_note_12 : decode cX2_note 12 = .ok (.aload_n 0, 1) := by decide +kernel
theorem dX2_note_13 : decode cX2_note 13 = .ok (.iconst 1, 1) := by decide +kernel
theorem dX2_note_14 : decode cX2_note 14 = .ok (.dup2, 1) := by decide +kernel
theorem dX2_note_15 : decode cX2_note 15 = .ok (.laload, 1) := by decide +kernel
theorem dX2_note_16 : decode cX2_note 16 = .ok (.iload_n 2, 1) := by decide +kernel
theorem dX2_note_17 : decode cX2_note 17 = .ok (.iconst 1, 1) := by decide +kernel
theorem dX2_note_18 : decode cX2_note 18 = .ok (.ishr, 1) := by decide +kernel
theorem dX2_note_19 : decode cX2_note 19 = .ok (.i2l, 1) := by decide +kernel
theorem dX2_note_20 : decode cX2_note 20 = .ok (.iload_n 1, 1) := by decide +kernel
theorem dX2_note_21 : decode cX2_note 21 = .ok (.lshl, 1) := by decide +kernel
theorem dX2_note_22 : decode cX2_note 22 = .ok (.lor, 1) := by decide +kernel
theorem dX2_note_23 : decode cX2_note 23 = .ok (.lastore, 1) := by decide +kernel
theorem dX2_note_24 : decode cX2_note 24 = .ok (.return_, 1) := by decide +kernel
theorem dX10_backs_0 : decode cX10_backs 0 = .ok (.iload_n 0, 1) := by decide +kernel
theorem dX10_backs_1 : decode cX10_backs 1 = .ok (.iload_n 2, 1) := by decide +kernel
theorem dX10_backs_2 : decode cX10_backs 2 = .ok (.iand, 1) := by decide +kernel
theorem dX10_backs_3 : decode cX10_backs 3 = .ok (.istore_n 3, 1) := by decide +kernel
theorem dX10_backs_4 : decode cX10_backs 4 = .ok (.iload_n 0, 1) := by decide +kernel
theorem dX10_backs_5 : decode cX10_backs 5 = .ok (.iconst (-1), 1) := by decide +kernel
theorem dX10_backs_6 : decode cX10_backs 6 = .ok (.ixor, 1) := by decide +kernel
theorem dX10_backs_7 : decode cX10_backs 7 = .ok (.iload_n 1, 1) := by decide +kernel
theorem dX10_backs_8 : decode cX10_backs 8 = .ok (.iand, 1) := by decide +kernel
theorem dX10_backs_9 : decode cX10_backs 9 = .ok (.iload_n 3, 1) := by decide +kernel
theorem dX10_backs_10 : decode cX10_backs 10 = .ok (.iconst 1, 1) := by decide +kernel
theorem dX10_backs_11 : decode cX10_backs 11 = .ok (.iand, 1) := by decide +kernel
theorem dX10_backs_12 : decode cX10_backs 12 = .ok (.iconst 1, 1) := by decide +kernel
theorem dX10_backs_13 : decode cX10_backs 13 = .ok (.ishl, 1) := by decide +kernel
theorem dX10_backs_14 : decode cX10_backs 14 = .ok (.iload_n 3, 1) := by decide +kernel
theorem dX10_backs_15 : decode cX10_backs 15 = .ok (.iconst 1, 1) := by decide +kernel
theorem dX10_backs_16 : decode cX10_backs 16 = .ok (.ishr, 1) := by decide +kernel
theorem dX10_backs_17 : decode cX10_backs 17 = .ok (.ior, 1) := by decide +kernel
theorem dX10_backs_18 : decode cX10_backs 18 = .ok (.iand, 1) := by decide +kernel
theorem dX10_backs_19 : decode cX10_backs 19 = .ok (.ireturn, 1) := by decide +kernel
theorem dX10_after_0 : decode cX10_after 0 = .ok (.iload_n 0, 1) := by decide +kernel
theorem dX10_after_1 : decode cX10_after 1 = .ok (.iconst 5, 1) := by decide +kernel
theorem dX10_after_2 : decode cX10_after 2 = .ok (.iand, 1) := by decide +kernel
theorem dX10_after_3 : decode cX10_after 3 = .ok (.iconst 1, 1) := by decide +kernel
theorem dX10_after_4 : decode cX10_after 4 = .ok (.ishl, 1) := by decide +kernel
theorem dX10_after_5 : decode cX10_after 5 = .ok (.iload_n 1, 1) := by decide +kernel
theorem dX10_after_6 : decode cX10_after 6 = .ok (.iconst 1, 1) := by decide +kernel
theorem dX10_after_7 : decode cX10_after 7 = .ok (.iand, 1) := by decide +kernel
theorem dX10_after_8 : decode cX10_after 8 = .ok (.ior, 1) := by decide +kernel
theorem dX10_after_9 : decode cX10_after 9 = .ok (.iload_n 1, 1) := by decide +kernel
theorem dX10_after_10 : decode cX10_after 10 = .ok (.iconst 2, 1) := by decide +kernel
theorem dX10_after_11 : decode cX10_after 11 = .ok (.iand, 1) := by decide +kernel
theorem dX10_after_12 : decode cX10_after 12 = .ok (.iconst 1, 1) := by decide +kernel
theorem dX10_after_13 : decode cX10_after 13 = .ok (.ishl, 1) := by decide +kernel
theorem dX10_after_14 : decode cX10_after 14 = .ok (.ior, 1) := by decide +kernel
theorem dX10_after_15 : decode cX10_after 15 = .ok (.ireturn, 1) := by decide +kernel
