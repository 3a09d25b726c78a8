theorem dX5_goThrough_0 : decode cX5_goThrough 0 = .ok (.aload_n 1, 1) := by decide +kernel
theorem dX5_goThrough_1 : decode cX5_goThrough 1 = .ok (.iload_n 2, 1) := by decide +kernel
theorem dX5_goThrough_2 : decode cX5_goThrough 2 = .ok (.iconst 0, 1) := by decide +kernel
theorem dX5_goThrough_3 : decode cX5_goThrough 3 = .ok (.invokevirtual 62, 3) := by decide +kernel
theorem dX5_goThrough_6 : decode cX5_goThrough 6 = .ok (.istore 4, 2) := by decide +kernel
theorem dX5_goThrough_8 : decode cX5_goThrough 8 = .ok (.aload_n 1, 1) := by decide +kernel
theorem dX5_goThrough_9 : decode cX5_goThrough 9 = .ok (.iload_n 2, 1) := by decide +kernel
theorem dX5_goThrough_10 : decode cX5_goThrough 10 = .ok (.iconst 1, 1) := by decide +kernel
theorem dX5_goThrough_11 : decode cX5_goThrough 11 = .ok (.invokevirtual 62, 3) := by decide +kernel
theorem dX5_goThrough_14 : decode cX5_goThrough 14 = .ok (.istore 5, 2) := by decide +kernel
theorem dX5_goThrough_16 : decode cX5_goThrough 16 = .ok (.aload_n 0, 1) := by decide +kernel
theorem dX5_goThrough_17 : decode cX5_goThrough 17 = .ok (.getfield 18, 3) := by decide +kernel
theorem dX5_goThrough_20 : decode cX5_goThrough 20 = .ok (.iconst 2, 1) := by decide +kernel
theorem dX5_goThrough_21 : decode cX5_goThrough 21 = .ok (.iload_n 2, 1) := by decide +kernel
theorem dX5_goThrough_22 : decode cX5_goThrough 22 = .ok (.imul, 1) := by decide +kernel
theorem dX5_goThrough_23 : decode cX5_goThrough 23 = .ok (.laload, 1) := by decide +kernel
theorem dX5_goThrough_24 : decode cX5_goThrough 24 = .ok (.aload_n 0, 1) := by decide +kernel
theorem dX5_goThrough_25 : decode cX5_goThrough 25 = .ok (.getfield 18, 3) := by decide +kernel
theorem dX5_goThrough_28 : decode cX5_goThrough 28 = .ok (.iconst 2, 1) := by decide +kernel
theorem dX5_goThrough_29 : decode cX5_goThrough 29 = .ok (.iload_n 2, 1) := by decide +kernel
theorem dX5_goThrough_30 : decode cX5_goThrough 30 = .ok (.imul, 1) := by decide +kernel
theorem dX5_goThrough_31 : decode cX5_goThrough 31 = .ok (.iconst 1, 1) := by decide +kernel
theorem dX5_goThrough_32 : decode cX5_goThrough 32 = .ok (.iadd, 1) := by decide +kernel
theorem dX5_goThrough_33 : decode cX5_goThrough 33 = .ok (.laload, 1) := by decide +kernel
theorem dX5_goThrough_34 : decode cX5_goThrough 34 = .ok (.iload_n 3, 1) := by decide +kernel
theorem dX5_goThrough_35 : decode cX5_goThrough 35 = .ok (.invokestatic 66, 3) := by decide +kernel
theorem dX5_goThrough_38 : decode cX5_goThrough 38 = .ok (.istore 6, 2) := by decide +kernel
theorem dX5_goThrough_40 : decode cX5_goThrough 40 = .ok (.aload_n 0, 1) := by decide +kernel
theorem dX5_goThrough_41 : decode cX5_goThrough 41 = .ok (.getfield 22, 3) := by decide +kernel
theorem dX5_goThrough_44 : decode cX5_goThrough 44 = .ok (.iconst 2, 1) := by decide +kernel
theorem dX5_goThrough_45 : decode cX5_goThrough 45 = .ok (.iload_n 2, 1) := by decide +kernel
theorem dX5_goThrough_46 : decode cX5_goThrough 46 = .ok (.imul, 1) := by decide +kernel
theorem dX5_goThrough_47 : decode cX5_goThrough 47 = .ok (.laload, 1) := by decide +kernel
theorem dX5_goThrough_48 : decode cX5_goThrough 48 = .ok (.aload_n 0, 1) := by decide +kernel
theorem dX5_goThrough_49 : decode cX5_goThrough 49 = .ok (.getfield 22, 3) := by decide +kernel
theorem dX5_goThrough_52 : decode cX5_goThrough 52 = .ok (.iconst 2, 1) := by decide +kernel
theorem dX5_goThrough_53 : decode cX5_goThrough 53 = .ok (.iload_n 2, 1) := by decide +kernel
theorem dX5_goThrough_54 : decode cX5_goThrough 54 = .ok (.imul, 1) := by decide +kernel
theorem dX5_goThrough_55 : decode cX5_goThrough 55 = .ok (.iconst 1, 1) := by decide +kernel
theorem dX5_goThrough_56 : decode cX5_goThrough 56 = .ok (.iadd, 1) := by decide +kernel
theorem dX5_goThrough_57 : decode cX5_goThrough 57 = .ok (.laload, 1) := by decide +kernel
theorem dX5_goThrough_58 : decode cX5_goThrough 58 = .ok (.iload_n 3, 1) := by decide +kernel
theorem dX5_goThrough_59 : decode cX5_goThrough 59 = .ok (.invokestatic 66, 3) := by decide +kernel
theorem dX5_goThrough_62 : decode cX5_goThrough 62 = .ok (.istore 7, 2) := by decide +kernel
theorem dX5_goThrough_64 : decode cX5_goThrough 64 = .ok (.aload_n 0, 1) := by decide +kernel
theorem dX5_goThrough_65 : decode cX5_goThrough 65 = .ok (.aload_n 1, 1) := by decide +kernel
theorem dX5_goThrough_66 : decode cX5_goThrough 66 = .ok (.iload_n 2, 1) := by decide +kernel
theorem dX5_goThrough_67 : decode cX5_goThrough 67 = .ok (.iload 4, 2) := by decide +kernel
theorem dX5_goThrough_69 : decode cX5_goThrough 69 = .ok (.iload 5, 2) := by decide +kernel
theorem dX5_goThrough_71 : decode cX5_goThrough 71 = .ok (.aload_n 0, 1) := by decide +kernel
theorem dX5_goThrough_72 : decode cX5_goThrough 72 = .ok (.getfield 15, 3) := by decide +kernel
theorem dX5_goThrough_75 : decode cX5_goThrough 75 = .ok (.iload_n 2, 1) := by decide +kernel
theorem dX5_goThrough_76 : decode cX5_goThrough 76 = .ok (.iaload, 1) := by decide +kernel
theorem dX5_goThrough_77 : decode cX5_goThrough 77 = .ok (.invokestatic 72, 3) := by decide +kernel
theorem dX5_goThrough_80 : decode cX5_goThrough 80 = .ok (.iload 6, 2) := by decide +kernel
theorem dX5_goThrough_82 : decode cX5_goThrough 82 = .ok (.iand, 1) := by decide +kernel
theorem dX5_goThrough_83 : decode cX5_goThrough 83 = .ok (.invokevirtual 78, 3) := by decide +kernel
theorem dX5_goThrough_86 : decode cX5_goThrough 86 = .ok (.istore 8, 2) := by decide +kernel
theorem dX5_goThrough_88 : decode cX5_goThrough 88 = .ok (.iload 8, 2) := by decide +kernel
theorem dX5_goThrough_90 : decode cX5_goThrough 90 = .ok (.iload 4, 2) := by decide +kernel
theorem dX5_goThrough_92 : decode cX5_goThrough 92 = .ok (.iload 5, 2) := by decide +kernel
theorem dX5_goThrough_94 : decode cX5_goThrough 94 = .ok (.invokestatic 82, 3) := by decide +kernel
theorem dX5_goThrough_97 : decode cX5_goThrough 97 = .ok (.iload 6, 2) := by decide +kernel
theorem dX5_goThrough_99 : decode cX5_goThrough 99 = .ok (.iand, 1) := by decide +kernel
theorem dX5_goThrough_100 : decode cX5_goThrough 100 = .ok (.iload 7, 2) := by decide +kernel
theorem dX5_goThrough_102 : decode cX5_goThrough 102 = .ok (.invokestatic 85, 3) := by decide +kernel
theorem dX5_goThrough_105 : decode cX5_goThrough 105 = .ok (.istore 9, 2) := by decide +kernel
theorem dX5_goThrough_107 : decode cX5_goThrough 107 = .ok (.iload 8, 2) := by decide +kernel
theorem dX5_goThrough_109 : decode cX5_goThrough 109 = .ok (.aload_n 0, 1) := by decide +kernel
theorem dX5_goThrough_110 : decode cX5_goThrough 110 = .ok (.aload_n 1, 1) := by decide +kernel
theorem dX5_goThrough_111 : decode cX5_goThrough 111 = .ok (.iload_n 2, 1) := by decide +kernel
theorem dX5_goThrough_112 : decode cX5_goThrough 112 = .ok (.iload 9, 2) := by decide +kernel
theorem dX5_goThrough_114 : decode cX5_goThrough 114 = .ok (.invokevirtual 78, 3) := by decide +kernel
theorem dX5_goThrough_117 : decode cX5_goThrough 117 = .ok (.ior, 1) := by decide +kernel
theorem dX5_goThrough_118 : decode cX5_goThrough 118 = .ok (.istore 10, 2) := by decide +kernel
theorem dX5_goThrough_120 : decode cX5_goThrough 120 = .ok (.iload 10, 2) := by decide +kernel
theorem dX5_goThrough_122 : decode cX5_goThrough 122 = .ok (.ifCond .eq 10, 3) := by decide +kernel
theorem dX5_goThrough_125 : decode cX5_goThrough 125 = .ok (.aload_n 0, 1) := by decide +kernel
theorem dX5_goThrough_126 : decode cX5_goThrough 126 = .ok (.getfield 9, 3) := by decide +kernel
theorem dX5_goThrough_129 : decode cX5_goThrough 129 = .ok (.iload_n 2, 1) := by decide +kernel
theorem dX5_goThrough_130 : decode cX5_goThrough 130 = .ok (.iload_n 3, 1) := by decide +kernel
theorem dX5_goThrough_131 : decode cX5_goThrough 131 = .ok (.iastore, 1) := by decide +kernel
theorem dX5_goThrough_132 : decode cX5_goThrough 132 = .ok (.aload_n 0, 1) := by decide +kernel
theorem dX5_goThrough_133 : decode cX5_goThrough 133 = .ok (.dup, 1) := by decide +kernel
theorem dX5_goThrough_134 : decode cX5_goThrough 134 = .ok (.getfield 29, 3) := by decide +kernel
theorem dX5_goThrough_137 : decode cX5_goThrough 137 = .ok (.iload 10, 2) := by decide +kernel
theorem dX5_goThrough_139 : decode cX5_goThrough 139 = .ok (.invokestatic 88, 3) := by decide +kernel
theorem dX5_goThrough_142 : decode cX5_goThrough 142 = .ok (.iadd, 1) := by decide +kernel
theorem dX5_goThrough_143 : decode cX5_goThrough 143 = .ok (.putfield 29, 3) := by decide +kernel
theorem dX5_goThrough_146 : decode cX5_goThrough 146 = .ok (.aload_n 0, 1) := by decide +kernel
theorem dX5_goThrough_147 : decode cX5_goThrough 147 = .ok (.getfield 15, 3) := by decide +kernel
theorem dX5_goThrough_150 : decode cX5_goThrough 150 = .ok (.iload_n 2, 1) := by decide +kernel
theorem dX5_goThrough_151 : decode cX5_goThrough 151 = .ok (.aload_n 0, 1) := by decide +kernel
theorem dX5_goThrough_152 : decode cX5_goThrough 152 = .ok (.getfield 15, 3) := by decide +kernel
theorem dX5_goThrough_155 : decode cX5_goThrough 155 = .ok (.iload_n 2, 1) := by decide +kernel
theorem dX5_goThrough_156 : decode cX5_goThrough 156 = .ok (.iaload, 1) := by decide +kernel
theorem dX5_goThrough_157 : decode cX5_goThrough 157 = .ok (.iload 10, 2) := by decide +kernel
theorem dX5_goThrough_159 : decode cX5_goThrough 159 = .ok (.iload 7, 2) := by decide +kernel
theorem dX5_goThrough_161 : decode cX5_goThrough 161 = .ok (.iand, 1) := by decide +kernel
theorem dX5_goThrough_162 : decode cX5_goThrough 162 = .ok (.invokestatic 94, 3) := by decide +kernel
theorem dX5_goThrough_165 : decode cX5_goThrough 165 = .ok (.invokestatic 97, 3) := by decide +kernel
theorem dX5_goThrough_168 : decode cX5_goThrough 168 = .ok (.iastore, 1) := by decide +kernel
theorem dX5_goThrough_169 : decode cX5_goThrough 169 = .ok (.return_, 1) := by decide +kernel
theorem dX5_mindful_0 : decode cX5_mindful 0 = .ok (.iload_n 3, 1) := by decide +kernel
theorem dX5_mindful_1 : decode cX5_mindful 1 = .ok (.istore 4, 2) := by decide +kernel
theorem dX5_mindful_3 : decode cX5_mindful 3 = .ok (.iconst 0, 1) := by decide +kernel
theorem dX5_mindful_4 : decode cX5_mindful 4 = .ok (.istore 5, 2) := by decide +kernel
theorem dX5_mindful_6 : decode cX5_mindful 6 = .ok (.iload 5, 2) := by decide +kernel
theorem dX5_mindful_8 : decode cX5_mindful 8 = .ok (.iconst 2, 1) := by decide +kernel
theorem dX5_mindful_9 : decode cX5_mindful 9 = .ok (.if_icmp .ge 63, 3) := by decide +kernel
theorem dX5_mindful_12 : decode cX5_mindful 12 = .ok (.iload_n 3, 1) := by decide +kernel
theorem dX5_mindful_13 : decode cX5_mindful 13 = .ok (.iload 5, 2) := by decide +kernel
theorem dX5_mindful_15 : decode cX5_mindful 15 = .ok (.ishr, 1) := by decide +kernel
theorem dX5_mindful_16 : decode cX5_mindful 16 = .ok (.iconst 1, 1) := by decide +kernel
theorem dX5_mindful_17 : decode cX5_mindful 17 = .ok (.iand, 1) := by decide +kernel
theorem dX5_mindful_18 : decode cX5_mindful 18 = .ok (.iconst 1, 1) := by decide +kernel
theorem dX5_mindful_19 : decode cX5_mindful 19 = .ok (.if_icmp .ne 47, 3) := by decide +kernel
theorem dX5_mindful_22 : decode cX5_mindful 22 = .ok (.aload_n 0, 1) := by decide +kernel
theorem dX5_mindful_23 : decode cX5_mindful 23 = .ok (.invokevirtual 100, 3) := by decide +kernel
theorem dX5_mindful_26 : decode cX5_mindful 26 = .ok (.aload_n 1, 1) := by decide +kernel
theorem dX5_mindful_27 : decode cX5_mindful 27 = .ok (.getfield 104, 3) := by decide +kernel
theorem dX5_mindful_30 : decode cX5_mindful 30 = .ok (.aload_n 1, 1) := by decide +kernel
theorem dX5_mindful_31 : decode cX5_mindful 31 = .ok (.getfield 44, 3) := by decide +kernel
theorem dX5_mindful_34 : decode cX5_mindful 34 = .ok (.iconst 2, 1) := by decide +kernel
theorem dX5_mindful_35 : decode cX5_mindful 35 = .ok (.iload_n 2, 1) := by decide +kernel
theorem dX5_mindful_36 : decode cX5_mindful 36 = .ok (.imul, 1) := by decide +kernel
theorem dX5_mindful_37 : decode cX5_mindful 37 = .ok (.iload 5, 2) := by decide +kernel
theorem dX5_mindful_39 : decode cX5_mindful 39 = .ok (.iadd, 1) := by decide +kernel
theorem dX5_mindful_40 : decode cX5_mindful 40 = .ok (.iaload, 1) := by decide +kernel
theorem dX5_mindful_41 : decode cX5_mindful 41 = .ok (.iaload, 1) := by decide +kernel
theorem dX5_mindful_42 : decode cX5_mindful 42 = .ok (.if_icmp .ge 24, 3) := by decide +kernel
theorem dX5_mindful_45 : decode cX5_mindful 45 = .ok (.iload 4, 2) := by decide +kernel
theorem dX5_mindful_47 : decode cX5_mindful 47 = .ok (.iconst 1, 1) := by decide +kernel
theorem dX5_mindful_48 : decode cX5_mindful 48 = .ok (.iload 5, 2) := by decide +kernel
theorem dX5_mindful_50 : decode cX5_mindful 50 = .ok (.ishl, 1) := by decide +kernel
theorem dX5_mindful_51 : decode cX5_mindful 51 = .ok (.iconst (-1), 1) := by decide +kernel
theorem dX5_mindful_52 : decode cX5_mindful 52 = .ok (.ixor, 1) := by decide +kernel
theorem dX5_mindful_53 : decode cX5_mindful 53 = .ok (.iand, 1) := by decide +kernel
theorem dX5_mindful_54 : decode cX5_mindful 54 = .ok (.istore 4, 2) := by decide +kernel
theorem dX5_mindful_56 : decode cX5_mindful 56 = .ok (.aload_n 0, 1) := by decide +kernel
theorem dX5_mindful_57 : decode cX5_mindful 57 = .ok (.dup, 1) := by decide +kernel
theorem dX5_mindful_58 : decode cX5_mindful 58 = .ok (.getfield 33, 3) := by decide +kernel
theorem dX5_mindful_61 : decode cX5_mindful 61 = .ok (.iconst 1, 1) := by decide +kernel
theorem dX5_mindful_62 : decode cX5_mindful 62 = .ok (.iadd, 1) := by decide +kernel
theorem dX5_mindful_63 : decode cX5_mindful 63 = .ok (.putfield 33, 3) := by decide +kernel
theorem dX5_mindful_66 : decode cX5_mindful 66 = .ok (.iinc 5 1, 3) := by decide +kernel
theorem dX5_mindful_69 : decode cX5_mindful 69 = .ok (.goto (-63), 3) := by decide +kernel
theorem dX5_mindful_72 : decode cX5_mindful 72 = .ok (.iload 4, 2) := by decide +kernel
theorem dX5_mindful_74 : decode cX5_mindful 74 = .ok (.ireturn, 1) := by decide +kernel
theorem dX5_nextDraw_0 : decode cX5_nextDraw 0 = .ok (.aload_n 0, 1) := by decide +kernel
theorem dX5_nextDraw_1 : decode cX5_nextDraw 1 = .ok (.ldc2_w 107, 3) := by decide +kernel
theorem dX5_nextDraw_4 : decode cX5_nextDraw 4 = .ok (.aload_n 0, 1) := by decide +kernel
theorem dX5_nextDraw_5 : decode cX5_nextDraw 5 = .ok (.getfield 25, 3) := by decide +kernel
theorem dX5_nextDraw_8 : decode cX5_nextDraw 8 = .ok (.lmul, 1) := by decide +kernel
theorem dX5_nextDraw_9 : decode cX5_nextDraw 9 = .ok (.ldc2_w 109, 3) := by decide +kernel
theorem dX5_nextDraw_12 : decode cX5_nextDraw 12 = .ok (.ladd, 1) := by decide +kernel
theorem dX5_nextDraw_13 : decode cX5_nextDraw 13 = .ok (.ldc2_w 111, 3) := by decide +kernel
theorem dX5_nextDraw_16 : decode cX5_nextDraw 16 = .ok (.lrem, 1) := by decide +kernel
theorem dX5_nextDraw_17 : decode cX5_nextDraw 17 = .ok (.putfield 25, 3) := by decide +kernel
theorem dX5_nextDraw_20 : decode cX5_nextDraw 20 = .ok (.aload_n 0, 1) := by decide +kernel
theorem dX5_nextDraw_21 : decode cX5_nextDraw 21 = .ok (.getfield 25, 3) := by decide +kernel
theorem dX5_nextDraw_24 : decode cX5_nextDraw 24 = .ok (.ldc2_w 113, 3) := by decide +kernel
theorem dX5_nextDraw_27 : decode cX5_nextDraw 27 = .ok (.ldiv, 1) := by decide +kernel
theorem dX5_nextDraw_28 : decode cX5_nextDraw 28 = .ok (.ldc2_w 115, 3) := by decide +kernel
theorem dX5_nextDraw_31 : decode cX5_nextDraw 31 = .ok (.lrem, 1) := by decide +kernel
theorem dX5_nextDraw_32 : decode cX5_nextDraw 32 = .ok (.l2i, 1) := by decide +kernel
theorem dX5_nextDraw_33 : decode cX5_nextDraw 33 = .ok (.ireturn, 1) := by decide +kernel
theorem dX6_readRow_0 : decode cX6_readRow 0 = .ok (.aload_n 0, 1) := by decide +kernel
theorem dX6_readRow_1 : decode cX6_readRow 1 = .ok (.lconst 0, 1) := by decide +kernel
theorem dX6_readRow_2 : decode cX6_readRow 2 = .ok (.putfield 9, 3) := by decide +kernel
theorem dX6_readRow_5 : decode cX6_readRow 5 = .ok (.aload_n 0, 1) := by decide +kernel
theorem dX6_readRow_6 : decode cX6_readRow 6 = .ok (.lconst 0, 1) := by decide +kernel
theorem dX6_readRow_7 : decode cX6_readRow 7 = .ok (.putfield 15, 3) := by decide +kernel
theorem dX6_readRow_10 : decode cX6_readRow 10 = .ok (.aload_n 0, 1) := by decide +kernel
theorem dX6_readRow_11 : decode cX6_readRow 11 = .ok (.lconst 0, 1) := by decide +kernel
theorem dX6_readRow_12 : decode cX6_readRow 12 = .ok (.putfield 18, 3) := by decide +kernel
theorem dX6_readRow_15 : decode cX6_readRow 15 = .ok (.aload_n 0, 1) := by decide +kernel
theorem dX6_readRow_16 : decode cX6_readRow 16 = .ok (.iconst 0, 1) := by decide +kernel
theorem dX6_readRow_17 : decode cX6_readRow 17 = .ok (.putfield 21, 3) := by decide +kernel
theorem dX6_readRow_20 : decode cX6_readRow 20 = .ok (.aload_n 1, 1) := by decide +kernel
theorem dX6_readRow_21 : decode cX6_readRow 21 = .ok (.getfield 25, 3) := by decide +kernel
theorem dX6_readRow_24 : decode cX6_readRow 24 = .ok (.iload_n 2, 1) := by decide +kernel
theorem dX6_readRow_25 : decode cX6_readRow 25 = .ok (.iaload, 1) := by decide +kernel
theorem dX6_readRow_26 : decode cX6_readRow 26 = .ok (.iconst 3, 1) := by decide +kernel
theorem dX6_readRow_27 : decode cX6_readRow 27 = .ok (.irem, 1) := by decide +kernel
theorem dX6_readRow_28 : decode cX6_readRow 28 = .ok (.ifCond .eq 5, 3) := by decide +kernel
theorem dX6_readRow_31 : decode cX6_readRow 31 = .ok (.iconst 0, 1) := by decide +kernel
theorem dX6_readRow_32 : decode cX6_readRow 32 = .ok (.ireturn, 1) := by decide +kernel
theorem dX6_readRow_33 : decode cX6_readRow 33 = .ok (.iconst 0, 1) := by decide +kernel
theorem dX6_readRow_34 : decode cX6_readRow 34 = .ok (.istore 4, 2) := by decide +kernel
theorem dX6_readRow_36 : decode cX6_readRow 36 = .ok (.iload 4, 2) := by decide +kernel
theorem dX6_readRow_38 : decode cX6_readRow 38 = .ok (.aload_n 1, 1) := by decide +kernel
theorem dX6_readRow_39 : decode cX6_readRow 39 = .ok (.getfield 25, 3) := by decide +kernel
theorem dX6_readRow_42 : decode cX6_readRow 42 = .ok (.iload_n 2, 1) := by decide +kernel
theorem dX6_readRow_43 : decode cX6_readRow 43 = .ok (.iaload, 1) := by decide +kernel
theorem dX6_readRow_44 : decode cX6_readRow 44 = .ok (.if_icmp .ge 96, 3) := by decide +kernel
theorem dX6_readRow_47 : decode cX6_readRow 47 = .ok (.aload_n 1, 1) := by decide +kernel
theorem dX6_readRow_48 : decode cX6_readRow 48 = .ok (.iload_n 2, 1) := by decide +kernel
theorem dX6_readRow_49 : decode cX6_readRow 49 = .ok (.iload 4, 2) := by decide +kernel
theorem dX6_readRow_51 : decode cX6_readRow 51 = .ok (.invokevirtual 31, 3) := by decide +kernel
theorem dX6_readRow_54 : decode cX6_readRow 54 = .ok (.lstore 5, 2) := by decide +kernel
theorem dX6_readRow_56 : decode cX6_readRow 56 = .ok (.aload_n 1, 1) := by decide +kernel
theorem dX6_readRow_57 : decode cX6_readRow 57 = .ok (.iload_n 2, 1) := by decide +kernel
theorem dX6_readRow_58 : decode cX6_readRow 58 = .ok (.iload 4, 2) := by decide +kernel
theorem dX6_readRow_60 : decode cX6_readRow 60 = .ok (.iconst 1, 1) := by decide +kernel
theorem dX6_readRow_61 : decode cX6_readRow 61 = .ok (.iadd, 1) := by decide +kernel
theorem dX6_readRow_62 : decode cX6_readRow 62 = .ok (.invokevirtual 31, 3) := by decide +kernel
theorem dX6_readRow_65 : decode cX6_readRow 65 = .ok (.lstore 7, 2) := by decide +kernel
theorem dX6_readRow_67 : decode cX6_readRow 67 = .ok (.aload_n 1, 1) := by decide +kernel
theorem dX6_readRow_68 : decode cX6_readRow 68 = .ok (.iload_n 2, 1) := by decide +kernel
theorem dX6_readRow_69 : decode cX6_readRow 69 = .ok (.iload 4, 2) := by decide +kernel
theorem dX6_readRow_71 : decode cX6_readRow 71 = .ok (.iconst 2, 1) := by decide +kernel
theorem dX6_readRow_72 : decode cX6_readRow 72 = .ok (.iadd, 1) := by decide +kernel
theorem dX6_readRow_73 : decode cX6_readRow 73 = .ok (.invokevirtual 31, 3) := by decide +kernel
theorem dX6_readRow_76 : decode cX6_readRow 76 = .ok (.lstore 9, 2) := by decide +kernel
theorem dX6_readRow_78 : decode cX6_readRow 78 = .ok (.lload 5, 2) := by decide +kernel
theorem dX6_readRow_80 : decode cX6_readRow 80 = .ok (.lconst 0, 1) := by decide +kernel
theorem dX6_readRow_81 : decode cX6_readRow 81 = .ok (.lcmp, 1) := by decide +kernel
theorem dX6_readRow_82 : decode cX6_readRow 82 = .ok (.ifCond .lt 39, 3) := by decide +kernel
theorem dX6_readRow_85 : decode cX6_readRow 85 = .ok (.lload 5, 2) := by decide +kernel
theorem dX6_readRow_87 : decode cX6_readRow 87 = .ok (.iload_n 3, 1) := by decide +kernel
theorem dX6_readRow_88 : decode cX6_readRow 88 = .ok (.i2l, 1) := by decide +kernel
theorem dX6_readRow_89 : decode cX6_readRow 89 = .ok (.lcmp, 1) := by decide +kernel
theorem dX6_readRow_90 : decode cX6_readRow 90 = .ok (.ifCond .ge 31, 3) := by decide +kernel
theorem dX6_readRow_93 : decode cX6_readRow 93 = .ok (.lload 7, 2) := by decide +kernel
theorem dX6_readRow_95 : decode cX6_readRow 95 = .ok (.lconst 0, 1) := by decide +kernel
theorem dX6_readRow_96 : decode cX6_readRow 96 = .ok (.lcmp, 1) := by decide +kernel
theorem dX6_readRow_97 : decode cX6_readRow 97 = .ok (.ifCond .lt 24, 3) := by decide +kernel
theorem dX6_readRow_100 : decode cX6_readRow 100 = .ok (.lload 7, 2) := by decide +kernel
theorem dX6_readRow_102 : decode cX6_readRow 102 = .ok (.lconst 1, 1) := by decide +kernel
theorem dX6_readRow_103 : decode cX6_readRow 103 = .ok (.lcmp, 1) := by decide +kernel
theorem dX6_readRow_104 : decode cX6_readRow 104 = .ok (.ifCond .gt 17, 3) := by decide +kernel
theorem dX6_readRow_107 : decode cX6_readRow 107 = .ok (.lload 9, 2) := by decide +kernel
theorem dX6_readRow_109 : decode cX6_readRow 109 = .ok (.lconst 0, 1) := by decide +kernel
theorem dX6_readRow_110 : decode cX6_readRow 110 = .ok (.lcmp, 1) := by decide +kernel
theorem dX6_readRow_111 : decode cX6_readRow 111 = .ok (.ifCond .lt 10, 3) := by decide +kernel
theorem dX6_readRow_114 : decode cX6_readRow 114 = .ok (.lload 9, 2) := by decide +kernel
theorem dX6_readRow_116 : decode cX6_readRow 116 = .ok (.lconst 1, 1) := by decide +kernel
theorem dX6_readRow_117 : decode cX6_readRow 117 = .ok (.lcmp, 1) := by decide +kernel
theorem dX6_readRow_118 : decode cX6_readRow 118 = .ok (.ifCond .le 5, 3) := by decide +kernel
theorem dX6_readRow_121 : decode cX6_readRow 121 = .ok (.iconst 0, 1) := by decide +kernel
theorem dX6_readRow_122 : decode cX6_readRow 122 = .ok (.ireturn, 1) := by decide +kernel
theorem dX6_readRow_123 : decode cX6_readRow 123 = .ok (.aload_n 0, 1) := by decide +kernel
theorem dX6_readRow_124 : decode cX6_readRow 124 = .ok (.lload 5, 2) := by decide +kernel
theorem dX6_readRow_126 : decode cX6_readRow 126 = .ok (.l2i, 1) := by decide +kernel
theorem dX6_readRow_127 : decode cX6_readRow 127 = .ok (.lload 7, 2) := by decide +kernel
theorem dX6_readRow_129 : decode cX6_readRow 129 = .ok (.lload 9, 2) := by decide +kernel
theorem dX6_readRow_131 : decode cX6_readRow 131 = .ok (.invokevirtual 35, 3) := by decide +kernel
theorem dX6_readRow_134 : decode cX6_readRow 134 = .ok (.iinc 4 3, 3) := by decide +kernel
theorem dX6_readRow_137 : decode cX6_readRow 137 = .ok (.goto (-101), 3) := by decide +kernel
theorem dX6_readRow_140 : decode cX6_readRow 140 = .ok (.iconst 1, 1) := by decide +kernel
theorem dX6_readRow_141 : decode cX6_readRow 141 = .ok (.ireturn, 1) := by decide +kernel
theorem dX6_mayCome_0 : decode cX6_mayCome 0 = .ok (.aload_n 0, 1) := by decide +kernel
theorem dX6_mayCome_1 : decode cX6_mayCome 1 = .ok (.getfield 21, 3) := by decide +kernel
theorem dX6_mayCome_4 : decode cX6_mayCome 4 = .ok (.ifCond .eq 5, 3) := by decide +kernel
theorem dX6_mayCome_7 : decode cX6_mayCome 7 = .ok (.iconst 0, 1) := by decide +kernel
theorem dX6_mayCome_8 : decode cX6_mayCome 8 = .ok (.ireturn, 1) := by decide +kernel
theorem dX6_mayCome_9 : decode cX6_mayCome 9 = .ok (.aload_n 1, 1) := by decide +kernel
theorem dX6_mayCome_10 : decode cX6_mayCome 10 = .ok (.getfield 39, 3) := by decide +kernel
theorem dX6_mayCome_13 : decode cX6_mayCome 13 = .ok (.iconst 0, 1) := by decide +kernel
theorem dX6_mayCome_14 : decode cX6_mayCome 14 = .ok (.iload_n 2, 1) := by decide +kernel
theorem dX6_mayCome_15 : decode cX6_mayCome 15 = .ok (.iastore, 1) := by decide +kernel
theorem dX6_mayCome_16 : decode cX6_mayCome 16 = .ok (.aload_n 1, 1) := by decide +kernel
theorem dX6_mayCome_17 : decode cX6_mayCome 17 = .ok (.getfield 39, 3) := by decide +kernel
theorem dX6_mayCome_20 : decode cX6_mayCome 20 = .ok (.iconst 1, 1) := by decide +kernel
theorem dX6_mayCome_21 : decode cX6_mayCome 21 = .ok (.iload_n 3, 1) := by decide +kernel
theorem dX6_mayCome_22 : decode cX6_mayCome 22 = .ok (.iastore, 1) := by decide +kernel
theorem dX6_mayCome_23 : decode cX6_mayCome 23 = .ok (.aload_n 1, 1) := by decide +kernel
theorem dX6_mayCome_24 : decode cX6_mayCome 24 = .ok (.aload_n 0, 1) := by decide +kernel
theorem dX6_mayCome_25 : decode cX6_mayCome 25 = .ok (.getfield 9, 3) := by decide +kernel
theorem dX6_mayCome_28 : decode cX6_mayCome 28 = .ok (.invokestatic 44, 3) := by decide +kernel
theorem dX6_mayCome_31 : decode cX6_mayCome 31 = .ok (.iconst 1, 1) := by decide +kernel
theorem dX6_mayCome_32 : decode cX6_mayCome 32 = .ok (.iadd, 1) := by decide +kernel
theorem dX6_mayCome_33 : decode cX6_mayCome 33 = .ok (.putfield 48, 3) := by decide +kernel
theorem dX6_mayCome_36 : decode cX6_mayCome 36 = .ok (.aload_n 1, 1) := by decide +kernel
theorem dX6_mayCome_37 : decode cX6_mayCome 37 = .ok (.aload_n 0, 1) := by decide +kernel
theorem dX6_mayCome_38 : decode cX6_mayCome 38 = .ok (.getfield 9, 3) := by decide +kernel
theorem dX6_mayCome_41 : decode cX6_mayCome 41 = .ok (.aload_n 0, 1) := by decide +kernel
theorem dX6_mayCome_42 : decode cX6_mayCome 42 = .ok (.getfield 15, 3) := by decide +kernel
theorem dX6_mayCome_45 : decode cX6_mayCome 45 = .ok (.aload_n 0, 1) := by decide +kernel
theorem dX6_mayCome_46 : decode cX6_mayCome 46 = .ok (.getfield 18, 3) := by decide +kernel
theorem dX6_mayCome_49 : decode cX6_mayCome 49 = .ok (.invokevirtual 51, 3) := by decide +kernel
theorem dX6_mayCome_52 : decode cX6_mayCome 52 = .ok (.ireturn, 1) := by decide +kernel
