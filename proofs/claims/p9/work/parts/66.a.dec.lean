theorem dX12_pairOf_0 : decode cX12_pairOf 0 = .ok (.iconst 0, 1) := by decide +kernel
theorem dX12_pairOf_1 : decode cX12_pairOf 1 = .ok (.istore 4, 2) := by decide +kernel
theorem dX12_pairOf_3 : decode cX12_pairOf 3 = .ok (.iload 4, 2) := by decide +kernel
theorem dX12_pairOf_5 : decode cX12_pairOf 5 = .ok (.aload_n 0, 1) := by decide +kernel
theorem dX12_pairOf_6 : decode cX12_pairOf 6 = .ok (.getfield 34, 3) := by decide +kernel
theorem dX12_pairOf_9 : decode cX12_pairOf 9 = .ok (.iconst 5, 1) := by decide +kernel
theorem dX12_pairOf_10 : decode cX12_pairOf 10 = .ok (.iload_n 1, 1) := by decide +kernel
theorem dX12_pairOf_11 : decode cX12_pairOf 11 = .ok (.imul, 1) := by decide +kernel
theorem dX12_pairOf_12 : decode cX12_pairOf 12 = .ok (.iconst 4, 1) := by decide +kernel
theorem dX12_pairOf_13 : decode cX12_pairOf 13 = .ok (.iadd, 1) := by decide +kernel
theorem dX12_pairOf_14 : decode cX12_pairOf 14 = .ok (.iaload, 1) := by decide +kernel
theorem dX12_pairOf_15 : decode cX12_pairOf 15 = .ok (.if_icmp .ge 71, 3) := by decide +kernel
theorem dX12_pairOf_18 : decode cX12_pairOf 18 = .ok (.iconst 3, 1) := by decide +kernel
theorem dX12_pairOf_19 : decode cX12_pairOf 19 = .ok (.bipush 16, 2) := by decide +kernel
theorem dX12_pairOf_21 : decode cX12_pairOf 21 = .ok (.iload_n 1, 1) := by decide +kernel
theorem dX12_pairOf_22 : decode cX12_pairOf 22 = .ok (.imul, 1) := by decide +kernel
theorem dX12_pairOf_23 : decode cX12_pairOf 23 = .ok (.iload 4, 2) := by decide +kernel
theorem dX12_pairOf_25 : decode cX12_pairOf 25 = .ok (.iadd, 1) := by decide +kernel
theorem dX12_pairOf_26 : decode cX12_pairOf 26 = .ok (.imul, 1) := by decide +kernel
theorem dX12_pairOf_27 : decode cX12_pairOf 27 = .ok (.istore 5, 2) := by decide +kernel
theorem dX12_pairOf_29 : decode cX12_pairOf 29 = .ok (.aload_n 0, 1) := by decide +kernel
theorem dX12_pairOf_30 : decode cX12_pairOf 30 = .ok (.getfield 40, 3) := by decide +kernel
theorem dX12_pairOf_33 : decode cX12_pairOf 33 = .ok (.iload 5, 2) := by decide +kernel
theorem dX12_pairOf_35 : decode cX12_pairOf 35 = .ok (.iaload, 1) := by decide +kernel
theorem dX12_pairOf_36 : decode cX12_pairOf 36 = .ok (.iload_n 2, 1) := by decide +kernel
theorem dX12_pairOf_37 : decode cX12_pairOf 37 = .ok (.if_icmp .ne 16, 3) := by decide +kernel
theorem dX12_pairOf_40 : decode cX12_pairOf 40 = .ok (.aload_n 0, 1) := by decide +kernel
theorem dX12_pairOf_41 : decode cX12_pairOf 41 = .ok (.getfield 40, 3) := by decide +kernel
theorem dX12_pairOf_44 : decode cX12_pairOf 44 = .ok (.iload 5, 2) := by decide +kernel
theorem dX12_pairOf_46 : decode cX12_pairOf 46 = .ok (.iconst 1, 1) := by decide +kernel
theorem dX12_pairOf_47 : decode cX12_pairOf 47 = .ok (.iadd, 1) := by decide +kernel
theorem dX12_pairOf_48 : decode cX12_pairOf 48 = .ok (.iaload, 1) := by decide +kernel
theorem dX12_pairOf_49 : decode cX12_pairOf 49 = .ok (.iload_n 3, 1) := by decide +kernel
theorem dX12_pairOf_50 : decode cX12_pairOf 50 = .ok (.if_icmp .eq 27, 3) := by decide +kernel
theorem dX12_pairOf_53 : decode cX12_pairOf 53 = .ok (.aload_n 0, 1) := by decide +kernel
theorem dX12_pairOf_54 : decode cX12_pairOf 54 = .ok (.getfield 40, 3) := by decide +kernel
theorem dX12_pairOf_57 : decode cX12_pairOf 57 = .ok (.iload 5, 2) := by decide +kernel
theorem dX12_pairOf_59 : decode cX12_pairOf 59 = .ok (.iaload, 1) := by decide +kernel
theorem dX12_pairOf_60 : decode cX12_pairOf 60 = .ok (.iload_n 3, 1) := by decide +kernel
theorem dX12_pairOf_61 : decode cX12_pairOf 61 = .ok (.if_icmp .ne 19, 3) := by decide +kernel
theorem dX12_pairOf_64 : decode cX12_pairOf 64 = .ok (.aload_n 0, 1) := by decide +kernel
theorem dX12_pairOf_65 : decode cX12_pairOf 65 = .ok (.getfield 40, 3) := by decide +kernel
theorem dX12_pairOf_68 : decode cX12_pairOf 68 = .ok (.iload 5, 2) := by decide +kernel
theorem dX12_pairOf_70 : decode cX12_pairOf 70 = .ok (.iconst 1, 1) := by decide +kernel
theorem dX12_pairOf_71 : decode cX12_pairOf 71 = .ok (.iadd, 1) := by decide +kernel
theorem dX12_pairOf_72 : decode cX12_pairOf 72 = .ok (.iaload, 1) := by decide +kernel
theorem dX12_pairOf_73 : decode cX12_pairOf 73 = .ok (.iload_n 2, 1) := by decide +kernel
theorem dX12_pairOf_74 : decode cX12_pairOf 74 = .ok (.if_icmp .ne 6, 3) := by decide +kernel
theorem dX12_pairOf_77 : decode cX12_pairOf 77 = .ok (.iload 4, 2) := by decide +kernel
theorem dX12_pairOf_79 : decode cX12_pairOf 79 = .ok (.ireturn, 1) := by decide +kernel
theorem dX12_pairOf_80 : decode cX12_pairOf 80 = .ok (.iinc 4 1, 3) := by decide +kernel
theorem dX12_pairOf_83 : decode cX12_pairOf 83 = .ok (.goto (-80), 3) := by decide +kernel
theorem dX12_pairOf_86 : decode cX12_pairOf 86 = .ok (.iconst (-1), 1) := by decide +kernel
theorem dX12_pairOf_87 : decode cX12_pairOf 87 = .ok (.ireturn, 1) := by decide +kernel
theorem dX12_pairLine_0 : decode cX12_pairLine 0 = .ok (.aload_n 0, 1) := by decide +kernel
theorem dX12_pairLine_1 : decode cX12_pairLine 1 = .ok (.iconst 4, 1) := by decide +kernel
theorem dX12_pairLine_2 : decode cX12_pairLine 2 = .ok (.invokevirtual 189, 3) := by decide +kernel
theorem dX12_pairLine_5 : decode cX12_pairLine 5 = .ok (.istore_n 1, 1) := by decide +kernel
theorem dX12_pairLine_6 : decode cX12_pairLine 6 = .ok (.iconst 3, 1) := by decide +kernel
theorem dX12_pairLine_7 : decode cX12_pairLine 7 = .ok (.bipush 64, 2) := by decide +kernel
theorem dX12_pairLine_9 : decode cX12_pairLine 9 = .ok (.iload_n 1, 1) := by decide +kernel
theorem dX12_pairLine_10 : decode cX12_pairLine 10 = .ok (.iadd, 1) := by decide +kernel
theorem dX12_pairLine_11 : decode cX12_pairLine 11 = .ok (.imul, 1) := by decide +kernel
theorem dX12_pairLine_12 : decode cX12_pairLine 12 = .ok (.istore_n 2, 1) := by decide +kernel
theorem dX12_pairLine_13 : decode cX12_pairLine 13 = .ok (.aload_n 0, 1) := by decide +kernel
theorem dX12_pairLine_14 : decode cX12_pairLine 14 = .ok (.invokevirtual 206, 3) := by decide +kernel
theorem dX12_pairLine_17 : decode cX12_pairLine 17 = .ok (.istore_n 3, 1) := by decide +kernel
theorem dX12_pairLine_18 : decode cX12_pairLine 18 = .ok (.aload_n 0, 1) := by decide +kernel
theorem dX12_pairLine_19 : decode cX12_pairLine 19 = .ok (.getfield 159, 3) := by decide +kernel
theorem dX12_pairLine_22 : decode cX12_pairLine 22 = .ok (.ifCond .ne 50, 3) := by decide +kernel
theorem dX12_pairLine_25 : decode cX12_pairLine 25 = .ok (.aload_n 0, 1) := by decide +kernel
theorem dX12_pairLine_26 : decode cX12_pairLine 26 = .ok (.getfield 148, 3) := by decide +kernel
theorem dX12_pairLine_29 : decode cX12_pairLine 29 = .ok (.iconst 2, 1) := by decide +kernel
theorem dX12_pairLine_30 : decode cX12_pairLine 30 = .ok (.if_icmp .ne 42, 3) := by decide +kernel
theorem dX12_pairLine_33 : decode cX12_pairLine 33 = .ok (.aload_n 0, 1) := by decide +kernel
theorem dX12_pairLine_34 : decode cX12_pairLine 34 = .ok (.getfield 141, 3) := by decide +kernel
theorem dX12_pairLine_37 : decode cX12_pairLine 37 = .ok (.aload_n 0, 1) := by decide +kernel
theorem dX12_pairLine_38 : decode cX12_pairLine 38 = .ok (.iconst 3, 1) := by decide +kernel
theorem dX12_pairLine_39 : decode cX12_pairLine 39 = .ok (.invokevirtual 189, 3) := by decide +kernel
theorem dX12_pairLine_42 : decode cX12_pairLine 42 = .ok (.if_icmp .ge 30, 3) := by decide +kernel
theorem dX12_pairLine_45 : decode cX12_pairLine 45 = .ok (.aload_n 0, 1) := by decide +kernel
theorem dX12_pairLine_46 : decode cX12_pairLine 46 = .ok (.getfield 141, 3) := by decide +kernel
theorem dX12_pairLine_49 : decode cX12_pairLine 49 = .ok (.iload_n 3, 1) := by decide +kernel
theorem dX12_pairLine_50 : decode cX12_pairLine 50 = .ok (.if_icmp .eq 17, 3) := by decide +kernel
theorem dX12_pairLine_53 : decode cX12_pairLine 53 = .ok (.aload_n 0, 1) := by decide +kernel
theorem dX12_pairLine_54 : decode cX12_pairLine 54 = .ok (.iconst 4, 1) := by decide +kernel
theorem dX12_pairLine_55 : decode cX12_pairLine 55 = .ok (.iload_n 3, 1) := by decide +kernel
theorem dX12_pairLine_56 : decode cX12_pairLine 56 = .ok (.aload_n 0, 1) := by decide +kernel
theorem dX12_pairLine_57 : decode cX12_pairLine 57 = .ok (.getfield 141, 3) := by decide +kernel
theorem dX12_pairLine_60 : decode cX12_pairLine 60 = .ok (.invokevirtual 210, 3) := by decide +kernel
theorem dX12_pairLine_63 : decode cX12_pairLine 63 = .ok (.iconst (-1), 1) := by decide +kernel
theorem dX12_pairLine_64 : decode cX12_pairLine 64 = .ok (.if_icmp .eq 8, 3) := by decide +kernel
theorem dX12_pairLine_67 : decode cX12_pairLine 67 = .ok (.aload_n 0, 1) := by decide +kernel
theorem dX12_pairLine_68 : decode cX12_pairLine 68 = .ok (.iconst 2, 1) := by decide +kernel
theorem dX12_pairLine_69 : decode cX12_pairLine 69 = .ok (.invokevirtual 175, 3) := by decide +kernel
theorem dX12_pairLine_72 : decode cX12_pairLine 72 = .ok (.aload_n 0, 1) := by decide +kernel
theorem dX12_pairLine_73 : decode cX12_pairLine 73 = .ok (.invokevirtual 206, 3) := by decide +kernel
theorem dX12_pairLine_76 : decode cX12_pairLine 76 = .ok (.istore 4, 2) := by decide +kernel
theorem dX12_pairLine_78 : decode cX12_pairLine 78 = .ok (.aload_n 0, 1) := by decide +kernel
theorem dX12_pairLine_79 : decode cX12_pairLine 79 = .ok (.ldc2_w 214, 3) := by decide +kernel
theorem dX12_pairLine_82 : decode cX12_pairLine 82 = .ok (.iconst 0, 1) := by decide +kernel
theorem dX12_pairLine_83 : decode cX12_pairLine 83 = .ok (.bipush 15, 2) := by decide +kernel
theorem dX12_pairLine_85 : decode cX12_pairLine 85 = .ok (.invokevirtual 195, 3) := by decide +kernel
theorem dX12_pairLine_88 : decode cX12_pairLine 88 = .ok (.istore 5, 2) := by decide +kernel
theorem dX12_pairLine_90 : decode cX12_pairLine 90 = .ok (.aload_n 0, 1) := by decide +kernel
theorem dX12_pairLine_91 : decode cX12_pairLine 91 = .ok (.getfield 159, 3) := by decide +kernel
theorem dX12_pairLine_94 : decode cX12_pairLine 94 = .ok (.ifCond .eq 4, 3) := by decide +kernel
theorem dX12_pairLine_97 : decode cX12_pairLine 97 = .ok (.return_, 1) := by decide +kernel
theorem dX12_pairLine_98 : decode cX12_pairLine 98 = .ok (.aload_n 0, 1) := by decide +kernel
theorem dX12_pairLine_99 : decode cX12_pairLine 99 = .ok (.getfield 40, 3) := by decide +kernel
theorem dX12_pairLine_102 : decode cX12_pairLine 102 = .ok (.iload_n 2, 1) := by decide +kernel
theorem dX12_pairLine_103 : decode cX12_pairLine 103 = .ok (.iload_n 3, 1) := by decide +kernel
theorem dX12_pairLine_104 : decode cX12_pairLine 104 = .ok (.iastore, 1) := by decide +kernel
theorem dX12_pairLine_105 : decode cX12_pairLine 105 = .ok (.aload_n 0, 1) := by decide +kernel
theorem dX12_pairLine_106 : decode cX12_pairLine 106 = .ok (.getfield 40, 3) := by decide +kernel
theorem dX12_pairLine_109 : decode cX12_pairLine 109 = .ok (.iload_n 2, 1) := by decide +kernel
theorem dX12_pairLine_110 : decode cX12_pairLine 110 = .ok (.iconst 1, 1) := by decide +kernel
theorem dX12_pairLine_111 : decode cX12_pairLine 111 = .ok (.iadd, 1) := by decide +kernel
theorem dX12_pairLine_112 : decode cX12_pairLine 112 = .ok (.iload 4, 2) := by decide +kernel
theorem dX12_pairLine_114 : decode cX12_pairLine 114 = .ok (.iastore, 1) := by decide +kernel
theorem dX12_pairLine_115 : decode cX12_pairLine 115 = .ok (.aload_n 0, 1) := by decide +kernel
theorem dX12_pairLine_116 : decode cX12_pairLine 116 = .ok (.getfield 40, 3) := by decide +kernel
theorem dX12_pairLine_119 : decode cX12_pairLine 119 = .ok (.iload_n 2, 1) := by decide +kernel
theorem dX12_pairLine_120 : decode cX12_pairLine 120 = .ok (.iconst 2, 1) := by decide +kernel
theorem dX12_pairLine_121 : decode cX12_pairLine 121 = .ok (.iadd, 1) := by decide +kernel
theorem dX12_pairLine_122 : decode cX12_pairLine 122 = .ok (.iload 5, 2) := by decide +kernel
theorem dX12_pairLine_124 : decode cX12_pairLine 124 = .ok (.iastore, 1) := by decide +kernel
theorem dX12_pairLine_125 : decode cX12_pairLine 125 = .ok (.aload_n 0, 1) := by decide +kernel
theorem dX12_pairLine_126 : decode cX12_pairLine 126 = .ok (.getfield 43, 3) := by decide +kernel
theorem dX12_pairLine_129 : decode cX12_pairLine 129 = .ok (.iconst 2, 1) := by decide +kernel
theorem dX12_pairLine_130 : decode cX12_pairLine 130 = .ok (.bipush 64, 2) := by decide +kernel
theorem dX12_pairLine_132 : decode cX12_pairLine 132 = .ok (.iload_n 1, 1) := by decide +kernel
theorem dX12_pairLine_133 : decode cX12_pairLine 133 = .ok (.iadd, 1) := by decide +kernel
theorem dX12_pairLine_134 : decode cX12_pairLine 134 = .ok (.imul, 1) := by decide +kernel
theorem dX12_pairLine_135 : decode cX12_pairLine 135 = .ok (.lconst 0, 1) := by decide +kernel
theorem dX12_pairLine_136 : decode cX12_pairLine 136 = .ok (.lastore, 1) := by decide +kernel
theorem dX12_pairLine_137 : decode cX12_pairLine 137 = .ok (.aload_n 0, 1) := by decide +kernel
theorem dX12_pairLine_138 : decode cX12_pairLine 138 = .ok (.getfield 43, 3) := by decide +kernel
theorem dX12_pairLine_141 : decode cX12_pairLine 141 = .ok (.iconst 2, 1) := by decide +kernel
theorem dX12_pairLine_142 : decode cX12_pairLine 142 = .ok (.bipush 64, 2) := by decide +kernel
theorem dX12_pairLine_144 : decode cX12_pairLine 144 = .ok (.iload_n 1, 1) := by decide +kernel
theorem dX12_pairLine_145 : decode cX12_pairLine 145 = .ok (.iadd, 1) := by decide +kernel
theorem dX12_pairLine_146 : decode cX12_pairLine 146 = .ok (.imul, 1) := by decide +kernel
theorem dX12_pairLine_147 : decode cX12_pairLine 147 = .ok (.iconst 1, 1) := by decide +kernel
theorem dX12_pairLine_148 : decode cX12_pairLine 148 = .ok (.iadd, 1) := by decide +kernel
theorem dX12_pairLine_149 : decode cX12_pairLine 149 = .ok (.lconst 0, 1) := by decide +kernel
theorem dX12_pairLine_150 : decode cX12_pairLine 150 = .ok (.lastore, 1) := by decide +kernel
theorem dX12_pairLine_151 : decode cX12_pairLine 151 = .ok (.aload_n 0, 1) := by decide +kernel
theorem dX12_pairLine_152 : decode cX12_pairLine 152 = .ok (.getfield 34, 3) := by decide +kernel
theorem dX12_pairLine_155 : decode cX12_pairLine 155 = .ok (.bipush 24, 2) := by decide +kernel
theorem dX12_pairLine_157 : decode cX12_pairLine 157 = .ok (.dup2, 1) := by decide +kernel
theorem dX12_pairLine_158 : decode cX12_pairLine 158 = .ok (.iaload, 1) := by decide +kernel
theorem dX12_pairLine_159 : decode cX12_pairLine 159 = .ok (.iconst 1, 1) := by decide +kernel
theorem dX12_pairLine_160 : decode cX12_pairLine 160 = .ok (.iadd, 1) := by decide +kernel
theorem dX12_pairLine_161 : decode cX12_pairLine 161 = .ok (.iastore, 1) := by decide +kernel
theorem dX12_pairLine_162 : decode cX12_pairLine 162 = .ok (.return_, 1) := by decide +kernel
theorem dX12_lostLine_0 : decode cX12_lostLine 0 = .ok (.aload_n 0, 1) := by decide +kernel
theorem dX12_lostLine_1 : decode cX12_lostLine 1 = .ok (.invokevirtual 216, 3) := by decide +kernel
theorem dX12_lostLine_4 : decode cX12_lostLine 4 = .ok (.istore_n 1, 1) := by decide +kernel
theorem dX12_lostLine_5 : decode cX12_lostLine 5 = .ok (.aload_n 0, 1) := by decide +kernel
theorem dX12_lostLine_6 : decode cX12_lostLine 6 = .ok (.invokevirtual 206, 3) := by decide +kernel
theorem dX12_lostLine_9 : decode cX12_lostLine 9 = .ok (.istore_n 2, 1) := by decide +kernel
theorem dX12_lostLine_10 : decode cX12_lostLine 10 = .ok (.aload_n 0, 1) := by decide +kernel
theorem dX12_lostLine_11 : decode cX12_lostLine 11 = .ok (.getfield 159, 3) := by decide +kernel
theorem dX12_lostLine_14 : decode cX12_lostLine 14 = .ok (.ifCond .ne 42, 3) := by decide +kernel
theorem dX12_lostLine_17 : decode cX12_lostLine 17 = .ok (.aload_n 0, 1) := by decide +kernel
theorem dX12_lostLine_18 : decode cX12_lostLine 18 = .ok (.getfield 148, 3) := by decide +kernel
theorem dX12_lostLine_21 : decode cX12_lostLine 21 = .ok (.iconst 2, 1) := by decide +kernel
theorem dX12_lostLine_22 : decode cX12_lostLine 22 = .ok (.if_icmp .ne 34, 3) := by decide +kernel
theorem dX12_lostLine_25 : decode cX12_lostLine 25 = .ok (.aload_n 0, 1) := by decide +kernel
theorem dX12_lostLine_26 : decode cX12_lostLine 26 = .ok (.getfield 141, 3) := by decide +kernel
theorem dX12_lostLine_29 : decode cX12_lostLine 29 = .ok (.aload_n 0, 1) := by decide +kernel
theorem dX12_lostLine_30 : decode cX12_lostLine 30 = .ok (.iconst 3, 1) := by decide +kernel
theorem dX12_lostLine_31 : decode cX12_lostLine 31 = .ok (.invokevirtual 189, 3) := by decide +kernel
theorem dX12_lostLine_34 : decode cX12_lostLine 34 = .ok (.if_icmp .ge 22, 3) := by decide +kernel
theorem dX12_lostLine_37 : decode cX12_lostLine 37 = .ok (.aload_n 0, 1) := by decide +kernel
theorem dX12_lostLine_38 : decode cX12_lostLine 38 = .ok (.iconst 4, 1) := by decide +kernel
theorem dX12_lostLine_39 : decode cX12_lostLine 39 = .ok (.iload_n 2, 1) := by decide +kernel
theorem dX12_lostLine_40 : decode cX12_lostLine 40 = .ok (.aload_n 0, 1) := by decide +kernel
theorem dX12_lostLine_41 : decode cX12_lostLine 41 = .ok (.getfield 141, 3) := by decide +kernel
theorem dX12_lostLine_44 : decode cX12_lostLine 44 = .ok (.invokevirtual 210, 3) := by decide +kernel
theorem dX12_lostLine_47 : decode cX12_lostLine 47 = .ok (.iconst (-1), 1) := by decide +kernel
theorem dX12_lostLine_48 : decode cX12_lostLine 48 = .ok (.if_icmp .ne 8, 3) := by decide +kernel
theorem dX12_lostLine_51 : decode cX12_lostLine 51 = .ok (.aload_n 0, 1) := by decide +kernel
theorem dX12_lostLine_52 : decode cX12_lostLine 52 = .ok (.iconst 2, 1) := by decide +kernel
theorem dX12_lostLine_53 : decode cX12_lostLine 53 = .ok (.invokevirtual 175, 3) := by decide +kernel
theorem dX12_lostLine_56 : decode cX12_lostLine 56 = .ok (.aload_n 0, 1) := by decide +kernel
theorem dX12_lostLine_57 : decode cX12_lostLine 57 = .ok (.invokevirtual 206, 3) := by decide +kernel
theorem dX12_lostLine_60 : decode cX12_lostLine 60 = .ok (.istore_n 3, 1) := by decide +kernel
theorem dX12_lostLine_61 : decode cX12_lostLine 61 = .ok (.aload_n 0, 1) := by decide +kernel
theorem dX12_lostLine_62 : decode cX12_lostLine 62 = .ok (.getfield 159, 3) := by decide +kernel
theorem dX12_lostLine_65 : decode cX12_lostLine 65 = .ok (.ifCond .eq 4, 3) := by decide +kernel
theorem dX12_lostLine_68 : decode cX12_lostLine 68 = .ok (.return_, 1) := by decide +kernel
theorem dX12_lostLine_69 : decode cX12_lostLine 69 = .ok (.aload_n 0, 1) := by decide +kernel
theorem dX12_lostLine_70 : decode cX12_lostLine 70 = .ok (.iconst 4, 1) := by decide +kernel
theorem dX12_lostLine_71 : decode cX12_lostLine 71 = .ok (.iload_n 2, 1) := by decide +kernel
theorem dX12_lostLine_72 : decode cX12_lostLine 72 = .ok (.iload_n 3, 1) := by decide +kernel
theorem dX12_lostLine_73 : decode cX12_lostLine 73 = .ok (.invokevirtual 210, 3) := by decide +kernel
theorem dX12_lostLine_76 : decode cX12_lostLine 76 = .ok (.istore 4, 2) := by decide +kernel
theorem dX12_lostLine_78 : decode cX12_lostLine 78 = .ok (.aload_n 0, 1) := by decide +kernel
theorem dX12_lostLine_79 : decode cX12_lostLine 79 = .ok (.getfield 40, 3) := by decide +kernel
theorem dX12_lostLine_82 : decode cX12_lostLine 82 = .ok (.iconst 3, 1) := by decide +kernel
theorem dX12_lostLine_83 : decode cX12_lostLine 83 = .ok (.bipush 64, 2) := by decide +kernel
theorem dX12_lostLine_85 : decode cX12_lostLine 85 = .ok (.iload 4, 2) := by decide +kernel
theorem dX12_lostLine_87 : decode cX12_lostLine 87 = .ok (.iadd, 1) := by decide +kernel
theorem dX12_lostLine_88 : decode cX12_lostLine 88 = .ok (.imul, 1) := by decide +kernel
theorem dX12_lostLine_89 : decode cX12_lostLine 89 = .ok (.iaload, 1) := by decide +kernel
theorem dX12_lostLine_90 : decode cX12_lostLine 90 = .ok (.iload_n 2, 1) := by decide +kernel
theorem dX12_lostLine_91 : decode cX12_lostLine 91 = .ok (.if_icmp .ne 7, 3) := by decide +kernel
theorem dX12_lostLine_94 : decode cX12_lostLine 94 = .ok (.iconst 0, 1) := by decide +kernel
theorem dX12_lostLine_95 : decode cX12_lostLine 95 = .ok (.goto 4, 3) := by decide +kernel
theorem dX12_lostLine_98 : decode cX12_lostLine 98 = .ok (.iconst 1, 1) := by decide +kernel
theorem dX12_lostLine_99 : decode cX12_lostLine 99 = .ok (.istore 5, 2) := by decide +kernel
theorem dX12_lostLine_101 : decode cX12_lostLine 101 = .ok (.aload_n 0, 1) := by decide +kernel
theorem dX12_lostLine_102 : decode cX12_lostLine 102 = .ok (.getfield 43, 3) := by decide +kernel
theorem dX12_lostLine_105 : decode cX12_lostLine 105 = .ok (.iconst 2, 1) := by decide +kernel
theorem dX12_lostLine_106 : decode cX12_lostLine 106 = .ok (.bipush 64, 2) := by decide +kernel
theorem dX12_lostLine_108 : decode cX12_lostLine 108 = .ok (.iload 4, 2) := by decide +kernel
theorem dX12_lostLine_110 : decode cX12_lostLine 110 = .ok (.iadd, 1) := by decide +kernel
theorem dX12_lostLine_111 : decode cX12_lostLine 111 = .ok (.imul, 1) := by decide +kernel
theorem dX12_lostLine_112 : decode cX12_lostLine 112 = .ok (.iload 5, 2) := by decide +kernel
theorem dX12_lostLine_114 : decode cX12_lostLine 114 = .ok (.iadd, 1) := by decide +kernel
theorem dX12_lostLine_115 : decode cX12_lostLine 115 = .ok (.dup2, 1) := by decide +kernel
theorem dX12_lostLine_116 : decode cX12_lostLine 116 = .ok (.laload, 1) := by decide +kernel
theorem dX12_lostLine_117 : decode cX12_lostLine 117 = .ok (.lconst 1, 1) := by decide +kernel
theorem dX12_lostLine_118 : decode cX12_lostLine 118 = .ok (.iload_n 1, 1) := by decide +kernel
theorem dX12_lostLine_119 : decode cX12_lostLine 119 = .ok (.lshl, 1) := by decide +kernel
theorem dX12_lostLine_120 : decode cX12_lostLine 120 = .ok (.lor, 1) := by decide +kernel
theorem dX12_lostLine_121 : decode cX12_lostLine 121 = .ok (.lastore, 1) := by decide +kernel
theorem dX12_lostLine_122 : decode cX12_lostLine 122 = .ok (.return_, 1) := by decide +kernel
