theorem dX12_fates_0 : decode cX12_fates 0 = .ok (.aload_n 0, 1) := by decide +kernel
theorem dX12_fates_1 : decode cX12_fates 1 = .ok (.iload_n 1, 1) := by decide +kernel
theorem dX12_fates_2 : decode cX12_fates 2 = .ok (.iload_n 2, 1) := by decide +kernel
theorem dX12_fates_3 : decode cX12_fates 3 = .ok (.invokevirtual 382, 3) := by decide +kernel
theorem dX12_fates_6 : decode cX12_fates 6 = .ok (.iconst 0, 1) := by decide +kernel
theorem dX12_fates_7 : decode cX12_fates 7 = .ok (.istore 4, 2) := by decide +kernel
theorem dX12_fates_9 : decode cX12_fates 9 = .ok (.iload 4, 2) := by decide +kernel
theorem dX12_fates_11 : decode cX12_fates 11 = .ok (.bipush 16, 2) := by decide +kernel
theorem dX12_fates_13 : decode cX12_fates 13 = .ok (.if_icmp .ge 17, 3) := by decide +kernel
theorem dX12_fates_16 : decode cX12_fates 16 = .ok (.aload_n 0, 1) := by decide +kernel
theorem dX12_fates_17 : decode cX12_fates 17 = .ok (.getfield 86, 3) := by decide +kernel
theorem dX12_fates_20 : decode cX12_fates 20 = .ok (.iload 4, 2) := by decide +kernel
theorem dX12_fates_22 : decode cX12_fates 22 = .ok (.iconst (-1), 1) := by decide +kernel
theorem dX12_fates_23 : decode cX12_fates 23 = .ok (.iastore, 1) := by decide +kernel
theorem dX12_fates_24 : decode cX12_fates 24 = .ok (.iinc 4 1, 3) := by decide +kernel
theorem dX12_fates_27 : decode cX12_fates 27 = .ok (.goto (-18), 3) := by decide +kernel
theorem dX12_fates_30 : decode cX12_fates 30 = .ok (.iload_n 3, 1) := by decide +kernel
theorem dX12_fates_31 : decode cX12_fates 31 = .ok (.istore 4, 2) := by decide +kernel
theorem dX12_fates_33 : decode cX12_fates 33 = .ok (.iconst 0, 1) := by decide +kernel
theorem dX12_fates_34 : decode cX12_fates 34 = .ok (.istore 5, 2) := by decide +kernel
theorem dX12_fates_36 : decode cX12_fates 36 = .ok (.aload_n 0, 1) := by decide +kernel
theorem dX12_fates_37 : decode cX12_fates 37 = .ok (.getfield 86, 3) := by decide +kernel
theorem dX12_fates_40 : decode cX12_fates 40 = .ok (.iload 4, 2) := by decide +kernel
theorem dX12_fates_42 : decode cX12_fates 42 = .ok (.iaload, 1) := by decide +kernel
theorem dX12_fates_43 : decode cX12_fates 43 = .ok (.iconst (-1), 1) := by decide +kernel
theorem dX12_fates_44 : decode cX12_fates 44 = .ok (.if_icmp .ne 35, 3) := by decide +kernel
theorem dX12_fates_47 : decode cX12_fates 47 = .ok (.aload_n 0, 1) := by decide +kernel
theorem dX12_fates_48 : decode cX12_fates 48 = .ok (.getfield 86, 3) := by decide +kernel
theorem dX12_fates_51 : decode cX12_fates 51 = .ok (.iload 4, 2) := by decide +kernel
theorem dX12_fates_53 : decode cX12_fates 53 = .ok (.iload 5, 2) := by decide +kernel
theorem dX12_fates_55 : decode cX12_fates 55 = .ok (.iastore, 1) := by decide +kernel
theorem dX12_fates_56 : decode cX12_fates 56 = .ok (.aload_n 0, 1) := by decide +kernel
theorem dX12_fates_57 : decode cX12_fates 57 = .ok (.getfield 89, 3) := by decide +kernel
theorem dX12_fates_60 : decode cX12_fates 60 = .ok (.iload 5, 2) := by decide +kernel
theorem dX12_fates_62 : decode cX12_fates 62 = .ok (.iload 4, 2) := by decide +kernel
theorem dX12_fates_64 : decode cX12_fates 64 = .ok (.iastore, 1) := by decide +kernel
theorem dX12_fates_65 : decode cX12_fates 65 = .ok (.aload_n 0, 1) := by decide +kernel
theorem dX12_fates_66 : decode cX12_fates 66 = .ok (.iload 4, 2) := by decide +kernel
theorem dX12_fates_68 : decode cX12_fates 68 = .ok (.invokevirtual 333, 3) := by decide +kernel
theorem dX12_fates_71 : decode cX12_fates 71 = .ok (.istore 4, 2) := by decide +kernel
theorem dX12_fates_73 : decode cX12_fates 73 = .ok (.iinc 5 1, 3) := by decide +kernel
theorem dX12_fates_76 : decode cX12_fates 76 = .ok (.goto (-40), 3) := by decide +kernel
theorem dX12_fates_79 : decode cX12_fates 79 = .ok (.aload_n 0, 1) := by decide +kernel
theorem dX12_fates_80 : decode cX12_fates 80 = .ok (.aload_n 0, 1) := by decide +kernel
theorem dX12_fates_81 : decode cX12_fates 81 = .ok (.getfield 86, 3) := by decide +kernel
theorem dX12_fates_84 : decode cX12_fates 84 = .ok (.iload 4, 2) := by decide +kernel
theorem dX12_fates_86 : decode cX12_fates 86 = .ok (.iaload, 1) := by decide +kernel
theorem dX12_fates_87 : decode cX12_fates 87 = .ok (.putfield 385, 3) := by decide +kernel
theorem dX12_fates_90 : decode cX12_fates 90 = .ok (.aload_n 0, 1) := by decide +kernel
theorem dX12_fates_91 : decode cX12_fates 91 = .ok (.iload 5, 2) := by decide +kernel
theorem dX12_fates_93 : decode cX12_fates 93 = .ok (.aload_n 0, 1) := by decide +kernel
theorem dX12_fates_94 : decode cX12_fates 94 = .ok (.getfield 385, 3) := by decide +kernel
theorem dX12_fates_97 : decode cX12_fates 97 = .ok (.isub, 1) := by decide +kernel
theorem dX12_fates_98 : decode cX12_fates 98 = .ok (.putfield 388, 3) := by decide +kernel
theorem dX12_fates_101 : decode cX12_fates 101 = .ok (.aload_n 0, 1) := by decide +kernel
theorem dX12_fates_102 : decode cX12_fates 102 = .ok (.iconst 0, 1) := by decide +kernel
theorem dX12_fates_103 : decode cX12_fates 103 = .ok (.putfield 391, 3) := by decide +kernel
theorem dX12_fates_106 : decode cX12_fates 106 = .ok (.iconst 0, 1) := by decide +kernel
theorem dX12_fates_107 : decode cX12_fates 107 = .ok (.istore 6, 2) := by decide +kernel
theorem dX12_fates_109 : decode cX12_fates 109 = .ok (.iload 6, 2) := by decide +kernel
theorem dX12_fates_111 : decode cX12_fates 111 = .ok (.aload_n 0, 1) := by decide +kernel
theorem dX12_fates_112 : decode cX12_fates 112 = .ok (.getfield 388, 3) := by decide +kernel
theorem dX12_fates_115 : decode cX12_fates 115 = .ok (.if_icmp .ge 30, 3) := by decide +kernel
theorem dX12_fates_118 : decode cX12_fates 118 = .ok (.aload_n 0, 1) := by decide +kernel
theorem dX12_fates_119 : decode cX12_fates 119 = .ok (.iload 4, 2) := by decide +kernel
theorem dX12_fates_121 : decode cX12_fates 121 = .ok (.invokevirtual 333, 3) := by decide +kernel
theorem dX12_fates_124 : decode cX12_fates 124 = .ok (.istore 4, 2) := by decide +kernel
theorem dX12_fates_126 : decode cX12_fates 126 = .ok (.aload_n 0, 1) := by decide +kernel
theorem dX12_fates_127 : decode cX12_fates 127 = .ok (.dup, 1) := by decide +kernel
theorem dX12_fates_128 : decode cX12_fates 128 = .ok (.getfield 391, 3) := by decide +kernel
theorem dX12_fates_131 : decode cX12_fates 131 = .ok (.aload_n 0, 1) := by decide +kernel
theorem dX12_fates_132 : decode cX12_fates 132 = .ok (.invokevirtual 394, 3) := by decide +kernel
theorem dX12_fates_135 : decode cX12_fates 135 = .ok (.iadd, 1) := by decide +kernel
theorem dX12_fates_136 : decode cX12_fates 136 = .ok (.putfield 391, 3) := by decide +kernel
theorem dX12_fates_139 : decode cX12_fates 139 = .ok (.iinc 6 1, 3) := by decide +kernel
theorem dX12_fates_142 : decode cX12_fates 142 = .ok (.goto (-33), 3) := by decide +kernel
theorem dX12_fates_145 : decode cX12_fates 145 = .ok (.aload_n 0, 1) := by decide +kernel
theorem dX12_fates_146 : decode cX12_fates 146 = .ok (.aload_n 0, 1) := by decide +kernel
theorem dX12_fates_147 : decode cX12_fates 147 = .ok (.getfield 391, 3) := by decide +kernel
theorem dX12_fates_150 : decode cX12_fates 150 = .ok (.ifCond .ne 7, 3) := by decide +kernel
theorem dX12_fates_153 : decode cX12_fates 153 = .ok (.iconst 0, 1) := by decide +kernel
theorem dX12_fates_154 : decode cX12_fates 154 = .ok (.goto 21, 3) := by decide +kernel
theorem dX12_fates_157 : decode cX12_fates 157 = .ok (.aload_n 0, 1) := by decide +kernel
theorem dX12_fates_158 : decode cX12_fates 158 = .ok (.getfield 391, 3) := by decide +kernel
theorem dX12_fates_161 : decode cX12_fates 161 = .ok (.iconst 2, 1) := by decide +kernel
theorem dX12_fates_162 : decode cX12_fates 162 = .ok (.aload_n 0, 1) := by decide +kernel
theorem dX12_fates_163 : decode cX12_fates 163 = .ok (.getfield 388, 3) := by decide +kernel
theorem dX12_fates_166 : decode cX12_fates 166 = .ok (.imul, 1) := by decide +kernel
theorem dX12_fates_167 : decode cX12_fates 167 = .ok (.if_icmp .ne 7, 3) := by decide +kernel
theorem dX12_fates_170 : decode cX12_fates 170 = .ok (.iconst 1, 1) := by decide +kernel
theorem dX12_fates_171 : decode cX12_fates 171 = .ok (.goto 4, 3) := by decide +kernel
theorem dX12_fates_174 : decode cX12_fates 174 = .ok (.iconst 2, 1) := by decide +kernel
theorem dX12_fates_175 : decode cX12_fates 175 = .ok (.putfield 397, 3) := by decide +kernel
theorem dX12_fates_178 : decode cX12_fates 178 = .ok (.return_, 1) := by decide +kernel
