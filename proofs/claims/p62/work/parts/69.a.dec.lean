theorem dX12_land_0 : decode cX12_land 0 = .ok (.aload_n 0, 1) := by decide +kernel
theorem dX12_land_1 : decode cX12_land 1 = .ok (.iconst 0, 1) := by decide +kernel
theorem dX12_land_2 : decode cX12_land 2 = .ok (.putfield 107, 3) := by decide +kernel
theorem dX12_land_5 : decode cX12_land 5 = .ok (.aload_n 0, 1) := by decide +kernel
theorem dX12_land_6 : decode cX12_land 6 = .ok (.invokevirtual 240, 3) := by decide +kernel
theorem dX12_land_9 : decode cX12_land 9 = .ok (.aload_n 0, 1) := by decide +kernel
theorem dX12_land_10 : decode cX12_land 10 = .ok (.invokevirtual 243, 3) := by decide +kernel
theorem dX12_land_13 : decode cX12_land 13 = .ok (.aload_n 0, 1) := by decide +kernel
theorem dX12_land_14 : decode cX12_land 14 = .ok (.invokevirtual 198, 3) := by decide +kernel
theorem dX12_land_17 : decode cX12_land 17 = .ok (.ifCond .eq 108, 3) := by decide +kernel
theorem dX12_land_20 : decode cX12_land 20 = .ok (.aload_n 0, 1) := by decide +kernel
theorem dX12_land_21 : decode cX12_land 21 = .ok (.getfield 148, 3) := by decide +kernel
theorem dX12_land_24 : decode cX12_land 24 = .ok (.ifCond .eq 101, 3) := by decide +kernel
theorem dX12_land_27 : decode cX12_land 27 = .ok (.aload_n 0, 1) := by decide +kernel
theorem dX12_land_28 : decode cX12_land 28 = .ok (.getfield 31, 3) := by decide +kernel
theorem dX12_land_31 : decode cX12_land 31 = .ok (.iconst 4, 1) := by decide +kernel
theorem dX12_land_32 : decode cX12_land 32 = .ok (.iaload, 1) := by decide +kernel
theorem dX12_land_33 : decode cX12_land 33 = .ok (.ifCond .ne 64, 3) := by decide +kernel
theorem dX12_land_36 : decode cX12_land 36 = .ok (.aload_n 0, 1) := by decide +kernel
theorem dX12_land_37 : decode cX12_land 37 = .ok (.ldc2_w 246, 3) := by decide +kernel
theorem dX12_land_40 : decode cX12_land 40 = .ok (.invokevirtual 178, 3) := by decide +kernel
theorem dX12_land_43 : decode cX12_land 43 = .ok (.aload_n 0, 1) := by decide +kernel
theorem dX12_land_44 : decode cX12_land 44 = .ok (.getfield 34, 3) := by decide +kernel
theorem dX12_land_47 : decode cX12_land 47 = .ok (.bipush 20, 2) := by decide +kernel
theorem dX12_land_49 : decode cX12_land 49 = .ok (.aload_n 0, 1) := by decide +kernel
theorem dX12_land_50 : decode cX12_land 50 = .ok (.ldc2_w 248, 3) := by decide +kernel
theorem dX12_land_53 : decode cX12_land 53 = .ok (.iconst 1, 1) := by decide +kernel
theorem dX12_land_54 : decode cX12_land 54 = .ok (.bipush 40, 2) := by decide +kernel
theorem dX12_land_56 : decode cX12_land 56 = .ok (.invokevirtual 195, 3) := by decide +kernel
theorem dX12_land_59 : decode cX12_land 59 = .ok (.iastore, 1) := by decide +kernel
theorem dX12_land_60 : decode cX12_land 60 = .ok (.aload_n 0, 1) := by decide +kernel
theorem dX12_land_61 : decode cX12_land 61 = .ok (.getfield 34, 3) := by decide +kernel
theorem dX12_land_64 : decode cX12_land 64 = .ok (.bipush 21, 2) := by decide +kernel
theorem dX12_land_66 : decode cX12_land 66 = .ok (.aload_n 0, 1) := by decide +kernel
theorem dX12_land_67 : decode cX12_land 67 = .ok (.ldc2_w 250, 3) := by decide +kernel
theorem dX12_land_70 : decode cX12_land 70 = .ok (.iconst 0, 1) := by decide +kernel
theorem dX12_land_71 : decode cX12_land 71 = .ok (.bipush 99, 2) := by decide +kernel
theorem dX12_land_73 : decode cX12_land 73 = .ok (.invokevirtual 195, 3) := by decide +kernel
theorem dX12_land_76 : decode cX12_land 76 = .ok (.iastore, 1) := by decide +kernel
theorem dX12_land_77 : decode cX12_land 77 = .ok (.aload_n 0, 1) := by decide +kernel
theorem dX12_land_78 : decode cX12_land 78 = .ok (.getfield 34, 3) := by decide +kernel
theorem dX12_land_81 : decode cX12_land 81 = .ok (.bipush 22, 2) := by decide +kernel
theorem dX12_land_83 : decode cX12_land 83 = .ok (.aload_n 0, 1) := by decide +kernel
theorem dX12_land_84 : decode cX12_land 84 = .ok (.ldc2_w 252, 3) := by decide +kernel
theorem dX12_land_87 : decode cX12_land 87 = .ok (.iconst 0, 1) := by decide +kernel
theorem dX12_land_88 : decode cX12_land 88 = .ok (.bipush 99, 2) := by decide +kernel
theorem dX12_land_90 : decode cX12_land 90 = .ok (.invokevirtual 195, 3) := by decide +kernel
theorem dX12_land_93 : decode cX12_land 93 = .ok (.iastore, 1) := by decide +kernel
theorem dX12_land_94 : decode cX12_land 94 = .ok (.goto 7, 3) := by decide +kernel
theorem dX12_land_97 : decode cX12_land 97 = .ok (.aload_n 0, 1) := by decide +kernel
theorem dX12_land_98 : decode cX12_land 98 = .ok (.invokevirtual 254, 3) := by decide +kernel
theorem dX12_land_101 : decode cX12_land 101 = .ok (.aload_n 0, 1) := by decide +kernel
theorem dX12_land_102 : decode cX12_land 102 = .ok (.invokevirtual 198, 3) := by decide +kernel
theorem dX12_land_105 : decode cX12_land 105 = .ok (.ifCond .eq 7, 3) := by decide +kernel
theorem dX12_land_108 : decode cX12_land 108 = .ok (.aload_n 0, 1) := by decide +kernel
theorem dX12_land_109 : decode cX12_land 109 = .ok (.invokevirtual 257, 3) := by decide +kernel
theorem dX12_land_112 : decode cX12_land 112 = .ok (.aload_n 0, 1) := by decide +kernel
theorem dX12_land_113 : decode cX12_land 113 = .ok (.getfield 31, 3) := by decide +kernel
theorem dX12_land_116 : decode cX12_land 116 = .ok (.iconst 4, 1) := by decide +kernel
theorem dX12_land_117 : decode cX12_land 117 = .ok (.dup2, 1) := by decide +kernel
theorem dX12_land_118 : decode cX12_land 118 = .ok (.iaload, 1) := by decide +kernel
theorem dX12_land_119 : decode cX12_land 119 = .ok (.iconst 1, 1) := by decide +kernel
theorem dX12_land_120 : decode cX12_land 120 = .ok (.iadd, 1) := by decide +kernel
theorem dX12_land_121 : decode cX12_land 121 = .ok (.iastore, 1) := by decide +kernel
theorem dX12_land_122 : decode cX12_land 122 = .ok (.goto (-109), 3) := by decide +kernel
theorem dX12_land_125 : decode cX12_land 125 = .ok (.aload_n 0, 1) := by decide +kernel
theorem dX12_land_126 : decode cX12_land 126 = .ok (.invokevirtual 260, 3) := by decide +kernel
theorem dX12_land_129 : decode cX12_land 129 = .ok (.aload_n 0, 1) := by decide +kernel
theorem dX12_land_130 : decode cX12_land 130 = .ok (.getfield 159, 3) := by decide +kernel
theorem dX12_land_133 : decode cX12_land 133 = .ok (.ifCond .eq 6, 3) := by decide +kernel
theorem dX12_land_136 : decode cX12_land 136 = .ok (.bipush (-4), 2) := by decide +kernel
theorem dX12_land_138 : decode cX12_land 138 = .ok (.ireturn, 1) := by decide +kernel
theorem dX12_land_139 : decode cX12_land 139 = .ok (.aload_n 0, 1) := by decide +kernel
theorem dX12_land_140 : decode cX12_land 140 = .ok (.iconst 4, 1) := by decide +kernel
theorem dX12_land_141 : decode cX12_land 141 = .ok (.iconst 0, 1) := by decide +kernel
theorem dX12_land_142 : decode cX12_land 142 = .ok (.invokevirtual 263, 3) := by decide +kernel
theorem dX12_land_145 : decode cX12_land 145 = .ok (.aload_n 0, 1) := by decide +kernel
theorem dX12_land_146 : decode cX12_land 146 = .ok (.getfield 31, 3) := by decide +kernel
theorem dX12_land_149 : decode cX12_land 149 = .ok (.iconst 0, 1) := by decide +kernel
theorem dX12_land_150 : decode cX12_land 150 = .ok (.iaload, 1) := by decide +kernel
theorem dX12_land_151 : decode cX12_land 151 = .ok (.ireturn, 1) := by decide +kernel
