theorem dX12_land_0 : decode cX12_land 0 = .ok (.aload_n 0, 1) := by decide +kernel
theorem dX12_land_1 : decode cX12_land 1 = .ok (.iconst 0, 1) := by decide +kernel
theorem dX12_land_2 : decode cX12_land 2 = .ok (.putfield 107, 3) := by decide +kernel
theorem dX12_land_5 : decode cX12_land 5 = .ok (.aload_n 0, 1) := by decide +kernel
theorem dX12_land_6 : decode cX12_land 6 = .ok (.invokevirtual 240, 3) := by decide +kernel
theorem dX12_land_9 : decode cX12_land 9 = .ok (.aload_n 0, 1) := by decide +kernel
theorem dX12_land_10 : decode cX12_land 10 = .ok (.invokevirtual 243, 3) := by decide +kernel
theorem dX12_land_13 : decode cX12_land 13 = .ok (.aload_n 0, 1) := by decide +kernel
theorem dX12_land_14 : decode cX12_land 14 = .ok (.invokevirtual 198, 3) := by decide +kernel
theorem dX12_land_17 : decode cX12_land 17 = .ok (.ifCond .eq 108, 3) := by decide +kernel
theorem dX12_land_20 : decode cX12_land 20 = .ok (.aload_n 0, 1) := by decide +kernel
theorem dX12_land_21 : decode cX12_land 21 = .ok (.getfield 148, 3) := by decide +kernel
theorem dX12_land_24 : decode cX12_land 24 = .ok (.ifCond .eq 101, 3) := by decide +kernel
theorem dX12_land_27 : decode cX12_land 27 = .ok (.aload_n 0, 1) := by decide +kernel
theorem dX12_land_28 : decode cX12_land 28 = .ok (.getfield 31, 3) := by decide +kernel
theorem dX12_land_31 : decode cX12_land 31 = .ok (.iconst 4, 1) := by decide +kernel
theorem dX12_land_32 : decode cX12_land 32 = .ok (.iaload, 1) := by decide +kernel
theorem dX12_land_33 : decode cX12_land 33 = .ok (.ifCond .ne 64, 3) := by decide +kernel
theorem dX12_land_36 : decode cX12_land 36 = .ok (.aload_n 0, 1) := by decide +kernel
theorem dX12_land_37 : decode cX12_land 37 = .ok (.ldc2_w 246, 3) := by decide +kernel
theorem dX12_land_40 : decode cX12_land 40 = .ok (.invokevirtual 178, 3) := by decide +kernel
theorem dX12_land_43 : decode cX12_land 43 = .ok (.aload_n 0, 1) := by decide +kernel
theorem dX12_land_44 : decode cX12_land 44 = .ok (.getfield 34, 3) := by decide +kernel
theorem dX12_land_47 : decode cX12_land 47 = .ok (.bipush 20, 2) := by decide +kernel
theorem dX12_land_49 : decode cX12_land 49 = .ok (.aload_n 0, 1) := by decide +kernel
theorem dX12_land_50 : decode cX12_land 50 = .ok (.ldc2_w 248, 3) := by decide +kernel
theorem dX12_land_53 : decode cX12_land 53 = .ok (.iconst 1, 1) := by decide +kernel
theorem dX12_land_54 : decode cX12_land 54 = .ok (.bipush 40, 2) := by decide +kernel
theorem dX12_land_56 : decode cX12_land 56 = .ok (.invokevirtual 195, 3) := by decide +kernel
theorem dX12_land_59 : decode cX12_land 59 = .ok (.iastore, 1) := by decide +kernel
theorem dX12_land_60 : decode cX12_land 60 = .ok (.aload_n 0, 1) := by decide +kernel
theorem dX12_land_61 : decode cX12_land 61 = .ok (.getfield 34, 3) := by decide +kernel
theorem dX12_land_64 : decode cX12_land 64 = .ok (.bipush 21, 2) := by decide +kernel
theorem dX12_land_66 : decode cX12_land 66 = .ok (.aload_n 0, 1) := by decide +kernel
theorem dX12_land_67 : decode cX12_land 67 = .ok (.ldc2_w 250, 3) := by decide +kernel
theorem dX12_land_70 : decode cX12_land 70 = .ok (.iconst 0, 1) := by decide +kernel
theorem dX12_land_71 : decode cX12_land 71 = .ok (.bipush 99, 2) := by decide +kernel
theorem dX12_land_73 : decode cX12_land 73 = .ok (.invokevirtual 195, 3) := by decide +kernel
theorem dX12_land_76 : decode cX12_land 76 = .ok (.iastore, 1) := by decide +kernel
theorem dX12_land_77 : decode cX12_land 77 = .ok (.aload_n 0, 1) := by decide +kernel
theorem dX12_land_78 : decode cX12_land 78 = .ok (.getfield 34, 3) := by decide +kernel
theorem dX12_land_81 : decode cX12_land 81 = .ok (.bipush 22, 2) := by decide +kernel
theorem dX12_land_83 : decode cX12_land 83 = .ok (.aload_n 0, 1) := by decide +kernel
theorem dX12_land_84 : decode cX12_land 84 = .ok (.ldc2_w 252, 3) := by decide +kernel
theorem dX12_land_87 : decode cX12_land 87 = .ok (.iconst 0, 1) := by decide +kernel
theorem dX12_land_88 : decode cX12_land 88 = .ok (.bipush 99, 2) := by decide +kernel
theorem dX12_land_90 : decode cX12_land 90 = .ok (.invokevirtual 195, 3) := by decide +kernel
theorem dX12_land_93 : decode cX12_land 93 = .ok (.iastore, 1) := by decide +kernel
theorem dX12_land_94 : decode cX12_land 94 = .ok (.goto 7, 3) := by decide +kernel
theorem dX12_land_97 : decode cX12_land 97 = .ok (.aload_n 0, 1) := by decide +kernel
theorem dX12_land_98 : decode cX12_land 98 = .ok (.invokevirtual 254, 3) := by decide +kernel
theorem dX12_land_101 : decode cX12_land 101 = .ok (.aload_n 0, 1) := by decide +kernel
theorem dX12_land_102 : decode cX12_land 102 = .ok (.invokevirtual 198, 3) := by decide +kernel
theorem dX12_land_105 : decode cX12_land 105 = .ok (.ifCond .eq 7, 3) := by decide +kernel
theorem dX12_land_108 : decode cX12_land 108 = .ok (.aload_n 0, 1) := by decide +kernel
theorem dX12_land_109 : decode cX12_land 109 = .ok (.invokevirtual 257, 3) := by decide +kernel
theorem dX12_land_112 : decode cX12_land 112 = .ok (.aload_n 0, 1) := by decide +kernel
theorem dX12_land_113 : decode cX12_land 113 = .ok (.getfield 31, 3) := by decide +kernel
theorem dX12_land_116 : decode cX12_land 116 = .ok (.iconst 4, 1) := by decide +kernel
theorem dX12_land_117 : decode cX12_land 117 = .ok (.dup2, 1) := by decide +kernel
theorem dX12_land_118 : decode cX12_land 118 = .ok (.iaload, 1) := by decide +kernel
theorem dX12_land_119 : decode cX12_land 119 = .ok (.iconst 1, 1) := by decide +kernel
theorem dX12_land_120 : decode cX12_land 120 = .ok (.iadd, 1) := by decide +kernel
theorem dX12_land_121 : decode cX12_land 121 = .ok (.iastore, 1) := by decide +kernel
theorem dX12_land_122 : decode cX12_land 122 = .ok (.goto (-109), 3) := by decide +kernel
theorem dX12_land_125 : decode cX12_land 125 = .ok (.aload_n 0, 1) := by decide +kernel
theorem dX12_land_126 : decode cX12_land 126 = .ok (.invokevirtual 260, 3) := by decide +kernel
theorem dX12_land_129 : decode cX12_land 129 = .ok (.aload_n 0, 1) := by decide +kernel
theorem dX12_land_130 : decode cX12_land 130 = .ok (.getfield 159, 3) := by decide +kernel
theorem dX12_land_133 : decode cX12_land 133 = .ok (.ifCond .eq 6, 3) := by decide +kernel
theorem dX12_land_136 : decode cX12_land 136 = .ok (.bipush (-4), 2) := by decide +kernel
theorem dX12_land_138 : decode cX12_land 138 = .ok (.ireturn, 1) := by decide +kernel
theorem dX12_land_139 : decode cX12_land 139 = .ok (.aload_n 0, 1) := by decide +kernel
theorem dX12_land_140 : decode cX12_land 140 = .ok (.iconst 4, 1) := by decide +kernel
theorem dX12_land_141 : decode cX12_land 141 = .ok (.iconst 0, 1) := by decide +kernel
theorem dX12_land_142 : decode cX12_land 142 = .ok (.invokevirtual 263, 3) := by decide +kernel
theorem dX12_land_145 : decode cX12_land 145 = .ok (.aload_n 0, 1) := by decide +kernel
theorem dX12_land_146 : decode cX12_land 146 = .ok (.getfield 31, 3) := by decide +kernel
theorem dX12_land_149 : decode cX12_land 149 = .ok (.iconst 0, 1) := by decide +kernel
theorem dX12_land_150 : decode cX12_land 150 = .ok (.iaload, 1) := by decide +kernel
theorem dX12_land_151 : decode cX12_land 151 = .ok (.ireturn, 1) := by decide +kernel
theorem dX12_isLand_0 : decode cX12_isLand 0 = .ok (.aload_n 0, 1) := by decide +kernel
theorem dX12_isLand_1 : decode cX12_isLand 1 = .ok (.getfield 31, 3) := by decide +kernel
theorem dX12_isLand_4 : decode cX12_isLand 4 = .ok (.iconst 0, 1) := by decide +kernel
theorem dX12_isLand_5 : decode cX12_isLand 5 = .ok (.iaload, 1) := by decide +kernel
theorem dX12_isLand_6 : decode cX12_isLand 6 = .ok (.ifCond .le 7, 3) := by decide +kernel
theorem dX12_isLand_9 : decode cX12_isLand 9 = .ok (.iconst 1, 1) := by decide +kernel
theorem dX12_isLand_10 : decode cX12_isLand 10 = .ok (.goto 4, 3) := by decide +kernel
theorem dX12_isLand_13 : decode cX12_isLand 13 = .ok (.iconst 0, 1) := by decide +kernel
theorem dX12_isLand_14 : decode cX12_isLand 14 = .ok (.ireturn, 1) := by decide +kernel
theorem dX12_isPerson_0 : decode cX12_isPerson 0 = .ok (.iload_n 1, 1) := by decide +kernel
theorem dX12_isPerson_1 : decode cX12_isPerson 1 = .ok (.i2l, 1) := by decide +kernel
theorem dX12_isPerson_2 : decode cX12_isPerson 2 = .ok (.lconst 0, 1) := by decide +kernel
theorem dX12_isPerson_3 : decode cX12_isPerson 3 = .ok (.aload_n 0, 1) := by decide +kernel
theorem dX12_isPerson_4 : decode cX12_isPerson 4 = .ok (.getfield 34, 3) := by decide +kernel
theorem dX12_isPerson_7 : decode cX12_isPerson 7 = .ok (.iconst 3, 1) := by decide +kernel
theorem dX12_isPerson_8 : decode cX12_isPerson 8 = .ok (.iaload, 1) := by decide +kernel
theorem dX12_isPerson_9 : decode cX12_isPerson 9 = .ok (.iconst 1, 1) := by decide +kernel
theorem dX12_isPerson_10 : decode cX12_isPerson 10 = .ok (.isub, 1) := by decide +kernel
theorem dX12_isPerson_11 : decode cX12_isPerson 11 = .ok (.i2l, 1) := by decide +kernel
theorem dX12_isPerson_12 : decode cX12_isPerson 12 = .ok (.invokestatic 112, 3) := by decide +kernel
theorem dX12_isPerson_15 : decode cX12_isPerson 15 = .ok (.ireturn, 1) := by decide +kernel
theorem dX12_isPair_0 : decode cX12_isPair 0 = .ok (.iload_n 1, 1) := by decide +kernel
theorem dX12_isPair_1 : decode cX12_isPair 1 = .ok (.i2l, 1) := by decide +kernel
theorem dX12_isPair_2 : decode cX12_isPair 2 = .ok (.lconst 0, 1) := by decide +kernel
theorem dX12_isPair_3 : decode cX12_isPair 3 = .ok (.aload_n 0, 1) := by decide +kernel
theorem dX12_isPair_4 : decode cX12_isPair 4 = .ok (.getfield 34, 3) := by decide +kernel
theorem dX12_isPair_7 : decode cX12_isPair 7 = .ok (.iconst 4, 1) := by decide +kernel
theorem dX12_isPair_8 : decode cX12_isPair 8 = .ok (.iaload, 1) := by decide +kernel
theorem dX12_isPair_9 : decode cX12_isPair 9 = .ok (.iconst 1, 1) := by decide +kernel
theorem dX12_isPair_10 : decode cX12_isPair 10 = .ok (.isub, 1) := by decide +kernel
theorem dX12_isPair_11 : decode cX12_isPair 11 = .ok (.i2l, 1) := by decide +kernel
theorem dX12_isPair_12 : decode cX12_isPair 12 = .ok (.invokestatic 112, 3) := by decide +kernel
theorem dX12_isPair_15 : decode cX12_isPair 15 = .ok (.ireturn, 1) := by decide +kernel
theorem dX12_isYear_0 : decode cX12_isYear 0 = .ok (.lload_n 1, 1) := by decide +kernel
theorem dX12_isYear_1 : decode cX12_isYear 1 = .ok (.lconst 0, 1) := by decide +kernel
theorem dX12_isYear_2 : decode cX12_isYear 2 = .ok (.aload_n 0, 1) := by decide +kernel
theorem dX12_isYear_3 : decode cX12_isYear 3 = .ok (.getfield 34, 3) := by decide +kernel
theorem dX12_isYear_6 : decode cX12_isYear 6 = .ok (.iconst 0, 1) := by decide +kernel
theorem dX12_isYear_7 : decode cX12_isYear 7 = .ok (.iaload, 1) := by decide +kernel
theorem dX12_isYear_8 : decode cX12_isYear 8 = .ok (.i2l, 1) := by decide +kernel
theorem dX12_isYear_9 : decode cX12_isYear 9 = .ok (.lconst 1, 1) := by decide +kernel
theorem dX12_isYear_10 : decode cX12_isYear 10 = .ok (.lsub, 1) := by decide +kernel
theorem dX12_isYear_11 : decode cX12_isYear 11 = .ok (.invokestatic 112, 3) := by decide +kernel
theorem dX12_isYear_14 : decode cX12_isYear 14 = .ok (.ireturn, 1) := by decide +kernel
theorem dX12_has0_0 : decode cX12_has0 0 = .ok (.aload_n 0, 1) := by decide +kernel
theorem dX12_has0_1 : decode cX12_has0 1 = .ok (.getfield 37, 3) := by decide +kernel
theorem dX12_has0_4 : decode cX12_has0 4 = .ok (.iconst 5, 1) := by decide +kernel
theorem dX12_has0_5 : decode cX12_has0 5 = .ok (.iload_n 1, 1) := by decide +kernel
theorem dX12_has0_6 : decode cX12_has0 6 = .ok (.imul, 1) := by decide +kernel
theorem dX12_has0_7 : decode cX12_has0 7 = .ok (.iload_n 2, 1) := by decide +kernel
theorem dX12_has0_8 : decode cX12_has0 8 = .ok (.iadd, 1) := by decide +kernel
theorem dX12_has0_9 : decode cX12_has0 9 = .ok (.iaload, 1) := by decide +kernel
theorem dX12_has0_10 : decode cX12_has0 10 = .ok (.ireturn, 1) := by decide +kernel
theorem dX12_whoOf_0 : decode cX12_whoOf 0 = .ok (.aload_n 0, 1) := by decide +kernel
theorem dX12_whoOf_1 : decode cX12_whoOf 1 = .ok (.getfield 40, 3) := by decide +kernel
theorem dX12_whoOf_4 : decode cX12_whoOf 4 = .ok (.iconst 3, 1) := by decide +kernel
theorem dX12_whoOf_5 : decode cX12_whoOf 5 = .ok (.iload_n 1, 1) := by decide +kernel
theorem dX12_whoOf_6 : decode cX12_whoOf 6 = .ok (.imul, 1) := by decide +kernel
theorem dX12_whoOf_7 : decode cX12_whoOf 7 = .ok (.iload_n 2, 1) := by decide +kernel
theorem dX12_whoOf_8 : decode cX12_whoOf 8 = .ok (.iadd, 1) := by decide +kernel
theorem dX12_whoOf_9 : decode cX12_whoOf 9 = .ok (.iaload, 1) := by decide +kernel
theorem dX12_whoOf_10 : decode cX12_whoOf 10 = .ok (.ireturn, 1) := by decide +kernel
theorem dX12_ruleOf_0 : decode cX12_ruleOf 0 = .ok (.aload_n 0, 1) := by decide +kernel
theorem dX12_ruleOf_1 : decode cX12_ruleOf 1 = .ok (.iload_n 1, 1) := by decide +kernel
theorem dX12_ruleOf_2 : decode cX12_ruleOf 2 = .ok (.iconst 0, 1) := by decide +kernel
theorem dX12_ruleOf_3 : decode cX12_ruleOf 3 = .ok (.invokevirtual 273, 3) := by decide +kernel
theorem dX12_ruleOf_6 : decode cX12_ruleOf 6 = .ok (.bipush 16, 2) := by decide +kernel
theorem dX12_ruleOf_8 : decode cX12_ruleOf 8 = .ok (.aload_n 0, 1) := by decide +kernel
theorem dX12_ruleOf_9 : decode cX12_ruleOf 9 = .ok (.iload_n 1, 1) := by decide +kernel
theorem dX12_ruleOf_10 : decode cX12_ruleOf 10 = .ok (.iconst 1, 1) := by decide +kernel
theorem dX12_ruleOf_11 : decode cX12_ruleOf 11 = .ok (.invokevirtual 273, 3) := by decide +kernel
theorem dX12_ruleOf_14 : decode cX12_ruleOf 14 = .ok (.imul, 1) := by decide +kernel
theorem dX12_ruleOf_15 : decode cX12_ruleOf 15 = .ok (.iadd, 1) := by decide +kernel
theorem dX12_ruleOf_16 : decode cX12_ruleOf 16 = .ok (.ireturn, 1) := by decide +kernel
theorem dX12_person_0 : decode cX12_person 0 = .ok (.aload_n 0, 1) := by decide +kernel
theorem dX12_person_1 : decode cX12_person 1 = .ok (.iconst 0, 1) := by decide +kernel
theorem dX12_person_2 : decode cX12_person 2 = .ok (.putfield 107, 3) := by decide +kernel
theorem dX12_person_5 : decode cX12_person 5 = .ok (.aload_n 0, 1) := by decide +kernel
theorem dX12_person_6 : decode cX12_person 6 = .ok (.iload_n 1, 1) := by decide +kernel
theorem dX12_person_7 : decode cX12_person 7 = .ok (.invokevirtual 276, 3) := by decide +kernel
theorem dX12_person_10 : decode cX12_person 10 = .ok (.ifCond .eq 24, 3) := by decide +kernel
theorem dX12_person_13 : decode cX12_person 13 = .ok (.iload_n 2, 1) := by decide +kernel
theorem dX12_person_14 : decode cX12_person 14 = .ok (.i2l, 1) := by decide +kernel
theorem dX12_person_15 : decode cX12_person 15 = .ok (.lconst 0, 1) := by decide +kernel
theorem dX12_person_16 : decode cX12_person 16 = .ok (.ldc2_w 279, 3) := by decide +kernel
theorem dX12_person_19 : decode cX12_person 19 = .ok (.invokestatic 112, 3) := by decide +kernel
theorem dX12_person_22 : decode cX12_person 22 = .ok (.ifCond .eq 12, 3) := by decide +kernel
theorem dX12_person_25 : decode cX12_person 25 = .ok (.aload_n 0, 1) := by decide +kernel
theorem dX12_person_26 : decode cX12_person 26 = .ok (.iload_n 1, 1) := by decide +kernel
theorem dX12_person_27 : decode cX12_person 27 = .ok (.iload_n 2, 1) := by decide +kernel
theorem dX12_person_28 : decode cX12_person 28 = .ok (.invokevirtual 273, 3) := by decide +kernel
theorem dX12_person_31 : decode cX12_person 31 = .ok (.goto 5, 3) := by decide +kernel
theorem dX12_person_34 : decode cX12_person 34 = .ok (.bipush (-2), 2) := by decide +kernel
theorem dX12_person_36 : decode cX12_person 36 = .ok (.ireturn, 1) := by decide +kernel
theorem dX12_pair_0 : decode cX12_pair 0 = .ok (.aload_n 0, 1) := by decide +kernel
theorem dX12_pair_1 : decode cX12_pair 1 = .ok (.iconst 0, 1) := by decide +kernel
theorem dX12_pair_2 : decode cX12_pair 2 = .ok (.putfield 107, 3) := by decide +kernel
theorem dX12_pair_5 : decode cX12_pair 5 = .ok (.aload_n 0, 1) := by decide +kernel
theorem dX12_pair_6 : decode cX12_pair 6 = .ok (.iload_n 1, 1) := by decide +kernel
theorem dX12_pair_7 : decode cX12_pair 7 = .ok (.invokevirtual 281, 3) := by decide +kernel
theorem dX12_pair_10 : decode cX12_pair 10 = .ok (.ifCond .eq 28, 3) := by decide +kernel
theorem dX12_pair_13 : decode cX12_pair 13 = .ok (.iload_n 2, 1) := by decide +kernel
theorem dX12_pair_14 : decode cX12_pair 14 = .ok (.i2l, 1) := by decide +kernel
theorem dX12_pair_15 : decode cX12_pair 15 = .ok (.lconst 0, 1) := by decide +kernel
theorem dX12_pair_16 : decode cX12_pair 16 = .ok (.ldc2_w 284, 3) := by decide +kernel
theorem dX12_pair_19 : decode cX12_pair 19 = .ok (.invokestatic 112, 3) := by decide +kernel
theorem dX12_pair_22 : decode cX12_pair 22 = .ok (.ifCond .eq 16, 3) := by decide +kernel
theorem dX12_pair_25 : decode cX12_pair 25 = .ok (.aload_n 0, 1) := by decide +kernel
theorem dX12_pair_26 : decode cX12_pair 26 = .ok (.getfield 40, 3) := by decide +kernel
theorem dX12_pair_29 : decode cX12_pair 29 = .ok (.iconst 3, 1) := by decide +kernel
theorem dX12_pair_30 : decode cX12_pair 30 = .ok (.iload_n 1, 1) := by decide +kernel
theorem dX12_pair_31 : decode cX12_pair 31 = .ok (.imul, 1) := by decide +kernel
theorem dX12_pair_32 : decode cX12_pair 32 = .ok (.iload_n 2, 1) := by decide +kernel
theorem dX12_pair_33 : decode cX12_pair 33 = .ok (.iadd, 1) := by decide +kernel
theorem dX12_pair_34 : decode cX12_pair 34 = .ok (.iaload, 1) := by decide +kernel
theorem dX12_pair_35 : decode cX12_pair 35 = .ok (.goto 5, 3) := by decide +kernel
theorem dX12_pair_38 : decode cX12_pair 38 = .ok (.bipush (-2), 2) := by decide +kernel
theorem dX12_pair_40 : decode cX12_pair 40 = .ok (.ireturn, 1) := by decide +kernel
theorem dX12_of_0 : decode cX12_of 0 = .ok (.aload_n 0, 1) := by decide +kernel
theorem dX12_of_1 : decode cX12_of 1 = .ok (.iconst 0, 1) := by decide +kernel
theorem dX12_of_2 : decode cX12_of 2 = .ok (.putfield 107, 3) := by decide +kernel
theorem dX12_of_5 : decode cX12_of 5 = .ok (.aload_n 0, 1) := by decide +kernel
theorem dX12_of_6 : decode cX12_of 6 = .ok (.iload_n 1, 1) := by decide +kernel
theorem dX12_of_7 : decode cX12_of 7 = .ok (.invokevirtual 276, 3) := by decide +kernel
theorem dX12_of_10 : decode cX12_of 10 = .ok (.ifCond .eq 26, 3) := by decide +kernel
theorem dX12_of_13 : decode cX12_of 13 = .ok (.aload_n 0, 1) := by decide +kernel
theorem dX12_of_14 : decode cX12_of 14 = .ok (.iload_n 2, 1) := by decide +kernel
theorem dX12_of_15 : decode cX12_of 15 = .ok (.invokevirtual 276, 3) := by decide +kernel
theorem dX12_of_18 : decode cX12_of 18 = .ok (.ifCond .eq 18, 3) := by decide +kernel
theorem dX12_of_21 : decode cX12_of 21 = .ok (.iload_n 1, 1) := by decide +kernel
theorem dX12_of_22 : decode cX12_of 22 = .ok (.iload_n 2, 1) := by decide +kernel
theorem dX12_of_23 : decode cX12_of 23 = .ok (.if_icmp .eq 13, 3) := by decide +kernel
theorem dX12_of_26 : decode cX12_of 26 = .ok (.aload_n 0, 1) := by decide +kernel
theorem dX12_of_27 : decode cX12_of 27 = .ok (.iconst 0, 1) := by decide +kernel
theorem dX12_of_28 : decode cX12_of 28 = .ok (.iload_n 1, 1) := by decide +kernel
theorem dX12_of_29 : decode cX12_of 29 = .ok (.iload_n 2, 1) := by decide +kernel
theorem dX12_of_30 : decode cX12_of 30 = .ok (.invokevirtual 210, 3) := by decide +kernel
theorem dX12_of_33 : decode cX12_of 33 = .ok (.goto 5, 3) := by decide +kernel
theorem dX12_of_36 : decode cX12_of 36 = .ok (.bipush (-2), 2) := by decide +kernel
theorem dX12_of_38 : decode cX12_of 38 = .ok (.ireturn, 1) := by decide +kernel
theorem dX12_does_0 : decode cX12_does 0 = .ok (.aload_n 0, 1) := by decide +kernel
theorem dX12_does_1 : decode cX12_does 1 = .ok (.iconst 0, 1) := by decide +kernel
theorem dX12_does_2 : decode cX12_does 2 = .ok (.putfield 107, 3) := by decide +kernel
theorem dX12_does_5 : decode cX12_does 5 = .ok (.iload_n 1, 1) := by decide +kernel
theorem dX12_does_6 : decode cX12_does 6 = .ok (.i2l, 1) := by decide +kernel
theorem dX12_does_7 : decode cX12_does 7 = .ok (.lconst 0, 1) := by decide +kernel
theorem dX12_does_8 : decode cX12_does 8 = .ok (.ldc2_w 286, 3) := by decide +kernel
theorem dX12_does_11 : decode cX12_does 11 = .ok (.invokestatic 112, 3) := by decide +kernel
theorem dX12_does_14 : decode cX12_does 14 = .ok (.ifCond .eq 35, 3) := by decide +kernel
theorem dX12_does_17 : decode cX12_does 17 = .ok (.iload_n 2, 1) := by decide +kernel
theorem dX12_does_18 : decode cX12_does 18 = .ok (.i2l, 1) := by decide +kernel
theorem dX12_does_19 : decode cX12_does 19 = .ok (.lconst 0, 1) := by decide +kernel
theorem dX12_does_20 : decode cX12_does 20 = .ok (.lconst 1, 1) := by decide +kernel
theorem dX12_does_21 : decode cX12_does 21 = .ok (.invokestatic 112, 3) := by decide +kernel
theorem dX12_does_24 : decode cX12_does 24 = .ok (.ifCond .eq 25, 3) := by decide +kernel
theorem dX12_does_27 : decode cX12_does 27 = .ok (.iload_n 3, 1) := by decide +kernel
theorem dX12_does_28 : decode cX12_does 28 = .ok (.i2l, 1) := by decide +kernel
theorem dX12_does_29 : decode cX12_does 29 = .ok (.lconst 0, 1) := by decide +kernel
theorem dX12_does_30 : decode cX12_does 30 = .ok (.lconst 1, 1) := by decide +kernel
theorem dX12_does_31 : decode cX12_does 31 = .ok (.invokestatic 112, 3) := by decide +kernel
theorem dX12_does_34 : decode cX12_does 34 = .ok (.ifCond .eq 15, 3) := by decide +kernel
theorem dX12_does_37 : decode cX12_does 37 = .ok (.iload_n 1, 1) := by decide +kernel
theorem dX12_does_38 : decode cX12_does 38 = .ok (.iload_n 2, 1) := by decide +kernel
theorem dX12_does_39 : decode cX12_does 39 = .ok (.iconst 2, 1) := by decide +kernel
theorem dX12_does_40 : decode cX12_does 40 = .ok (.iload_n 3, 1) := by decide +kernel
theorem dX12_does_41 : decode cX12_does 41 = .ok (.imul, 1) := by decide +kernel
theorem dX12_does_42 : decode cX12_does 42 = .ok (.iadd, 1) := by decide +kernel
theorem dX12_does_43 : decode cX12_does 43 = .ok (.ishr, 1) := by decide +kernel
theorem dX12_does_44 : decode cX12_does 44 = .ok (.iconst 1, 1) := by decide +kernel
theorem dX12_does_45 : decode cX12_does 45 = .ok (.iand, 1) := by decide +kernel
theorem dX12_does_46 : decode cX12_does 46 = .ok (.goto 5, 3) := by decide +kernel
theorem dX12_does_49 : decode cX12_does 49 = .ok (.bipush (-2), 2) := by decide +kernel
theorem dX12_does_51 : decode cX12_does 51 = .ok (.ireturn, 1) := by decide +kernel
theorem dX12_wouldSend_0 : decode cX12_wouldSend 0 = .ok (.iload_n 2, 1) := by decide +kernel
theorem dX12_wouldSend_1 : decode cX12_wouldSend 1 = .ok (.iconst 2, 1) := by decide +kernel
theorem dX12_wouldSend_2 : decode cX12_wouldSend 2 = .ok (.iload_n 1, 1) := by decide +kernel
theorem dX12_wouldSend_3 : decode cX12_wouldSend 3 = .ok (.imul, 1) := by decide +kernel
theorem dX12_wouldSend_4 : decode cX12_wouldSend 4 = .ok (.ishr, 1) := by decide +kernel
theorem dX12_wouldSend_5 : decode cX12_wouldSend 5 = .ok (.iconst 3, 1) := by decide +kernel
theorem dX12_wouldSend_6 : decode cX12_wouldSend 6 = .ok (.iand, 1) := by decide +kernel
theorem dX12_wouldSend_7 : decode cX12_wouldSend 7 = .ok (.istore_n 3, 1) := by decide +kernel
theorem dX12_wouldSend_8 : decode cX12_wouldSend 8 = .ok (.aload_n 0, 1) := by decide +kernel
theorem dX12_wouldSend_9 : decode cX12_wouldSend 9 = .ok (.getfield 53, 3) := by decide +kernel
theorem dX12_wouldSend_12 : decode cX12_wouldSend 12 = .ok (.iload_n 1, 1) := by decide +kernel
theorem dX12_wouldSend_13 : decode cX12_wouldSend 13 = .ok (.iaload, 1) := by decide +kernel
theorem dX12_wouldSend_14 : decode cX12_wouldSend 14 = .ok (.bipush 15, 2) := by decide +kernel
theorem dX12_wouldSend_16 : decode cX12_wouldSend 16 = .ok (.iand, 1) := by decide +kernel
theorem dX12_wouldSend_17 : decode cX12_wouldSend 17 = .ok (.iload_n 3, 1) := by decide +kernel
theorem dX12_wouldSend_18 : decode cX12_wouldSend 18 = .ok (.invokestatic 288, 3) := by decide +kernel
theorem dX12_wouldSend_21 : decode cX12_wouldSend 21 = .ok (.ireturn, 1) := by decide +kernel
