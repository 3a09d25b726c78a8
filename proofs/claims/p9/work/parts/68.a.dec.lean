theorem dX12_clears_0 : decode cX12_clears 0 = .ok (.aload_n 0, 1) := by decide +kernel
theorem dX12_clears_1 : decode cX12_clears 1 = .ok (.getfield 31, 3) := by decide +kernel
theorem dX12_clears_4 : decode cX12_clears 4 = .ok (.iconst 4, 1) := by decide +kernel
theorem dX12_clears_5 : decode cX12_clears 5 = .ok (.iconst 0, 1) := by decide +kernel
theorem dX12_clears_6 : decode cX12_clears 6 = .ok (.iastore, 1) := by decide +kernel
theorem dX12_clears_7 : decode cX12_clears 7 = .ok (.aload_n 0, 1) := by decide +kernel
theorem dX12_clears_8 : decode cX12_clears 8 = .ok (.getfield 46, 3) := by decide +kernel
theorem dX12_clears_11 : decode cX12_clears 11 = .ok (.iconst 4, 1) := by decide +kernel
theorem dX12_clears_12 : decode cX12_clears 12 = .ok (.lconst 0, 1) := by decide +kernel
theorem dX12_clears_13 : decode cX12_clears 13 = .ok (.lastore, 1) := by decide +kernel
theorem dX12_clears_14 : decode cX12_clears 14 = .ok (.iconst 0, 1) := by decide +kernel
theorem dX12_clears_15 : decode cX12_clears 15 = .ok (.istore_n 1, 1) := by decide +kernel
theorem dX12_clears_16 : decode cX12_clears 16 = .ok (.iload_n 1, 1) := by decide +kernel
theorem dX12_clears_17 : decode cX12_clears 17 = .ok (.iconst 5, 1) := by decide +kernel
theorem dX12_clears_18 : decode cX12_clears 18 = .ok (.if_icmp .ge 19, 3) := by decide +kernel
theorem dX12_clears_21 : decode cX12_clears 21 = .ok (.aload_n 0, 1) := by decide +kernel
theorem dX12_clears_22 : decode cX12_clears 22 = .ok (.getfield 34, 3) := by decide +kernel
theorem dX12_clears_25 : decode cX12_clears 25 = .ok (.bipush 20, 2) := by decide +kernel
theorem dX12_clears_27 : decode cX12_clears 27 = .ok (.iload_n 1, 1) := by decide +kernel
theorem dX12_clears_28 : decode cX12_clears 28 = .ok (.iadd, 1) := by decide +kernel
theorem dX12_clears_29 : decode cX12_clears 29 = .ok (.iconst 0, 1) := by decide +kernel
theorem dX12_clears_30 : decode cX12_clears 30 = .ok (.iastore, 1) := by decide +kernel
theorem dX12_clears_31 : decode cX12_clears 31 = .ok (.iinc 1 1, 3) := by decide +kernel
theorem dX12_clears_34 : decode cX12_clears 34 = .ok (.goto (-18), 3) := by decide +kernel
theorem dX12_clears_37 : decode cX12_clears 37 = .ok (.return_, 1) := by decide +kernel
theorem dX12_copyRow_0 : decode cX12_copyRow 0 = .ok (.iconst 0, 1) := by decide +kernel
theorem dX12_copyRow_1 : decode cX12_copyRow 1 = .ok (.istore 4, 2) := by decide +kernel
theorem dX12_copyRow_3 : decode cX12_copyRow 3 = .ok (.iload 4, 2) := by decide +kernel
theorem dX12_copyRow_5 : decode cX12_copyRow 5 = .ok (.iload_n 1, 1) := by decide +kernel
theorem dX12_copyRow_6 : decode cX12_copyRow 6 = .ok (.if_icmp .ge 25, 3) := by decide +kernel
theorem dX12_copyRow_9 : decode cX12_copyRow 9 = .ok (.aload_n 0, 1) := by decide +kernel
theorem dX12_copyRow_10 : decode cX12_copyRow 10 = .ok (.iload_n 1, 1) := by decide +kernel
theorem dX12_copyRow_11 : decode cX12_copyRow 11 = .ok (.iload_n 3, 1) := by decide +kernel
theorem dX12_copyRow_12 : decode cX12_copyRow 12 = .ok (.imul, 1) := by decide +kernel
theorem dX12_copyRow_13 : decode cX12_copyRow 13 = .ok (.iload 4, 2) := by decide +kernel
theorem dX12_copyRow_15 : decode cX12_copyRow 15 = .ok (.iadd, 1) := by decide +kernel
theorem dX12_copyRow_16 : decode cX12_copyRow 16 = .ok (.aload_n 0, 1) := by decide +kernel
theorem dX12_copyRow_17 : decode cX12_copyRow 17 = .ok (.iload_n 1, 1) := by decide +kernel
theorem dX12_copyRow_18 : decode cX12_copyRow 18 = .ok (.iload_n 2, 1) := by decide +kernel
theorem dX12_copyRow_19 : decode cX12_copyRow 19 = .ok (.imul, 1) := by decide +kernel
theorem dX12_copyRow_20 : decode cX12_copyRow 20 = .ok (.iload 4, 2) := by decide +kernel
theorem dX12_copyRow_22 : decode cX12_copyRow 22 = .ok (.iadd, 1) := by decide +kernel
theorem dX12_copyRow_23 : decode cX12_copyRow 23 = .ok (.iaload, 1) := by decide +kernel
theorem dX12_copyRow_24 : decode cX12_copyRow 24 = .ok (.iastore, 1) := by decide +kernel
theorem dX12_copyRow_25 : decode cX12_copyRow 25 = .ok (.iinc 4 1, 3) := by decide +kernel
theorem dX12_copyRow_28 : decode cX12_copyRow 28 = .ok (.goto (-25), 3) := by decide +kernel
theorem dX12_copyRow_31 : decode cX12_copyRow 31 = .ok (.return_, 1) := by decide +kernel
theorem dX12_copyLand_0 : decode cX12_copyLand 0 = .ok (.aload_n 0, 1) := by decide +kernel
theorem dX12_copyLand_1 : decode cX12_copyLand 1 = .ok (.getfield 31, 3) := by decide +kernel
theorem dX12_copyLand_4 : decode cX12_copyLand 4 = .ok (.iconst 1, 1) := by decide +kernel
theorem dX12_copyLand_5 : decode cX12_copyLand 5 = .ok (.iload_n 1, 1) := by decide +kernel
theorem dX12_copyLand_6 : decode cX12_copyLand 6 = .ok (.iload_n 2, 1) := by decide +kernel
theorem dX12_copyLand_7 : decode cX12_copyLand 7 = .ok (.invokestatic 267, 3) := by decide +kernel
theorem dX12_copyLand_10 : decode cX12_copyLand 10 = .ok (.aload_n 0, 1) := by decide +kernel
theorem dX12_copyLand_11 : decode cX12_copyLand 11 = .ok (.getfield 34, 3) := by decide +kernel
theorem dX12_copyLand_14 : decode cX12_copyLand 14 = .ok (.iconst 5, 1) := by decide +kernel
theorem dX12_copyLand_15 : decode cX12_copyLand 15 = .ok (.iload_n 1, 1) := by decide +kernel
theorem dX12_copyLand_16 : decode cX12_copyLand 16 = .ok (.iload_n 2, 1) := by decide +kernel
theorem dX12_copyLand_17 : decode cX12_copyLand 17 = .ok (.invokestatic 267, 3) := by decide +kernel
theorem dX12_copyLand_20 : decode cX12_copyLand 20 = .ok (.aload_n 0, 1) := by decide +kernel
theorem dX12_copyLand_21 : decode cX12_copyLand 21 = .ok (.getfield 37, 3) := by decide +kernel
theorem dX12_copyLand_24 : decode cX12_copyLand 24 = .ok (.bipush 50, 2) := by decide +kernel
theorem dX12_copyLand_26 : decode cX12_copyLand 26 = .ok (.iload_n 1, 1) := by decide +kernel
theorem dX12_copyLand_27 : decode cX12_copyLand 27 = .ok (.iload_n 2, 1) := by decide +kernel
theorem dX12_copyLand_28 : decode cX12_copyLand 28 = .ok (.invokestatic 267, 3) := by decide +kernel
theorem dX12_copyLand_31 : decode cX12_copyLand 31 = .ok (.aload_n 0, 1) := by decide +kernel
theorem dX12_copyLand_32 : decode cX12_copyLand 32 = .ok (.getfield 40, 3) := by decide +kernel
theorem dX12_copyLand_35 : decode cX12_copyLand 35 = .ok (.bipush 48, 2) := by decide +kernel
theorem dX12_copyLand_37 : decode cX12_copyLand 37 = .ok (.iload_n 1, 1) := by decide +kernel
theorem dX12_copyLand_38 : decode cX12_copyLand 38 = .ok (.iload_n 2, 1) := by decide +kernel
theorem dX12_copyLand_39 : decode cX12_copyLand 39 = .ok (.invokestatic 267, 3) := by decide +kernel
theorem dX12_copyLand_42 : decode cX12_copyLand 42 = .ok (.iconst 0, 1) := by decide +kernel
theorem dX12_copyLand_43 : decode cX12_copyLand 43 = .ok (.istore_n 3, 1) := by decide +kernel
theorem dX12_copyLand_44 : decode cX12_copyLand 44 = .ok (.iload_n 3, 1) := by decide +kernel
theorem dX12_copyLand_45 : decode cX12_copyLand 45 = .ok (.bipush 32, 2) := by decide +kernel
theorem dX12_copyLand_47 : decode cX12_copyLand 47 = .ok (.if_icmp .ge 31, 3) := by decide +kernel
theorem dX12_copyLand_50 : decode cX12_copyLand 50 = .ok (.aload_n 0, 1) := by decide +kernel
theorem dX12_copyLand_51 : decode cX12_copyLand 51 = .ok (.getfield 43, 3) := by decide +kernel
theorem dX12_copyLand_54 : decode cX12_copyLand 54 = .ok (.bipush 32, 2) := by decide +kernel
theorem dX12_copyLand_56 : decode cX12_copyLand 56 = .ok (.iload_n 2, 1) := by decide +kernel
theorem dX12_copyLand_57 : decode cX12_copyLand 57 = .ok (.imul, 1) := by decide +kernel
theorem dX12_copyLand_58 : decode cX12_copyLand 58 = .ok (.iload_n 3, 1) := by decide +kernel
theorem dX12_copyLand_59 : decode cX12_copyLand 59 = .ok (.iadd, 1) := by decide +kernel
theorem dX12_copyLand_60 : decode cX12_copyLand 60 = .ok (.aload_n 0, 1) := by decide +kernel
theorem dX12_copyLand_61 : decode cX12_copyLand 61 = .ok (.getfield 43, 3) := by decide +kernel
theorem dX12_copyLand_64 : decode cX12_copyLand 64 = .ok (.bipush 32, 2) := by decide +kernel
theorem dX12_copyLand_66 : decode cX12_copyLand 66 = .ok (.iload_n 1, 1) := by decide +kernel
theorem dX12_copyLand_67 : decode cX12_copyLand 67 = .ok (.imul, 1) := by decide +kernel
theorem dX12_copyLand_68 : decode cX12_copyLand 68 = .ok (.iload_n 3, 1) := by decide +kernel
theorem dX12_copyLand_69 : decode cX12_copyLand 69 = .ok (.iadd, 1) := by decide +kernel
theorem dX12_copyLand_70 : decode cX12_copyLand 70 = .ok (.laload, 1) := by decide +kernel
theorem dX12_copyLand_71 : decode cX12_copyLand 71 = .ok (.lastore, 1) := by decide +kernel
theorem dX12_copyLand_72 : decode cX12_copyLand 72 = .ok (.iinc 3 1, 3) := by decide +kernel
theorem dX12_copyLand_75 : decode cX12_copyLand 75 = .ok (.goto (-31), 3) := by decide +kernel
theorem dX12_copyLand_78 : decode cX12_copyLand 78 = .ok (.aload_n 0, 1) := by decide +kernel
theorem dX12_copyLand_79 : decode cX12_copyLand 79 = .ok (.getfield 46, 3) := by decide +kernel
theorem dX12_copyLand_82 : decode cX12_copyLand 82 = .ok (.iload_n 2, 1) := by decide +kernel
theorem dX12_copyLand_83 : decode cX12_copyLand 83 = .ok (.aload_n 0, 1) := by decide +kernel
theorem dX12_copyLand_84 : decode cX12_copyLand 84 = .ok (.getfield 46, 3) := by decide +kernel
theorem dX12_copyLand_87 : decode cX12_copyLand 87 = .ok (.iload_n 1, 1) := by decide +kernel
theorem dX12_copyLand_88 : decode cX12_copyLand 88 = .ok (.laload, 1) := by decide +kernel
theorem dX12_copyLand_89 : decode cX12_copyLand 89 = .ok (.lastore, 1) := by decide +kernel
theorem dX12_copyLand_90 : decode cX12_copyLand 90 = .ok (.return_, 1) := by decide +kernel
theorem dX12_isLand_0 : decode cX12_isLand 0 = .ok (.aload_n 0, 1) := by decide +kernel
theorem dX12_isLand_1 : decode cX12_isLand 1 = .ok (.getfield 31, 3) := by decide +kernel
theorem dX12_isLand_4 : decode cX12_isLand 4 = .ok (.iconst 0, 1) := by decide +kernel
theorem dX12_isLand_5 : decode cX12_isLand 5 = .ok (.iaload, 1) := by decide +kernel
theorem dX12_isLand_6 : decode cX12_isLand 6 = .ok (.ifCond .le 7, 3) := by decide +kernel
theorem dX12_isLand_9 : decode cX12_isLand 9 = .ok (.iconst 1, 1) := by decide +kernel
theorem dX12_isLand_10 : decode cX12_isLand 10 = .ok (.goto 4, 3) := by decide +kernel
theorem dX12_isLand_13 : decode cX12_isLand 13 = .ok (.iconst 0, 1) := by decide +kernel
theorem dX12_isLand_14 : decode cX12_isLand 14 = .ok (.ireturn, 1) := by decide +kernel
theorem dX12_isPerson_0 : decode cX12_isPerson 0 = .ok (.iload_n 1, 1) := by decide +kernel
theorem dX12_isPerson_1 : decode cX12_isPerson 1 = .ok (.i2l, 1) := by decide +kernel
theorem dX12_isPerson_2 : decode cX12_isPerson 2 = .ok (.lconst 0, 1) := by decide +kernel
theorem dX12_isPerson_3 : decode cX12_isPerson 3 = .ok (.aload_n 0, 1) := by decide +kernel
theorem dX12_isPerson_4 : decode cX12_isPerson 4 = .ok (.getfield 34, 3) := by decide +kernel
theorem dX12_isPerson_7 : decode cX12_isPerson 7 = .ok (.iconst 3, 1) := by decide +kernel
theorem dX12_isPerson_8 : decode cX12_isPerson 8 = .ok (.iaload, 1) := by decide +kernel
theorem dX12_isPerson_9 : decode cX12_isPerson 9 = .ok (.iconst 1, 1) := by decide +kernel
theorem dX12_isPerson_10 : decode cX12_isPerson 10 = .ok (.isub, 1) := by decide +kernel
theorem dX12_isPerson_11 : decode cX12_isPerson 11 = .ok (.i2l, 1) := by decide +kernel
theorem dX12_isPerson_12 : decode cX12_isPerson 12 = .ok (.invokestatic 112, 3) := by decide +kernel
theorem dX12_isPerson_15 : decode cX12_isPerson 15 = .ok (.ireturn, 1) := by decide +kernel
theorem dX12_isPair_0 : decode cX12_isPair 0 = .ok (.iload_n 1, 1) := by decide +kernel
theorem dX12_isPair_1 : decode cX12_isPair 1 = .ok (.i2l, 1) := by decide +kernel
theorem dX12_isPair_2 : decode cX12_isPair 2 = .ok (.lconst 0, 1) := by decide +kernel
theorem dX12_isPair_3 : decode cX12_isPair 3 = .ok (.aload_n 0, 1) := by decide +kernel
theorem dX12_isPair_4 : decode cX12_isPair 4 = .ok (.getfield 34, 3) := by decide +kernel
theorem dX12_isPair_7 : decode cX12_isPair 7 = .ok (.iconst 4, 1) := by decide +kernel
theorem dX12_isPair_8 : decode cX12_isPair 8 = .ok (.iaload, 1) := by decide +kernel
theorem dX12_isPair_9 : decode cX12_isPair 9 = .ok (.iconst 1, 1) := by decide +kernel
theorem dX12_isPair_10 : decode cX12_isPair 10 = .ok (.isub, 1) := by decide +kernel
theorem dX12_isPair_11 : decode cX12_isPair 11 = .ok (.i2l, 1) := by decide +kernel
theorem dX12_isPair_12 : decode cX12_isPair 12 = .ok (.invokestatic 112, 3) := by decide +kernel
theorem dX12_isPair_15 : decode cX12_isPair 15 = .ok (.ireturn, 1) := by decide +kernel
theorem dX12_isYear_0 : decode cX12_isYear 0 = .ok (.lload_n 1, 1) := by decide +kernel
theorem dX12_isYear_1 : decode cX12_isYear 1 = .ok (.lconst 0, 1) := by decide +kernel
theorem dX12_isYear_2 : decode cX12_isYear 2 = .ok (.aload_n 0, 1) := by decide +kernel
theorem dX12_isYear_3 : decode cX12_isYear 3 = .ok (.getfield 34, 3) := by decide +kernel
theorem dX12_isYear_6 : decode cX12_isYear 6 = .ok (.iconst 0, 1) := by decide +kernel
theorem dX12_isYear_7 : decode cX12_isYear 7 = .ok (.iaload, 1) := by decide +kernel
theorem dX12_isYear_8 : decode cX12_isYear 8 = .ok (.i2l, 1) := by decide +kernel
theorem dX12_isYear_9 : decode cX12_isYear 9 = .ok (.lconst 1, 1) := by decide +kernel
theorem dX12_isYear_10 : decode cX12_isYear 10 = .ok (.lsub, 1) := by decide +kernel
theorem dX12_isYear_11 : decode cX12_isYear 11 = .ok (.invokestatic 112, 3) := by decide +kernel
theorem dX12_isYear_14 : decode cX12_isYear 14 = .ok (.ireturn, 1) := by decide +kernel
theorem dX12_has0_0 : decode cX12_has0 0 = .ok (.aload_n 0, 1) := by decide +kernel
theorem dX12_has0_1 : decode cX12_has0 1 = .ok (.getfield 37, 3) := by decide +kernel
theorem dX12_has0_4 : decode cX12_has0 4 = .ok (.iconst 5, 1) := by decide +kernel
theorem dX12_has0_5 : decode cX12_has0 5 = .ok (.iload_n 1, 1) := by decide +kernel
theorem dX12_has0_6 : decode cX12_has0 6 = .ok (.imul, 1) := by decide +kernel
theorem dX12_has0_7 : decode cX12_has0 7 = .ok (.iload_n 2, 1) := by decide +kernel
theorem dX12_has0_8 : decode cX12_has0 8 = .ok (.iadd, 1) := by decide +kernel
theorem dX12_has0_9 : decode cX12_has0 9 = .ok (.iaload, 1) := by decide +kernel
theorem dX12_has0_10 : decode cX12_has0 10 = .ok (.ireturn, 1) := by decide +kernel
theorem dX12_whoOf_0 : decode cX12_whoOf 0 = .ok (.aload_n 0, 1) := by decide +kernel
theorem dX12_whoOf_1 : decode cX12_whoOf 1 = .ok (.getfield 40, 3) := by decide +kernel
theorem dX12_whoOf_4 : decode cX12_whoOf 4 = .ok (.iconst 3, 1) := by decide +kernel
theorem dX12_whoOf_5 : decode cX12_whoOf 5 = .ok (.iload_n 1, 1) := by decide +kernel
theorem dX12_whoOf_6 : decode cX12_whoOf 6 = .ok (.imul, 1) := by decide +kernel
theorem dX12_whoOf_7 : decode cX12_whoOf 7 = .ok (.iload_n 2, 1) := by decide +kernel
theorem dX12_whoOf_8 : decode cX12_whoOf 8 = .ok (.iadd, 1) := by decide +kernel
theorem dX12_whoOf_9 : decode cX12_whoOf 9 = .ok (.iaload, 1) := by decide +kernel
theorem dX12_whoOf_10 : decode cX12_whoOf 10 = .ok (.ireturn, 1) := by decide +kernel
theorem dX12_ruleOf_0 : decode cX12_ruleOf 0 = .ok (.aload_n 0, 1) := by decide +kernel
theorem dX12_ruleOf_1 : decode cX12_ruleOf 1 = .ok (.iload_n 1, 1) := by decide +kernel
theorem dX12_ruleOf_2 : decode cX12_ruleOf 2 = .ok (.iconst 0, 1) := by decide +kernel
theorem dX12_ruleOf_3 : decode cX12_ruleOf 3 = .ok (.invokevirtual 273, 3) := by decide +kernel
theorem dX12_ruleOf_6 : decode cX12_ruleOf 6 = .ok (.bipush 16, 2) := by decide +kernel
theorem dX12_ruleOf_8 : decode cX12_ruleOf 8 = .ok (.aload_n 0, 1) := by decide +kernel
theorem dX12_ruleOf_9 : decode cX12_ruleOf 9 = .ok (.iload_n 1, 1) := by decide +kernel
theorem dX12_ruleOf_10 : decode cX12_ruleOf 10 = .ok (.iconst 1, 1) := by decide +kernel
theorem dX12_ruleOf_11 : decode cX12_ruleOf 11 = .ok (.invokevirtual 273, 3) := by decide +kernel
theorem dX12_ruleOf_14 : decode cX12_ruleOf 14 = .ok (.imul, 1) := by decide +kernel
theorem dX12_ruleOf_15 : decode cX12_ruleOf 15 = .ok (.iadd, 1) := by decide +kernel
theorem dX12_ruleOf_16 : decode cX12_ruleOf 16 = .ok (.ireturn, 1) := by decide +kernel
theorem dX12_person_0 : decode cX12_person 0 = .ok (.aload_n 0, 1) := by decide +kernel
theorem dX12_person_1 : decode cX12_person 1 = .ok (.iconst 0, 1) := by decide +kernel
theorem dX12_person_2 : decode cX12_person 2 = .ok (.putfield 107, 3) := by decide +kernel
theorem dX12_person_5 : decode cX12_person 5 = .ok (.aload_n 0, 1) := by decide +kernel
theorem dX12_person_6 : decode cX12_person 6 = .ok (.iload_n 1, 1) := by decide +kernel
theorem dX12_person_7 : decode cX12_person 7 = .ok (.invokevirtual 276, 3) := by decide +kernel
theorem dX12_person_10 : decode cX12_person 10 = .ok (.ifCond .eq 24, 3) := by decide +kernel
theorem dX12_person_13 : decode cX12_person 13 = .ok (.iload_n 2, 1) := by decide +kernel
theorem dX12_person_14 : decode cX12_person 14 = .ok (.i2l, 1) := by decide +kernel
theorem dX12_person_15 : decode cX12_person 15 = .ok (.lconst 0, 1) := by decide +kernel
theorem dX12_person_16 : decode cX12_person 16 = .ok (.ldc2_w 279, 3) := by decide +kernel
theorem dX12_person_19 : decode cX12_person 19 = .ok (.invokestatic 112, 3) := by decide +kernel
theorem dX12_person_22 : decode cX12_person 22 = .ok (.ifCond .eq 12, 3) := by decide +kernel
theorem dX12_person_25 : decode cX12_person 25 = .ok (.aload_n 0, 1) := by decide +kernel
theorem dX12_person_26 : decode cX12_person 26 = .ok (.iload_n 1, 1) := by decide +kernel
theorem dX12_person_27 : decode cX12_person 27 = .ok (.iload_n 2, 1) := by decide +kernel
theorem dX12_person_28 : decode cX12_person 28 = .ok (.invokevirtual 273, 3) := by decide +kernel
theorem dX12_person_31 : decode cX12_person 31 = .ok (.goto 5, 3) := by decide +kernel
theorem dX12_person_34 : decode cX12_person 34 = .ok (.bipush (-2), 2) := by decide +kernel
theorem dX12_person_36 : decode cX12_person 36 = .ok (.ireturn, 1) := by decide +kernel
