theorem dX12_in_0 : decode cX12_in 0 = .ok (.lload_n 0, 1) := by decide +kernel
theorem dX12_in_1 : decode cX12_in 1 = .ok (.lload_n 2, 1) := by decide +kernel
theorem dX12_in_2 : decode cX12_in 2 = .ok (.lcmp, 1) := by decide +kernel
theorem dX12_in_3 : decode cX12_in 3 = .ok (.ifCond .lt 14, 3) := by decide +kernel
theorem dX12_in_6 : decode cX12_in 6 = .ok (.lload_n 0, 1) := by decide +kernel
theorem dX12_in_7 : decode cX12_in 7 = .ok (.lload 4, 2) := by decide +kernel
theorem dX12_in_9 : decode cX12_in 9 = .ok (.lcmp, 1) := by decide +kernel
theorem dX12_in_10 : decode cX12_in 10 = .ok (.ifCond .gt 7, 3) := by decide +kernel
theorem dX12_in_13 : decode cX12_in 13 = .ok (.iconst 1, 1) := by decide +kernel
theorem dX12_in_14 : decode cX12_in 14 = .ok (.goto 4, 3) := by decide +kernel
theorem dX12_in_17 : decode cX12_in 17 = .ok (.iconst 0, 1) := by decide +kernel
theorem dX12_in_18 : decode cX12_in 18 = .ok (.ireturn, 1) := by decide +kernel
theorem dX12_isSlot_0 : decode cX12_isSlot 0 = .ok (.iload_n 0, 1) := by decide +kernel
theorem dX12_isSlot_1 : decode cX12_isSlot 1 = .ok (.i2l, 1) := by decide +kernel
theorem dX12_isSlot_2 : decode cX12_isSlot 2 = .ok (.lconst 0, 1) := by decide +kernel
theorem dX12_isSlot_3 : decode cX12_isSlot 3 = .ok (.ldc2_w 110, 3) := by decide +kernel
theorem dX12_isSlot_6 : decode cX12_isSlot 6 = .ok (.invokestatic 112, 3) := by decide +kernel
theorem dX12_isSlot_9 : decode cX12_isSlot 9 = .ok (.ireturn, 1) := by decide +kernel
theorem dX12_isLand_0 : decode cX12_isLand 0 = .ok (.aload_n 0, 1) := by decide +kernel
theorem dX12_isLand_1 : decode cX12_isLand 1 = .ok (.getfield 31, 3) := by decide +kernel
theorem dX12_isLand_4 : decode cX12_isLand 4 = .ok (.iconst 0, 1) := by decide +kernel
theorem dX12_isLand_5 : decode cX12_isLand 5 = .ok (.iaload, 1) := by decide +kernel
theorem dX12_isLand_6 : decode cX12_isLand 6 = .ok (.ifCond .le 7, 3) := by decide +kernel
theorem dX12_isLand_13 : decode cX12_isLand 13 = .ok (.iconst 0, 1) := by decide +kernel
theorem dX12_isLand_14 : decode cX12_isLand 14 = .ok (.ireturn, 1) := by decide +kernel
theorem dX12_isPerson_0 : decode cX12_isPerson 0 = .ok (.iload_n 1, 1) := by decide +kernel
theorem dX12_isPerson_1 : decode cX12_isPerson 1 = .ok (.i2l, 1) := by decide +kernel
theorem dX12_isPerson_2 : decode cX12_isPerson 2 = .ok (.lconst 0, 1) := by decide +kernel
theorem dX12_isPerson_3 : decode cX12_isPerson 3 = .ok (.aload_n 0, 1) := by decide +kernel
theorem dX12_isPerson_4 : decode cX12_isPerson 4 = .ok (.getfield 34, 3) := by decide +kernel
theorem dX12_isPerson_7 : decode cX12_isPerson 7 = .ok (.iconst 3, 1) := by decide +kernel
theorem dX12_isPerson_8 : decode cX12_isPerson 8 = .ok (.iaload, 1) := by decide +kernel
theorem dX12_isPerson_9 : decode cX12_isPerson 9 = .ok (.iconst 1, 1) := by decide +kernel
theorem dX12_isPerson_10 : decode cX12_isPerson 10 = .ok (.isub, 1) := by decide +kernel
theorem dX12_isPerson_11 : decode cX12_isPerson 11 = .ok (.i2l, 1) := by decide +kernel
theorem dX12_isPerson_12 : decode cX12_isPerson 12 = .ok (.invokestatic 112, 3) := by decide +kernel
theorem dX12_isPerson_15 : decode cX12_isPerson 15 = .ok (.ireturn, 1) := by decide +kernel
theorem dX12_isPair_0 : decode cX12_isPair 0 = .ok (.iload_n 1, 1) := by decide +kernel
theorem dX12_isPair_1 : decode cX12_isPair 1 = .ok (.i2l, 1) := by decide +kernel
theorem dX12_isPair_2 : decode cX12_isPair 2 = .ok (.lconst 0, 1) := by decide +kernel
theorem dX12_isPair_3 : decode cX12_isPair 3 = .ok (.aload_n 0, 1) := by decide +kernel
theorem dX12_isPair_4 : decode cX12_isPair 4 = .ok (.getfield 34, 3) := by decide +kernel
theorem dX12_isPair_7 : decode cX12_isPair 7 = .ok (.iconst 4, 1) := by decide +kernel
theorem dX12_isPair_8 : decode cX12_isPair 8 = .ok (.iaload, 1) := by decide +kernel
theorem dX12_isPair_9 : decode cX12_isPair 9 = .ok (.iconst 1, 1) := by decide +kernel
theorem dX12_isPair_10 : decode cX12_isPair 10 = .ok (.isub, 1) := by decide +kernel
theorem dX12_isPair_11 : decode cX12_isPair 11 = .ok (.i2l, 1) := by decide +kernel
theorem dX12_isPair_12 : decode cX12_isPair 12 = .ok (.invokestatic 112, 3) := by decide +kernel
theorem dX12_isPair_15 : decode cX12_isPair 15 = .ok (.ireturn, 1) := by decide +kernel
theorem dX12_isYear_0 : decode cX12_isYear 0 = .ok (.lload_n 1, 1) := by decide +kernel
theorem dX12_isYear_1 : decode cX12_isYear 1 = .ok (.lconst 0, 1) := by decide +kernel
theorem dX12_isYear_2 : decode cX12_isYear 2 = .ok (.aload_n 0, 1) := by decide +kernel
theorem dX12_isYear_3 : decode cX12_isYear 3 = .ok (.getfield 34, 3) := by decide +kernel
theorem dX12_isYear_6 : decode cX12_isYear 6 = .ok (.iconst 0, 1) := by decide +kernel
theorem dX12_isYear_7 : decode cX12_isYear 7 = .ok (.iaload, 1) := by decide +kernel
theorem dX12_isYear_8 : decode cX12_isYear 8 = .ok (.i2l, 1) := by decide +kernel
theorem dX12_isYear_9 : decode cX12_isYear 9 = .ok (.lconst 1, 1) := by decide +kernel
theorem dX12_isYear_10 : decode cX12_isYear 10 = .ok (.lsub, 1) := by decide +kernel
theorem dX12_isYear_11 : decode cX12_isYear 11 = .ok (.invokestatic 112, 3) := by decide +kernel
theorem dX12_isYear_14 : decode cX12_isYear 14 = .ok (.ireturn, 1) := by decide +kernel
theorem dX12_isSide_0 : decode cX12_isSide 0 = .ok (.iload_n 0, 1) := by decide +kernel
theorem dX12_isSide_1 : decode cX12_isSide 1 = .ok (.i2l, 1) := by decide +kernel
theorem dX12_isSide_2 : decode cX12_isSide 2 = .ok (.lconst 0, 1) := by decide +kernel
theorem dX12_isSide_3 : decode cX12_isSide 3 = .ok (.lconst 1, 1) := by decide +kernel
theorem dX12_isSide_4 : decode cX12_isSide 4 = .ok (.invokestatic 112, 3) := by decide +kernel
theorem dX12_isSide_7 : decode cX12_isSide 7 = .ok (.ireturn, 1) := by decide +kernel
theorem dX12_isRule_0 : decode cX12_isRule 0 = .ok (.iload_n 0, 1) := by decide +kernel
theorem dX12_isRule_1 : decode cX12_isRule 1 = .ok (.i2l, 1) := by decide +kernel
theorem dX12_isRule_2 : decode cX12_isRule 2 = .ok (.lconst 0, 1) := by decide +kernel
theorem dX12_isRule_3 : decode cX12_isRule 3 = .ok (.ldc2_w 271, 3) := by decide +kernel
theorem dX12_isRule_6 : decode cX12_isRule 6 = .ok (.invokestatic 112, 3) := by decide +kernel
theorem dX12_isRule_9 : decode cX12_isRule 9 = .ok (.ireturn, 1) := by decide +kernel
theorem dX12_isChance_0 : decode cX12_isChance 0 = .ok (.aload_n 0, 1) := by decide +kernel
theorem dX12_isChance_1 : decode cX12_isChance 1 = .ok (.iload_n 1, 1) := by decide +kernel
theorem dX12_isChance_2 : decode cX12_isChance 2 = .ok (.invokevirtual 281, 3) := by decide +kernel
theorem dX12_isChance_5 : decode cX12_isChance 5 = .ok (.ifCond .eq 29, 3) := by decide +kernel
theorem dX12_isChance_34 : decode cX12_isChance 34 = .ok (.iconst 0, 1) := by decide +kernel
theorem dX12_isChance_35 : decode cX12_isChance 35 = .ok (.ireturn, 1) := by decide +kernel
theorem dX12_isWill_0 : decode cX12_isWill 0 = .ok (.aload_n 0, 1) := by decide +kernel
theorem dX12_isWill_1 : decode cX12_isWill 1 = .ok (.iload_n 1, 1) := by decide +kernel
theorem dX12_isWill_2 : decode cX12_isWill 2 = .ok (.invokevirtual 281, 3) := by decide +kernel
theorem dX12_isWill_5 : decode cX12_isWill 5 = .ok (.ifCond .eq 26, 3) := by decide +kernel
theorem dX12_isWill_31 : decode cX12_isWill 31 = .ok (.iconst 0, 1) := by decide +kernel
theorem dX12_isWill_32 : decode cX12_isWill 32 = .ok (.ireturn, 1) := by decide +kernel
theorem dX12_isSet_0 : decode cX12_isSet 0 = .ok (.aload_n 0, 1) := by decide +kernel
theorem dX12_isSet_1 : decode cX12_isSet 1 = .ok (.invokevirtual 373, 3) := by decide +kernel
theorem dX12_isSet_4 : decode cX12_isSet 4 = .ok (.ifCond .eq 27, 3) := by decide +kernel
theorem dX12_isSet_31 : decode cX12_isSet 31 = .ok (.iconst 0, 1) := by decide +kernel
theorem dX12_isSet_32 : decode cX12_isSet 32 = .ok (.ireturn, 1) := by decide +kernel
theorem dX12_whyNot_0 : decode cX12_whyNot 0 = .ok (.iload_n 1, 1) := by decide +kernel
theorem dX12_whyNot_1 : decode cX12_whyNot 1 = .ok (.invokestatic 116, 3) := by decide +kernel
theorem dX12_whyNot_4 : decode cX12_whyNot 4 = .ok (.ifCond .eq 11, 3) := by decide +kernel
theorem dX12_whyNot_7 : decode cX12_whyNot 7 = .ok (.aload_n 0, 1) := by decide +kernel
theorem dX12_whyNot_8 : decode cX12_whyNot 8 = .ok (.iload_n 2, 1) := by decide +kernel
theorem dX12_whyNot_9 : decode cX12_whyNot 9 = .ok (.invokevirtual 281, 3) := by decide +kernel
theorem dX12_whyNot_12 : decode cX12_whyNot 12 = .ok (.ifCond .ne 6, 3) := by decide +kernel
theorem dX12_whyNot_15 : decode cX12_whyNot 15 = .ok (.bipush (-2), 2) := by decide +kernel
theorem dX12_whyNot_17 : decode cX12_whyNot 17 = .ok (.ireturn, 1) := by decide +kernel
theorem dX12_isSeed_0 : decode cX12_isSeed 0 = .ok (.iload_n 0, 1) := by decide +kernel
theorem dX12_isSeed_1 : decode cX12_isSeed 1 = .ok (.i2l, 1) := by decide +kernel
theorem dX12_isSeed_2 : decode cX12_isSeed 2 = .ok (.lconst 0, 1) := by decide +kernel
theorem dX12_isSeed_3 : decode cX12_isSeed 3 = .ok (.ldc2_w 528, 3) := by decide +kernel
theorem dX12_isSeed_6 : decode cX12_isSeed 6 = .ok (.invokestatic 112, 3) := by decide +kernel
theorem dX12_isSeed_9 : decode cX12_isSeed 9 = .ok (.ireturn, 1) := by decide +kernel
