theorem dX4_isThere_0 : decode cX4_isThere 0 = .ok (.aload_n 0, 1) := by decide +kernel
theorem dX4_isThere_1 : decode cX4_isThere 1 = .ok (.getfield 37, 3) := by decide +kernel
theorem dX4_isThere_4 : decode cX4_isThere 4 = .ok (.ifCond .le 7, 3) := by decide +kernel
theorem dX4_isThere_7 : decode cX4_isThere 7 = .ok (.iconst 1, 1) := by decide +kernel
theorem dX4_isThere_8 : decode cX4_isThere 8 = .ok (.goto 4, 3) := by decide +kernel
theorem dX4_isThere_11 : decode cX4_isThere 11 = .ok (.iconst 0, 1) := by decide +kernel
theorem dX4_isThere_12 : decode cX4_isThere 12 = .ok (.ireturn, 1) := by decide +kernel
theorem dX4_hasPerson_0 : decode cX4_hasPerson 0 = .ok (.iload_n 1, 1) := by decide +kernel
theorem dX4_hasPerson_1 : decode cX4_hasPerson 1 = .ok (.ifCond .lt 15, 3) := by decide +kernel
theorem dX4_hasPerson_4 : decode cX4_hasPerson 4 = .ok (.iload_n 1, 1) := by decide +kernel
theorem dX4_hasPerson_5 : decode cX4_hasPerson 5 = .ok (.aload_n 0, 1) := by decide +kernel
theorem dX4_hasPerson_6 : decode cX4_hasPerson 6 = .ok (.getfield 50, 3) := by decide +kernel
theorem dX4_hasPerson_9 : decode cX4_hasPerson 9 = .ok (.if_icmp .ge 7, 3) := by decide +kernel
theorem dX4_hasPerson_12 : decode cX4_hasPerson 12 = .ok (.iconst 1, 1) := by decide +kernel
theorem dX4_hasPerson_13 : decode cX4_hasPerson 13 = .ok (.goto 4, 3) := by decide +kernel
theorem dX4_hasPerson_16 : decode cX4_hasPerson 16 = .ok (.iconst 0, 1) := by decide +kernel
theorem dX4_hasPerson_17 : decode cX4_hasPerson 17 = .ok (.ireturn, 1) := by decide +kernel
theorem dX4_hasPair_0 : decode cX4_hasPair 0 = .ok (.iload_n 1, 1) := by decide +kernel
theorem dX4_hasPair_1 : decode cX4_hasPair 1 = .ok (.ifCond .lt 15, 3) := by decide +kernel
theorem dX4_hasPair_4 : decode cX4_hasPair 4 = .ok (.iload_n 1, 1) := by decide +kernel
theorem dX4_hasPair_5 : decode cX4_hasPair 5 = .ok (.aload_n 0, 1) := by decide +kernel
theorem dX4_hasPair_6 : decode cX4_hasPair 6 = .ok (.getfield 53, 3) := by decide +kernel
theorem dX4_hasPair_9 : decode cX4_hasPair 9 = .ok (.if_icmp .ge 7, 3) := by decide +kernel
theorem dX4_hasPair_12 : decode cX4_hasPair 12 = .ok (.iconst 1, 1) := by decide +kernel
theorem dX4_hasPair_13 : decode cX4_hasPair 13 = .ok (.goto 4, 3) := by decide +kernel
theorem dX4_hasPair_16 : decode cX4_hasPair 16 = .ok (.iconst 0, 1) := by decide +kernel
theorem dX4_hasPair_17 : decode cX4_hasPair 17 = .ok (.ireturn, 1) := by decide +kernel
theorem dX4_hasYear_0 : decode cX4_hasYear 0 = .ok (.iload_n 1, 1) := by decide +kernel
theorem dX4_hasYear_1 : decode cX4_hasYear 1 = .ok (.ifCond .lt 15, 3) := by decide +kernel
theorem dX4_hasYear_4 : decode cX4_hasYear 4 = .ok (.iload_n 1, 1) := by decide +kernel
theorem dX4_hasYear_5 : decode cX4_hasYear 5 = .ok (.aload_n 0, 1) := by decide +kernel
theorem dX4_hasYear_6 : decode cX4_hasYear 6 = .ok (.getfield 41, 3) := by decide +kernel
theorem dX4_hasYear_9 : decode cX4_hasYear 9 = .ok (.if_icmp .ge 7, 3) := by decide +kernel
theorem dX4_hasYear_12 : decode cX4_hasYear 12 = .ok (.iconst 1, 1) := by decide +kernel
theorem dX4_hasYear_13 : decode cX4_hasYear 13 = .ok (.goto 4, 3) := by decide +kernel
theorem dX4_hasYear_16 : decode cX4_hasYear 16 = .ok (.iconst 0, 1) := by decide +kernel
theorem dX4_hasYear_17 : decode cX4_hasYear 17 = .ok (.ireturn, 1) := by decide +kernel
theorem dX4_hasSet_0 : decode cX4_hasSet 0 = .ok (.iload_n 1, 1) := by decide +kernel
theorem dX4_hasSet_1 : decode cX4_hasSet 1 = .ok (.ifCond .le 17, 3) := by decide +kernel
theorem dX4_hasSet_4 : decode cX4_hasSet 4 = .ok (.iload_n 1, 1) := by decide +kernel
theorem dX4_hasSet_5 : decode cX4_hasSet 5 = .ok (.iconst 1, 1) := by decide +kernel
theorem dX4_hasSet_6 : decode cX4_hasSet 6 = .ok (.aload_n 0, 1) := by decide +kernel
theorem dX4_hasSet_7 : decode cX4_hasSet 7 = .ok (.getfield 50, 3) := by decide +kernel
theorem dX4_hasSet_10 : decode cX4_hasSet 10 = .ok (.ishl, 1) := by decide +kernel
theorem dX4_hasSet_11 : decode cX4_hasSet 11 = .ok (.if_icmp .ge 7, 3) := by decide +kernel
theorem dX4_hasSet_18 : decode cX4_hasSet 18 = .ok (.iconst 0, 1) := by decide +kernel
theorem dX4_hasSet_19 : decode cX4_hasSet 19 = .ok (.ireturn, 1) := by decide +kernel
theorem dX11_isBelow_0 : decode cX11_isBelow 0 = .ok (.iload_n 0, 1) := by decide +kernel
theorem dX11_isBelow_1 : decode cX11_isBelow 1 = .ok (.ifCond .lt 12, 3) := by decide +kernel
theorem dX11_isBelow_4 : decode cX11_isBelow 4 = .ok (.iload_n 0, 1) := by decide +kernel
theorem dX11_isBelow_5 : decode cX11_isBelow 5 = .ok (.iload_n 1, 1) := by decide +kernel
theorem dX11_isBelow_6 : decode cX11_isBelow 6 = .ok (.if_icmp .ge 7, 3) := by decide +kernel
theorem dX11_isBelow_9 : decode cX11_isBelow 9 = .ok (.iconst 1, 1) := by decide +kernel
theorem dX11_isBelow_10 : decode cX11_isBelow 10 = .ok (.goto 4, 3) := by decide +kernel
theorem dX11_isBelow_13 : decode cX11_isBelow 13 = .ok (.iconst 0, 1) := by decide +kernel
theorem dX11_isBelow_14 : decode cX11_isBelow 14 = .ok (.ireturn, 1) := by decide +kernel
theorem dX11_isBit_0 : decode cX11_isBit 0 = .ok (.iload_n 0, 1) := by decide +kernel
theorem dX11_isBit_1 : decode cX11_isBit 1 = .ok (.ifCond .eq 8, 3) := by decide +kernel
theorem dX11_isBit_4 : decode cX11_isBit 4 = .ok (.iload_n 0, 1) := by decide +kernel
theorem dX11_isBit_5 : decode cX11_isBit 5 = .ok (.iconst 1, 1) := by decide +kernel
theorem dX11_isBit_6 : decode cX11_isBit 6 = .ok (.if_icmp .ne 7, 3) := by decide +kernel
theorem dX11_isBit_9 : decode cX11_isBit 9 = .ok (.iconst 1, 1) := by decide +kernel
theorem dX11_isBit_10 : decode cX11_isBit 10 = .ok (.goto 4, 3) := by decide +kernel
theorem dX11_isBit_13 : decode cX11_isBit 13 = .ok (.iconst 0, 1) := by decide +kernel
theorem dX11_isBit_14 : decode cX11_isBit 14 = .ok (.ireturn, 1) := by decide +kernel
theorem dX11_isSeed_0 : decode cX11_isSeed 0 = .ok (.iload_n 0, 1) := by decide +kernel
theorem dX11_isSeed_1 : decode cX11_isSeed 1 = .ok (.ifCond .lt 14, 3) := by decide +kernel
theorem dX11_isSeed_4 : decode cX11_isSeed 4 = .ok (.iload_n 0, 1) := by decide +kernel
theorem dX11_isSeed_5 : decode cX11_isSeed 5 = .ok (.ldc_w 411, 3) := by decide +kernel
theorem dX11_isSeed_8 : decode cX11_isSeed 8 = .ok (.if_icmp .gt 7, 3) := by decide +kernel
theorem dX11_isSeed_11 : decode cX11_isSeed 11 = .ok (.iconst 1, 1) := by decide +kernel
theorem dX11_isSeed_12 : decode cX11_isSeed 12 = .ok (.goto 4, 3) := by decide +kernel
theorem dX11_isSeed_15 : decode cX11_isSeed 15 = .ok (.iconst 0, 1) := by decide +kernel
theorem dX11_isSeed_16 : decode cX11_isSeed 16 = .ok (.ireturn, 1) := by decide +kernel
theorem dX11_hasYearOf_0 : decode cX11_hasYearOf 0 = .ok (.aload_n 0, 1) := by decide +kernel
theorem dX11_hasYearOf_1 : decode cX11_hasYearOf 1 = .ok (.getfield 19, 3) := by decide +kernel
theorem dX11_hasYearOf_4 : decode cX11_hasYearOf 4 = .ok (.iload_n 1, 1) := by decide +kernel
theorem dX11_hasYearOf_5 : decode cX11_hasYearOf 5 = .ok (.invokevirtual 135, 3) := by decide +kernel
theorem dX11_hasYearOf_8 : decode cX11_hasYearOf 8 = .ok (.ifCond .eq 25, 3) := by decide +kernel
theorem dX11_hasYearOf_33 : decode cX11_hasYearOf 33 = .ok (.iconst 0, 1) := by decide +kernel
theorem dX11_hasYearOf_34 : decode cX11_hasYearOf 34 = .ok (.ireturn, 1) := by decide +kernel
theorem dX11_isChance_0 : decode cX11_isChance 0 = .ok (.aload_n 0, 1) := by decide +kernel
theorem dX11_isChance_1 : decode cX11_isChance 1 = .ok (.getfield 19, 3) := by decide +kernel
theorem dX11_isChance_4 : decode cX11_isChance 4 = .ok (.iload_n 1, 1) := by decide +kernel
theorem dX11_isChance_5 : decode cX11_isChance 5 = .ok (.invokevirtual 135, 3) := by decide +kernel
theorem dX11_isChance_8 : decode cX11_isChance 8 = .ok (.ifCond .eq 24, 3) := by decide +kernel
theorem dX11_isChance_32 : decode cX11_isChance 32 = .ok (.iconst 0, 1) := by decide +kernel
theorem dX11_isChance_33 : decode cX11_isChance 33 = .ok (.ireturn, 1) := by decide +kernel
theorem dX11_isWill_0 : decode cX11_isWill 0 = .ok (.aload_n 0, 1) := by decide +kernel
theorem dX11_isWill_1 : decode cX11_isWill 1 = .ok (.getfield 19, 3) := by decide +kernel
theorem dX11_isWill_4 : decode cX11_isWill 4 = .ok (.iload_n 1, 1) := by decide +kernel
theorem dX11_isWill_5 : decode cX11_isWill 5 = .ok (.invokevirtual 135, 3) := by decide +kernel
theorem dX11_isWill_8 : decode cX11_isWill 8 = .ok (.ifCond .eq 25, 3) := by decide +kernel
theorem dX11_isWill_33 : decode cX11_isWill 33 = .ok (.iconst 0, 1) := by decide +kernel
theorem dX11_isWill_34 : decode cX11_isWill 34 = .ok (.ireturn, 1) := by decide +kernel
theorem dX11_readSeen_0 : decode cX11_readSeen 0 = .ok (.iload_n 1, 1) := by decide +kernel
theorem dX11_readSeen_1 : decode cX11_readSeen 1 = .ok (.iconst 4, 1) := by decide +kernel
theorem dX11_readSeen_2 : decode cX11_readSeen 2 = .ok (.invokestatic 148, 3) := by decide +kernel
theorem dX11_readSeen_5 : decode cX11_readSeen 5 = .ok (.ifCond .eq 14, 3) := by decide +kernel
theorem dX11_readSeen_8 : decode cX11_readSeen 8 = .ok (.aload_n 0, 1) := by decide +kernel
theorem dX11_readSeen_9 : decode cX11_readSeen 9 = .ok (.getfield 19, 3) := by decide +kernel
theorem dX11_readSeen_12 : decode cX11_readSeen 12 = .ok (.iload_n 2, 1) := by decide +kernel
theorem dX11_readSeen_13 : decode cX11_readSeen 13 = .ok (.invokevirtual 135, 3) := by decide +kernel
theorem dX11_readSeen_16 : decode cX11_readSeen 16 = .ok (.ifCond .ne 6, 3) := by decide +kernel
theorem dX11_readSeen_19 : decode cX11_readSeen 19 = .ok (.bipush (-2), 2) := by decide +kernel
theorem dX11_readSeen_21 : decode cX11_readSeen 21 = .ok (.ireturn, 1) := by decide +kernel
