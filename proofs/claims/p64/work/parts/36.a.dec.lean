theorem dX8_read_0 : decode cX8_read 0 = .ok (.aload_n 0, 1) := by decide +kernel
theorem dX8_read_1 : decode cX8_read 1 = .ok (.getfield 18, 3) := by decide +kernel
theorem dX8_read_4 : decode cX8_read 4 = .ok (.invokevirtual 32, 3) := by decide +kernel
theorem dX8_read_7 : decode cX8_read 7 = .ok (.aload_n 0, 1) := by decide +kernel
theorem dX8_read_8 : decode cX8_read 8 = .ok (.iconst 0, 1) := by decide +kernel
theorem dX8_read_9 : decode cX8_read 9 = .ok (.putfield 22, 3) := by decide +kernel
theorem dX8_read_12 : decode cX8_read 12 = .ok (.aload_n 0, 1) := by decide +kernel
theorem dX8_read_13 : decode cX8_read 13 = .ok (.iconst (-1), 1) := by decide +kernel
theorem dX8_read_14 : decode cX8_read 14 = .ok (.putfield 25, 3) := by decide +kernel
theorem dX8_read_17 : decode cX8_read 17 = .ok (.aload_n 0, 1) := by decide +kernel
theorem dX8_read_18 : decode cX8_read 18 = .ok (.iconst 0, 1) := by decide +kernel
theorem dX8_read_19 : decode cX8_read 19 = .ok (.putfield 35, 3) := by decide +kernel
theorem dX8_read_22 : decode cX8_read 22 = .ok (.aload_n 0, 1) := by decide +kernel
theorem dX8_read_23 : decode cX8_read 23 = .ok (.invokevirtual 38, 3) := by decide +kernel
theorem dX8_read_26 : decode cX8_read 26 = .ok (.iconst 0, 1) := by decide +kernel
theorem dX8_read_27 : decode cX8_read 27 = .ok (.istore_n 1, 1) := by decide +kernel
theorem dX8_read_28 : decode cX8_read 28 = .ok (.iload_n 1, 1) := by decide +kernel
theorem dX8_read_29 : decode cX8_read 29 = .ok (.sipush 1600, 3) := by decide +kernel
theorem dX8_read_32 : decode cX8_read 32 = .ok (.if_icmp .ge 50, 3) := by decide +kernel
theorem dX8_read_35 : decode cX8_read 35 = .ok (.aload_n 0, 1) := by decide +kernel
theorem dX8_read_36 : decode cX8_read 36 = .ok (.getfield 41, 3) := by decide +kernel
theorem dX8_read_39 : decode cX8_read 39 = .ok (.ifCond .eq 43, 3) := by decide +kernel
theorem dX8_read_42 : decode cX8_read 42 = .ok (.aload_n 0, 1) := by decide +kernel
theorem dX8_read_43 : decode cX8_read 43 = .ok (.getfield 22, 3) := by decide +kernel
theorem dX8_read_46 : decode cX8_read 46 = .ok (.ifCond .ne 36, 3) := by decide +kernel
theorem dX8_read_49 : decode cX8_read 49 = .ok (.aload_n 0, 1) := by decide +kernel
theorem dX8_read_50 : decode cX8_read 50 = .ok (.invokevirtual 44, 3) := by decide +kernel
theorem dX8_read_53 : decode cX8_read 53 = .ok (.ifCond .eq 23, 3) := by decide +kernel
theorem dX8_read_56 : decode cX8_read 56 = .ok (.aload_n 0, 1) := by decide +kernel
theorem dX8_read_57 : decode cX8_read 57 = .ok (.invokevirtual 48, 3) := by decide +kernel
theorem dX8_read_60 : decode cX8_read 60 = .ok (.ifCond .eq 16, 3) := by decide +kernel
theorem dX8_read_63 : decode cX8_read 63 = .ok (.aload_n 0, 1) := by decide +kernel
theorem dX8_read_64 : decode cX8_read 64 = .ok (.getfield 18, 3) := by decide +kernel
theorem dX8_read_67 : decode cX8_read 67 = .ok (.dup, 1) := by decide +kernel
theorem dX8_read_68 : decode cX8_read 68 = .ok (.getfield 51, 3) := by decide +kernel
theorem dX8_read_71 : decode cX8_read 71 = .ok (.iconst 1, 1) := by decide +kernel
theorem dX8_read_72 : decode cX8_read 72 = .ok (.iadd, 1) := by decide +kernel
theorem dX8_read_73 : decode cX8_read 73 = .ok (.putfield 51, 3) := by decide +kernel
theorem dX8_read_76 : decode cX8_read 76 = .ok (.iinc 1 1, 3) := by decide +kernel
theorem dX8_read_79 : decode cX8_read 79 = .ok (.goto (-51), 3) := by decide +kernel
theorem dX8_read_82 : decode cX8_read 82 = .ok (.aload_n 0, 1) := by decide +kernel
theorem dX8_read_83 : decode cX8_read 83 = .ok (.getfield 22, 3) := by decide +kernel
theorem dX8_read_86 : decode cX8_read 86 = .ok (.ifCond .ne 7, 3) := by decide +kernel
theorem dX8_read_89 : decode cX8_read 89 = .ok (.iconst 1, 1) := by decide +kernel
theorem dX8_read_90 : decode cX8_read 90 = .ok (.goto 4, 3) := by decide +kernel
theorem dX8_read_93 : decode cX8_read 93 = .ok (.iconst 0, 1) := by decide +kernel
theorem dX8_read_94 : decode cX8_read 94 = .ok (.ireturn, 1) := by decide +kernel
theorem dX11_hasYearOf_0 : decode cX11_hasYearOf 0 = .ok (.aload_n 0, 1) := by decide +kernel
theorem dX11_hasYearOf_1 : decode cX11_hasYearOf 1 = .ok (.getfield 19, 3) := by decide +kernel
theorem dX11_hasYearOf_4 : decode cX11_hasYearOf 4 = .ok (.iload_n 1, 1) := by decide +kernel
theorem dX11_hasYearOf_5 : decode cX11_hasYearOf 5 = .ok (.invokevirtual 135, 3) := by decide +kernel
theorem dX11_hasYearOf_8 : decode cX11_hasYearOf 8 = .ok (.ifCond .eq 25, 3) := by decide +kernel
theorem dX11_hasYearOf_11 : decode cX11_hasYearOf 11 = .ok (.iload_n 2, 1) := by decide +kernel
theorem dX11_hasYearOf_12 : decode cX11_hasYearOf 12 = .ok (.invokestatic 152, 3) := by decide +kernel
theorem dX11_hasYearOf_15 : decode cX11_hasYearOf 15 = .ok (.ifCond .eq 18, 3) := by decide +kernel
theorem dX11_hasYearOf_18 : decode cX11_hasYearOf 18 = .ok (.aload_n 0, 1) := by decide +kernel
theorem dX11_hasYearOf_19 : decode cX11_hasYearOf 19 = .ok (.getfield 19, 3) := by decide +kernel
theorem dX11_hasYearOf_22 : decode cX11_hasYearOf 22 = .ok (.iload_n 3, 1) := by decide +kernel
theorem dX11_hasYearOf_23 : decode cX11_hasYearOf 23 = .ok (.invokevirtual 184, 3) := by decide +kernel
theorem dX11_hasYearOf_26 : decode cX11_hasYearOf 26 = .ok (.ifCond .eq 7, 3) := by decide +kernel
theorem dX11_hasYearOf_29 : decode cX11_hasYearOf 29 = .ok (.iconst 1, 1) := by decide +kernel
theorem dX11_hasYearOf_30 : decode cX11_hasYearOf 30 = .ok (.goto 4, 3) := by decide +kernel
theorem dX11_hasYearOf_33 : decode cX11_hasYearOf 33 = .ok (.iconst 0, 1) := by decide +kernel
theorem dX11_hasYearOf_34 : decode cX11_hasYearOf 34 = .ok (.ireturn, 1) := by decide +kernel
theorem dX11_isChance_0 : decode cX11_isChance 0 = .ok (.aload_n 0, 1) := by decide +kernel
theorem dX11_isChance_1 : decode cX11_isChance 1 = .ok (.getfield 19, 3) := by decide +kernel
theorem dX11_isChance_4 : decode cX11_isChance 4 = .ok (.iload_n 1, 1) := by decide +kernel
theorem dX11_isChance_5 : decode cX11_isChance 5 = .ok (.invokevirtual 135, 3) := by decide +kernel
theorem dX11_isChance_8 : decode cX11_isChance 8 = .ok (.ifCond .eq 24, 3) := by decide +kernel
theorem dX11_isChance_11 : decode cX11_isChance 11 = .ok (.iload_n 2, 1) := by decide +kernel
theorem dX11_isChance_12 : decode cX11_isChance 12 = .ok (.iconst 1, 1) := by decide +kernel
theorem dX11_isChance_13 : decode cX11_isChance 13 = .ok (.if_icmp .lt 19, 3) := by decide +kernel
theorem dX11_isChance_16 : decode cX11_isChance 16 = .ok (.iload_n 2, 1) := by decide +kernel
theorem dX11_isChance_17 : decode cX11_isChance 17 = .ok (.iconst 3, 1) := by decide +kernel
theorem dX11_isChance_18 : decode cX11_isChance 18 = .ok (.if_icmp .gt 14, 3) := by decide +kernel
theorem dX11_isChance_21 : decode cX11_isChance 21 = .ok (.iload_n 3, 1) := by decide +kernel
theorem dX11_isChance_22 : decode cX11_isChance 22 = .ok (.invokestatic 152, 3) := by decide +kernel
theorem dX11_isChance_25 : decode cX11_isChance 25 = .ok (.ifCond .eq 7, 3) := by decide +kernel
theorem dX11_isChance_28 : decode cX11_isChance 28 = .ok (.iconst 1, 1) := by decide +kernel
theorem dX11_isChance_29 : decode cX11_isChance 29 = .ok (.goto 4, 3) := by decide +kernel
theorem dX11_isChance_32 : decode cX11_isChance 32 = .ok (.iconst 0, 1) := by decide +kernel
theorem dX11_isChance_33 : decode cX11_isChance 33 = .ok (.ireturn, 1) := by decide +kernel
theorem dX11_isWill_0 : decode cX11_isWill 0 = .ok (.aload_n 0, 1) := by decide +kernel
theorem dX11_isWill_1 : decode cX11_isWill 1 = .ok (.getfield 19, 3) := by decide +kernel
theorem dX11_isWill_4 : decode cX11_isWill 4 = .ok (.iload_n 1, 1) := by decide +kernel
theorem dX11_isWill_5 : decode cX11_isWill 5 = .ok (.invokevirtual 135, 3) := by decide +kernel
theorem dX11_isWill_8 : decode cX11_isWill 8 = .ok (.ifCond .eq 25, 3) := by decide +kernel
theorem dX11_isWill_11 : decode cX11_isWill 11 = .ok (.iload_n 2, 1) := by decide +kernel
theorem dX11_isWill_12 : decode cX11_isWill 12 = .ok (.invokestatic 152, 3) := by decide +kernel
theorem dX11_isWill_15 : decode cX11_isWill 15 = .ok (.ifCond .eq 18, 3) := by decide +kernel
theorem dX11_isWill_18 : decode cX11_isWill 18 = .ok (.iload_n 3, 1) := by decide +kernel
theorem dX11_isWill_19 : decode cX11_isWill 19 = .ok (.iconst 1, 1) := by decide +kernel
theorem dX11_isWill_20 : decode cX11_isWill 20 = .ok (.if_icmp .lt 13, 3) := by decide +kernel
theorem dX11_isWill_23 : decode cX11_isWill 23 = .ok (.iload_n 3, 1) := by decide +kernel
theorem dX11_isWill_24 : decode cX11_isWill 24 = .ok (.bipush 12, 2) := by decide +kernel
theorem dX11_isWill_26 : decode cX11_isWill 26 = .ok (.if_icmp .gt 7, 3) := by decide +kernel
theorem dX11_isWill_29 : decode cX11_isWill 29 = .ok (.iconst 1, 1) := by decide +kernel
theorem dX11_isWill_30 : decode cX11_isWill 30 = .ok (.goto 4, 3) := by decide +kernel
theorem dX11_isWill_33 : decode cX11_isWill 33 = .ok (.iconst 0, 1) := by decide +kernel
theorem dX11_isWill_34 : decode cX11_isWill 34 = .ok (.ireturn, 1) := by decide +kernel
theorem dX11_refreshed_0 : decode cX11_refreshed 0 = .ok (.aload_n 0, 1) := by decide +kernel
theorem dX11_refreshed_1 : decode cX11_refreshed 1 = .ok (.getfield 30, 3) := by decide +kernel
theorem dX11_refreshed_4 : decode cX11_refreshed 4 = .ok (.getfield 102, 3) := by decide +kernel
theorem dX11_refreshed_7 : decode cX11_refreshed 7 = .ok (.ifCond .eq 18, 3) := by decide +kernel
theorem dX11_refreshed_10 : decode cX11_refreshed 10 = .ok (.aload_n 0, 1) := by decide +kernel
theorem dX11_refreshed_11 : decode cX11_refreshed 11 = .ok (.getfield 30, 3) := by decide +kernel
theorem dX11_refreshed_14 : decode cX11_refreshed 14 = .ok (.aload_n 0, 1) := by decide +kernel
theorem dX11_refreshed_15 : decode cX11_refreshed 15 = .ok (.getfield 19, 3) := by decide +kernel
theorem dX11_refreshed_18 : decode cX11_refreshed 18 = .ok (.aload_n 0, 1) := by decide +kernel
theorem dX11_refreshed_19 : decode cX11_refreshed 19 = .ok (.getfield 37, 3) := by decide +kernel
theorem dX11_refreshed_22 : decode cX11_refreshed 22 = .ok (.invokevirtual 415, 3) := by decide +kernel
theorem dX11_refreshed_25 : decode cX11_refreshed 25 = .ok (.aload_n 0, 1) := by decide +kernel
theorem dX11_refreshed_26 : decode cX11_refreshed 26 = .ok (.getfield 30, 3) := by decide +kernel
theorem dX11_refreshed_29 : decode cX11_refreshed 29 = .ok (.areturn, 1) := by decide +kernel
theorem dX11_sendersTo_0 : decode cX11_sendersTo 0 = .ok (.aload_n 0, 1) := by decide +kernel
theorem dX11_sendersTo_1 : decode cX11_sendersTo 1 = .ok (.invokevirtual 159, 3) := by decide +kernel
theorem dX11_sendersTo_4 : decode cX11_sendersTo 4 = .ok (.astore_n 3, 1) := by decide +kernel
theorem dX11_sendersTo_5 : decode cX11_sendersTo 5 = .ok (.iconst 0, 1) := by decide +kernel
theorem dX11_sendersTo_6 : decode cX11_sendersTo 6 = .ok (.istore 4, 2) := by decide +kernel
theorem dX11_sendersTo_8 : decode cX11_sendersTo 8 = .ok (.iconst 0, 1) := by decide +kernel
theorem dX11_sendersTo_9 : decode cX11_sendersTo 9 = .ok (.istore 5, 2) := by decide +kernel
theorem dX11_sendersTo_11 : decode cX11_sendersTo 11 = .ok (.iload 5, 2) := by decide +kernel
theorem dX11_sendersTo_13 : decode cX11_sendersTo 13 = .ok (.iconst 2, 1) := by decide +kernel
theorem dX11_sendersTo_14 : decode cX11_sendersTo 14 = .ok (.aload_n 0, 1) := by decide +kernel
theorem dX11_sendersTo_15 : decode cX11_sendersTo 15 = .ok (.getfield 19, 3) := by decide +kernel
theorem dX11_sendersTo_18 : decode cX11_sendersTo 18 = .ok (.getfield 194, 3) := by decide +kernel
theorem dX11_sendersTo_21 : decode cX11_sendersTo 21 = .ok (.imul, 1) := by decide +kernel
theorem dX11_sendersTo_22 : decode cX11_sendersTo 22 = .ok (.if_icmp .ge 56, 3) := by decide +kernel
theorem dX11_sendersTo_25 : decode cX11_sendersTo 25 = .ok (.aload_n 0, 1) := by decide +kernel
theorem dX11_sendersTo_26 : decode cX11_sendersTo 26 = .ok (.getfield 19, 3) := by decide +kernel
theorem dX11_sendersTo_29 : decode cX11_sendersTo 29 = .ok (.getfield 138, 3) := by decide +kernel
theorem dX11_sendersTo_32 : decode cX11_sendersTo 32 = .ok (.iload 5, 2) := by decide +kernel
theorem dX11_sendersTo_34 : decode cX11_sendersTo 34 = .ok (.iaload, 1) := by decide +kernel
theorem dX11_sendersTo_35 : decode cX11_sendersTo 35 = .ok (.iload_n 1, 1) := by decide +kernel
theorem dX11_sendersTo_36 : decode cX11_sendersTo 36 = .ok (.if_icmp .ne 36, 3) := by decide +kernel
theorem dX11_sendersTo_39 : decode cX11_sendersTo 39 = .ok (.aload_n 3, 1) := by decide +kernel
theorem dX11_sendersTo_40 : decode cX11_sendersTo 40 = .ok (.getfield 174, 3) := by decide +kernel
theorem dX11_sendersTo_43 : decode cX11_sendersTo 43 = .ok (.iload 5, 2) := by decide +kernel
theorem dX11_sendersTo_45 : decode cX11_sendersTo 45 = .ok (.laload, 1) := by decide +kernel
theorem dX11_sendersTo_46 : decode cX11_sendersTo 46 = .ok (.iload_n 2, 1) := by decide +kernel
theorem dX11_sendersTo_47 : decode cX11_sendersTo 47 = .ok (.invokestatic 167, 3) := by decide +kernel
theorem dX11_sendersTo_50 : decode cX11_sendersTo 50 = .ok (.ifCond .eq 22, 3) := by decide +kernel
theorem dX11_sendersTo_53 : decode cX11_sendersTo 53 = .ok (.iload 4, 2) := by decide +kernel
theorem dX11_sendersTo_55 : decode cX11_sendersTo 55 = .ok (.iconst 1, 1) := by decide +kernel
theorem dX11_sendersTo_56 : decode cX11_sendersTo 56 = .ok (.aload_n 0, 1) := by decide +kernel
theorem dX11_sendersTo_57 : decode cX11_sendersTo 57 = .ok (.getfield 19, 3) := by decide +kernel
theorem dX11_sendersTo_60 : decode cX11_sendersTo 60 = .ok (.getfield 138, 3) := by decide +kernel
theorem dX11_sendersTo_63 : decode cX11_sendersTo 63 = .ok (.iload 5, 2) := by decide +kernel
theorem dX11_sendersTo_65 : decode cX11_sendersTo 65 = .ok (.iconst 1, 1) := by decide +kernel
theorem dX11_sendersTo_66 : decode cX11_sendersTo 66 = .ok (.ixor, 1) := by decide +kernel
theorem dX11_sendersTo_67 : decode cX11_sendersTo 67 = .ok (.iaload, 1) := by decide +kernel
theorem dX11_sendersTo_68 : decode cX11_sendersTo 68 = .ok (.ishl, 1) := by decide +kernel
theorem dX11_sendersTo_69 : decode cX11_sendersTo 69 = .ok (.ior, 1) := by decide +kernel
theorem dX11_sendersTo_70 : decode cX11_sendersTo 70 = .ok (.istore 4, 2) := by decide +kernel
theorem dX11_sendersTo_72 : decode cX11_sendersTo 72 = .ok (.iinc 5 1, 3) := by decide +kernel
theorem dX11_sendersTo_75 : decode cX11_sendersTo 75 = .ok (.goto (-64), 3) := by decide +kernel
theorem dX11_sendersTo_78 : decode cX11_sendersTo 78 = .ok (.iload 4, 2) := by decide +kernel
theorem dX11_sendersTo_80 : decode cX11_sendersTo 80 = .ok (.ireturn, 1) := by decide +kernel
theorem dX11_findFateOf_0 : decode cX11_findFateOf 0 = .ok (.aload_n 0, 1) := by decide +kernel
theorem dX11_findFateOf_1 : decode cX11_findFateOf 1 = .ok (.getfield 44, 3) := by decide +kernel
theorem dX11_findFateOf_4 : decode cX11_findFateOf 4 = .ok (.aload_n 0, 1) := by decide +kernel
theorem dX11_findFateOf_5 : decode cX11_findFateOf 5 = .ok (.getfield 19, 3) := by decide +kernel
theorem dX11_findFateOf_8 : decode cX11_findFateOf 8 = .ok (.iload_n 1, 1) := by decide +kernel
theorem dX11_findFateOf_9 : decode cX11_findFateOf 9 = .ok (.iconst 0, 1) := by decide +kernel
theorem dX11_findFateOf_10 : decode cX11_findFateOf 10 = .ok (.invokevirtual 419, 3) := by decide +kernel
theorem dX11_findFateOf_13 : decode cX11_findFateOf 13 = .ok (.aload_n 0, 1) := by decide +kernel
theorem dX11_findFateOf_14 : decode cX11_findFateOf 14 = .ok (.getfield 19, 3) := by decide +kernel
theorem dX11_findFateOf_17 : decode cX11_findFateOf 17 = .ok (.iload_n 1, 1) := by decide +kernel
theorem dX11_findFateOf_18 : decode cX11_findFateOf 18 = .ok (.iconst 1, 1) := by decide +kernel
theorem dX11_findFateOf_19 : decode cX11_findFateOf 19 = .ok (.invokevirtual 419, 3) := by decide +kernel
theorem dX11_findFateOf_22 : decode cX11_findFateOf 22 = .ok (.iload_n 2, 1) := by decide +kernel
theorem dX11_findFateOf_23 : decode cX11_findFateOf 23 = .ok (.invokevirtual 235, 3) := by decide +kernel
theorem dX11_findFateOf_26 : decode cX11_findFateOf 26 = .ok (.return_, 1) := by decide +kernel
theorem dX11_turnedByStrike_0 : decode cX11_turnedByStrike 0 = .ok (.aload_n 0, 1) := by decide +kernel
theorem dX11_turnedByStrike_1 : decode cX11_turnedByStrike 1 = .ok (.invokevirtual 159, 3) := by decide +kernel
theorem dX11_turnedByStrike_4 : decode cX11_turnedByStrike 4 = .ok (.astore_n 3, 1) := by decide +kernel
theorem dX11_turnedByStrike_5 : decode cX11_turnedByStrike 5 = .ok (.iconst 0, 1) := by decide +kernel
theorem dX11_turnedByStrike_6 : decode cX11_turnedByStrike 6 = .ok (.istore 4, 2) := by decide +kernel
theorem dX11_turnedByStrike_8 : decode cX11_turnedByStrike 8 = .ok (.iconst 0, 1) := by decide +kernel
theorem dX11_turnedByStrike_9 : decode cX11_turnedByStrike 9 = .ok (.istore 5, 2) := by decide +kernel
theorem dX11_turnedByStrike_11 : decode cX11_turnedByStrike 11 = .ok (.iload 5, 2) := by decide +kernel
theorem dX11_turnedByStrike_13 : decode cX11_turnedByStrike 13 = .ok (.aload_n 0, 1) := by decide +kernel
theorem dX11_turnedByStrike_14 : decode cX11_turnedByStrike 14 = .ok (.getfield 19, 3) := by decide +kernel
theorem dX11_turnedByStrike_17 : decode cX11_turnedByStrike 17 = .ok (.getfield 194, 3) := by decide +kernel
theorem dX11_turnedByStrike_20 : decode cX11_turnedByStrike 20 = .ok (.if_icmp .ge 91, 3) := by decide +kernel
theorem dX11_turnedByStrike_23 : decode cX11_turnedByStrike 23 = .ok (.aload_n 3, 1) := by decide +kernel
theorem dX11_turnedByStrike_24 : decode cX11_turnedByStrike 24 = .ok (.aload_n 0, 1) := by decide +kernel
theorem dX11_turnedByStrike_25 : decode cX11_turnedByStrike 25 = .ok (.getfield 19, 3) := by decide +kernel
theorem dX11_turnedByStrike_28 : decode cX11_turnedByStrike 28 = .ok (.iload 5, 2) := by decide +kernel
theorem dX11_turnedByStrike_30 : decode cX11_turnedByStrike 30 = .ok (.iload_n 1, 1) := by decide +kernel
theorem dX11_turnedByStrike_31 : decode cX11_turnedByStrike 31 = .ok (.invokevirtual 180, 3) := by decide +kernel
theorem dX11_turnedByStrike_34 : decode cX11_turnedByStrike 34 = .ok (.istore 6, 2) := by decide +kernel
theorem dX11_turnedByStrike_36 : decode cX11_turnedByStrike 36 = .ok (.aload_n 0, 1) := by decide +kernel
theorem dX11_turnedByStrike_37 : decode cX11_turnedByStrike 37 = .ok (.iload 5, 2) := by decide +kernel
theorem dX11_turnedByStrike_39 : decode cX11_turnedByStrike 39 = .ok (.iload 6, 2) := by decide +kernel
theorem dX11_turnedByStrike_41 : decode cX11_turnedByStrike 41 = .ok (.invokevirtual 242, 3) := by decide +kernel
theorem dX11_turnedByStrike_44 : decode cX11_turnedByStrike 44 = .ok (.aload_n 0, 1) := by decide +kernel
theorem dX11_turnedByStrike_45 : decode cX11_turnedByStrike 45 = .ok (.getfield 44, 3) := by decide +kernel
theorem dX11_turnedByStrike_48 : decode cX11_turnedByStrike 48 = .ok (.invokevirtual 246, 3) := by decide +kernel
theorem dX11_turnedByStrike_51 : decode cX11_turnedByStrike 51 = .ok (.ifCond .ne 7, 3) := by decide +kernel
theorem dX11_turnedByStrike_54 : decode cX11_turnedByStrike 54 = .ok (.iconst 1, 1) := by decide +kernel
theorem dX11_turnedByStrike_55 : decode cX11_turnedByStrike 55 = .ok (.goto 4, 3) := by decide +kernel
theorem dX11_turnedByStrike_58 : decode cX11_turnedByStrike 58 = .ok (.iconst 0, 1) := by decide +kernel
theorem dX11_turnedByStrike_59 : decode cX11_turnedByStrike 59 = .ok (.istore 7, 2) := by decide +kernel
theorem dX11_turnedByStrike_61 : decode cX11_turnedByStrike 61 = .ok (.aload_n 0, 1) := by decide +kernel
theorem dX11_turnedByStrike_62 : decode cX11_turnedByStrike 62 = .ok (.iload 5, 2) := by decide +kernel
theorem dX11_turnedByStrike_64 : decode cX11_turnedByStrike 64 = .ok (.iload 6, 2) := by decide +kernel
theorem dX11_turnedByStrike_66 : decode cX11_turnedByStrike 66 = .ok (.iconst 0, 1) := by decide +kernel
theorem dX11_turnedByStrike_67 : decode cX11_turnedByStrike 67 = .ok (.invokestatic 422, 3) := by decide +kernel
theorem dX11_turnedByStrike_70 : decode cX11_turnedByStrike 70 = .ok (.invokevirtual 242, 3) := by decide +kernel
theorem dX11_turnedByStrike_73 : decode cX11_turnedByStrike 73 = .ok (.aload_n 0, 1) := by decide +kernel
theorem dX11_turnedByStrike_74 : decode cX11_turnedByStrike 74 = .ok (.getfield 44, 3) := by decide +kernel
theorem dX11_turnedByStrike_77 : decode cX11_turnedByStrike 77 = .ok (.invokevirtual 246, 3) := by decide +kernel
theorem dX11_turnedByStrike_80 : decode cX11_turnedByStrike 80 = .ok (.ifCond .ne 7, 3) := by decide +kernel
theorem dX11_turnedByStrike_83 : decode cX11_turnedByStrike 83 = .ok (.iconst 1, 1) := by decide +kernel
theorem dX11_turnedByStrike_84 : decode cX11_turnedByStrike 84 = .ok (.goto 4, 3) := by decide +kernel
theorem dX11_turnedByStrike_87 : decode cX11_turnedByStrike 87 = .ok (.iconst 0, 1) := by decide +kernel
theorem dX11_turnedByStrike_88 : decode cX11_turnedByStrike 88 = .ok (.istore 8, 2) := by decide +kernel
theorem dX11_turnedByStrike_90 : decode cX11_turnedByStrike 90 = .ok (.iload 7, 2) := by decide +kernel
theorem dX11_turnedByStrike_92 : decode cX11_turnedByStrike 92 = .ok (.iload_n 2, 1) := by decide +kernel
theorem dX11_turnedByStrike_93 : decode cX11_turnedByStrike 93 = .ok (.if_icmp .ne 12, 3) := by decide +kernel
theorem dX11_turnedByStrike_96 : decode cX11_turnedByStrike 96 = .ok (.iload 8, 2) := by decide +kernel
theorem dX11_turnedByStrike_98 : decode cX11_turnedByStrike 98 = .ok (.iload_n 2, 1) := by decide +kernel
theorem dX11_turnedByStrike_99 : decode cX11_turnedByStrike 99 = .ok (.if_icmp .eq 6, 3) := by decide +kernel
theorem dX11_turnedByStrike_102 : decode cX11_turnedByStrike 102 = .ok (.iinc 4 1, 3) := by decide +kernel
theorem dX11_turnedByStrike_105 : decode cX11_turnedByStrike 105 = .ok (.iinc 5 1, 3) := by decide +kernel
theorem dX11_turnedByStrike_108 : decode cX11_turnedByStrike 108 = .ok (.goto (-97), 3) := by decide +kernel
theorem dX11_turnedByStrike_111 : decode cX11_turnedByStrike 111 = .ok (.iload 4, 2) := by decide +kernel
theorem dX11_turnedByStrike_113 : decode cX11_turnedByStrike 113 = .ok (.ireturn, 1) := by decide +kernel
theorem dX11_hurtsByQuitting_0 : decode cX11_hurtsByQuitting 0 = .ok (.aload_n 0, 1) := by decide +kernel
theorem dX11_hurtsByQuitting_1 : decode cX11_hurtsByQuitting 1 = .ok (.getfield 37, 3) := by decide +kernel
theorem dX11_hurtsByQuitting_4 : decode cX11_hurtsByQuitting 4 = .ok (.aload_n 0, 1) := by decide +kernel
theorem dX11_hurtsByQuitting_5 : decode cX11_hurtsByQuitting 5 = .ok (.getfield 19, 3) := by decide +kernel
theorem dX11_hurtsByQuitting_8 : decode cX11_hurtsByQuitting 8 = .ok (.iload_n 1, 1) := by decide +kernel
theorem dX11_hurtsByQuitting_9 : decode cX11_hurtsByQuitting 9 = .ok (.invokevirtual 328, 3) := by decide +kernel
theorem dX11_hurtsByQuitting_12 : decode cX11_hurtsByQuitting 12 = .ok (.aload_n 0, 1) := by decide +kernel
theorem dX11_hurtsByQuitting_13 : decode cX11_hurtsByQuitting 13 = .ok (.getfield 37, 3) := by decide +kernel
theorem dX11_hurtsByQuitting_16 : decode cX11_hurtsByQuitting 16 = .ok (.getfield 427, 3) := by decide +kernel
theorem dX11_hurtsByQuitting_19 : decode cX11_hurtsByQuitting 19 = .ok (.iload_n 2, 1) := by decide +kernel
theorem dX11_hurtsByQuitting_20 : decode cX11_hurtsByQuitting 20 = .ok (.dup2, 1) := by decide +kernel
theorem dX11_hurtsByQuitting_21 : decode cX11_hurtsByQuitting 21 = .ok (.laload, 1) := by decide +kernel
theorem dX11_hurtsByQuitting_22 : decode cX11_hurtsByQuitting 22 = .ok (.lconst 1, 1) := by decide +kernel
theorem dX11_hurtsByQuitting_23 : decode cX11_hurtsByQuitting 23 = .ok (.iload_n 3, 1) := by decide +kernel
theorem dX11_hurtsByQuitting_24 : decode cX11_hurtsByQuitting 24 = .ok (.lshl, 1) := by decide +kernel
theorem dX11_hurtsByQuitting_25 : decode cX11_hurtsByQuitting 25 = .ok (.lconst 1, 1) := by decide +kernel
theorem dX11_hurtsByQuitting_26 : decode cX11_hurtsByQuitting 26 = .ok (.lsub, 1) := by decide +kernel
theorem dX11_hurtsByQuitting_27 : decode cX11_hurtsByQuitting 27 = .ok (.land, 1) := by decide +kernel
theorem dX11_hurtsByQuitting_28 : decode cX11_hurtsByQuitting 28 = .ok (.lastore, 1) := by decide +kernel
theorem dX11_hurtsByQuitting_29 : decode cX11_hurtsByQuitting 29 = .ok (.aload_n 0, 1) := by decide +kernel
theorem dX11_hurtsByQuitting_30 : decode cX11_hurtsByQuitting 30 = .ok (.getfield 37, 3) := by decide +kernel
theorem dX11_hurtsByQuitting_33 : decode cX11_hurtsByQuitting 33 = .ok (.invokevirtual 430, 3) := by decide +kernel
theorem dX11_hurtsByQuitting_36 : decode cX11_hurtsByQuitting 36 = .ok (.aload_n 0, 1) := by decide +kernel
theorem dX11_hurtsByQuitting_37 : decode cX11_hurtsByQuitting 37 = .ok (.getfield 37, 3) := by decide +kernel
theorem dX11_hurtsByQuitting_40 : decode cX11_hurtsByQuitting 40 = .ok (.iconst 1, 1) := by decide +kernel
theorem dX11_hurtsByQuitting_41 : decode cX11_hurtsByQuitting 41 = .ok (.iload_n 2, 1) := by decide +kernel
theorem dX11_hurtsByQuitting_42 : decode cX11_hurtsByQuitting 42 = .ok (.isub, 1) := by decide +kernel
theorem dX11_hurtsByQuitting_43 : decode cX11_hurtsByQuitting 43 = .ok (.invokevirtual 433, 3) := by decide +kernel
theorem dX11_hurtsByQuitting_46 : decode cX11_hurtsByQuitting 46 = .ok (.ireturn, 1) := by decide +kernel
