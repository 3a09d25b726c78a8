theorem dX8_read_0 : decode cX8_read 0 = .ok (.aload_n 0, 1) := by decide +kernel
theorem dX8_read_1 : decode cX8_read 1 = .ok (.getfield 18, 3) := by decide +kernel
theorem dX8_read_4 : decode cX8_read 4 = .ok (.invokevirtual 32, 3) := by decide +kernel
theorem dX8_read_7 : decode cX8_read 7 = .ok (.aload_n 0, 1) := by decide +kernel
theorem dX8_read_8 : decode cX8_read 8 = .ok (.iconst 0, 1) := by decide +kernel
theorem dX8_read_9 : decode cX8_read 9 = .ok (.putfield 22, 3) := by decide +kernel
theorem dX8_read_12 : decode cX8_read 12 = .ok (.aload_n 0, 1) := by decide +kernel
theorem dX8_read_13 : decode cX8_read 13 = .ok (.iconst (-1), 1) := by decide +kernel
theorem dX8_read_14 : decode cX8_read 14 = .ok (.putfield 25, 3) := by decide +kernel
theorem dX8_read_17 : decode cX8_read 17 = .ok (.aload_n 0, 1) := by decide +kernel
theorem dX8_read_18 : decode cX8_read 18 = .ok (.iconst 0, 1) := by decide +kernel
theorem dX8_read_19 : decode cX8_read 19 = .ok (.putfield 35, 3) := by decide +kernel
theorem dX8_read_22 : decode cX8_read 22 = .ok (.aload_n 0, 1) := by decide +kernel
theorem dX8_read_23 : decode cX8_read 23 = .ok (.invokevirtual 38, 3) := by decide +kernel
theorem dX8_read_26 : decode cX8_read 26 = .ok (.iconst 0, 1) := by decide +kernel
theorem dX8_read_27 : decode cX8_read 27 = .ok (.istore_n 1, 1) := by decide +kernel
theorem dX8_read_28 : decode cX8_read 28 = .ok (.iload_n 1, 1) := by decide +kernel
theorem dX8_read_29 : decode cX8_read 29 = .ok (.sipush 1600, 3) := by decide +kernel
theorem dX8_read_32 : decode cX8_read 32 = .ok (.if_icmp .ge 50, 3) := by decide +kernel
theorem dX8_read_35 : decode cX8_read 35 = .ok (.aload_n 0, 1) := by decide +kernel
theorem dX8_read_36 : decode cX8_read 36 = .ok (.getfield 41, 3) := by decide +kernel
theorem dX8_read_39 : decode cX8_read 39 = .ok (.ifCond .eq 43, 3) := by decide +kernel
theorem dX8_read_42 : decode cX8_read 42 = .ok (.aload_n 0, 1) := by decide +kernel
theorem dX8_read_43 : decode cX8_read 43 = .ok (.getfield 22, 3) := by decide +kernel
theorem dX8_read_46 : decode cX8_read 46 = .ok (.ifCond .ne 36, 3) := by decide +kernel
theorem dX8_read_49 : decode cX8_read 49 = .ok (.aload_n 0, 1) := by decide +kernel
theorem dX8_read_50 : decode cX8_read 50 = .ok (.invokevirtual 44, 3) := by decide +kernel
theorem dX8_read_53 : decode cX8_read 53 = .ok (.ifCond .eq 23, 3) := by decide +kernel
theorem dX8_read_56 : decode cX8_read 56 = .ok (.aload_n 0, 1) := by decide +kernel
theorem dX8_read_57 : decode cX8_read 57 = .ok (.invokevirtual 48, 3) := by decide +kernel
theorem dX8_read_60 : decode cX8_read 60 = .ok (.ifCond .eq 16, 3) := by decide +kernel
theorem dX8_read_63 : decode cX8_read 63 = .ok (.aload_n 0, 1) := by decide +kernel
theorem dX8_read_64 : decode cX8_read 64 = .ok (.getfield 18, 3) := by decide +kernel
theorem dX8_read_67 : decode cX8_read 67 = .ok (.dup, 1) := by decide +kernel
theorem dX8_read_68 : decode cX8_read 68 = .ok (.getfield 51, 3) := by decide +kernel
theorem dX8_read_71 : decode cX8_read 71 = .ok (.iconst 1, 1) := by decide +kernel
theorem dX8_read_72 : decode cX8_read 72 = .ok (.iadd, 1) := by decide +kernel
theorem dX8_read_73 : decode cX8_read 73 = .ok (.putfield 51, 3) := by decide +kernel
theorem dX8_read_76 : decode cX8_read 76 = .ok (.iinc 1 1, 3) := by decide +kernel
theorem dX8_read_79 : decode cX8_read 79 = .ok (.goto (-51), 3) := by decide +kernel
theorem dX8_read_82 : decode cX8_read 82 = .ok (.aload_n 0, 1) := by decide +kernel
theorem dX8_read_83 : decode cX8_read 83 = .ok (.getfield 22, 3) := by decide +kernel
theorem dX8_read_86 : decode cX8_read 86 = .ok (.ifCond .ne 7, 3) := by decide +kernel
theorem dX8_read_89 : decode cX8_read 89 = .ok (.iconst 1, 1) := by decide +kernel
theorem dX8_read_90 : decode cX8_read 90 = .ok (.goto 4, 3) := by decide +kernel
theorem dX8_read_93 : decode cX8_read 93 = .ok (.iconst 0, 1) := by decide +kernel
theorem dX8_read_94 : decode cX8_read 94 = .ok (.ireturn, 1) := by decide +kernel
theorem dX11_hasYearOf_0 : decode cX11_hasYearOf 0 = .ok (.aload_n 0, 1) := by decide +kernel
theorem dX11_hasYearOf_1 : decode cX11_hasYearOf 1 = .ok (.getfield 19, 3) := by decide +kernel
theorem dX11_hasYearOf_4 : decode cX11_hasYearOf 4 = .ok (.iload_n 1, 1) := by decide +kernel
theorem dX11_hasYearOf_5 : decode cX11_hasYearOf 5 = .ok (.invokevirtual 135, 3) := by decide +kernel
theorem dX11_hasYearOf_8 : decode cX11_hasYearOf 8 = .ok (.ifCond .eq 25, 3) := by decide +kernel
theorem dX11_hasYearOf_11 : decode cX11_hasYearOf 11 = .ok (.iload_n 2, 1) := by decide +kernel
theorem dX11_hasYearOf_12 : decode cX11_hasYearOf 12 = .ok (.invokestatic 152, 3) := by decide +kernel
theorem dX11_hasYearOf_15 : decode cX11_hasYearOf 15 = .ok (.ifCond .eq 18, 3) := by decide +kernel
theorem dX11_hasYearOf_18 : decode cX11_hasYearOf 18 = .ok (.aload_n 0, 1) := by decide +kernel
theorem dX11_hasYearOf_19 : decode cX11_hasYearOf 19 = .ok (.getfield 19, 3) := by decide +kernel
theorem dX11_hasYearOf_22 : decode cX11_hasYearOf 22 = .ok (.iload_n 3, 1) := by decide +kernel
theorem dX11_hasYearOf_23 : decode cX11_hasYearOf 23 = .ok (.invokevirtual 184, 3) := by decide +kernel
theorem dX11_hasYearOf_26 : decode cX11_hasYearOf 26 = .ok (.ifCond .eq 7, 3) := by decide +kernel
theorem dX11_hasYearOf_29 : decode cX11_hasYearOf 29 = .ok (.iconst 1, 1) := by decide +kernel
theorem dX11_hasYearOf_30 : decode cX11_hasYearOf 30 = .ok (.goto 4, 3) := by decide +kernel
theorem dX11_hasYearOf_33 : decode cX11_hasYearOf 33 = .ok (.iconst 0, 1) := by decide +kernel
theorem dX11_hasYearOf_34 : decode cX11_hasYearOf 34 = .ok (.ireturn, 1) := by decide +kernel
theorem dX11_isChance_0 : decode cX11_isChance 0 = .ok (.aload_n 0, 1) := by decide +kernel
theorem dX11_isChance_1 : decode cX11_isChance 1 = .ok (.getfield 19, 3) := by decide +kernel
theorem dX11_isChance_4 : decode cX11_isChance 4 = .ok (.iload_n 1, 1) := by decide +kernel
theorem dX11_isChance_5 : decode cX11_isChance 5 = .ok (.invokevirtual 135, 3) := by decide +kernel
theorem dX11_isChance_8 : decode cX11_isChance 8 = .ok (.ifCond .eq 24, 3) := by decide +kernel
theorem dX11_isChance_11 : decode cX11_isChance 11 = .ok (.iload_n 2, 1) := by decide +kernel
theorem dX11_isChance_12 : decode cX11_isChance 12 = .ok (.iconst 1, 1) := by decide +kernel
theorem dX11_isChance_13 : decode cX11_isChance 13 = .ok (.if_icmp .lt 19, 3) := by decide +kernel
theorem dX11_isChance_16 : decode cX11_isChance 16 = .ok (.iload_n 2, 1) := by decide +kernel
theorem dX11_isChance_17 : decode cX11_isChance 17 = .ok (.iconst 3, 1) := by decide +kernel
theorem dX11_isChance_18 : decode cX11_isChance 18 = .ok (.if_icmp .gt 14, 3) := by decide +kernel
theorem dX11_isChance_21 : decode cX11_isChance 21 = .ok (.iload_n 3, 1) := by decide +kernel
theorem dX11_isChance_22 : decode cX11_isChance 22 = .ok (.invokestatic 152, 3) := by decide +kernel
theorem dX11_isChance_25 : decode cX11_isChance 25 = .ok (.ifCond .eq 7, 3) := by decide +kernel
theorem dX11_isChance_28 : decode cX11_isChance 28 = .ok (.iconst 1, 1) := by decide +kernel
theorem dX11_isChance_29 : decode cX11_isChance 29 = .ok (.goto 4, 3) := by decide +kernel
theorem dX11_isChance_32 : decode cX11_isChance 32 = .ok (.iconst 0, 1) := by decide +kernel
theorem dX11_isChance_33 : decode cX11_isChance 33 = .ok (.ireturn, 1) := by decide +kernel
theorem dX11_isWill_0 : decode cX11_isWill 0 = .ok (.aload_n 0, 1) := by decide +kernel
theorem dX11_isWill_1 : decode cX11_isWill 1 = .ok (.getfield 19, 3) := by decide +kernel
theorem dX11_isWill_4 : decode cX11_isWill 4 = .ok (.iload_n 1, 1) := by decide +kernel
theorem dX11_isWill_5 : decode cX11_isWill 5 = .ok (.invokevirtual 135, 3) := by decide +kernel
theorem dX11_isWill_8 : decode cX11_isWill 8 = .ok (.ifCond .eq 25, 3) := by decide +kernel
theorem dX11_isWill_11 : decode cX11_isWill 11 = .ok (.iload_n 2, 1) := by decide +kernel
theorem dX11_isWill_12 : decode cX11_isWill 12 = .ok (.invokestatic 152, 3) := by decide +kernel
theorem dX11_isWill_15 : decode cX11_isWill 15 = .ok (.ifCond .eq 18, 3) := by decide +kernel
theorem dX11_isWill_18 : decode cX11_isWill 18 = .ok (.iload_n 3, 1) := by decide +kernel
theorem dX11_isWill_19 : decode cX11_isWill 19 = .ok (.iconst 1, 1) := by decide +kernel
theorem dX11_isWill_20 : decode cX11_isWill 20 = .ok (.if_icmp .lt 13, 3) := by decide +kernel
theorem dX11_isWill_23 : decode cX11_isWill 23 = .ok (.iload_n 3, 1) := by decide +kernel
theorem dX11_isWill_24 : decode cX11_isWill 24 = .ok (.bipush 12, 2) := by decide +kernel
theorem dX11_isWill_26 : decode cX11_isWill 26 = .ok (.if_icmp .gt 7, 3) := by decide +kernel
theorem dX11_isWill_29 : decode cX11_isWill 29 = .ok (.iconst 1, 1) := by decide +kernel
theorem dX11_isWill_30 : decode cX11_isWill 30 = .ok (.goto 4, 3) := by decide +kernel
theorem dX11_isWill_33 : decode cX11_isWill 33 = .ok (.iconst 0, 1) := by decide +kernel
theorem dX11_isWill_34 : decode cX11_isWill 34 = .ok (.ireturn, 1) := by decide +kernel
theorem dX11_refreshed_0 : decode cX11_refreshed 0 = .ok (.aload_n 0, 1) := by decide +kernel
theorem dX11_refreshed_1 : decode cX11_refreshed 1 = .ok (.getfield 30, 3) := by decide +kernel
theorem dX11_refreshed_4 : decode cX11_refreshed 4 = .ok (.getfield 102, 3) := by decide +kernel
theorem dX11_refreshed_7 : decode cX11_refreshed 7 = .ok (.ifCond .eq 18, 3) := by decide +kernel
theorem dX11_refreshed_10 : decode cX11_refreshed 10 = .ok (.aload_n 0, 1) := by decide +kernel
theorem dX11_refreshed_11 : decode cX11_refreshed 11 = .ok (.getfield 30, 3) := by decide +kernel
theorem dX11_refreshed_14 : decode cX11_refreshed 14 = .ok (.aload_n 0, 1) := by decide +kernel
theorem dX11_refreshed_15 : decode cX11_refreshed 15 = .ok (.getfield 19, 3) := by decide +kernel
theorem dX11_refreshed_18 : decode cX11_refreshed 18 = .ok (.aload_n 0, 1) := by decide +kernel
theorem dX11_refreshed_19 : decode cX11_refreshed 19 = .ok (.getfield 37, 3) := by decide +kernel
theorem dX11_refreshed_22 : decode cX11_refreshed 22 = .ok (.invokevirtual 415, 3) := by decide +kernel
theorem dX11_refreshed_25 : decode cX11_refreshed 25 = .ok (.aload_n 0, 1) := by decide +kernel
theorem dX11_refreshed_26 : decode cX11_refreshed 26 = .ok (.getfield 30, 3) := by decide +kernel
theorem dX11_refreshed_29 : decode cX11_refreshed 29 = .ok (.areturn, 1) := by decide +kernel
