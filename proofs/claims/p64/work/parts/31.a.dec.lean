theorem dX0_writeAll_0 : decode cX0_writeAll 0 = .ok (.iconst 0, 1) := by decide +kernel
theorem dX0_writeAll_1 : decode cX0_writeAll 1 = .ok (.istore_n 3, 1) := by decide +kernel
theorem dX0_writeAll_2 : decode cX0_writeAll 2 = .ok (.iload_n 3, 1) := by decide +kernel
theorem dX0_writeAll_3 : decode cX0_writeAll 3 = .ok (.aload_n 1, 1) := by decide +kernel
theorem dX0_writeAll_4 : decode cX0_writeAll 4 = .ok (.getfield 25, 3) := by decide +kernel
theorem dX0_writeAll_7 : decode cX0_writeAll 7 = .ok (.if_icmp .ge 67, 3) := by decide +kernel
theorem dX0_writeAll_10 : decode cX0_writeAll 10 = .ok (.aload_n 2, 1) := by decide +kernel
theorem dX0_writeAll_11 : decode cX0_writeAll 11 = .ok (.aload_n 1, 1) := by decide +kernel
theorem dX0_writeAll_12 : decode cX0_writeAll 12 = .ok (.iload_n 3, 1) := by decide +kernel
theorem dX0_writeAll_13 : decode cX0_writeAll 13 = .ok (.invokevirtual 31, 3) := by decide +kernel
theorem dX0_writeAll_16 : decode cX0_writeAll 16 = .ok (.aload_n 2, 1) := by decide +kernel
theorem dX0_writeAll_17 : decode cX0_writeAll 17 = .ok (.invokevirtual 37, 3) := by decide +kernel
theorem dX0_writeAll_20 : decode cX0_writeAll 20 = .ok (.aload_n 2, 1) := by decide +kernel
theorem dX0_writeAll_21 : decode cX0_writeAll 21 = .ok (.getfield 40, 3) := by decide +kernel
theorem dX0_writeAll_24 : decode cX0_writeAll 24 = .ok (.iconst 0, 1) := by decide +kernel
theorem dX0_writeAll_25 : decode cX0_writeAll 25 = .ok (.aload_n 0, 1) := by decide +kernel
theorem dX0_writeAll_26 : decode cX0_writeAll 26 = .ok (.getfield 15, 3) := by decide +kernel
theorem dX0_writeAll_29 : decode cX0_writeAll 29 = .ok (.iconst 2, 1) := by decide +kernel
theorem dX0_writeAll_30 : decode cX0_writeAll 30 = .ok (.iload_n 3, 1) := by decide +kernel
theorem dX0_writeAll_31 : decode cX0_writeAll 31 = .ok (.imul, 1) := by decide +kernel
theorem dX0_writeAll_32 : decode cX0_writeAll 32 = .ok (.iconst 2, 1) := by decide +kernel
theorem dX0_writeAll_33 : decode cX0_writeAll 33 = .ok (.invokestatic 41, 3) := by decide +kernel
theorem dX0_writeAll_36 : decode cX0_writeAll 36 = .ok (.aload_n 2, 1) := by decide +kernel
theorem dX0_writeAll_37 : decode cX0_writeAll 37 = .ok (.getfield 47, 3) := by decide +kernel
theorem dX0_writeAll_40 : decode cX0_writeAll 40 = .ok (.iconst 0, 1) := by decide +kernel
theorem dX0_writeAll_41 : decode cX0_writeAll 41 = .ok (.aload_n 0, 1) := by decide +kernel
theorem dX0_writeAll_42 : decode cX0_writeAll 42 = .ok (.getfield 19, 3) := by decide +kernel
theorem dX0_writeAll_45 : decode cX0_writeAll 45 = .ok (.iconst 2, 1) := by decide +kernel
theorem dX0_writeAll_46 : decode cX0_writeAll 46 = .ok (.iload_n 3, 1) := by decide +kernel
theorem dX0_writeAll_47 : decode cX0_writeAll 47 = .ok (.imul, 1) := by decide +kernel
theorem dX0_writeAll_48 : decode cX0_writeAll 48 = .ok (.iconst 2, 1) := by decide +kernel
theorem dX0_writeAll_49 : decode cX0_writeAll 49 = .ok (.invokestatic 41, 3) := by decide +kernel
theorem dX0_writeAll_52 : decode cX0_writeAll 52 = .ok (.aload_n 2, 1) := by decide +kernel
theorem dX0_writeAll_53 : decode cX0_writeAll 53 = .ok (.getfield 48, 3) := by decide +kernel
theorem dX0_writeAll_56 : decode cX0_writeAll 56 = .ok (.iconst 0, 1) := by decide +kernel
theorem dX0_writeAll_57 : decode cX0_writeAll 57 = .ok (.aload_n 0, 1) := by decide +kernel
theorem dX0_writeAll_58 : decode cX0_writeAll 58 = .ok (.getfield 22, 3) := by decide +kernel
theorem dX0_writeAll_61 : decode cX0_writeAll 61 = .ok (.iconst 2, 1) := by decide +kernel
theorem dX0_writeAll_62 : decode cX0_writeAll 62 = .ok (.iload_n 3, 1) := by decide +kernel
theorem dX0_writeAll_63 : decode cX0_writeAll 63 = .ok (.imul, 1) := by decide +kernel
theorem dX0_writeAll_64 : decode cX0_writeAll 64 = .ok (.iconst 2, 1) := by decide +kernel
theorem dX0_writeAll_65 : decode cX0_writeAll 65 = .ok (.invokestatic 41, 3) := by decide +kernel
theorem dX0_writeAll_68 : decode cX0_writeAll 68 = .ok (.iinc 3 1, 3) := by decide +kernel
theorem dX0_writeAll_71 : decode cX0_writeAll 71 = .ok (.goto (-69), 3) := by decide +kernel
theorem dX0_writeAll_74 : decode cX0_writeAll 74 = .ok (.aload_n 0, 1) := by decide +kernel
theorem dX0_writeAll_75 : decode cX0_writeAll 75 = .ok (.iconst 0, 1) := by decide +kernel
theorem dX0_writeAll_76 : decode cX0_writeAll 76 = .ok (.putfield 9, 3) := by decide +kernel
theorem dX0_writeAll_79 : decode cX0_writeAll 79 = .ok (.return_, 1) := by decide +kernel
theorem dX0_sentOf_0 : decode cX0_sentOf 0 = .ok (.aload_n 0, 1) := by decide +kernel
theorem dX0_sentOf_1 : decode cX0_sentOf 1 = .ok (.getfield 15, 3) := by decide +kernel
theorem dX0_sentOf_4 : decode cX0_sentOf 4 = .ok (.iload_n 1, 1) := by decide +kernel
theorem dX0_sentOf_5 : decode cX0_sentOf 5 = .ok (.laload, 1) := by decide +kernel
theorem dX0_sentOf_6 : decode cX0_sentOf 6 = .ok (.aload_n 0, 1) := by decide +kernel
theorem dX0_sentOf_7 : decode cX0_sentOf 7 = .ok (.getfield 19, 3) := by decide +kernel
theorem dX0_sentOf_10 : decode cX0_sentOf 10 = .ok (.iload_n 1, 1) := by decide +kernel
theorem dX0_sentOf_11 : decode cX0_sentOf 11 = .ok (.laload, 1) := by decide +kernel
theorem dX0_sentOf_12 : decode cX0_sentOf 12 = .ok (.lor, 1) := by decide +kernel
theorem dX0_sentOf_13 : decode cX0_sentOf 13 = .ok (.lreturn, 1) := by decide +kernel
theorem dX0_sentByAny_0 : decode cX0_sentByAny 0 = .ok (.aload_n 0, 1) := by decide +kernel
theorem dX0_sentByAny_1 : decode cX0_sentByAny 1 = .ok (.iconst 2, 1) := by decide +kernel
theorem dX0_sentByAny_2 : decode cX0_sentByAny 2 = .ok (.iload_n 1, 1) := by decide +kernel
theorem dX0_sentByAny_3 : decode cX0_sentByAny 3 = .ok (.imul, 1) := by decide +kernel
theorem dX0_sentByAny_4 : decode cX0_sentByAny 4 = .ok (.invokevirtual 49, 3) := by decide +kernel
theorem dX0_sentByAny_7 : decode cX0_sentByAny 7 = .ok (.aload_n 0, 1) := by decide +kernel
theorem dX0_sentByAny_8 : decode cX0_sentByAny 8 = .ok (.iconst 2, 1) := by decide +kernel
theorem dX0_sentByAny_9 : decode cX0_sentByAny 9 = .ok (.iload_n 1, 1) := by decide +kernel
theorem dX0_sentByAny_10 : decode cX0_sentByAny 10 = .ok (.imul, 1) := by decide +kernel
theorem dX0_sentByAny_11 : decode cX0_sentByAny 11 = .ok (.iconst 1, 1) := by decide +kernel
theorem dX0_sentByAny_12 : decode cX0_sentByAny 12 = .ok (.iadd, 1) := by decide +kernel
theorem dX0_sentByAny_13 : decode cX0_sentByAny 13 = .ok (.invokevirtual 49, 3) := by decide +kernel
theorem dX0_sentByAny_16 : decode cX0_sentByAny 16 = .ok (.lor, 1) := by decide +kernel
theorem dX0_sentByAny_17 : decode cX0_sentByAny 17 = .ok (.lreturn, 1) := by decide +kernel
theorem dX0_stateAhead_0 : decode cX0_stateAhead 0 = .ok (.aload_n 1, 1) := by decide +kernel
theorem dX0_stateAhead_1 : decode cX0_stateAhead 1 = .ok (.getfield 53, 3) := by decide +kernel
theorem dX0_stateAhead_4 : decode cX0_stateAhead 4 = .ok (.iload_n 2, 1) := by decide +kernel
theorem dX0_stateAhead_5 : decode cX0_stateAhead 5 = .ok (.iaload, 1) := by decide +kernel
theorem dX0_stateAhead_6 : decode cX0_stateAhead 6 = .ok (.istore 4, 2) := by decide +kernel
theorem dX0_stateAhead_8 : decode cX0_stateAhead 8 = .ok (.aload_n 0, 1) := by decide +kernel
theorem dX0_stateAhead_9 : decode cX0_stateAhead 9 = .ok (.getfield 22, 3) := by decide +kernel
theorem dX0_stateAhead_12 : decode cX0_stateAhead 12 = .ok (.iconst 2, 1) := by decide +kernel
theorem dX0_stateAhead_13 : decode cX0_stateAhead 13 = .ok (.iload_n 2, 1) := by decide +kernel
theorem dX0_stateAhead_14 : decode cX0_stateAhead 14 = .ok (.imul, 1) := by decide +kernel
theorem dX0_stateAhead_15 : decode cX0_stateAhead 15 = .ok (.laload, 1) := by decide +kernel
theorem dX0_stateAhead_16 : decode cX0_stateAhead 16 = .ok (.iload 4, 2) := by decide +kernel
theorem dX0_stateAhead_18 : decode cX0_stateAhead 18 = .ok (.iconst 3, 1) := by decide +kernel
theorem dX0_stateAhead_19 : decode cX0_stateAhead 19 = .ok (.iand, 1) := by decide +kernel
theorem dX0_stateAhead_20 : decode cX0_stateAhead 20 = .ok (.iload_n 3, 1) := by decide +kernel
theorem dX0_stateAhead_21 : decode cX0_stateAhead 21 = .ok (.invokestatic 57, 3) := by decide +kernel
theorem dX0_stateAhead_24 : decode cX0_stateAhead 24 = .ok (.aload_n 0, 1) := by decide +kernel
theorem dX0_stateAhead_25 : decode cX0_stateAhead 25 = .ok (.getfield 22, 3) := by decide +kernel
theorem dX0_stateAhead_28 : decode cX0_stateAhead 28 = .ok (.iconst 2, 1) := by decide +kernel
theorem dX0_stateAhead_29 : decode cX0_stateAhead 29 = .ok (.iload_n 2, 1) := by decide +kernel
theorem dX0_stateAhead_30 : decode cX0_stateAhead 30 = .ok (.imul, 1) := by decide +kernel
theorem dX0_stateAhead_31 : decode cX0_stateAhead 31 = .ok (.iconst 1, 1) := by decide +kernel
theorem dX0_stateAhead_32 : decode cX0_stateAhead 32 = .ok (.iadd, 1) := by decide +kernel
theorem dX0_stateAhead_33 : decode cX0_stateAhead 33 = .ok (.laload, 1) := by decide +kernel
theorem dX0_stateAhead_34 : decode cX0_stateAhead 34 = .ok (.iload 4, 2) := by decide +kernel
theorem dX0_stateAhead_36 : decode cX0_stateAhead 36 = .ok (.iconst 2, 1) := by decide +kernel
theorem dX0_stateAhead_37 : decode cX0_stateAhead 37 = .ok (.ishr, 1) := by decide +kernel
theorem dX0_stateAhead_38 : decode cX0_stateAhead 38 = .ok (.iload_n 3, 1) := by decide +kernel
theorem dX0_stateAhead_39 : decode cX0_stateAhead 39 = .ok (.invokestatic 57, 3) := by decide +kernel
theorem dX0_stateAhead_42 : decode cX0_stateAhead 42 = .ok (.iconst 2, 1) := by decide +kernel
theorem dX0_stateAhead_43 : decode cX0_stateAhead 43 = .ok (.ishl, 1) := by decide +kernel
theorem dX0_stateAhead_44 : decode cX0_stateAhead 44 = .ok (.ior, 1) := by decide +kernel
theorem dX0_stateAhead_45 : decode cX0_stateAhead 45 = .ok (.ireturn, 1) := by decide +kernel
theorem dX0_stateOfSide_0 : decode cX0_stateOfSide 0 = .ok (.lload_n 0, 1) := by decide +kernel
theorem dX0_stateOfSide_1 : decode cX0_stateOfSide 1 = .ok (.iconst 2, 1) := by decide +kernel
theorem dX0_stateOfSide_2 : decode cX0_stateOfSide 2 = .ok (.lshl, 1) := by decide +kernel
theorem dX0_stateOfSide_3 : decode cX0_stateOfSide 3 = .ok (.iload_n 2, 1) := by decide +kernel
theorem dX0_stateOfSide_4 : decode cX0_stateOfSide 4 = .ok (.iconst 1, 1) := by decide +kernel
theorem dX0_stateOfSide_5 : decode cX0_stateOfSide 5 = .ok (.iand, 1) := by decide +kernel
theorem dX0_stateOfSide_6 : decode cX0_stateOfSide 6 = .ok (.iconst 1, 1) := by decide +kernel
theorem dX0_stateOfSide_7 : decode cX0_stateOfSide 7 = .ok (.ishl, 1) := by decide +kernel
theorem dX0_stateOfSide_8 : decode cX0_stateOfSide 8 = .ok (.i2l, 1) := by decide +kernel
theorem dX0_stateOfSide_9 : decode cX0_stateOfSide 9 = .ok (.lor, 1) := by decide +kernel
theorem dX0_stateOfSide_10 : decode cX0_stateOfSide 10 = .ok (.iload_n 2, 1) := by decide +kernel
theorem dX0_stateOfSide_11 : decode cX0_stateOfSide 11 = .ok (.iconst 1, 1) := by decide +kernel
theorem dX0_stateOfSide_12 : decode cX0_stateOfSide 12 = .ok (.ishr, 1) := by decide +kernel
theorem dX0_stateOfSide_13 : decode cX0_stateOfSide 13 = .ok (.i2l, 1) := by decide +kernel
theorem dX0_stateOfSide_14 : decode cX0_stateOfSide 14 = .ok (.lor, 1) := by decide +kernel
theorem dX0_stateOfSide_15 : decode cX0_stateOfSide 15 = .ok (.lstore 4, 2) := by decide +kernel
theorem dX0_stateOfSide_17 : decode cX0_stateOfSide 17 = .ok (.lload 4, 2) := by decide +kernel
theorem dX0_stateOfSide_19 : decode cX0_stateOfSide 19 = .ok (.iload_n 3, 1) := by decide +kernel
theorem dX0_stateOfSide_20 : decode cX0_stateOfSide 20 = .ok (.iconst 1, 1) := by decide +kernel
theorem dX0_stateOfSide_21 : decode cX0_stateOfSide 21 = .ok (.iadd, 1) := by decide +kernel
theorem dX0_stateOfSide_22 : decode cX0_stateOfSide 22 = .ok (.lshr, 1) := by decide +kernel
theorem dX0_stateOfSide_23 : decode cX0_stateOfSide 23 = .ok (.lconst 1, 1) := by decide +kernel
theorem dX0_stateOfSide_24 : decode cX0_stateOfSide 24 = .ok (.land, 1) := by decide +kernel
theorem dX0_stateOfSide_25 : decode cX0_stateOfSide 25 = .ok (.l2i, 1) := by decide +kernel
theorem dX0_stateOfSide_26 : decode cX0_stateOfSide 26 = .ok (.lload 4, 2) := by decide +kernel
theorem dX0_stateOfSide_28 : decode cX0_stateOfSide 28 = .ok (.iload_n 3, 1) := by decide +kernel
theorem dX0_stateOfSide_29 : decode cX0_stateOfSide 29 = .ok (.lshr, 1) := by decide +kernel
theorem dX0_stateOfSide_30 : decode cX0_stateOfSide 30 = .ok (.lconst 1, 1) := by decide +kernel
theorem dX0_stateOfSide_31 : decode cX0_stateOfSide 31 = .ok (.land, 1) := by decide +kernel
theorem dX0_stateOfSide_32 : decode cX0_stateOfSide 32 = .ok (.l2i, 1) := by decide +kernel
theorem dX0_stateOfSide_33 : decode cX0_stateOfSide 33 = .ok (.iconst 1, 1) := by decide +kernel
theorem dX0_stateOfSide_34 : decode cX0_stateOfSide 34 = .ok (.ishl, 1) := by decide +kernel
theorem dX0_stateOfSide_35 : decode cX0_stateOfSide 35 = .ok (.ior, 1) := by decide +kernel
theorem dX0_stateOfSide_36 : decode cX0_stateOfSide 36 = .ok (.ireturn, 1) := by decide +kernel
theorem dX0_sentIn_0 : decode cX0_sentIn 0 = .ok (.iconst 0, 1) := by decide +kernel
theorem dX0_sentIn_1 : decode cX0_sentIn 1 = .ok (.istore_n 3, 1) := by decide +kernel
theorem dX0_sentIn_2 : decode cX0_sentIn 2 = .ok (.iconst 0, 1) := by decide +kernel
theorem dX0_sentIn_3 : decode cX0_sentIn 3 = .ok (.istore 4, 2) := by decide +kernel
theorem dX0_sentIn_5 : decode cX0_sentIn 5 = .ok (.iload 4, 2) := by decide +kernel
theorem dX0_sentIn_7 : decode cX0_sentIn 7 = .ok (.iconst 2, 1) := by decide +kernel
theorem dX0_sentIn_8 : decode cX0_sentIn 8 = .ok (.aload_n 1, 1) := by decide +kernel
theorem dX0_sentIn_9 : decode cX0_sentIn 9 = .ok (.getfield 25, 3) := by decide +kernel
theorem dX0_sentIn_12 : decode cX0_sentIn 12 = .ok (.imul, 1) := by decide +kernel
theorem dX0_sentIn_13 : decode cX0_sentIn 13 = .ok (.if_icmp .ge 30, 3) := by decide +kernel
theorem dX0_sentIn_16 : decode cX0_sentIn 16 = .ok (.iload_n 3, 1) := by decide +kernel
theorem dX0_sentIn_17 : decode cX0_sentIn 17 = .ok (.aload_n 0, 1) := by decide +kernel
theorem dX0_sentIn_18 : decode cX0_sentIn 18 = .ok (.iload 4, 2) := by decide +kernel
theorem dX0_sentIn_20 : decode cX0_sentIn 20 = .ok (.invokevirtual 49, 3) := by decide +kernel
theorem dX0_sentIn_23 : decode cX0_sentIn 23 = .ok (.iload_n 2, 1) := by decide +kernel
theorem dX0_sentIn_24 : decode cX0_sentIn 24 = .ok (.invokestatic 61, 3) := by decide +kernel
theorem dX0_sentIn_27 : decode cX0_sentIn 27 = .ok (.ifCond .eq 7, 3) := by decide +kernel
theorem dX0_sentIn_30 : decode cX0_sentIn 30 = .ok (.iconst 1, 1) := by decide +kernel
theorem dX0_sentIn_31 : decode cX0_sentIn 31 = .ok (.goto 4, 3) := by decide +kernel
theorem dX0_sentIn_34 : decode cX0_sentIn 34 = .ok (.iconst 0, 1) := by decide +kernel
theorem dX0_sentIn_35 : decode cX0_sentIn 35 = .ok (.iadd, 1) := by decide +kernel
theorem dX0_sentIn_36 : decode cX0_sentIn 36 = .ok (.istore_n 3, 1) := by decide +kernel
theorem dX0_sentIn_37 : decode cX0_sentIn 37 = .ok (.iinc 4 1, 3) := by decide +kernel
theorem dX0_sentIn_40 : decode cX0_sentIn 40 = .ok (.goto (-35), 3) := by decide +kernel
theorem dX0_sentIn_43 : decode cX0_sentIn 43 = .ok (.iload_n 3, 1) := by decide +kernel
theorem dX0_sentIn_44 : decode cX0_sentIn 44 = .ok (.ireturn, 1) := by decide +kernel
theorem dX0_comeIn_0 : decode cX0_comeIn 0 = .ok (.iconst 0, 1) := by decide +kernel
theorem dX0_comeIn_1 : decode cX0_comeIn 1 = .ok (.istore_n 3, 1) := by decide +kernel
theorem dX0_comeIn_2 : decode cX0_comeIn 2 = .ok (.iconst 0, 1) := by decide +kernel
theorem dX0_comeIn_3 : decode cX0_comeIn 3 = .ok (.istore 4, 2) := by decide +kernel
theorem dX0_comeIn_5 : decode cX0_comeIn 5 = .ok (.iload 4, 2) := by decide +kernel
theorem dX0_comeIn_7 : decode cX0_comeIn 7 = .ok (.iconst 2, 1) := by decide +kernel
theorem dX0_comeIn_8 : decode cX0_comeIn 8 = .ok (.aload_n 1, 1) := by decide +kernel
theorem dX0_comeIn_9 : decode cX0_comeIn 9 = .ok (.getfield 25, 3) := by decide +kernel
theorem dX0_comeIn_12 : decode cX0_comeIn 12 = .ok (.imul, 1) := by decide +kernel
theorem dX0_comeIn_13 : decode cX0_comeIn 13 = .ok (.if_icmp .ge 31, 3) := by decide +kernel
theorem dX0_comeIn_16 : decode cX0_comeIn 16 = .ok (.iload_n 3, 1) := by decide +kernel
theorem dX0_comeIn_17 : decode cX0_comeIn 17 = .ok (.aload_n 0, 1) := by decide +kernel
theorem dX0_comeIn_18 : decode cX0_comeIn 18 = .ok (.getfield 22, 3) := by decide +kernel
theorem dX0_comeIn_21 : decode cX0_comeIn 21 = .ok (.iload 4, 2) := by decide +kernel
theorem dX0_comeIn_23 : decode cX0_comeIn 23 = .ok (.laload, 1) := by decide +kernel
theorem dX0_comeIn_24 : decode cX0_comeIn 24 = .ok (.iload_n 2, 1) := by decide +kernel
theorem dX0_comeIn_25 : decode cX0_comeIn 25 = .ok (.invokestatic 61, 3) := by decide +kernel
theorem dX0_comeIn_28 : decode cX0_comeIn 28 = .ok (.ifCond .eq 7, 3) := by decide +kernel
theorem dX0_comeIn_31 : decode cX0_comeIn 31 = .ok (.iconst 1, 1) := by decide +kernel
theorem dX0_comeIn_32 : decode cX0_comeIn 32 = .ok (.goto 4, 3) := by decide +kernel
theorem dX0_comeIn_35 : decode cX0_comeIn 35 = .ok (.iconst 0, 1) := by decide +kernel
theorem dX0_comeIn_36 : decode cX0_comeIn 36 = .ok (.iadd, 1) := by decide +kernel
theorem dX0_comeIn_37 : decode cX0_comeIn 37 = .ok (.istore_n 3, 1) := by decide +kernel
theorem dX0_comeIn_38 : decode cX0_comeIn 38 = .ok (.iinc 4 1, 3) := by decide +kernel
theorem dX0_comeIn_41 : decode cX0_comeIn 41 = .ok (.goto (-36), 3) := by decide +kernel
theorem dX0_comeIn_44 : decode cX0_comeIn 44 = .ok (.iload_n 3, 1) := by decide +kernel
theorem dX0_comeIn_45 : decode cX0_comeIn 45 = .ok (.ireturn, 1) := by decide +kernel
theorem dX0_costOf_0 : decode cX0_costOf 0 = .ok (.iconst 0, 1) := by decide +kernel
theorem dX0_costOf_1 : decode cX0_costOf 1 = .ok (.istore_n 3, 1) := by decide +kernel
theorem dX0_costOf_2 : decode cX0_costOf 2 = .ok (.iconst 0, 1) := by decide +kernel
theorem dX0_costOf_3 : decode cX0_costOf 3 = .ok (.istore 4, 2) := by decide +kernel
theorem dX0_costOf_5 : decode cX0_costOf 5 = .ok (.iload 4, 2) := by decide +kernel
theorem dX0_costOf_7 : decode cX0_costOf 7 = .ok (.iconst 2, 1) := by decide +kernel
theorem dX0_costOf_8 : decode cX0_costOf 8 = .ok (.aload_n 1, 1) := by decide +kernel
theorem dX0_costOf_9 : decode cX0_costOf 9 = .ok (.getfield 25, 3) := by decide +kernel
theorem dX0_costOf_12 : decode cX0_costOf 12 = .ok (.imul, 1) := by decide +kernel
theorem dX0_costOf_13 : decode cX0_costOf 13 = .ok (.if_icmp .ge 64, 3) := by decide +kernel
theorem dX0_costOf_16 : decode cX0_costOf 16 = .ok (.aload_n 1, 1) := by decide +kernel
theorem dX0_costOf_17 : decode cX0_costOf 17 = .ok (.getfield 65, 3) := by decide +kernel
theorem dX0_costOf_20 : decode cX0_costOf 20 = .ok (.iload 4, 2) := by decide +kernel
theorem dX0_costOf_22 : decode cX0_costOf 22 = .ok (.iaload, 1) := by decide +kernel
theorem dX0_costOf_23 : decode cX0_costOf 23 = .ok (.iload_n 2, 1) := by decide +kernel
theorem dX0_costOf_24 : decode cX0_costOf 24 = .ok (.if_icmp .ne 47, 3) := by decide +kernel
theorem dX0_costOf_27 : decode cX0_costOf 27 = .ok (.aload_n 0, 1) := by decide +kernel
theorem dX0_costOf_28 : decode cX0_costOf 28 = .ok (.iload 4, 2) := by decide +kernel
theorem dX0_costOf_30 : decode cX0_costOf 30 = .ok (.invokevirtual 49, 3) := by decide +kernel
theorem dX0_costOf_33 : decode cX0_costOf 33 = .ok (.lstore 5, 2) := by decide +kernel
theorem dX0_costOf_35 : decode cX0_costOf 35 = .ok (.iload_n 3, 1) := by decide +kernel
theorem dX0_costOf_36 : decode cX0_costOf 36 = .ok (.aload_n 1, 1) := by decide +kernel
theorem dX0_costOf_37 : decode cX0_costOf 37 = .ok (.getfield 68, 3) := by decide +kernel
theorem dX0_costOf_40 : decode cX0_costOf 40 = .ok (.lload 5, 2) := by decide +kernel
theorem dX0_costOf_42 : decode cX0_costOf 42 = .ok (.invokestatic 71, 3) := by decide +kernel
theorem dX0_costOf_45 : decode cX0_costOf 45 = .ok (.imul, 1) := by decide +kernel
theorem dX0_costOf_46 : decode cX0_costOf 46 = .ok (.aload_n 1, 1) := by decide +kernel
theorem dX0_costOf_47 : decode cX0_costOf 47 = .ok (.getfield 77, 3) := by decide +kernel
theorem dX0_costOf_50 : decode cX0_costOf 50 = .ok (.lload 5, 2) := by decide +kernel
theorem dX0_costOf_52 : decode cX0_costOf 52 = .ok (.aload_n 0, 1) := by decide +kernel
theorem dX0_costOf_53 : decode cX0_costOf 53 = .ok (.getfield 22, 3) := by decide +kernel
theorem dX0_costOf_56 : decode cX0_costOf 56 = .ok (.iload 4, 2) := by decide +kernel
theorem dX0_costOf_58 : decode cX0_costOf 58 = .ok (.laload, 1) := by decide +kernel
theorem dX0_costOf_59 : decode cX0_costOf 59 = .ok (.ldc2_w 80, 3) := by decide +kernel
theorem dX0_costOf_62 : decode cX0_costOf 62 = .ok (.lxor, 1) := by decide +kernel
theorem dX0_costOf_63 : decode cX0_costOf 63 = .ok (.land, 1) := by decide +kernel
theorem dX0_costOf_64 : decode cX0_costOf 64 = .ok (.invokestatic 71, 3) := by decide +kernel
theorem dX0_costOf_67 : decode cX0_costOf 67 = .ok (.imul, 1) := by decide +kernel
theorem dX0_costOf_68 : decode cX0_costOf 68 = .ok (.iadd, 1) := by decide +kernel
theorem dX0_costOf_69 : decode cX0_costOf 69 = .ok (.iadd, 1) := by decide +kernel
theorem dX0_costOf_70 : decode cX0_costOf 70 = .ok (.istore_n 3, 1) := by decide +kernel
theorem dX0_costOf_71 : decode cX0_costOf 71 = .ok (.iinc 4 1, 3) := by decide +kernel
theorem dX0_costOf_74 : decode cX0_costOf 74 = .ok (.goto (-69), 3) := by decide +kernel
theorem dX0_costOf_77 : decode cX0_costOf 77 = .ok (.iload_n 3, 1) := by decide +kernel
theorem dX0_costOf_78 : decode cX0_costOf 78 = .ok (.ireturn, 1) := by decide +kernel
theorem dX2_take_0 : decode cX2_take 0 = .ok (.aload_n 0, 1) := by decide +kernel
theorem dX2_take_1 : decode cX2_take 1 = .ok (.aload_n 1, 1) := by decide +kernel
theorem dX2_take_2 : decode cX2_take 2 = .ok (.getfield 29, 3) := by decide +kernel
theorem dX2_take_5 : decode cX2_take 5 = .ok (.putfield 35, 3) := by decide +kernel
theorem dX2_take_8 : decode cX2_take 8 = .ok (.aload_n 0, 1) := by decide +kernel
theorem dX2_take_9 : decode cX2_take 9 = .ok (.aload_n 1, 1) := by decide +kernel
theorem dX2_take_10 : decode cX2_take 10 = .ok (.getfield 36, 3) := by decide +kernel
theorem dX2_take_13 : decode cX2_take 13 = .ok (.iload_n 2, 1) := by decide +kernel
theorem dX2_take_14 : decode cX2_take 14 = .ok (.iaload, 1) := by decide +kernel
theorem dX2_take_15 : decode cX2_take 15 = .ok (.putfield 39, 3) := by decide +kernel
theorem dX2_take_18 : decode cX2_take 18 = .ok (.iconst 0, 1) := by decide +kernel
theorem dX2_take_19 : decode cX2_take 19 = .ok (.istore_n 3, 1) := by decide +kernel
theorem dX2_take_20 : decode cX2_take 20 = .ok (.iload_n 3, 1) := by decide +kernel
theorem dX2_take_21 : decode cX2_take 21 = .ok (.iconst 2, 1) := by decide +kernel
theorem dX2_take_22 : decode cX2_take 22 = .ok (.if_icmp .ge 53, 3) := by decide +kernel
theorem dX2_take_25 : decode cX2_take 25 = .ok (.aload_n 0, 1) := by decide +kernel
theorem dX2_take_26 : decode cX2_take 26 = .ok (.getfield 7, 3) := by decide +kernel
theorem dX2_take_29 : decode cX2_take 29 = .ok (.iload_n 3, 1) := by decide +kernel
theorem dX2_take_30 : decode cX2_take 30 = .ok (.aload_n 1, 1) := by decide +kernel
theorem dX2_take_31 : decode cX2_take 31 = .ok (.iload_n 2, 1) := by decide +kernel
theorem dX2_take_32 : decode cX2_take 32 = .ok (.iload_n 3, 1) := by decide +kernel
theorem dX2_take_33 : decode cX2_take 33 = .ok (.invokevirtual 41, 3) := by decide +kernel
theorem dX2_take_36 : decode cX2_take 36 = .ok (.iastore, 1) := by decide +kernel
theorem dX2_take_37 : decode cX2_take 37 = .ok (.aload_n 0, 1) := by decide +kernel
theorem dX2_take_38 : decode cX2_take 38 = .ok (.getfield 13, 3) := by decide +kernel
theorem dX2_take_41 : decode cX2_take 41 = .ok (.iload_n 3, 1) := by decide +kernel
theorem dX2_take_42 : decode cX2_take 42 = .ok (.aload_n 1, 1) := by decide +kernel
theorem dX2_take_43 : decode cX2_take 43 = .ok (.aload_n 1, 1) := by decide +kernel
theorem dX2_take_44 : decode cX2_take 44 = .ok (.getfield 45, 3) := by decide +kernel
theorem dX2_take_47 : decode cX2_take 47 = .ok (.iconst 2, 1) := by decide +kernel
theorem dX2_take_48 : decode cX2_take 48 = .ok (.iload_n 2, 1) := by decide +kernel
theorem dX2_take_49 : decode cX2_take 49 = .ok (.imul, 1) := by decide +kernel
theorem dX2_take_50 : decode cX2_take 50 = .ok (.iload_n 3, 1) := by decide +kernel
theorem dX2_take_51 : decode cX2_take 51 = .ok (.iadd, 1) := by decide +kernel
theorem dX2_take_52 : decode cX2_take 52 = .ok (.iaload, 1) := by decide +kernel
theorem dX2_take_53 : decode cX2_take 53 = .ok (.invokevirtual 48, 3) := by decide +kernel
theorem dX2_take_56 : decode cX2_take 56 = .ok (.lastore, 1) := by decide +kernel
theorem dX2_take_57 : decode cX2_take 57 = .ok (.aload_n 0, 1) := by decide +kernel
theorem dX2_take_58 : decode cX2_take 58 = .ok (.getfield 17, 3) := by decide +kernel
theorem dX2_take_61 : decode cX2_take 61 = .ok (.iload_n 3, 1) := by decide +kernel
theorem dX2_take_62 : decode cX2_take 62 = .ok (.aload_n 1, 1) := by decide +kernel
theorem dX2_take_63 : decode cX2_take 63 = .ok (.iload_n 2, 1) := by decide +kernel
theorem dX2_take_64 : decode cX2_take 64 = .ok (.iload_n 3, 1) := by decide +kernel
theorem dX2_take_65 : decode cX2_take 65 = .ok (.invokevirtual 52, 3) := by decide +kernel
theorem dX2_take_68 : decode cX2_take 68 = .ok (.lastore, 1) := by decide +kernel
theorem dX2_take_69 : decode cX2_take 69 = .ok (.iinc 3 1, 3) := by decide +kernel
theorem dX2_take_72 : decode cX2_take 72 = .ok (.goto (-52), 3) := by decide +kernel
theorem dX2_take_75 : decode cX2_take 75 = .ok (.return_, 1) := by decide +kernel
theorem dX2_run_0 : decode cX2_run 0 = .ok (.aload_n 0, 1) := by decide +kernel
theorem dX2_run_1 : decode cX2_run 1 = .ok (.lconst 0, 1) := by decide +kernel
theorem dX2_run_2 : decode cX2_run 2 = .ok (.lconst 0, 1) := by decide +kernel
theorem dX2_run_3 : decode cX2_run 3 = .ok (.lconst 0, 1) := by decide +kernel
theorem dX2_run_4 : decode cX2_run 4 = .ok (.invokevirtual 56, 3) := by decide +kernel
theorem dX2_run_7 : decode cX2_run 7 = .ok (.pop, 1) := by decide +kernel
theorem dX2_run_8 : decode cX2_run 8 = .ok (.return_, 1) := by decide +kernel
theorem dX2_runWhile_0 : decode cX2_runWhile 0 = .ok (.iconst 0, 1) := by decide +kernel
theorem dX2_runWhile_1 : decode cX2_runWhile 1 = .ok (.istore 7, 2) := by decide +kernel
theorem dX2_runWhile_3 : decode cX2_runWhile 3 = .ok (.iload 7, 2) := by decide +kernel
theorem dX2_runWhile_5 : decode cX2_runWhile 5 = .ok (.iconst 2, 1) := by decide +kernel
theorem dX2_runWhile_6 : decode cX2_runWhile 6 = .ok (.if_icmp .ge 33, 3) := by decide +kernel
theorem dX2_runWhile_9 : decode cX2_runWhile 9 = .ok (.aload_n 0, 1) := by decide +kernel
theorem dX2_runWhile_10 : decode cX2_runWhile 10 = .ok (.getfield 20, 3) := by decide +kernel
theorem dX2_runWhile_13 : decode cX2_runWhile 13 = .ok (.iload 7, 2) := by decide +kernel
theorem dX2_runWhile_15 : decode cX2_runWhile 15 = .ok (.lconst 0, 1) := by decide +kernel
theorem dX2_runWhile_16 : decode cX2_runWhile 16 = .ok (.lastore, 1) := by decide +kernel
theorem dX2_runWhile_17 : decode cX2_runWhile 17 = .ok (.aload_n 0, 1) := by decide +kernel
theorem dX2_runWhile_18 : decode cX2_runWhile 18 = .ok (.getfield 23, 3) := by decide +kernel
theorem dX2_runWhile_21 : decode cX2_runWhile 21 = .ok (.iload 7, 2) := by decide +kernel
theorem dX2_runWhile_23 : decode cX2_runWhile 23 = .ok (.lconst 0, 1) := by decide +kernel
theorem dX2_runWhile_24 : decode cX2_runWhile 24 = .ok (.lastore, 1) := by decide +kernel
theorem dX2_runWhile_25 : decode cX2_runWhile 25 = .ok (.aload_n 0, 1) := by decide +kernel
theorem dX2_runWhile_26 : decode cX2_runWhile 26 = .ok (.getfield 26, 3) := by decide +kernel
theorem dX2_runWhile_29 : decode cX2_runWhile 29 = .ok (.iload 7, 2) := by decide +kernel
theorem dX2_runWhile_31 : decode cX2_runWhile 31 = .ok (.lconst 0, 1) := by decide +kernel
theorem dX2_runWhile_32 : decode cX2_runWhile 32 = .ok (.lastore, 1) := by decide +kernel
theorem dX2_runWhile_33 : decode cX2_runWhile 33 = .ok (.iinc 7 1, 3) := by decide +kernel
theorem dX2_runWhile_36 : decode cX2_runWhile 36 = .ok (.goto (-33), 3) := by decide +kernel
theorem dX2_runWhile_39 : decode cX2_runWhile 39 = .ok (.aload_n 0, 1) := by decide +kernel
theorem dX2_runWhile_40 : decode cX2_runWhile 40 = .ok (.getfield 7, 3) := by decide +kernel
theorem dX2_runWhile_43 : decode cX2_runWhile 43 = .ok (.iconst 0, 1) := by decide +kernel
theorem dX2_runWhile_44 : decode cX2_runWhile 44 = .ok (.iaload, 1) := by decide +kernel
theorem dX2_runWhile_45 : decode cX2_runWhile 45 = .ok (.aload_n 0, 1) := by decide +kernel
theorem dX2_runWhile_46 : decode cX2_runWhile 46 = .ok (.getfield 7, 3) := by decide +kernel
theorem dX2_runWhile_49 : decode cX2_runWhile 49 = .ok (.iconst 1, 1) := by decide +kernel
theorem dX2_runWhile_50 : decode cX2_runWhile 50 = .ok (.iaload, 1) := by decide +kernel
theorem dX2_runWhile_51 : decode cX2_runWhile 51 = .ok (.invokestatic 60, 3) := by decide +kernel
theorem dX2_runWhile_54 : decode cX2_runWhile 54 = .ok (.istore 7, 2) := by decide +kernel
theorem dX2_runWhile_56 : decode cX2_runWhile 56 = .ok (.aload_n 0, 1) := by decide +kernel
theorem dX2_runWhile_57 : decode cX2_runWhile 57 = .ok (.getfield 39, 3) := by decide +kernel
theorem dX2_runWhile_60 : decode cX2_runWhile 60 = .ok (.istore 8, 2) := by decide +kernel
theorem dX2_runWhile_62 : decode cX2_runWhile 62 = .ok (.iconst 0, 1) := by decide +kernel
theorem dX2_runWhile_63 : decode cX2_runWhile 63 = .ok (.istore 9, 2) := by decide +kernel
theorem dX2_runWhile_65 : decode cX2_runWhile 65 = .ok (.iload 9, 2) := by decide +kernel
theorem dX2_runWhile_67 : decode cX2_runWhile 67 = .ok (.aload_n 0, 1) := by decide +kernel
theorem dX2_runWhile_68 : decode cX2_runWhile 68 = .ok (.getfield 35, 3) := by decide +kernel
theorem dX2_runWhile_71 : decode cX2_runWhile 71 = .ok (.if_icmp .ge 162, 3) := by decide +kernel
theorem dX2_runWhile_74 : decode cX2_runWhile 74 = .ok (.aload_n 0, 1) := by decide +kernel
theorem dX2_runWhile_75 : decode cX2_runWhile 75 = .ok (.getfield 13, 3) := by decide +kernel
theorem dX2_runWhile_78 : decode cX2_runWhile 78 = .ok (.iconst 0, 1) := by decide +kernel
theorem dX2_runWhile_79 : decode cX2_runWhile 79 = .ok (.laload, 1) := by decide +kernel
theorem dX2_runWhile_80 : decode cX2_runWhile 80 = .ok (.aload_n 0, 1) := by decide +kernel
theorem dX2_runWhile_81 : decode cX2_runWhile 81 = .ok (.getfield 13, 3) := by decide +kernel
theorem dX2_runWhile_84 : decode cX2_runWhile 84 = .ok (.iconst 1, 1) := by decide +kernel
theorem dX2_runWhile_85 : decode cX2_runWhile 85 = .ok (.laload, 1) := by decide +kernel
theorem dX2_runWhile_86 : decode cX2_runWhile 86 = .ok (.iload 9, 2) := by decide +kernel
theorem dX2_runWhile_88 : decode cX2_runWhile 88 = .ok (.invokestatic 65, 3) := by decide +kernel
theorem dX2_runWhile_91 : decode cX2_runWhile 91 = .ok (.istore 10, 2) := by decide +kernel
theorem dX2_runWhile_93 : decode cX2_runWhile 93 = .ok (.aload_n 0, 1) := by decide +kernel
theorem dX2_runWhile_94 : decode cX2_runWhile 94 = .ok (.getfield 17, 3) := by decide +kernel
theorem dX2_runWhile_97 : decode cX2_runWhile 97 = .ok (.iconst 0, 1) := by decide +kernel
theorem dX2_runWhile_98 : decode cX2_runWhile 98 = .ok (.laload, 1) := by decide +kernel
theorem dX2_runWhile_99 : decode cX2_runWhile 99 = .ok (.aload_n 0, 1) := by decide +kernel
theorem dX2_runWhile_100 : decode cX2_runWhile 100 = .ok (.getfield 17, 3) := by decide +kernel
theorem dX2_runWhile_103 : decode cX2_runWhile 103 = .ok (.iconst 1, 1) := by decide +kernel
theorem dX2_runWhile_104 : decode cX2_runWhile 104 = .ok (.laload, 1) := by decide +kernel
theorem dX2_runWhile_105 : decode cX2_runWhile 105 = .ok (.iload 9, 2) := by decide +kernel
theorem dX2_runWhile_107 : decode cX2_runWhile 107 = .ok (.invokestatic 65, 3) := by decide +kernel
theorem dX2_runWhile_110 : decode cX2_runWhile 110 = .ok (.istore 11, 2) := by decide +kernel
theorem dX2_runWhile_112 : decode cX2_runWhile 112 = .ok (.aload_n 0, 1) := by decide +kernel
theorem dX2_runWhile_113 : decode cX2_runWhile 113 = .ok (.getfield 7, 3) := by decide +kernel
theorem dX2_runWhile_116 : decode cX2_runWhile 116 = .ok (.iconst 0, 1) := by decide +kernel
theorem dX2_runWhile_117 : decode cX2_runWhile 117 = .ok (.iaload, 1) := by decide +kernel
theorem dX2_runWhile_118 : decode cX2_runWhile 118 = .ok (.aload_n 0, 1) := by decide +kernel
theorem dX2_runWhile_119 : decode cX2_runWhile 119 = .ok (.getfield 7, 3) := by decide +kernel
theorem dX2_runWhile_122 : decode cX2_runWhile 122 = .ok (.iconst 1, 1) := by decide +kernel
theorem dX2_runWhile_123 : decode cX2_runWhile 123 = .ok (.iaload, 1) := by decide +kernel
theorem dX2_runWhile_124 : decode cX2_runWhile 124 = .ok (.iload 8, 2) := by decide +kernel
theorem dX2_runWhile_126 : decode cX2_runWhile 126 = .ok (.invokestatic 69, 3) := by decide +kernel
theorem dX2_runWhile_129 : decode cX2_runWhile 129 = .ok (.iload 10, 2) := by decide +kernel
theorem dX2_runWhile_131 : decode cX2_runWhile 131 = .ok (.iand, 1) := by decide +kernel
theorem dX2_runWhile_132 : decode cX2_runWhile 132 = .ok (.istore 12, 2) := by decide +kernel
theorem dX2_runWhile_134 : decode cX2_runWhile 134 = .ok (.iload 12, 2) := by decide +kernel
theorem dX2_runWhile_136 : decode cX2_runWhile 136 = .ok (.iload 7, 2) := by decide +kernel
theorem dX2_runWhile_138 : decode cX2_runWhile 138 = .ok (.iload 10, 2) := by decide +kernel
theorem dX2_runWhile_140 : decode cX2_runWhile 140 = .ok (.iand, 1) := by decide +kernel
theorem dX2_runWhile_141 : decode cX2_runWhile 141 = .ok (.iload 11, 2) := by decide +kernel
theorem dX2_runWhile_143 : decode cX2_runWhile 143 = .ok (.invokestatic 73, 3) := by decide +kernel
theorem dX2_runWhile_146 : decode cX2_runWhile 146 = .ok (.istore 13, 2) := by decide +kernel
theorem dX2_runWhile_148 : decode cX2_runWhile 148 = .ok (.iload 12, 2) := by decide +kernel
theorem dX2_runWhile_150 : decode cX2_runWhile 150 = .ok (.iload 13, 2) := by decide +kernel
theorem dX2_runWhile_152 : decode cX2_runWhile 152 = .ok (.ior, 1) := by decide +kernel
theorem dX2_runWhile_153 : decode cX2_runWhile 153 = .ok (.iload 11, 2) := by decide +kernel
theorem dX2_runWhile_155 : decode cX2_runWhile 155 = .ok (.iand, 1) := by decide +kernel
theorem dX2_runWhile_156 : decode cX2_runWhile 156 = .ok (.invokestatic 76, 3) := by decide +kernel
theorem dX2_runWhile_159 : decode cX2_runWhile 159 = .ok (.istore 14, 2) := by decide +kernel
theorem dX2_runWhile_161 : decode cX2_runWhile 161 = .ok (.aload_n 0, 1) := by decide +kernel
theorem dX2_runWhile_162 : decode cX2_runWhile 162 = .ok (.getfield 20, 3) := by decide +kernel
theorem dX2_runWhile_165 : decode cX2_runWhile 165 = .ok (.iload 9, 2) := by decide +kernel
theorem dX2_runWhile_167 : decode cX2_runWhile 167 = .ok (.iload 12, 2) := by decide +kernel
theorem dX2_runWhile_169 : decode cX2_runWhile 169 = .ok (.invokestatic 80, 3) := by decide +kernel
theorem dX2_runWhile_172 : decode cX2_runWhile 172 = .ok (.aload_n 0, 1) := by decide +kernel
theorem dX2_runWhile_173 : decode cX2_runWhile 173 = .ok (.getfield 23, 3) := by decide +kernel
theorem dX2_runWhile_176 : decode cX2_runWhile 176 = .ok (.iload 9, 2) := by decide +kernel
theorem dX2_runWhile_178 : decode cX2_runWhile 178 = .ok (.iload 13, 2) := by decide +kernel
theorem dX2_runWhile_180 : decode cX2_runWhile 180 = .ok (.invokestatic 80, 3) := by decide +kernel
theorem dX2_runWhile_183 : decode cX2_runWhile 183 = .ok (.aload_n 0, 1) := by decide +kernel
theorem dX2_runWhile_184 : decode cX2_runWhile 184 = .ok (.getfield 26, 3) := by decide +kernel
theorem dX2_runWhile_187 : decode cX2_runWhile 187 = .ok (.iload 9, 2) := by decide +kernel
theorem dX2_runWhile_189 : decode cX2_runWhile 189 = .ok (.iload 14, 2) := by decide +kernel
theorem dX2_runWhile_191 : decode cX2_runWhile 191 = .ok (.invokestatic 80, 3) := by decide +kernel
theorem dX2_runWhile_194 : decode cX2_runWhile 194 = .ok (.lload_n 1, 1) := by decide +kernel
theorem dX2_runWhile_195 : decode cX2_runWhile 195 = .ok (.iload 9, 2) := by decide +kernel
theorem dX2_runWhile_197 : decode cX2_runWhile 197 = .ok (.invokestatic 84, 3) := by decide +kernel
theorem dX2_runWhile_200 : decode cX2_runWhile 200 = .ok (.ifCond .eq 18, 3) := by decide +kernel
theorem dX2_runWhile_203 : decode cX2_runWhile 203 = .ok (.iload 14, 2) := by decide +kernel
theorem dX2_runWhile_205 : decode cX2_runWhile 205 = .ok (.lload_n 3, 1) := by decide +kernel
theorem dX2_runWhile_206 : decode cX2_runWhile 206 = .ok (.lload 5, 2) := by decide +kernel
theorem dX2_runWhile_208 : decode cX2_runWhile 208 = .ok (.iload 9, 2) := by decide +kernel
theorem dX2_runWhile_210 : decode cX2_runWhile 210 = .ok (.invokestatic 65, 3) := by decide +kernel
theorem dX2_runWhile_213 : decode cX2_runWhile 213 = .ok (.if_icmp .eq 5, 3) := by decide +kernel
theorem dX2_runWhile_216 : decode cX2_runWhile 216 = .ok (.iconst 0, 1) := by decide +kernel
theorem dX2_runWhile_217 : decode cX2_runWhile 217 = .ok (.ireturn, 1) := by decide +kernel
theorem dX2_runWhile_218 : decode cX2_runWhile 218 = .ok (.iload 8, 2) := by decide +kernel
theorem dX2_runWhile_220 : decode cX2_runWhile 220 = .ok (.iload 14, 2) := by decide +kernel
theorem dX2_runWhile_222 : decode cX2_runWhile 222 = .ok (.invokestatic 90, 3) := by decide +kernel
theorem dX2_runWhile_225 : decode cX2_runWhile 225 = .ok (.istore 8, 2) := by decide +kernel
theorem dX2_runWhile_227 : decode cX2_runWhile 227 = .ok (.iinc 9 1, 3) := by decide +kernel
theorem dX2_runWhile_230 : decode cX2_runWhile 230 = .ok (.goto (-165), 3) := by decide +kernel
theorem dX2_runWhile_233 : decode cX2_runWhile 233 = .ok (.iconst 1, 1) := by decide +kernel
theorem dX2_runWhile_234 : decode cX2_runWhile 234 = .ok (.ireturn, 1) := by decide +kernel
theorem dX2_hurtsOf_0 : decode cX2_hurtsOf 0 = .ok (.aload_n 0, 1) := by decide +kernel
theorem dX2_hurtsOf_1 : decode cX2_hurtsOf 1 = .ok (.getfield 20, 3) := by decide +kernel
theorem dX2_hurtsOf_4 : decode cX2_hurtsOf 4 = .ok (.iload_n 1, 1) := by decide +kernel
theorem dX2_hurtsOf_5 : decode cX2_hurtsOf 5 = .ok (.laload, 1) := by decide +kernel
theorem dX2_hurtsOf_6 : decode cX2_hurtsOf 6 = .ok (.aload_n 0, 1) := by decide +kernel
theorem dX2_hurtsOf_7 : decode cX2_hurtsOf 7 = .ok (.getfield 23, 3) := by decide +kernel
theorem dX2_hurtsOf_10 : decode cX2_hurtsOf 10 = .ok (.iload_n 1, 1) := by decide +kernel
theorem dX2_hurtsOf_11 : decode cX2_hurtsOf 11 = .ok (.laload, 1) := by decide +kernel
theorem dX2_hurtsOf_12 : decode cX2_hurtsOf 12 = .ok (.lor, 1) := by decide +kernel
theorem dX2_hurtsOf_13 : decode cX2_hurtsOf 13 = .ok (.aload_n 0, 1) := by decide +kernel
theorem dX2_hurtsOf_14 : decode cX2_hurtsOf 14 = .ok (.getfield 26, 3) := by decide +kernel
theorem dX2_hurtsOf_17 : decode cX2_hurtsOf 17 = .ok (.iload_n 1, 1) := by decide +kernel
theorem dX2_hurtsOf_18 : decode cX2_hurtsOf 18 = .ok (.laload, 1) := by decide +kernel
theorem dX2_hurtsOf_19 : decode cX2_hurtsOf 19 = .ok (.ldc2_w 93, 3) := by decide +kernel
theorem dX2_hurtsOf_22 : decode cX2_hurtsOf 22 = .ok (.lxor, 1) := by decide +kernel
theorem dX2_hurtsOf_23 : decode cX2_hurtsOf 23 = .ok (.land, 1) := by decide +kernel
theorem dX2_hurtsOf_24 : decode cX2_hurtsOf 24 = .ok (.invokestatic 95, 3) := by decide +kernel
theorem dX2_hurtsOf_27 : decode cX2_hurtsOf 27 = .ok (.ireturn, 1) := by decide +kernel
theorem dX2_costOf_0 : decode cX2_costOf 0 = .ok (.aload_n 1, 1) := by decide +kernel
theorem dX2_costOf_1 : decode cX2_costOf 1 = .ok (.getfield 101, 3) := by decide +kernel
theorem dX2_costOf_4 : decode cX2_costOf 4 = .ok (.aload_n 0, 1) := by decide +kernel
theorem dX2_costOf_5 : decode cX2_costOf 5 = .ok (.getfield 20, 3) := by decide +kernel
theorem dX2_costOf_8 : decode cX2_costOf 8 = .ok (.iload_n 2, 1) := by decide +kernel
theorem dX2_costOf_9 : decode cX2_costOf 9 = .ok (.laload, 1) := by decide +kernel
theorem dX2_costOf_10 : decode cX2_costOf 10 = .ok (.aload_n 0, 1) := by decide +kernel
theorem dX2_costOf_11 : decode cX2_costOf 11 = .ok (.getfield 23, 3) := by decide +kernel
theorem dX2_costOf_14 : decode cX2_costOf 14 = .ok (.iload_n 2, 1) := by decide +kernel
theorem dX2_costOf_15 : decode cX2_costOf 15 = .ok (.laload, 1) := by decide +kernel
theorem dX2_costOf_16 : decode cX2_costOf 16 = .ok (.lor, 1) := by decide +kernel
theorem dX2_costOf_17 : decode cX2_costOf 17 = .ok (.invokestatic 95, 3) := by decide +kernel
theorem dX2_costOf_20 : decode cX2_costOf 20 = .ok (.imul, 1) := by decide +kernel
theorem dX2_costOf_21 : decode cX2_costOf 21 = .ok (.aload_n 1, 1) := by decide +kernel
theorem dX2_costOf_22 : decode cX2_costOf 22 = .ok (.getfield 104, 3) := by decide +kernel
theorem dX2_costOf_25 : decode cX2_costOf 25 = .ok (.aload_n 0, 1) := by decide +kernel
theorem dX2_costOf_26 : decode cX2_costOf 26 = .ok (.iload_n 2, 1) := by decide +kernel
theorem dX2_costOf_27 : decode cX2_costOf 27 = .ok (.invokevirtual 107, 3) := by decide +kernel
theorem dX2_costOf_30 : decode cX2_costOf 30 = .ok (.imul, 1) := by decide +kernel
theorem dX2_costOf_31 : decode cX2_costOf 31 = .ok (.iadd, 1) := by decide +kernel
theorem dX2_costOf_32 : decode cX2_costOf 32 = .ok (.ireturn, 1) := by decide +kernel
theorem dX3_find_0 : decode cX3_find 0 = .ok (.aload_n 0, 1) := by decide +kernel
theorem dX3_find_1 : decode cX3_find 1 = .ok (.iload_n 1, 1) := by decide +kernel
theorem dX3_find_2 : decode cX3_find 2 = .ok (.putfield 15, 3) := by decide +kernel
theorem dX3_find_5 : decode cX3_find 5 = .ok (.aload_n 0, 1) := by decide +kernel
theorem dX3_find_6 : decode cX3_find 6 = .ok (.iload_n 2, 1) := by decide +kernel
theorem dX3_find_7 : decode cX3_find 7 = .ok (.putfield 19, 3) := by decide +kernel
theorem dX3_find_10 : decode cX3_find 10 = .ok (.aload_n 0, 1) := by decide +kernel
theorem dX3_find_11 : decode cX3_find 11 = .ok (.getfield 9, 3) := by decide +kernel
theorem dX3_find_14 : decode cX3_find 14 = .ok (.iconst (-1), 1) := by decide +kernel
theorem dX3_find_15 : decode cX3_find 15 = .ok (.invokestatic 22, 3) := by decide +kernel
theorem dX3_find_18 : decode cX3_find 18 = .ok (.iload_n 3, 1) := by decide +kernel
theorem dX3_find_19 : decode cX3_find 19 = .ok (.istore 4, 2) := by decide +kernel
theorem dX3_find_21 : decode cX3_find 21 = .ok (.iconst 0, 1) := by decide +kernel
theorem dX3_find_22 : decode cX3_find 22 = .ok (.istore 5, 2) := by decide +kernel
theorem dX3_find_24 : decode cX3_find 24 = .ok (.iload 5, 2) := by decide +kernel
theorem dX3_find_26 : decode cX3_find 26 = .ok (.bipush 16, 2) := by decide +kernel
theorem dX3_find_28 : decode cX3_find 28 = .ok (.if_icmp .ge 38, 3) := by decide +kernel
theorem dX3_find_31 : decode cX3_find 31 = .ok (.aload_n 0, 1) := by decide +kernel
theorem dX3_find_32 : decode cX3_find 32 = .ok (.getfield 9, 3) := by decide +kernel
theorem dX3_find_35 : decode cX3_find 35 = .ok (.iload 4, 2) := by decide +kernel
theorem dX3_find_37 : decode cX3_find 37 = .ok (.iaload, 1) := by decide +kernel
theorem dX3_find_38 : decode cX3_find 38 = .ok (.iconst (-1), 1) := by decide +kernel
theorem dX3_find_39 : decode cX3_find 39 = .ok (.if_icmp .ne 27, 3) := by decide +kernel
theorem dX3_find_42 : decode cX3_find 42 = .ok (.aload_n 0, 1) := by decide +kernel
theorem dX3_find_43 : decode cX3_find 43 = .ok (.getfield 9, 3) := by decide +kernel
theorem dX3_find_46 : decode cX3_find 46 = .ok (.iload 4, 2) := by decide +kernel
theorem dX3_find_48 : decode cX3_find 48 = .ok (.iload 5, 2) := by decide +kernel
theorem dX3_find_50 : decode cX3_find 50 = .ok (.iastore, 1) := by decide +kernel
theorem dX3_find_51 : decode cX3_find 51 = .ok (.iinc 5 1, 3) := by decide +kernel
theorem dX3_find_54 : decode cX3_find 54 = .ok (.aload_n 0, 1) := by decide +kernel
theorem dX3_find_55 : decode cX3_find 55 = .ok (.iload 4, 2) := by decide +kernel
theorem dX3_find_57 : decode cX3_find 57 = .ok (.iconst 3, 1) := by decide +kernel
theorem dX3_find_58 : decode cX3_find 58 = .ok (.invokevirtual 28, 3) := by decide +kernel
theorem dX3_find_61 : decode cX3_find 61 = .ok (.istore 4, 2) := by decide +kernel
theorem dX3_find_63 : decode cX3_find 63 = .ok (.goto (-39), 3) := by decide +kernel
theorem dX3_find_66 : decode cX3_find 66 = .ok (.aload_n 0, 1) := by decide +kernel
theorem dX3_find_67 : decode cX3_find 67 = .ok (.iload 4, 2) := by decide +kernel
theorem dX3_find_69 : decode cX3_find 69 = .ok (.putfield 32, 3) := by decide +kernel
theorem dX3_find_72 : decode cX3_find 72 = .ok (.aload_n 0, 1) := by decide +kernel
theorem dX3_find_73 : decode cX3_find 73 = .ok (.aload_n 0, 1) := by decide +kernel
theorem dX3_find_74 : decode cX3_find 74 = .ok (.getfield 9, 3) := by decide +kernel
theorem dX3_find_77 : decode cX3_find 77 = .ok (.iload 4, 2) := by decide +kernel
theorem dX3_find_79 : decode cX3_find 79 = .ok (.iaload, 1) := by decide +kernel
theorem dX3_find_80 : decode cX3_find 80 = .ok (.putfield 35, 3) := by decide +kernel
theorem dX3_find_83 : decode cX3_find 83 = .ok (.aload_n 0, 1) := by decide +kernel
theorem dX3_find_84 : decode cX3_find 84 = .ok (.iload 5, 2) := by decide +kernel
theorem dX3_find_86 : decode cX3_find 86 = .ok (.aload_n 0, 1) := by decide +kernel
theorem dX3_find_87 : decode cX3_find 87 = .ok (.getfield 35, 3) := by decide +kernel
theorem dX3_find_90 : decode cX3_find 90 = .ok (.isub, 1) := by decide +kernel
theorem dX3_find_91 : decode cX3_find 91 = .ok (.putfield 38, 3) := by decide +kernel
theorem dX3_find_94 : decode cX3_find 94 = .ok (.aload_n 0, 1) := by decide +kernel
theorem dX3_find_95 : decode cX3_find 95 = .ok (.iconst 0, 1) := by decide +kernel
theorem dX3_find_96 : decode cX3_find 96 = .ok (.putfield 41, 3) := by decide +kernel
theorem dX3_find_99 : decode cX3_find 99 = .ok (.iconst 0, 1) := by decide +kernel
theorem dX3_find_100 : decode cX3_find 100 = .ok (.istore 6, 2) := by decide +kernel
theorem dX3_find_102 : decode cX3_find 102 = .ok (.iload 6, 2) := by decide +kernel
theorem dX3_find_104 : decode cX3_find 104 = .ok (.aload_n 0, 1) := by decide +kernel
theorem dX3_find_105 : decode cX3_find 105 = .ok (.getfield 38, 3) := by decide +kernel
theorem dX3_find_108 : decode cX3_find 108 = .ok (.if_icmp .ge 37, 3) := by decide +kernel
theorem dX3_find_111 : decode cX3_find 111 = .ok (.aload_n 0, 1) := by decide +kernel
theorem dX3_find_112 : decode cX3_find 112 = .ok (.dup, 1) := by decide +kernel
theorem dX3_find_113 : decode cX3_find 113 = .ok (.getfield 41, 3) := by decide +kernel
theorem dX3_find_116 : decode cX3_find 116 = .ok (.aload_n 0, 1) := by decide +kernel
theorem dX3_find_117 : decode cX3_find 117 = .ok (.iload 4, 2) := by decide +kernel
theorem dX3_find_119 : decode cX3_find 119 = .ok (.iconst 3, 1) := by decide +kernel
theorem dX3_find_120 : decode cX3_find 120 = .ok (.invokevirtual 44, 3) := by decide +kernel
theorem dX3_find_123 : decode cX3_find 123 = .ok (.invokestatic 47, 3) := by decide +kernel
theorem dX3_find_126 : decode cX3_find 126 = .ok (.iadd, 1) := by decide +kernel
theorem dX3_find_127 : decode cX3_find 127 = .ok (.putfield 41, 3) := by decide +kernel
theorem dX3_find_130 : decode cX3_find 130 = .ok (.aload_n 0, 1) := by decide +kernel
theorem dX3_find_131 : decode cX3_find 131 = .ok (.iload 4, 2) := by decide +kernel
theorem dX3_find_133 : decode cX3_find 133 = .ok (.iconst 3, 1) := by decide +kernel
theorem dX3_find_134 : decode cX3_find 134 = .ok (.invokevirtual 28, 3) := by decide +kernel
theorem dX3_find_137 : decode cX3_find 137 = .ok (.istore 4, 2) := by decide +kernel
theorem dX3_find_139 : decode cX3_find 139 = .ok (.iinc 6 1, 3) := by decide +kernel
theorem dX3_find_142 : decode cX3_find 142 = .ok (.goto (-40), 3) := by decide +kernel
theorem dX3_find_145 : decode cX3_find 145 = .ok (.return_, 1) := by decide +kernel
theorem dX3_kind_0 : decode cX3_kind 0 = .ok (.aload_n 0, 1) := by decide +kernel
theorem dX3_kind_1 : decode cX3_kind 1 = .ok (.getfield 41, 3) := by decide +kernel
theorem dX3_kind_4 : decode cX3_kind 4 = .ok (.ifCond .ne 5, 3) := by decide +kernel
theorem dX3_kind_7 : decode cX3_kind 7 = .ok (.iconst 0, 1) := by decide +kernel
theorem dX3_kind_8 : decode cX3_kind 8 = .ok (.ireturn, 1) := by decide +kernel
theorem dX3_kind_9 : decode cX3_kind 9 = .ok (.aload_n 0, 1) := by decide +kernel
theorem dX3_kind_10 : decode cX3_kind 10 = .ok (.getfield 41, 3) := by decide +kernel
theorem dX3_kind_13 : decode cX3_kind 13 = .ok (.iconst 2, 1) := by decide +kernel
theorem dX3_kind_14 : decode cX3_kind 14 = .ok (.aload_n 0, 1) := by decide +kernel
theorem dX3_kind_15 : decode cX3_kind 15 = .ok (.getfield 38, 3) := by decide +kernel
theorem dX3_kind_18 : decode cX3_kind 18 = .ok (.imul, 1) := by decide +kernel
theorem dX3_kind_19 : decode cX3_kind 19 = .ok (.if_icmp .ne 7, 3) := by decide +kernel
theorem dX3_kind_22 : decode cX3_kind 22 = .ok (.iconst 1, 1) := by decide +kernel
theorem dX3_kind_23 : decode cX3_kind 23 = .ok (.goto 4, 3) := by decide +kernel
theorem dX3_kind_26 : decode cX3_kind 26 = .ok (.iconst 2, 1) := by decide +kernel
theorem dX3_kind_27 : decode cX3_kind 27 = .ok (.ireturn, 1) := by decide +kernel
theorem dX3_tell_0 : decode cX3_tell 0 = .ok (.iload_n 1, 1) := by decide +kernel
theorem dX3_tell_1 : decode cX3_tell 1 = .ok (.tableswitch 42 0 2 #[27, 32, 37], 27) := by decide +kernel
theorem dX3_tell_28 : decode cX3_tell 28 = .ok (.aload_n 0, 1) := by decide +kernel
theorem dX3_tell_29 : decode cX3_tell 29 = .ok (.getfield 35, 3) := by decide +kernel
theorem dX3_tell_32 : decode cX3_tell 32 = .ok (.ireturn, 1) := by decide +kernel
theorem dX3_tell_33 : decode cX3_tell 33 = .ok (.aload_n 0, 1) := by decide +kernel
theorem dX3_tell_34 : decode cX3_tell 34 = .ok (.getfield 38, 3) := by decide +kernel
theorem dX3_tell_37 : decode cX3_tell 37 = .ok (.ireturn, 1) := by decide +kernel
theorem dX3_tell_38 : decode cX3_tell 38 = .ok (.aload_n 0, 1) := by decide +kernel
theorem dX3_tell_39 : decode cX3_tell 39 = .ok (.getfield 41, 3) := by decide +kernel
theorem dX3_tell_42 : decode cX3_tell 42 = .ok (.ireturn, 1) := by decide +kernel
theorem dX3_tell_43 : decode cX3_tell 43 = .ok (.aload_n 0, 1) := by decide +kernel
theorem dX3_tell_44 : decode cX3_tell 44 = .ok (.invokevirtual 53, 3) := by decide +kernel
theorem dX3_tell_47 : decode cX3_tell 47 = .ok (.ireturn, 1) := by decide +kernel
theorem dX3_everDies_0 : decode cX3_everDies 0 = .ok (.iconst 0, 1) := by decide +kernel
theorem dX3_everDies_1 : decode cX3_everDies 1 = .ok (.istore_n 3, 1) := by decide +kernel
theorem dX3_everDies_2 : decode cX3_everDies 2 = .ok (.iload_n 3, 1) := by decide +kernel
theorem dX3_everDies_3 : decode cX3_everDies 3 = .ok (.bipush 16, 2) := by decide +kernel
theorem dX3_everDies_5 : decode cX3_everDies 5 = .ok (.if_icmp .ge 25, 3) := by decide +kernel
theorem dX3_everDies_8 : decode cX3_everDies 8 = .ok (.aload_n 0, 1) := by decide +kernel
theorem dX3_everDies_9 : decode cX3_everDies 9 = .ok (.iload_n 1, 1) := by decide +kernel
theorem dX3_everDies_10 : decode cX3_everDies 10 = .ok (.iload_n 2, 1) := by decide +kernel
theorem dX3_everDies_11 : decode cX3_everDies 11 = .ok (.iload_n 3, 1) := by decide +kernel
theorem dX3_everDies_12 : decode cX3_everDies 12 = .ok (.invokevirtual 57, 3) := by decide +kernel
theorem dX3_everDies_15 : decode cX3_everDies 15 = .ok (.aload_n 0, 1) := by decide +kernel
theorem dX3_everDies_16 : decode cX3_everDies 16 = .ok (.invokevirtual 53, 3) := by decide +kernel
theorem dX3_everDies_19 : decode cX3_everDies 19 = .ok (.ifCond .ne 5, 3) := by decide +kernel
theorem dX3_everDies_22 : decode cX3_everDies 22 = .ok (.iconst 1, 1) := by decide +kernel
theorem dX3_everDies_23 : decode cX3_everDies 23 = .ok (.ireturn, 1) := by decide +kernel
theorem dX3_everDies_24 : decode cX3_everDies 24 = .ok (.iinc 3 1, 3) := by decide +kernel
theorem dX3_everDies_27 : decode cX3_everDies 27 = .ok (.goto (-25), 3) := by decide +kernel
theorem dX3_everDies_30 : decode cX3_everDies 30 = .ok (.iconst 0, 1) := by decide +kernel
theorem dX3_everDies_31 : decode cX3_everDies 31 = .ok (.ireturn, 1) := by decide +kernel
theorem dX3_isIn_0 : decode cX3_isIn 0 = .ok (.aload_n 0, 1) := by decide +kernel
theorem dX3_isIn_1 : decode cX3_isIn 1 = .ok (.getfield 9, 3) := by decide +kernel
theorem dX3_isIn_4 : decode cX3_isIn 4 = .ok (.iload_n 1, 1) := by decide +kernel
theorem dX3_isIn_5 : decode cX3_isIn 5 = .ok (.iaload, 1) := by decide +kernel
theorem dX3_isIn_6 : decode cX3_isIn 6 = .ok (.aload_n 0, 1) := by decide +kernel
theorem dX3_isIn_7 : decode cX3_isIn 7 = .ok (.getfield 35, 3) := by decide +kernel
theorem dX3_isIn_10 : decode cX3_isIn 10 = .ok (.if_icmp .lt 7, 3) := by decide +kernel
theorem dX3_isIn_13 : decode cX3_isIn 13 = .ok (.iconst 1, 1) := by decide +kernel
theorem dX3_isIn_14 : decode cX3_isIn 14 = .ok (.goto 4, 3) := by decide +kernel
theorem dX3_isIn_17 : decode cX3_isIn 17 = .ok (.iconst 0, 1) := by decide +kernel
theorem dX3_isIn_18 : decode cX3_isIn 18 = .ok (.ireturn, 1) := by decide +kernel
theorem dX3_withLoss_0 : decode cX3_withLoss 0 = .ok (.aload_n 0, 1) := by decide +kernel
theorem dX3_withLoss_1 : decode cX3_withLoss 1 = .ok (.getfield 32, 3) := by decide +kernel
theorem dX3_withLoss_4 : decode cX3_withLoss 4 = .ok (.istore_n 3, 1) := by decide +kernel
theorem dX3_withLoss_5 : decode cX3_withLoss 5 = .ok (.iconst 0, 1) := by decide +kernel
theorem dX3_withLoss_6 : decode cX3_withLoss 6 = .ok (.istore 4, 2) := by decide +kernel
theorem dX3_withLoss_8 : decode cX3_withLoss 8 = .ok (.iload 4, 2) := by decide +kernel
theorem dX3_withLoss_10 : decode cX3_withLoss 10 = .ok (.iload_n 1, 1) := by decide +kernel
theorem dX3_withLoss_11 : decode cX3_withLoss 11 = .ok (.if_icmp .ge 16, 3) := by decide +kernel
theorem dX3_withLoss_14 : decode cX3_withLoss 14 = .ok (.aload_n 0, 1) := by decide +kernel
theorem dX3_withLoss_15 : decode cX3_withLoss 15 = .ok (.iload_n 3, 1) := by decide +kernel
theorem dX3_withLoss_16 : decode cX3_withLoss 16 = .ok (.iconst 3, 1) := by decide +kernel
theorem dX3_withLoss_17 : decode cX3_withLoss 17 = .ok (.invokevirtual 28, 3) := by decide +kernel
theorem dX3_withLoss_20 : decode cX3_withLoss 20 = .ok (.istore_n 3, 1) := by decide +kernel
theorem dX3_withLoss_21 : decode cX3_withLoss 21 = .ok (.iinc 4 1, 3) := by decide +kernel
theorem dX3_withLoss_24 : decode cX3_withLoss 24 = .ok (.goto (-16), 3) := by decide +kernel
theorem dX3_withLoss_27 : decode cX3_withLoss 27 = .ok (.aload_n 0, 1) := by decide +kernel
theorem dX3_withLoss_28 : decode cX3_withLoss 28 = .ok (.iload_n 3, 1) := by decide +kernel
theorem dX3_withLoss_29 : decode cX3_withLoss 29 = .ok (.iconst 3, 1) := by decide +kernel
theorem dX3_withLoss_30 : decode cX3_withLoss 30 = .ok (.iconst 1, 1) := by decide +kernel
theorem dX3_withLoss_31 : decode cX3_withLoss 31 = .ok (.iload_n 2, 1) := by decide +kernel
theorem dX3_withLoss_32 : decode cX3_withLoss 32 = .ok (.ishl, 1) := by decide +kernel
theorem dX3_withLoss_33 : decode cX3_withLoss 33 = .ok (.iconst (-1), 1) := by decide +kernel
theorem dX3_withLoss_34 : decode cX3_withLoss 34 = .ok (.ixor, 1) := by decide +kernel
theorem dX3_withLoss_35 : decode cX3_withLoss 35 = .ok (.iand, 1) := by decide +kernel
theorem dX3_withLoss_36 : decode cX3_withLoss 36 = .ok (.invokevirtual 28, 3) := by decide +kernel
theorem dX3_withLoss_39 : decode cX3_withLoss 39 = .ok (.ireturn, 1) := by decide +kernel
theorem dX3_sentIn_0 : decode cX3_sentIn 0 = .ok (.aload_n 0, 1) := by decide +kernel
theorem dX3_sentIn_1 : decode cX3_sentIn 1 = .ok (.getfield 15, 3) := by decide +kernel
theorem dX3_sentIn_4 : decode cX3_sentIn 4 = .ok (.aload_n 0, 1) := by decide +kernel
theorem dX3_sentIn_5 : decode cX3_sentIn 5 = .ok (.getfield 19, 3) := by decide +kernel
theorem dX3_sentIn_8 : decode cX3_sentIn 8 = .ok (.iload_n 1, 1) := by decide +kernel
theorem dX3_sentIn_9 : decode cX3_sentIn 9 = .ok (.invokestatic 61, 3) := by decide +kernel
theorem dX3_sentIn_12 : decode cX3_sentIn 12 = .ok (.istore_n 3, 1) := by decide +kernel
theorem dX3_sentIn_13 : decode cX3_sentIn 13 = .ok (.iload_n 3, 1) := by decide +kernel
theorem dX3_sentIn_14 : decode cX3_sentIn 14 = .ok (.iload_n 3, 1) := by decide +kernel
theorem dX3_sentIn_15 : decode cX3_sentIn 15 = .ok (.aload_n 0, 1) := by decide +kernel
theorem dX3_sentIn_16 : decode cX3_sentIn 16 = .ok (.getfield 15, 3) := by decide +kernel
theorem dX3_sentIn_19 : decode cX3_sentIn 19 = .ok (.aload_n 0, 1) := by decide +kernel
theorem dX3_sentIn_20 : decode cX3_sentIn 20 = .ok (.getfield 19, 3) := by decide +kernel
theorem dX3_sentIn_23 : decode cX3_sentIn 23 = .ok (.invokestatic 67, 3) := by decide +kernel
theorem dX3_sentIn_26 : decode cX3_sentIn 26 = .ok (.iload_n 2, 1) := by decide +kernel
theorem dX3_sentIn_27 : decode cX3_sentIn 27 = .ok (.invokestatic 70, 3) := by decide +kernel
theorem dX3_sentIn_30 : decode cX3_sentIn 30 = .ok (.ior, 1) := by decide +kernel
theorem dX3_sentIn_31 : decode cX3_sentIn 31 = .ok (.ireturn, 1) := by decide +kernel
theorem dX3_next_0 : decode cX3_next 0 = .ok (.iload_n 1, 1) := by decide +kernel
theorem dX3_next_1 : decode cX3_next 1 = .ok (.aload_n 0, 1) := by decide +kernel
theorem dX3_next_2 : decode cX3_next 2 = .ok (.iload_n 1, 1) := by decide +kernel
theorem dX3_next_3 : decode cX3_next 3 = .ok (.iload_n 2, 1) := by decide +kernel
theorem dX3_next_4 : decode cX3_next 4 = .ok (.invokevirtual 44, 3) := by decide +kernel
theorem dX3_next_7 : decode cX3_next 7 = .ok (.iload_n 2, 1) := by decide +kernel
theorem dX3_next_8 : decode cX3_next 8 = .ok (.iand, 1) := by decide +kernel
theorem dX3_next_9 : decode cX3_next 9 = .ok (.invokestatic 73, 3) := by decide +kernel
theorem dX3_next_12 : decode cX3_next 12 = .ok (.invokestatic 76, 3) := by decide +kernel
theorem dX3_next_15 : decode cX3_next 15 = .ok (.ireturn, 1) := by decide +kernel
theorem dX9_sentBy_0 : decode cX9_sentBy 0 = .ok (.aload_n 0, 1) := by decide +kernel
theorem dX9_sentBy_1 : decode cX9_sentBy 1 = .ok (.getfield 23, 3) := by decide +kernel
theorem dX9_sentBy_4 : decode cX9_sentBy 4 = .ok (.ifCond .ne 7, 3) := by decide +kernel
theorem dX9_sentBy_7 : decode cX9_sentBy 7 = .ok (.iconst 0, 1) := by decide +kernel
theorem dX9_sentBy_8 : decode cX9_sentBy 8 = .ok (.goto 7, 3) := by decide +kernel
theorem dX9_sentBy_11 : decode cX9_sentBy 11 = .ok (.aload_n 0, 1) := by decide +kernel
theorem dX9_sentBy_12 : decode cX9_sentBy 12 = .ok (.getfield 27, 3) := by decide +kernel
theorem dX9_sentBy_15 : decode cX9_sentBy 15 = .ok (.istore_n 3, 1) := by decide +kernel
theorem dX9_sentBy_16 : decode cX9_sentBy 16 = .ok (.aload_n 0, 1) := by decide +kernel
theorem dX9_sentBy_17 : decode cX9_sentBy 17 = .ok (.getfield 23, 3) := by decide +kernel
theorem dX9_sentBy_20 : decode cX9_sentBy 20 = .ok (.ifCond .ne 10, 3) := by decide +kernel
theorem dX9_sentBy_23 : decode cX9_sentBy 23 = .ok (.aload_n 0, 1) := by decide +kernel
theorem dX9_sentBy_24 : decode cX9_sentBy 24 = .ok (.getfield 27, 3) := by decide +kernel
theorem dX9_sentBy_27 : decode cX9_sentBy 27 = .ok (.goto 4, 3) := by decide +kernel
theorem dX9_sentBy_30 : decode cX9_sentBy 30 = .ok (.iconst 0, 1) := by decide +kernel
theorem dX9_sentBy_31 : decode cX9_sentBy 31 = .ok (.istore 4, 2) := by decide +kernel
theorem dX9_sentBy_33 : decode cX9_sentBy 33 = .ok (.iload_n 3, 1) := by decide +kernel
theorem dX9_sentBy_34 : decode cX9_sentBy 34 = .ok (.iload 4, 2) := by decide +kernel
theorem dX9_sentBy_36 : decode cX9_sentBy 36 = .ok (.iload_n 1, 1) := by decide +kernel
theorem dX9_sentBy_37 : decode cX9_sentBy 37 = .ok (.invokestatic 107, 3) := by decide +kernel
theorem dX9_sentBy_40 : decode cX9_sentBy 40 = .ok (.iload_n 2, 1) := by decide +kernel
theorem dX9_sentBy_41 : decode cX9_sentBy 41 = .ok (.aload_n 0, 1) := by decide +kernel
theorem dX9_sentBy_42 : decode cX9_sentBy 42 = .ok (.getfield 23, 3) := by decide +kernel
theorem dX9_sentBy_45 : decode cX9_sentBy 45 = .ok (.ishl, 1) := by decide +kernel
theorem dX9_sentBy_46 : decode cX9_sentBy 46 = .ok (.ior, 1) := by decide +kernel
theorem dX9_sentBy_47 : decode cX9_sentBy 47 = .ok (.istore 5, 2) := by decide +kernel
theorem dX9_sentBy_49 : decode cX9_sentBy 49 = .ok (.iload 5, 2) := by decide +kernel
theorem dX9_sentBy_51 : decode cX9_sentBy 51 = .ok (.iload 5, 2) := by decide +kernel
theorem dX9_sentBy_53 : decode cX9_sentBy 53 = .ok (.iload_n 3, 1) := by decide +kernel
theorem dX9_sentBy_54 : decode cX9_sentBy 54 = .ok (.iload 4, 2) := by decide +kernel
theorem dX9_sentBy_56 : decode cX9_sentBy 56 = .ok (.invokestatic 110, 3) := by decide +kernel
theorem dX9_sentBy_59 : decode cX9_sentBy 59 = .ok (.iconst 3, 1) := by decide +kernel
theorem dX9_sentBy_60 : decode cX9_sentBy 60 = .ok (.invokestatic 113, 3) := by decide +kernel
theorem dX9_sentBy_63 : decode cX9_sentBy 63 = .ok (.ior, 1) := by decide +kernel
theorem dX9_sentBy_64 : decode cX9_sentBy 64 = .ok (.ireturn, 1) := by decide +kernel
