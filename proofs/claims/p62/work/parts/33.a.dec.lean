theorem dX0_writeAll_0 : decode cX0_writeAll 0 = .ok (.iconst 0, 1) := by decide +kernel
theorem dX0_writeAll_1 : decode cX0_writeAll 1 = .ok (.istore_n 3, 1) := by decide +kernel
theorem dX0_writeAll_2 : decode cX0_writeAll 2 = .ok (.iload_n 3, 1) := by decide +kernel
theorem dX0_writeAll_3 : decode cX0_writeAll 3 = .ok (.aload_n 1, 1) := by decide +kernel
theorem dX0_writeAll_4 : decode cX0_writeAll 4 = .ok (.getfield 25, 3) := by decide +kernel
theorem dX0_writeAll_7 : decode cX0_writeAll 7 = .ok (.if_icmp .ge 67, 3) := by decide +kernel
theorem dX0_writeAll_10 : decode cX0_writeAll 10 = .ok (.aload_n 2, 1) := by decide +kernel
theorem dX0_writeAll_11 : decode cX0_writeAll 11 = .ok (.aload_n 1, 1) := by decide +kernel
theorem dX0_writeAll_12 : decode cX0_writeAll 12 = .ok (.iload_n 3, 1) := by decide +kernel
theorem dX0_writeAll_13 : decode cX0_writeAll 13 = .ok (.invokevirtual 31, 3) := by decide +kernel
theorem dX0_writeAll_16 : decode cX0_writeAll 16 = .ok (.aload_n 2, 1) := by decide +kernel
theorem dX0_writeAll_17 : decode cX0_writeAll 17 = .ok (.invokevirtual 37, 3) := by decide +kernel
theorem dX0_writeAll_20 : decode cX0_writeAll 20 = .ok (.aload_n 2, 1) := by decide +kernel
theorem dX0_writeAll_21 : decode cX0_writeAll 21 = .ok (.getfield 40, 3) := by decide +kernel
theorem dX0_writeAll_24 : decode cX0_writeAll 24 = .ok (.iconst 0, 1) := by decide +kernel
theorem dX0_writeAll_25 : decode cX0_writeAll 25 = .ok (.aload_n 0, 1) := by decide +kernel
theorem dX0_writeAll_26 : decode cX0_writeAll 26 = .ok (.getfield 15, 3) := by decide +kernel
theorem dX0_writeAll_29 : decode cX0_writeAll 29 = .ok (.iconst 2, 1) := by decide +kernel
theorem dX0_writeAll_30 : decode cX0_writeAll 30 = .ok (.iload_n 3, 1) := by decide +kernel
theorem dX0_writeAll_31 : decode cX0_writeAll 31 = .ok (.imul, 1) := by decide +kernel
theorem dX0_writeAll_32 : decode cX0_writeAll 32 = .ok (.iconst 2, 1) := by decide +kernel
theorem dX0_writeAll_33 : decode cX0_writeAll 33 = .ok (.invokestatic 41, 3) := by decide +kernel
theorem dX0_writeAll_36 : decode cX0_writeAll 36 = .ok (.aload_n 2, 1) := by decide +kernel
theorem dX0_writeAll_37 : decode cX0_writeAll 37 = .ok (.getfield 47, 3) := by decide +kernel
theorem dX0_writeAll_40 : decode cX0_writeAll 40 = .ok (.iconst 0, 1) := by decide +kernel
theorem dX0_writeAll_41 : decode cX0_writeAll 41 = .ok (.aload_n 0, 1) := by decide +kernel
theorem dX0_writeAll_42 : decode cX0_writeAll 42 = .ok (.getfield 19, 3) := by decide +kernel
theorem dX0_writeAll_45 : decode cX0_writeAll 45 = .ok (.iconst 2, 1) := by decide +kernel
theorem dX0_writeAll_46 : decode cX0_writeAll 46 = .ok (.iload_n 3, 1) := by decide +kernel
theorem dX0_writeAll_47 : decode cX0_writeAll 47 = .ok (.imul, 1) := by decide +kernel
theorem dX0_writeAll_48 : decode cX0_writeAll 48 = .ok (.iconst 2, 1) := by decide +kernel
theorem dX0_writeAll_49 : decode cX0_writeAll 49 = .ok (.invokestatic 41, 3) := by decide +kernel
theorem dX0_writeAll_52 : decode cX0_writeAll 52 = .ok (.aload_n 2, 1) := by decide +kernel
theorem dX0_writeAll_53 : decode cX0_writeAll 53 = .ok (.getfield 48, 3) := by decide +kernel
theorem dX0_writeAll_56 : decode cX0_writeAll 56 = .ok (.iconst 0, 1) := by decide +kernel
theorem dX0_writeAll_57 : decode cX0_writeAll 57 = .ok (.aload_n 0, 1) := by decide +kernel
theorem dX0_writeAll_58 : decode cX0_writeAll 58 = .ok (.getfield 22, 3) := by decide +kernel
theorem dX0_writeAll_61 : decode cX0_writeAll 61 = .ok (.iconst 2, 1) := by decide +kernel
theorem dX0_writeAll_62 : decode cX0_writeAll 62 = .ok (.iload_n 3, 1) := by decide +kernel
theorem dX0_writeAll_63 : decode cX0_writeAll 63 = .ok (.imul, 1) := by decide +kernel
theorem dX0_writeAll_64 : decode cX0_writeAll 64 = .ok (.iconst 2, 1) := by decide +kernel
theorem dX0_writeAll_65 : decode cX0_writeAll 65 = .ok (.invokestatic 41, 3) := by decide +kernel
theorem dX0_writeAll_68 : decode cX0_writeAll 68 = .ok (.iinc 3 1, 3) := by decide +kernel
theorem dX0_writeAll_71 : decode cX0_writeAll 71 = .ok (.goto (-69), 3) := by decide +kernel
theorem dX0_writeAll_74 : decode cX0_writeAll 74 = .ok (.aload_n 0, 1) := by decide +kernel
theorem dX0_writeAll_75 : decode cX0_writeAll 75 = .ok (.iconst 0, 1) := by decide +kernel
theorem dX0_writeAll_76 : decode cX0_writeAll 76 = .ok (.putfield 9, 3) := by decide +kernel
theorem dX0_writeAll_79 : decode cX0_writeAll 79 = .ok (.return_, 1) := by decide +kernel
theorem dX0_sentOf_0 : decode cX0_sentOf 0 = .ok (.aload_n 0, 1) := by decide +kernel
theorem dX0_sentOf_1 : decode cX0_sentOf 1 = .ok (.getfield 15, 3) := by decide +kernel
theorem dX0_sentOf_4 : decode cX0_sentOf 4 = .ok (.iload_n 1, 1) := by decide +kernel
theorem dX0_sentOf_5 : decode cX0_sentOf 5 = .ok (.laload, 1) := by decide +kernel
theorem dX0_sentOf_6 : decode cX0_sentOf 6 = .ok (.aload_n 0, 1) := by decide +kernel
theorem dX0_sentOf_7 : decode cX0_sentOf 7 = .ok (.getfield 19, 3) := by decide +kernel
theorem dX0_sentOf_10 : decode cX0_sentOf 10 = .ok (.iload_n 1, 1) := by decide +kernel
theorem dX0_sentOf_11 : decode cX0_sentOf 11 = .ok (.laload, 1) := by decide +kernel
theorem dX0_sentOf_12 : decode cX0_sentOf 12 = .ok (.lor, 1) := by decide +kernel
theorem dX0_sentOf_13 : decode cX0_sentOf 13 = .ok (.lreturn, 1) := by decide +kernel
theorem dX0_sentByAny_0 : decode cX0_sentByAny 0 = .ok (.aload_n 0, 1) := by decide +kernel
theorem dX0_sentByAny_1 : decode cX0_sentByAny 1 = .ok (.iconst 2, 1) := by decide +kernel
theorem dX0_sentByAny_2 : decode cX0_sentByAny 2 = .ok (.iload_n 1, 1) := by decide +kernel
theorem dX0_sentByAny_3 : decode cX0_sentByAny 3 = .ok (.imul, 1) := by decide +kernel
theorem dX0_sentByAny_4 : decode cX0_sentByAny 4 = .ok (.invokevirtual 49, 3) := by decide +kernel
theorem dX0_sentByAny_7 : decode cX0_sentByAny 7 = .ok (.aload_n 0, 1) := by decide +kernel
theorem dX0_sentByAny_8 : decode cX0_sentByAny 8 = .ok (.iconst 2, 1) := by decide +kernel
theorem dX0_sentByAny_9 : decode cX0_sentByAny 9 = .ok (.iload_n 1, 1) := by decide +kernel
theorem dX0_sentByAny_10 : decode cX0_sentByAny 10 = .ok (.imul, 1) := by decide +kernel
theorem dX0_sentByAny_11 : decode cX0_sentByAny 11 = .ok (.iconst 1, 1) := by decide +kernel
theorem dX0_sentByAny_12 : decode cX0_sentByAny 12 = .ok (.iadd, 1) := by decide +kernel
theorem dX0_sentByAny_13 : decode cX0_sentByAny 13 = .ok (.invokevirtual 49, 3) := by decide +kernel
theorem dX0_sentByAny_16 : decode cX0_sentByAny 16 = .ok (.lor, 1) := by decide +kernel
theorem dX0_sentByAny_17 : decode cX0_sentByAny 17 = .ok (.lreturn, 1) := by decide +kernel
theorem dX0_stateAhead_0 : decode cX0_stateAhead 0 = .ok (.aload_n 1, 1) := by decide +kernel
theorem dX0_stateAhead_1 : decode cX0_stateAhead 1 = .ok (.getfield 53, 3) := by decide +kernel
theorem dX0_stateAhead_4 : decode cX0_stateAhead 4 = .ok (.iload_n 2, 1) := by decide +kernel
theorem dX0_stateAhead_5 : decode cX0_stateAhead 5 = .ok (.iaload, 1) := by decide +kernel
theorem dX0_stateAhead_6 : decode cX0_stateAhead 6 = .ok (.istore 4, 2) := by decide +kernel
theorem dX0_stateAhead_8 : decode cX0_stateAhead 8 = .ok (.aload_n 0, 1) := by decide +kernel
theorem dX0_stateAhead_9 : decode cX0_stateAhead 9 = .ok (.getfield 22, 3) := by decide +kernel
theorem dX0_stateAhead_12 : decode cX0_stateAhead 12 = .ok (.iconst 2, 1) := by decide +kernel
theorem dX0_stateAhead_13 : decode cX0_stateAhead 13 = .ok (.iload_n 2, 1) := by decide +kernel
theorem dX0_stateAhead_14 : decode cX0_stateAhead 14 = .ok (.imul, 1) := by decide +kernel
theorem dX0_stateAhead_15 : decode cX0_stateAhead 15 = .ok (.laload, 1) := by decide +kernel
theorem dX0_stateAhead_16 : decode cX0_stateAhead 16 = .ok (.iload 4, 2) := by decide +kernel
theorem dX0_stateAhead_18 : decode cX0_stateAhead 18 = .ok (.iconst 3, 1) := by decide +kernel
theorem dX0_stateAhead_19 : decode cX0_stateAhead 19 = .ok (.iand, 1) := by decide +kernel
theorem dX0_stateAhead_20 : decode cX0_stateAhead 20 = .ok (.iload_n 3, 1) := by decide +kernel
theorem dX0_stateAhead_21 : decode cX0_stateAhead 21 = .ok (.invokestatic 57, 3) := by decide +kernel
theorem dX0_stateAhead_24 : decode cX0_stateAhead 24 = .ok (.aload_n 0, 1) := by decide +kernel
theorem dX0_stateAhead_25 : decode cX0_stateAhead 25 = .ok (.getfield 22, 3) := by decide +kernel
theorem dX0_stateAhead_28 : decode cX0_stateAhead 28 = .ok (.iconst 2, 1) := by decide +kernel
theorem dX0_stateAhead_29 : decode cX0_stateAhead 29 = .ok (.iload_n 2, 1) := by decide +kernel
theorem dX0_stateAhead_30 : decode cX0_stateAhead 30 = .ok (.imul, 1) := by decide +kernel
theorem dX0_stateAhead_31 : decode cX0_stateAhead 31 = .ok (.iconst 1, 1) := by decide +kernel
theorem dX0_stateAhead_32 : decode cX0_stateAhead 32 = .ok (.iadd, 1) := by decide +kernel
theorem dX0_stateAhead_33 : decode cX0_stateAhead 33 = .ok (.laload, 1) := by decide +kernel
theorem dX0_stateAhead_34 : decode cX0_stateAhead 34 = .ok (.iload 4, 2) := by decide +kernel
theorem dX0_stateAhead_36 : decode cX0_stateAhead 36 = .ok (.iconst 2, 1) := by decide +kernel
theorem dX0_stateAhead_37 : decode cX0_stateAhead 37 = .ok (.ishr, 1) := by decide +kernel
theorem dX0_stateAhead_38 : decode cX0_stateAhead 38 = .ok (.iload_n 3, 1) := by decide +kernel
theorem dX0_stateAhead_39 : decode cX0_stateAhead 39 = .ok (.invokestatic 57, 3) := by decide +kernel
theorem dX0_stateAhead_42 : decode cX0_stateAhead 42 = .ok (.iconst 2, 1) := by decide +kernel
theorem dX0_stateAhead_43 : decode cX0_stateAhead 43 = .ok (.ishl, 1) := by decide +kernel
theorem dX0_stateAhead_44 : decode cX0_stateAhead 44 = .ok (.ior, 1) := by decide +kernel
theorem dX0_stateAhead_45 : decode cX0_stateAhead 45 = .ok (.ireturn, 1) := by decide +kernel
theorem dX0_sentIn_0 : decode cX0_sentIn 0 = .ok (.iconst 0, 1) := by decide +kernel
theorem dX0_sentIn_1 : decode cX0_sentIn 1 = .ok (.istore_n 3, 1) := by decide +kernel
theorem dX0_sentIn_2 : decode cX0_sentIn 2 = .ok (.iconst 0, 1) := by decide +kernel
theorem dX0_sentIn_3 : decode cX0_sentIn 3 = .ok (.istore 4, 2) := by decide +kernel
theorem dX0_sentIn_5 : decode cX0_sentIn 5 = .ok (.iload 4, 2) := by decide +kernel
theorem dX0_sentIn_7 : decode cX0_sentIn 7 = .ok (.iconst 2, 1) := by decide +kernel
theorem dX0_sentIn_8 : decode cX0_sentIn 8 = .ok (.aload_n 1, 1) := by decide +kernel
theorem dX0_sentIn_9 : decode cX0_sentIn 9 = .ok (.getfield 25, 3) := by decide +kernel
theorem dX0_sentIn_12 : decode cX0_sentIn 12 = .ok (.imul, 1) := by decide +kernel
theorem dX0_sentIn_13 : decode cX0_sentIn 13 = .ok (.if_icmp .ge 30, 3) := by decide +kernel
theorem dX0_sentIn_16 : decode cX0_sentIn 16 = .ok (.iload_n 3, 1) := by decide +kernel
theorem dX0_sentIn_17 : decode cX0_sentIn 17 = .ok (.aload_n 0, 1) := by decide +kernel
theorem dX0_sentIn_18 : decode cX0_sentIn 18 = .ok (.iload 4, 2) := by decide +kernel
theorem dX0_sentIn_20 : decode cX0_sentIn 20 = .ok (.invokevirtual 49, 3) := by decide +kernel
theorem dX0_sentIn_23 : decode cX0_sentIn 23 = .ok (.iload_n 2, 1) := by decide +kernel
theorem dX0_sentIn_24 : decode cX0_sentIn 24 = .ok (.invokestatic 61, 3) := by decide +kernel
theorem dX0_sentIn_27 : decode cX0_sentIn 27 = .ok (.ifCond .eq 7, 3) := by decide +kernel
theorem dX0_sentIn_30 : decode cX0_sentIn 30 = .ok (.iconst 1, 1) := by decide +kernel
theorem dX0_sentIn_31 : decode cX0_sentIn 31 = .ok (.goto 4, 3) := by decide +kernel
theorem dX0_sentIn_34 : decode cX0_sentIn 34 = .ok (.iconst 0, 1) := by decide +kernel
theorem dX0_sentIn_35 : decode cX0_sentIn 35 = .ok (.iadd, 1) := by decide +kernel
theorem dX0_sentIn_36 : decode cX0_sentIn 36 = .ok (.istore_n 3, 1) := by decide +kernel
theorem dX0_sentIn_37 : decode cX0_sentIn 37 = .ok (.iinc 4 1, 3) := by decide +kernel
theorem dX0_sentIn_40 : decode cX0_sentIn 40 = .ok (.goto (-35), 3) := by decide +kernel
theorem dX0_sentIn_43 : decode cX0_sentIn 43 = .ok (.iload_n 3, 1) := by decide +kernel
theorem dX0_sentIn_44 : decode cX0_sentIn 44 = .ok (.ireturn, 1) := by decide +kernel
theorem dX0_comeIn_0 : decode cX0_comeIn 0 = .ok (.iconst 0, 1) := by decide +kernel
theorem dX0_comeIn_1 : decode cX0_comeIn 1 = .ok (.istore_n 3, 1) := by decide +kernel
theorem dX0_comeIn_2 : decode cX0_comeIn 2 = .ok (.iconst 0, 1) := by decide +kernel
theorem dX0_comeIn_3 : decode cX0_comeIn 3 = .ok (.istore 4, 2) := by decide +kernel
theorem dX0_comeIn_5 : decode cX0_comeIn 5 = .ok (.iload 4, 2) := by decide +kernel
theorem dX0_comeIn_7 : decode cX0_comeIn 7 = .ok (.iconst 2, 1) := by decide +kernel
theorem dX0_comeIn_8 : decode cX0_comeIn 8 = .ok (.aload_n 1, 1) := by decide +kernel
theorem dX0_comeIn_9 : decode cX0_comeIn 9 = .ok (.getfield 25, 3) := by decide +kernel
theorem dX0_comeIn_12 : decode cX0_comeIn 12 = .ok (.imul, 1) := by decide +kernel
theorem dX0_comeIn_13 : decode cX0_comeIn 13 = .ok (.if_icmp .ge 31, 3) := by decide +kernel
theorem dX0_comeIn_16 : decode cX0_comeIn 16 = .ok (.iload_n 3, 1) := by decide +kernel
theorem dX0_comeIn_17 : decode cX0_comeIn 17 = .ok (.aload_n 0, 1) := by decide +kernel
theorem dX0_comeIn_18 : decode cX0_comeIn 18 = .ok (.getfield 22, 3) := by decide +kernel
theorem dX0_comeIn_21 : decode cX0_comeIn 21 = .ok (.iload 4, 2) := by decide +kernel
theorem dX0_comeIn_23 : decode cX0_comeIn 23 = .ok (.laload, 1) := by decide +kernel
theorem dX0_comeIn_24 : decode cX0_comeIn 24 = .ok (.iload_n 2, 1) := by decide +kernel
theorem dX0_comeIn_25 : decode cX0_comeIn 25 = .ok (.invokestatic 61, 3) := by decide +kernel
theorem dX0_comeIn_28 : decode cX0_comeIn 28 = .ok (.ifCond .eq 7, 3) := by decide +kernel
theorem dX0_comeIn_31 : decode cX0_comeIn 31 = .ok (.iconst 1, 1) := by decide +kernel
theorem dX0_comeIn_32 : decode cX0_comeIn 32 = .ok (.goto 4, 3) := by decide +kernel
theorem dX0_comeIn_35 : decode cX0_comeIn 35 = .ok (.iconst 0, 1) := by decide +kernel
theorem dX0_comeIn_36 : decode cX0_comeIn 36 = .ok (.iadd, 1) := by decide +kernel
theorem dX0_comeIn_37 : decode cX0_comeIn 37 = .ok (.istore_n 3, 1) := by decide +kernel
theorem dX0_comeIn_38 : decode cX0_comeIn 38 = .ok (.iinc 4 1, 3) := by decide +kernel
theorem dX0_comeIn_41 : decode cX0_comeIn 41 = .ok (.goto (-36), 3) := by decide +kernel
theorem dX0_comeIn_44 : decode cX0_comeIn 44 = .ok (.iload_n 3, 1) := by decide +kernel
theorem dX0_comeIn_45 : decode cX0_comeIn 45 = .ok (.ireturn, 1) := by decide +kernel
theorem dX0_costOf_0 : decode cX0_costOf 0 = .ok (.iconst 0, 1) := by decide +kernel
theorem dX0_costOf_1 : decode cX0_costOf 1 = .ok (.istore_n 3, 1) := by decide +kernel
theorem dX0_costOf_2 : decode cX0_costOf 2 = .ok (.iconst 0, 1) := by decide +kernel
theorem dX0_costOf_3 : decode cX0_costOf 3 = .ok (.istore 4, 2) := by decide +kernel
theorem dX0_costOf_5 : decode cX0_costOf 5 = .ok (.iload 4, 2) := by decide +kernel
theorem dX0_costOf_7 : decode cX0_costOf 7 = .ok (.iconst 2, 1) := by decide +kernel
theorem dX0_costOf_8 : decode cX0_costOf 8 = .ok (.aload_n 1, 1) := by decide +kernel
theorem dX0_costOf_9 : decode cX0_costOf 9 = .ok (.getfield 25, 3) := by decide +kernel
theorem dX0_costOf_12 : decode cX0_costOf 12 = .ok (.imul, 1) := by decide +kernel
theorem dX0_costOf_13 : decode cX0_costOf 13 = .ok (.if_icmp .ge 64, 3) := by decide +kernel
theorem dX0_costOf_16 : decode cX0_costOf 16 = .ok (.aload_n 1, 1) := by decide +kernel
theorem dX0_costOf_17 : decode cX0_costOf 17 = .ok (.getfield 65, 3) := by decide +kernel
theorem dX0_costOf_20 : decode cX0_costOf 20 = .ok (.iload 4, 2) := by decide +kernel
theorem dX0_costOf_22 : decode cX0_costOf 22 = .ok (.iaload, 1) := by decide +kernel
theorem dX0_costOf_23 : decode cX0_costOf 23 = .ok (.iload_n 2, 1) := by decide +kernel
theorem dX0_costOf_24 : decode cX0_costOf 24 = .ok (.if_icmp .ne 47, 3) := by decide +kernel
theorem dX0_costOf_27 : decode cX0_costOf 27 = .ok (.aload_n 0, 1) := by decide +kernel
theorem dX0_costOf_28 : decode cX0_costOf 28 = .ok (.iload 4, 2) := by decide +kernel
theorem dX0_costOf_30 : decode cX0_costOf 30 = .ok (.invokevirtual 49, 3) := by decide +kernel
theorem dX0_costOf_33 : decode cX0_costOf 33 = .ok (.lstore 5, 2) := by decide +kernel
theorem dX0_costOf_35 : decode cX0_costOf 35 = .ok (.iload_n 3, 1) := by decide +kernel
theorem dX0_costOf_36 : decode cX0_costOf 36 = .ok (.aload_n 1, 1) := by decide +kernel
theorem dX0_costOf_37 : decode cX0_costOf 37 = .ok (.getfield 68, 3) := by decide +kernel
theorem dX0_costOf_40 : decode cX0_costOf 40 = .ok (.lload 5, 2) := by decide +kernel
theorem dX0_costOf_42 : decode cX0_costOf 42 = .ok (.invokestatic 71, 3) := by decide +kernel
theorem dX0_costOf_45 : decode cX0_costOf 45 = .ok (.imul, 1) := by decide +kernel
theorem dX0_costOf_46 : decode cX0_costOf 46 = .ok (.aload_n 1, 1) := by decide +kernel
theorem dX0_costOf_47 : decode cX0_costOf 47 = .ok (.getfield 77, 3) := by decide +kernel
theorem dX0_costOf_50 : decode cX0_costOf 50 = .ok (.lload 5, 2) := by decide +kernel
theorem dX0_costOf_52 : decode cX0_costOf 52 = .ok (.aload_n 0, 1) := by decide +kernel
theorem dX0_costOf_53 : decode cX0_costOf 53 = .ok (.getfield 22, 3) := by decide +kernel
theorem dX0_costOf_56 : decode cX0_costOf 56 = .ok (.iload 4, 2) := by decide +kernel
theorem dX0_costOf_58 : decode cX0_costOf 58 = .ok (.laload, 1) := by decide +kernel
theorem dX0_costOf_59 : decode cX0_costOf 59 = .ok (.ldc2_w 80, 3) := by decide +kernel
theorem dX0_costOf_62 : decode cX0_costOf 62 = .ok (.lxor, 1) := by decide +kernel
theorem dX0_costOf_63 : decode cX0_costOf 63 = .ok (.land, 1) := by decide +kernel
theorem dX0_costOf_64 : decode cX0_costOf 64 = .ok (.invokestatic 71, 3) := by decide +kernel
theorem dX0_costOf_67 : decode cX0_costOf 67 = .ok (.imul, 1) := by decide +kernel
theorem dX0_costOf_68 : decode cX0_costOf 68 = .ok (.iadd, 1) := by decide +kernel
theorem dX0_costOf_69 : decode cX0_costOf 69 = .ok (.iadd, 1) := by decide +kernel
theorem dX0_costOf_70 : decode cX0_costOf 70 = .ok (.istore_n 3, 1) := by decide +kernel
theorem dX0_costOf_71 : decode cX0_costOf 71 = .ok (.iinc 4 1, 3) := by decide +kernel
theorem dX0_costOf_74 : decode cX0_costOf 74 = .ok (.goto (-69), 3) := by decide +kernel
theorem dX0_costOf_77 : decode cX0_costOf 77 = .ok (.iload_n 3, 1) := by decide +kernel
theorem dX0_costOf_78 : decode cX0_costOf 78 = .ok (.ireturn, 1) := by decide +kernel
theorem dX3_find_0 : decode cX3_find 0 = .ok (.aload_n 0, 1) := by decide +kernel
theorem dX3_find_1 : decode cX3_find 1 = .ok (.iload_n 1, 1) := by decide +kernel
theorem dX3_find_2 : decode cX3_find 2 = .ok (.putfield 15, 3) := by decide +kernel
theorem dX3_find_5 : decode cX3_find 5 = .ok (.aload_n 0, 1) := by decide +kernel
theorem dX3_find_6 : decode cX3_find 6 = .ok (.iload_n 2, 1) := by decide +kernel
theorem dX3_find_7 : decode cX3_find 7 = .ok (.putfield 19, 3) := by decide +kernel
theorem dX3_find_10 : decode cX3_find 10 = .ok (.aload_n 0, 1) := by decide +kernel
theorem dX3_find_11 : decode cX3_find 11 = .ok (.getfield 9, 3) := by decide +kernel
theorem dX3_find_14 : decode cX3_find 14 = .ok (.iconst (-1), 1) := by decide +kernel
theorem dX3_find_15 : decode cX3_find 15 = .ok (.invokestatic 22, 3) := by decide +kernel
theorem dX3_find_18 : decode cX3_find 18 = .ok (.iload_n 3, 1) := by decide +kernel
theorem dX3_find_19 : decode cX3_find 19 = .ok (.istore 4, 2) := by decide +kernel
theorem dX3_find_21 : decode cX3_find 21 = .ok (.iconst 0, 1) := by decide +kernel
theorem dX3_find_22 : decode cX3_find 22 = .ok (.istore 5, 2) := by decide +kernel
theorem dX3_find_24 : decode cX3_find 24 = .ok (.iload 5, 2) := by decide +kernel
theorem dX3_find_26 : decode cX3_find 26 = .ok (.bipush 16, 2) := by decide +kernel
theorem dX3_find_28 : decode cX3_find 28 = .ok (.if_icmp .ge 38, 3) := by decide +kernel
theorem dX3_find_31 : decode cX3_find 31 = .ok (.aload_n 0, 1) := by decide +kernel
theorem dX3_find_32 : decode cX3_find 32 = .ok (.getfield 9, 3) := by decide +kernel
theorem dX3_find_35 : decode cX3_find 35 = .ok (.iload 4, 2) := by decide +kernel
theorem dX3_find_37 : decode cX3_find 37 = .ok (.iaload, 1) := by decide +kernel
theorem dX3_find_38 : decode cX3_find 38 = .ok (.iconst (-1), 1) := by decide +kernel
theorem dX3_find_39 : decode cX3_find 39 = .ok (.if_icmp .ne 27, 3) := by decide +kernel
theorem dX3_find_42 : decode cX3_find 42 = .ok (.aload_n 0, 1) := by decide +kernel
theorem dX3_find_43 : decode cX3_find 43 = .ok (.getfield 9, 3) := by decide +kernel
theorem dX3_find_46 : decode cX3_find 46 = .ok (.iload 4, 2) := by decide +kernel
theorem dX3_find_48 : decode cX3_find 48 = .ok (.iload 5, 2) := by decide +kernel
theorem dX3_find_50 : decode cX3_find 50 = .ok (.iastore, 1) := by decide +kernel
theorem dX3_find_51 : decode cX3_find 51 = .ok (.iinc 5 1, 3) := by decide +kernel
theorem dX3_find_54 : decode cX3_find 54 = .ok (.aload_n 0, 1) := by decide +kernel
theorem dX3_find_55 : decode cX3_find 55 = .ok (.iload 4, 2) := by decide +kernel
theorem dX3_find_57 : decode cX3_find 57 = .ok (.iconst 3, 1) := by decide +kernel
theorem dX3_find_58 : decode cX3_find 58 = .ok (.invokevirtual 28, 3) := by decide +kernel
theorem dX3_find_61 : decode cX3_find 61 = .ok (.istore 4, 2) := by decide +kernel
theorem dX3_find_63 : decode cX3_find 63 = .ok (.goto (-39), 3) := by decide +kernel
theorem dX3_find_66 : decode cX3_find 66 = .ok (.aload_n 0, 1) := by decide +kernel
theorem dX3_find_67 : decode cX3_find 67 = .ok (.iload 4, 2) := by decide +kernel
theorem dX3_find_69 : decode cX3_find 69 = .ok (.putfield 32, 3) := by decide +kernel
theorem dX3_find_72 : decode cX3_find 72 = .ok (.aload_n 0, 1) := by decide +kernel
theorem dX3_find_73 : decode cX3_find 73 = .ok (.aload_n 0, 1) := by decide +kernel
theorem dX3_find_74 : decode cX3_find 74 = .ok (.getfield 9, 3) := by decide +kernel
theorem dX3_find_77 : decode cX3_find 77 = .ok (.iload 4, 2) := by decide +kernel
theorem dX3_find_79 : decode cX3_find 79 = .ok (.iaload, 1) := by decide +kernel
theorem dX3_find_80 : decode cX3_find 80 = .ok (.putfield 35, 3) := by decide +kernel
theorem dX3_find_83 : decode cX3_find 83 = .ok (.aload_n 0, 1) := by decide +kernel
theorem dX3_find_84 : decode cX3_find 84 = .ok (.iload 5, 2) := by decide +kernel
theorem dX3_find_86 : decode cX3_find 86 = .ok (.aload_n 0, 1) := by decide +kernel
theorem dX3_find_87 : decode cX3_find 87 = .ok (.getfield 35, 3) := by decide +kernel
theorem dX3_find_90 : decode cX3_find 90 = .ok (.isub, 1) := by decide +kernel
theorem dX3_find_91 : decode cX3_find 91 = .ok (.putfield 38, 3) := by decide +kernel
theorem dX3_find_94 : decode cX3_find 94 = .ok (.aload_n 0, 1) := by decide +kernel
theorem dX3_find_95 : decode cX3_find 95 = .ok (.iconst 0, 1) := by decide +kernel
theorem dX3_find_96 : decode cX3_find 96 = .ok (.putfield 41, 3) := by decide +kernel
theorem dX3_find_99 : decode cX3_find 99 = .ok (.iconst 0, 1) := by decide +kernel
theorem dX3_find_100 : decode cX3_find 100 = .ok (.istore 6, 2) := by decide +kernel
theorem dX3_find_102 : decode cX3_find 102 = .ok (.iload 6, 2) := by decide +kernel
theorem dX3_find_104 : decode cX3_find 104 = .ok (.aload_n 0, 1) := by decide +kernel
theorem dX3_find_105 : decode cX3_find 105 = .ok (.getfield 38, 3) := by decide +kernel
theorem dX3_find_108 : decode cX3_find 108 = .ok (.if_icmp .ge 37, 3) := by decide +kernel
theorem dX3_find_111 : decode cX3_find 111 = .ok (.aload_n 0, 1) := by decide +kernel
theorem dX3_find_112 : decode cX3_find 112 = .ok (.dup, 1) := by decide +kernel
theorem dX3_find_113 : decode cX3_find 113 = .ok (.getfield 41, 3) := by decide +kernel
theorem dX3_find_116 : decode cX3_find 116 = .ok (.aload_n 0, 1) := by decide +kernel
theorem dX3_find_117 : decode cX3_find 117 = .ok (.iload 4, 2) := by decide +kernel
theorem dX3_find_119 : decode cX3_find 119 = .ok (.iconst 3, 1) := by decide +kernel
theorem dX3_find_120 : decode cX3_find 120 = .ok (.invokevirtual 44, 3) := by decide +kernel
theorem dX3_find_123 : decode cX3_find 123 = .ok (.invokestatic 47, 3) := by decide +kernel
theorem dX3_find_126 : decode cX3_find 126 = .ok (.iadd, 1) := by decide +kernel
theorem dX3_find_127 : decode cX3_find 127 = .ok (.putfield 41, 3) := by decide +kernel
theorem dX3_find_130 : decode cX3_find 130 = .ok (.aload_n 0, 1) := by decide +kernel
theorem dX3_find_131 : decode cX3_find 131 = .ok (.iload 4, 2) := by decide +kernel
theorem dX3_find_133 : decode cX3_find 133 = .ok (.iconst 3, 1) := by decide +kernel
theorem dX3_find_134 : decode cX3_find 134 = .ok (.invokevirtual 28, 3) := by decide +kernel
theorem dX3_find_137 : decode cX3_find 137 = .ok (.istore 4, 2) := by decide +kernel
theorem dX3_find_139 : decode cX3_find 139 = .ok (.iinc 6 1, 3) := by decide +kernel
theorem dX3_find_142 : decode cX3_find 142 = .ok (.goto (-40), 3) := by decide +kernel
theorem dX3_find_145 : decode cX3_find 145 = .ok (.return_, 1) := by decide +kernel
theorem dX3_kind_0 : decode cX3_kind 0 = .ok (.aload_n 0, 1) := by decide +kernel
theorem dX3_kind_1 : decode cX3_kind 1 = .ok (.getfield 41, 3) := by decide +kernel
theorem dX3_kind_4 : decode cX3_kind 4 = .ok (.ifCond .ne 5, 3) := by decide +kernel
theorem dX3_kind_7 : decode cX3_kind 7 = .ok (.iconst 0, 1) := by decide +kernel
theorem dX3_kind_8 : decode cX3_kind 8 = .ok (.ireturn, 1) := by decide +kernel
theorem dX3_kind_9 : decode cX3_kind 9 = .ok (.aload_n 0, 1) := by decide +kernel
theorem dX3_kind_10 : decode cX3_kind 10 = .ok (.getfield 41, 3) := by decide +kernel
theorem dX3_kind_13 : decode cX3_kind 13 = .ok (.iconst 2, 1) := by decide +kernel
theorem dX3_kind_14 : decode cX3_kind 14 = .ok (.aload_n 0, 1) := by decide +kernel
theorem dX3_kind_15 : decode cX3_kind 15 = .ok (.getfield 38, 3) := by decide +kernel
theorem dX3_kind_18 : decode cX3_kind 18 = .ok (.imul, 1) := by decide +kernel
theorem dX3_kind_19 : decode cX3_kind 19 = .ok (.if_icmp .ne 7, 3) := by decide +kernel
theorem dX3_kind_22 : decode cX3_kind 22 = .ok (.iconst 1, 1) := by decide +kernel
theorem dX3_kind_23 : decode cX3_kind 23 = .ok (.goto 4, 3) := by decide +kernel
theorem dX3_kind_26 : decode cX3_kind 26 = .ok (.iconst 2, 1) := by decide +kernel
theorem dX3_kind_27 : decode cX3_kind 27 = .ok (.ireturn, 1) := by decide +kernel
theorem dX3_tell_0 : decode cX3_tell 0 = .ok (.iload_n 1, 1) := by decide +kernel
theorem dX3_tell_1 : decode cX3_tell 1 = .ok (.tableswitch 42 0 2 #[27, 32, 37], 27) := by decide +kernel
theorem dX3_tell_28 : decode cX3_tell 28 = .ok (.aload_n 0, 1) := by decide +kernel
theorem dX3_tell_29 : decode cX3_tell 29 = .ok (.getfield 35, 3) := by decide +kernel
theorem dX3_tell_32 : decode cX3_tell 32 = .ok (.ireturn, 1) := by decide +kernel
theorem dX3_tell_33 : decode cX3_tell 33 = .ok (.aload_n 0, 1) := by decide +kernel
theorem dX3_tell_34 : decode cX3_tell 34 = .ok (.getfield 38, 3) := by decide +kernel
theorem dX3_tell_37 : decode cX3_tell 37 = .ok (.ireturn, 1) := by decide +kernel
theorem dX3_tell_38 : decode cX3_tell 38 = .ok (.aload_n 0, 1) := by decide +kernel
theorem dX3_tell_39 : decode cX3_tell 39 = .ok (.getfield 41, 3) := by decide +kernel
theorem dX3_tell_42 : decode cX3_tell 42 = .ok (.ireturn, 1) := by decide +kernel
theorem dX3_tell_43 : decode cX3_tell 43 = .ok (.aload_n 0, 1) := by decide +kernel
theorem dX3_tell_44 : decode cX3_tell 44 = .ok (.invokevirtual 53, 3) := by decide +kernel
theorem dX3_tell_47 : decode cX3_tell 47 = .ok (.ireturn, 1) := by decide +kernel
theorem dX3_sentIn_0 : decode cX3_sentIn 0 = .ok (.aload_n 0, 1) := by decide +kernel
theorem dX3_sentIn_1 : decode cX3_sentIn 1 = .ok (.getfield 15, 3) := by decide +kernel
theorem dX3_sentIn_4 : decode cX3_sentIn 4 = .ok (.aload_n 0, 1) := by decide +kernel
theorem dX3_sentIn_5 : decode cX3_sentIn 5 = .ok (.getfield 19, 3) := by decide +kernel
theorem dX3_sentIn_8 : decode cX3_sentIn 8 = .ok (.iload_n 1, 1) := by decide +kernel
theorem dX3_sentIn_9 : decode cX3_sentIn 9 = .ok (.invokestatic 61, 3) := by decide +kernel
theorem dX3_sentIn_12 : decode cX3_sentIn 12 = .ok (.istore_n 3, 1) := by decide +kernel
theorem dX3_sentIn_13 : decode cX3_sentIn 13 = .ok (.iload_n 3, 1) := by decide +kernel
theorem dX3_sentIn_14 : decode cX3_sentIn 14 = .ok (.iload_n 3, 1) := by decide +kernel
theorem dX3_sentIn_15 : decode cX3_sentIn 15 = .ok (.aload_n 0, 1) := by decide +kernel
theorem dX3_sentIn_16 : decode cX3_sentIn 16 = .ok (.getfield 15, 3) := by decide +kernel
theorem dX3_sentIn_19 : decode cX3_sentIn 19 = .ok (.aload_n 0, 1) := by decide +kernel
theorem dX3_sentIn_20 : decode cX3_sentIn 20 = .ok (.getfield 19, 3) := by decide +kernel
theorem dX3_sentIn_23 : decode cX3_sentIn 23 = .ok (.invokestatic 67, 3) := by decide +kernel
theorem dX3_sentIn_26 : decode cX3_sentIn 26 = .ok (.iload_n 2, 1) := by decide +kernel
theorem dX3_sentIn_27 : decode cX3_sentIn 27 = .ok (.invokestatic 70, 3) := by decide +kernel
theorem dX3_sentIn_30 : decode cX3_sentIn 30 = .ok (.ior, 1) := by decide +kernel
theorem dX3_sentIn_31 : decode cX3_sentIn 31 = .ok (.ireturn, 1) := by decide +kernel
theorem dX3_next_0 : decode cX3_next 0 = .ok (.iload_n 1, 1) := by decide +kernel
theorem dX3_next_1 : decode cX3_next 1 = .ok (.aload_n 0, 1) := by decide +kernel
theorem dX3_next_2 : decode cX3_next 2 = .ok (.iload_n 1, 1) := by decide +kernel
theorem dX3_next_3 : decode cX3_next 3 = .ok (.iload_n 2, 1) := by decide +kernel
theorem dX3_next_4 : decode cX3_next 4 = .ok (.invokevirtual 44, 3) := by decide +kernel
theorem dX3_next_7 : decode cX3_next 7 = .ok (.iload_n 2, 1) := by decide +kernel
theorem dX3_next_8 : decode cX3_next 8 = .ok (.iand, 1) := by decide +kernel
theorem dX3_next_9 : decode cX3_next 9 = .ok (.invokestatic 73, 3) := by decide +kernel
theorem dX3_next_12 : decode cX3_next 12 = .ok (.invokestatic 76, 3) := by decide +kernel
theorem dX3_next_15 : decode cX3_next 15 = .ok (.ireturn, 1) := by decide +kernel
