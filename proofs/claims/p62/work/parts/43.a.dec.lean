theorem dX11_sendersTo_0 : decode cX11_sendersTo 0 = .ok (.aload_n 0, 1) := by decide +kernel
theorem dX11_sendersTo_1 : decode cX11_sendersTo 1 = .ok (.invokevirtual 159, 3) := by decide +kernel
theorem dX11_sendersTo_4 : decode cX11_sendersTo 4 = .ok (.astore_n 3, 1) := by decide +kernel
theorem dX11_sendersTo_5 : decode cX11_sendersTo 5 = .ok (.iconst 0, 1) := by decide +kernel
theorem dX11_sendersTo_6 : decode cX11_sendersTo 6 = .ok (.istore 4, 2) := by decide +kernel
theorem dX11_sendersTo_8 : decode cX11_sendersTo 8 = .ok (.iconst 0, 1) := by decide +kernel
theorem dX11_sendersTo_9 : decode cX11_sendersTo 9 = .ok (.istore 5, 2) := by decide +kernel
theorem dX11_sendersTo_11 : decode cX11_sendersTo 11 = .ok (.iload 5, 2) := by decide +kernel
theorem dX11_sendersTo_13 : decode cX11_sendersTo 13 = .ok (.iconst 2, 1) := by decide +kernel
theorem dX11_sendersTo_14 : decode cX11_sendersTo 14 = .ok (.aload_n 0, 1) := by decide +kernel
theorem dX11_sendersTo_15 : decode cX11_sendersTo 15 = .ok (.getfield 19, 3) := by decide +kernel
theorem dX11_sendersTo_18 : decode cX11_sendersTo 18 = .ok (.getfield 194, 3) := by decide +kernel
theorem dX11_sendersTo_21 : decode cX11_sendersTo 21 = .ok (.imul, 1) := by decide +kernel
theorem dX11_sendersTo_22 : decode cX11_sendersTo 22 = .ok (.if_icmp .ge 56, 3) := by decide +kernel
theorem dX11_sendersTo_25 : decode cX11_sendersTo 25 = .ok (.aload_n 0, 1) := by decide +kernel
theorem dX11_sendersTo_26 : decode cX11_sendersTo 26 = .ok (.getfield 19, 3) := by decide +kernel
theorem dX11_sendersTo_29 : decode cX11_sendersTo 29 = .ok (.getfield 138, 3) := by decide +kernel
theorem dX11_sendersTo_32 : decode cX11_sendersTo 32 = .ok (.iload 5, 2) := by decide +kernel
theorem dX11_sendersTo_34 : decode cX11_sendersTo 34 = .ok (.iaload, 1) := by decide +kernel
theorem dX11_sendersTo_35 : decode cX11_sendersTo 35 = .ok (.iload_n 1, 1) := by decide +kernel
theorem dX11_sendersTo_36 : decode cX11_sendersTo 36 = .ok (.if_icmp .ne 36, 3) := by decide +kernel
theorem dX11_sendersTo_39 : decode cX11_sendersTo 39 = .ok (.aload_n 3, 1) := by decide +kernel
theorem dX11_sendersTo_40 : decode cX11_sendersTo 40 = .ok (.getfield 174, 3) := by decide +kernel
theorem dX11_sendersTo_43 : decode cX11_sendersTo 43 = .ok (.iload 5, 2) := by decide +kernel
theorem dX11_sendersTo_45 : decode cX11_sendersTo 45 = .ok (.laload, 1) := by decide +kernel
theorem dX11_sendersTo_46 : decode cX11_sendersTo 46 = .ok (.iload_n 2, 1) := by decide +kernel
theorem dX11_sendersTo_47 : decode cX11_sendersTo 47 = .ok (.invokestatic 167, 3) := by decide +kernel
theorem dX11_sendersTo_50 : decode cX11_sendersTo 50 = .ok (.ifCond .eq 22, 3) := by decide +kernel
theorem dX11_sendersTo_53 : decode cX11_sendersTo 53 = .ok (.iload 4, 2) := by decide +kernel
theorem dX11_sendersTo_55 : decode cX11_sendersTo 55 = .ok (.iconst 1, 1) := by decide +kernel
theorem dX11_sendersTo_56 : decode cX11_sendersTo 56 = .ok (.aload_n 0, 1) := by decide +kernel
theorem dX11_sendersTo_57 : decode cX11_sendersTo 57 = .ok (.getfield 19, 3) := by decide +kernel
theorem dX11_sendersTo_60 : decode cX11_sendersTo 60 = .ok (.getfield 138, 3) := by decide +kernel
theorem dX11_sendersTo_63 : decode cX11_sendersTo 63 = .ok (.iload 5, 2) := by decide +kernel
theorem dX11_sendersTo_65 : decode cX11_sendersTo 65 = .ok (.iconst 1, 1) := by decide +kernel
theorem dX11_sendersTo_66 : decode cX11_sendersTo 66 = .ok (.ixor, 1) := by decide +kernel
theorem dX11_sendersTo_67 : decode cX11_sendersTo 67 = .ok (.iaload, 1) := by decide +kernel
theorem dX11_sendersTo_68 : decode cX11_sendersTo 68 = .ok (.ishl, 1) := by decide +kernel
theorem dX11_sendersTo_69 : decode cX11_sendersTo 69 = .ok (.ior, 1) := by decide +kernel
theorem dX11_sendersTo_70 : decode cX11_sendersTo 70 = .ok (.istore 4, 2) := by decide +kernel
theorem dX11_sendersTo_72 : decode cX11_sendersTo 72 = .ok (.iinc 5 1, 3) := by decide +kernel
theorem dX11_sendersTo_75 : decode cX11_sendersTo 75 = .ok (.goto (-64), 3) := by decide +kernel
theorem dX11_sendersTo_78 : decode cX11_sendersTo 78 = .ok (.iload 4, 2) := by decide +kernel
theorem dX11_sendersTo_80 : decode cX11_sendersTo 80 = .ok (.ireturn, 1) := by decide +kernel
theorem dX11_findFateOf_0 : decode cX11_findFateOf 0 = .ok (.aload_n 0, 1) := by decide +kernel
theorem dX11_findFateOf_1 : decode cX11_findFateOf 1 = .ok (.getfield 44, 3) := by decide +kernel
theorem dX11_findFateOf_4 : decode cX11_findFateOf 4 = .ok (.aload_n 0, 1) := by decide +kernel
theorem dX11_findFateOf_5 : decode cX11_findFateOf 5 = .ok (.getfield 19, 3) := by decide +kernel
theorem dX11_findFateOf_8 : decode cX11_findFateOf 8 = .ok (.iload_n 1, 1) := by decide +kernel
theorem dX11_findFateOf_9 : decode cX11_findFateOf 9 = .ok (.iconst 0, 1) := by decide +kernel
theorem dX11_findFateOf_10 : decode cX11_findFateOf 10 = .ok (.invokevirtual 419, 3) := by decide +kernel
theorem dX11_findFateOf_13 : decode cX11_findFateOf 13 = .ok (.aload_n 0, 1) := by decide +kernel
theorem dX11_findFateOf_14 : decode cX11_findFateOf 14 = .ok (.getfield 19, 3) := by decide +kernel
theorem dX11_findFateOf_17 : decode cX11_findFateOf 17 = .ok (.iload_n 1, 1) := by decide +kernel
theorem dX11_findFateOf_18 : decode cX11_findFateOf 18 = .ok (.iconst 1, 1) := by decide +kernel
theorem dX11_findFateOf_19 : decode cX11_findFateOf 19 = .ok (.invokevirtual 419, 3) := by decide +kernel
theorem dX11_findFateOf_22 : decode cX11_findFateOf 22 = .ok (.iload_n 2, 1) := by decide +kernel
theorem dX11_findFateOf_23 : decode cX11_findFateOf 23 = .ok (.invokevirtual 235, 3) := by decide +kernel
theorem dX11_findFateOf_26 : decode cX11_findFateOf 26 = .ok (.return_, 1) := by decide +kernel
theorem dX11_turnedByStrike_0 : decode cX11_turnedByStrike 0 = .ok (.aload_n 0, 1) := by decide +kernel
theorem dX11_turnedByStrike_1 : decode cX11_turnedByStrike 1 = .ok (.invokevirtual 159, 3) := by decide +kernel
theorem dX11_turnedByStrike_4 : decode cX11_turnedByStrike 4 = .ok (.astore_n 3, 1) := by decide +kernel
theorem dX11_turnedByStrike_5 : decode cX11_turnedByStrike 5 = .ok (.iconst 0, 1) := by decide +kernel
theorem dX11_turnedByStrike_6 : decode cX11_turnedByStrike 6 = .ok (.istore 4, 2) := by decide +kernel
theorem dX11_turnedByStrike_8 : decode cX11_turnedByStrike 8 = .ok (.iconst 0, 1) := by decide +kernel
theorem dX11_turnedByStrike_9 : decode cX11_turnedByStrike 9 = .ok (.istore 5, 2) := by decide +kernel
theorem dX11_turnedByStrike_11 : decode cX11_turnedByStrike 11 = .ok (.iload 5, 2) := by decide +kernel
theorem dX11_turnedByStrike_13 : decode cX11_turnedByStrike 13 = .ok (.aload_n 0, 1) := by decide +kernel
theorem dX11_turnedByStrike_14 : decode cX11_turnedByStrike 14 = .ok (.getfield 19, 3) := by decide +kernel
theorem dX11_turnedByStrike_17 : decode cX11_turnedByStrike 17 = .ok (.getfield 194, 3) := by decide +kernel
theorem dX11_turnedByStrike_20 : decode cX11_turnedByStrike 20 = .ok (.if_icmp .ge 91, 3) := by decide +kernel
theorem dX11_turnedByStrike_23 : decode cX11_turnedByStrike 23 = .ok (.aload_n 3, 1) := by decide +kernel
theorem dX11_turnedByStrike_24 : decode cX11_turnedByStrike 24 = .ok (.aload_n 0, 1) := by decide +kernel
theorem dX11_turnedByStrike_25 : decode cX11_turnedByStrike 25 = .ok (.getfield 19, 3) := by decide +kernel
theorem dX11_turnedByStrike_28 : decode cX11_turnedByStrike 28 = .ok (.iload 5, 2) := by decide +kernel
theorem dX11_turnedByStrike_30 : decode cX11_turnedByStrike 30 = .ok (.iload_n 1, 1) := by decide +kernel
theorem dX11_turnedByStrike_31 : decode cX11_turnedByStrike 31 = .ok (.invokevirtual 180, 3) := by decide +kernel
theorem dX11_turnedByStrike_34 : decode cX11_turnedByStrike 34 = .ok (.istore 6, 2) := by decide +kernel
theorem dX11_turnedByStrike_36 : decode cX11_turnedByStrike 36 = .ok (.aload_n 0, 1) := by decide +kernel
theorem dX11_turnedByStrike_37 : decode cX11_turnedByStrike 37 = .ok (.iload 5, 2) := by decide +kernel
theorem dX11_turnedByStrike_39 : decode cX11_turnedByStrike 39 = .ok (.iload 6, 2) := by decide +kernel
theorem dX11_turnedByStrike_41 : decode cX11_turnedByStrike 41 = .ok (.invokevirtual 242, 3) := by decide +kernel
theorem dX11_turnedByStrike_44 : decode cX11_turnedByStrike 44 = .ok (.aload_n 0, 1) := by decide +kernel
theorem dX11_turnedByStrike_45 : decode cX11_turnedByStrike 45 = .ok (.getfield 44, 3) := by decide +kernel
theorem dX11_turnedByStrike_48 : decode cX11_turnedByStrike 48 = .ok (.invokevirtual 246, 3) := by decide +kernel
theorem dX11_turnedByStrike_51 : decode cX11_turnedByStrike 51 = .ok (.ifCond .ne 7, 3) := by decide +kernel
theorem dX11_turnedByStrike_54 : decode cX11_turnedByStrike 54 = .ok (.iconst 1, 1) := by decide +kernel
theorem dX11_turnedByStrike_55 : decode cX11_turnedByStrike 55 = .ok (.goto 4, 3) := by decide +kernel
theorem dX11_turnedByStrike_58 : decode cX11_turnedByStrike 58 = .ok (.iconst 0, 1) := by decide +kernel
theorem dX11_turnedByStrike_59 : decode cX11_turnedByStrike 59 = .ok (.istore 7, 2) := by decide +kernel
theorem dX11_turnedByStrike_61 : decode cX11_turnedByStrike 61 = .ok (.aload_n 0, 1) := by decide +kernel
theorem dX11_turnedByStrike_62 : decode cX11_turnedByStrike 62 = .ok (.iload 5, 2) := by decide +kernel
theorem dX11_turnedByStrike_64 : decode cX11_turnedByStrike 64 = .ok (.iload 6, 2) := by decide +kernel
theorem dX11_turnedByStrike_66 : decode cX11_turnedByStrike 66 = .ok (.iconst 0, 1) := by decide +kernel
theorem dX11_turnedByStrike_67 : decode cX11_turnedByStrike 67 = .ok (.invokestatic 422, 3) := by decide +kernel
theorem dX11_turnedByStrike_70 : decode cX11_turnedByStrike 70 = .ok (.invokevirtual 242, 3) := by decide +kernel
theorem dX11_turnedByStrike_73 : decode cX11_turnedByStrike 73 = .ok (.aload_n 0, 1) := by decide +kernel
theorem dX11_turnedByStrike_74 : decode cX11_turnedByStrike 74 = .ok (.getfield 44, 3) := by decide +kernel
theorem dX11_turnedByStrike_77 : decode cX11_turnedByStrike 77 = .ok (.invokevirtual 246, 3) := by decide +kernel
theorem dX11_turnedByStrike_80 : decode cX11_turnedByStrike 80 = .ok (.ifCond .ne 7, 3) := by decide +kernel
theorem dX11_turnedByStrike_83 : decode cX11_turnedByStrike 83 = .ok (.iconst 1, 1) := by decide +kernel
theorem dX11_turnedByStrike_84 : decode cX11_turnedByStrike 84 = .ok (.goto 4, 3) := by decide +kernel
theorem dX11_turnedByStrike_87 : decode cX11_turnedByStrike 87 = .ok (.iconst 0, 1) := by decide +kernel
theorem dX11_turnedByStrike_88 : decode cX11_turnedByStrike 88 = .ok (.istore 8, 2) := by decide +kernel
theorem dX11_turnedByStrike_90 : decode cX11_turnedByStrike 90 = .ok (.iload 7, 2) := by decide +kernel
theorem dX11_turnedByStrike_92 : decode cX11_turnedByStrike 92 = .ok (.iload_n 2, 1) := by decide +kernel
theorem dX11_turnedByStrike_93 : decode cX11_turnedByStrike 93 = .ok (.if_icmp .ne 12, 3) := by decide +kernel
theorem dX11_turnedByStrike_96 : decode cX11_turnedByStrike 96 = .ok (.iload 8, 2) := by decide +kernel
theorem dX11_turnedByStrike_98 : decode cX11_turnedByStrike 98 = .ok (.iload_n 2, 1) := by decide +kernel
theorem dX11_turnedByStrike_99 : decode cX11_turnedByStrike 99 = .ok (.if_icmp .eq 6, 3) := by decide +kernel
theorem dX11_turnedByStrike_102 : decode cX11_turnedByStrike 102 = .ok (.iinc 4 1, 3) := by decide +kernel
theorem dX11_turnedByStrike_105 : decode cX11_turnedByStrike 105 = .ok (.iinc 5 1, 3) := by decide +kernel
theorem dX11_turnedByStrike_108 : decode cX11_turnedByStrike 108 = .ok (.goto (-97), 3) := by decide +kernel
theorem dX11_turnedByStrike_111 : decode cX11_turnedByStrike 111 = .ok (.iload 4, 2) := by decide +kernel
theorem dX11_turnedByStrike_113 : decode cX11_turnedByStrike 113 = .ok (.ireturn, 1) := by decide +kernel
