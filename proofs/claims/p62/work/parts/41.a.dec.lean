theorem dX8_readLine_0 : decode cX8_readLine 0 = .ok (.aload_n 0, 1) := by decide +kernel
theorem dX8_readLine_1 : decode cX8_readLine 1 = .ok (.getfield 18, 3) := by decide +kernel
theorem dX8_readLine_4 : decode cX8_readLine 4 = .ok (.getfield 51, 3) := by decide +kernel
theorem dX8_readLine_7 : decode cX8_readLine 7 = .ok (.ifCond .ne 8, 3) := by decide +kernel
theorem dX8_readLine_10 : decode cX8_readLine 10 = .ok (.aload_n 0, 1) := by decide +kernel
theorem dX8_readLine_11 : decode cX8_readLine 11 = .ok (.invokevirtual 54, 3) := by decide +kernel
theorem dX8_readLine_14 : decode cX8_readLine 14 = .ok (.ireturn, 1) := by decide +kernel
theorem dX8_readLine_15 : decode cX8_readLine 15 = .ok (.aload_n 0, 1) := by decide +kernel
theorem dX8_readLine_16 : decode cX8_readLine 16 = .ok (.ldc 57, 2) := by decide +kernel
theorem dX8_readLine_18 : decode cX8_readLine 18 = .ok (.invokevirtual 59, 3) := by decide +kernel
theorem dX8_readLine_21 : decode cX8_readLine 21 = .ok (.ifCond .eq 32, 3) := by decide +kernel
theorem dX8_readLine_24 : decode cX8_readLine 24 = .ok (.aload_n 0, 1) := by decide +kernel
theorem dX8_readLine_25 : decode cX8_readLine 25 = .ok (.invokevirtual 63, 3) := by decide +kernel
theorem dX8_readLine_28 : decode cX8_readLine 28 = .ok (.ifCond .eq 23, 3) := by decide +kernel
theorem dX8_readLine_31 : decode cX8_readLine 31 = .ok (.aload_n 0, 1) := by decide +kernel
theorem dX8_readLine_32 : decode cX8_readLine 32 = .ok (.aload_n 0, 1) := by decide +kernel
theorem dX8_readLine_33 : decode cX8_readLine 33 = .ok (.getfield 18, 3) := by decide +kernel
theorem dX8_readLine_36 : decode cX8_readLine 36 = .ok (.getfield 66, 3) := by decide +kernel
theorem dX8_readLine_39 : decode cX8_readLine 39 = .ok (.iconst 1, 1) := by decide +kernel
theorem dX8_readLine_40 : decode cX8_readLine 40 = .ok (.isub, 1) := by decide +kernel
theorem dX8_readLine_41 : decode cX8_readLine 41 = .ok (.invokevirtual 69, 3) := by decide +kernel
theorem dX8_readLine_44 : decode cX8_readLine 44 = .ok (.ifCond .eq 7, 3) := by decide +kernel
theorem dX8_readLine_47 : decode cX8_readLine 47 = .ok (.iconst 1, 1) := by decide +kernel
theorem dX8_readLine_48 : decode cX8_readLine 48 = .ok (.goto 4, 3) := by decide +kernel
theorem dX8_readLine_51 : decode cX8_readLine 51 = .ok (.iconst 0, 1) := by decide +kernel
theorem dX8_readLine_52 : decode cX8_readLine 52 = .ok (.ireturn, 1) := by decide +kernel
theorem dX8_readLine_53 : decode cX8_readLine 53 = .ok (.aload_n 0, 1) := by decide +kernel
theorem dX8_readLine_54 : decode cX8_readLine 54 = .ok (.ldc 73, 2) := by decide +kernel
theorem dX8_readLine_56 : decode cX8_readLine 56 = .ok (.invokevirtual 59, 3) := by decide +kernel
theorem dX8_readLine_59 : decode cX8_readLine 59 = .ok (.ifCond .eq 8, 3) := by decide +kernel
theorem dX8_readLine_62 : decode cX8_readLine 62 = .ok (.aload_n 0, 1) := by decide +kernel
theorem dX8_readLine_63 : decode cX8_readLine 63 = .ok (.invokevirtual 75, 3) := by decide +kernel
theorem dX8_readLine_66 : decode cX8_readLine 66 = .ok (.ireturn, 1) := by decide +kernel
theorem dX8_readLine_67 : decode cX8_readLine 67 = .ok (.aload_n 0, 1) := by decide +kernel
theorem dX8_readLine_68 : decode cX8_readLine 68 = .ok (.ldc 78, 2) := by decide +kernel
theorem dX8_readLine_70 : decode cX8_readLine 70 = .ok (.invokevirtual 59, 3) := by decide +kernel
theorem dX8_readLine_73 : decode cX8_readLine 73 = .ok (.ifCond .eq 8, 3) := by decide +kernel
theorem dX8_readLine_76 : decode cX8_readLine 76 = .ok (.aload_n 0, 1) := by decide +kernel
theorem dX8_readLine_77 : decode cX8_readLine 77 = .ok (.invokevirtual 80, 3) := by decide +kernel
theorem dX8_readLine_80 : decode cX8_readLine 80 = .ok (.ireturn, 1) := by decide +kernel
theorem dX8_readLine_81 : decode cX8_readLine 81 = .ok (.aload_n 0, 1) := by decide +kernel
theorem dX8_readLine_82 : decode cX8_readLine 82 = .ok (.ldc 83, 2) := by decide +kernel
theorem dX8_readLine_84 : decode cX8_readLine 84 = .ok (.invokevirtual 59, 3) := by decide +kernel
theorem dX8_readLine_87 : decode cX8_readLine 87 = .ok (.ifCond .eq 8, 3) := by decide +kernel
theorem dX8_readLine_90 : decode cX8_readLine 90 = .ok (.aload_n 0, 1) := by decide +kernel
theorem dX8_readLine_91 : decode cX8_readLine 91 = .ok (.invokevirtual 85, 3) := by decide +kernel
theorem dX8_readLine_94 : decode cX8_readLine 94 = .ok (.ireturn, 1) := by decide +kernel
theorem dX8_readLine_95 : decode cX8_readLine 95 = .ok (.aload_n 0, 1) := by decide +kernel
theorem dX8_readLine_96 : decode cX8_readLine 96 = .ok (.ldc 88, 2) := by decide +kernel
theorem dX8_readLine_98 : decode cX8_readLine 98 = .ok (.invokevirtual 59, 3) := by decide +kernel
theorem dX8_readLine_101 : decode cX8_readLine 101 = .ok (.ifCond .eq 15, 3) := by decide +kernel
theorem dX8_readLine_104 : decode cX8_readLine 104 = .ok (.aload_n 0, 1) := by decide +kernel
theorem dX8_readLine_105 : decode cX8_readLine 105 = .ok (.aload_n 0, 1) := by decide +kernel
theorem dX8_readLine_106 : decode cX8_readLine 106 = .ok (.getfield 18, 3) := by decide +kernel
theorem dX8_readLine_109 : decode cX8_readLine 109 = .ok (.getfield 90, 3) := by decide +kernel
theorem dX8_readLine_112 : decode cX8_readLine 112 = .ok (.invokevirtual 94, 3) := by decide +kernel
theorem dX8_readLine_115 : decode cX8_readLine 115 = .ok (.ireturn, 1) := by decide +kernel
theorem dX8_readLine_116 : decode cX8_readLine 116 = .ok (.aload_n 0, 1) := by decide +kernel
theorem dX8_readLine_117 : decode cX8_readLine 117 = .ok (.ldc 98, 2) := by decide +kernel
theorem dX8_readLine_119 : decode cX8_readLine 119 = .ok (.invokevirtual 59, 3) := by decide +kernel
theorem dX8_readLine_122 : decode cX8_readLine 122 = .ok (.ifCond .eq 15, 3) := by decide +kernel
theorem dX8_readLine_125 : decode cX8_readLine 125 = .ok (.aload_n 0, 1) := by decide +kernel
theorem dX8_readLine_126 : decode cX8_readLine 126 = .ok (.aload_n 0, 1) := by decide +kernel
theorem dX8_readLine_127 : decode cX8_readLine 127 = .ok (.getfield 18, 3) := by decide +kernel
theorem dX8_readLine_130 : decode cX8_readLine 130 = .ok (.getfield 100, 3) := by decide +kernel
theorem dX8_readLine_133 : decode cX8_readLine 133 = .ok (.invokevirtual 94, 3) := by decide +kernel
theorem dX8_readLine_136 : decode cX8_readLine 136 = .ok (.ireturn, 1) := by decide +kernel
theorem dX8_readLine_137 : decode cX8_readLine 137 = .ok (.aload_n 0, 1) := by decide +kernel
theorem dX8_readLine_138 : decode cX8_readLine 138 = .ok (.iconst 1, 1) := by decide +kernel
theorem dX8_readLine_139 : decode cX8_readLine 139 = .ok (.aload_n 0, 1) := by decide +kernel
theorem dX8_readLine_140 : decode cX8_readLine 140 = .ok (.getfield 103, 3) := by decide +kernel
theorem dX8_readLine_143 : decode cX8_readLine 143 = .ok (.invokevirtual 106, 3) := by decide +kernel
theorem dX8_readLine_146 : decode cX8_readLine 146 = .ok (.ireturn, 1) := by decide +kernel
theorem dX8_readStrike_0 : decode cX8_readStrike 0 = .ok (.aload_n 0, 1) := by decide +kernel
theorem dX8_readStrike_1 : decode cX8_readStrike 1 = .ok (.invokevirtual 38, 3) := by decide +kernel
theorem dX8_readStrike_4 : decode cX8_readStrike 4 = .ok (.aload_n 0, 1) := by decide +kernel
theorem dX8_readStrike_5 : decode cX8_readStrike 5 = .ok (.iconst 0, 1) := by decide +kernel
theorem dX8_readStrike_6 : decode cX8_readStrike 6 = .ok (.aload_n 0, 1) := by decide +kernel
theorem dX8_readStrike_7 : decode cX8_readStrike 7 = .ok (.getfield 18, 3) := by decide +kernel
theorem dX8_readStrike_10 : decode cX8_readStrike 10 = .ok (.getfield 123, 3) := by decide +kernel
theorem dX8_readStrike_13 : decode cX8_readStrike 13 = .ok (.iconst 1, 1) := by decide +kernel
theorem dX8_readStrike_14 : decode cX8_readStrike 14 = .ok (.isub, 1) := by decide +kernel
theorem dX8_readStrike_15 : decode cX8_readStrike 15 = .ok (.invokevirtual 117, 3) := by decide +kernel
theorem dX8_readStrike_18 : decode cX8_readStrike 18 = .ok (.ifCond .ne 5, 3) := by decide +kernel
theorem dX8_readStrike_21 : decode cX8_readStrike 21 = .ok (.iconst 0, 1) := by decide +kernel
theorem dX8_readStrike_22 : decode cX8_readStrike 22 = .ok (.ireturn, 1) := by decide +kernel
theorem dX8_readStrike_23 : decode cX8_readStrike 23 = .ok (.aload_n 0, 1) := by decide +kernel
theorem dX8_readStrike_24 : decode cX8_readStrike 24 = .ok (.getfield 18, 3) := by decide +kernel
theorem dX8_readStrike_27 : decode cX8_readStrike 27 = .ok (.dup, 1) := by decide +kernel
theorem dX8_readStrike_28 : decode cX8_readStrike 28 = .ok (.getfield 169, 3) := by decide +kernel
theorem dX8_readStrike_31 : decode cX8_readStrike 31 = .ok (.lconst 1, 1) := by decide +kernel
theorem dX8_readStrike_32 : decode cX8_readStrike 32 = .ok (.aload_n 0, 1) := by decide +kernel
theorem dX8_readStrike_33 : decode cX8_readStrike 33 = .ok (.getfield 120, 3) := by decide +kernel
theorem dX8_readStrike_36 : decode cX8_readStrike 36 = .ok (.lshl, 1) := by decide +kernel
theorem dX8_readStrike_37 : decode cX8_readStrike 37 = .ok (.lor, 1) := by decide +kernel
theorem dX8_readStrike_38 : decode cX8_readStrike 38 = .ok (.putfield 169, 3) := by decide +kernel
theorem dX8_readStrike_41 : decode cX8_readStrike 41 = .ok (.iconst 1, 1) := by decide +kernel
theorem dX8_readStrike_42 : decode cX8_readStrike 42 = .ok (.ireturn, 1) := by decide +kernel
theorem dX8_readFatal_0 : decode cX8_readFatal 0 = .ok (.aload_n 0, 1) := by decide +kernel
theorem dX8_readFatal_1 : decode cX8_readFatal 1 = .ok (.invokevirtual 38, 3) := by decide +kernel
theorem dX8_readFatal_4 : decode cX8_readFatal 4 = .ok (.aload_n 0, 1) := by decide +kernel
theorem dX8_readFatal_5 : decode cX8_readFatal 5 = .ok (.iconst 0, 1) := by decide +kernel
theorem dX8_readFatal_6 : decode cX8_readFatal 6 = .ok (.aload_n 0, 1) := by decide +kernel
theorem dX8_readFatal_7 : decode cX8_readFatal 7 = .ok (.getfield 18, 3) := by decide +kernel
theorem dX8_readFatal_10 : decode cX8_readFatal 10 = .ok (.getfield 66, 3) := by decide +kernel
theorem dX8_readFatal_13 : decode cX8_readFatal 13 = .ok (.iconst 1, 1) := by decide +kernel
theorem dX8_readFatal_14 : decode cX8_readFatal 14 = .ok (.isub, 1) := by decide +kernel
theorem dX8_readFatal_15 : decode cX8_readFatal 15 = .ok (.invokevirtual 117, 3) := by decide +kernel
theorem dX8_readFatal_18 : decode cX8_readFatal 18 = .ok (.ifCond .ne 5, 3) := by decide +kernel
theorem dX8_readFatal_21 : decode cX8_readFatal 21 = .ok (.iconst 0, 1) := by decide +kernel
theorem dX8_readFatal_22 : decode cX8_readFatal 22 = .ok (.ireturn, 1) := by decide +kernel
theorem dX8_readFatal_23 : decode cX8_readFatal 23 = .ok (.aload_n 0, 1) := by decide +kernel
theorem dX8_readFatal_24 : decode cX8_readFatal 24 = .ok (.getfield 120, 3) := by decide +kernel
theorem dX8_readFatal_27 : decode cX8_readFatal 27 = .ok (.istore_n 2, 1) := by decide +kernel
theorem dX8_readFatal_28 : decode cX8_readFatal 28 = .ok (.aload_n 0, 1) := by decide +kernel
theorem dX8_readFatal_29 : decode cX8_readFatal 29 = .ok (.iconst 0, 1) := by decide +kernel
theorem dX8_readFatal_30 : decode cX8_readFatal 30 = .ok (.aload_n 0, 1) := by decide +kernel
theorem dX8_readFatal_31 : decode cX8_readFatal 31 = .ok (.getfield 18, 3) := by decide +kernel
theorem dX8_readFatal_34 : decode cX8_readFatal 34 = .ok (.getfield 123, 3) := by decide +kernel
theorem dX8_readFatal_37 : decode cX8_readFatal 37 = .ok (.iconst 1, 1) := by decide +kernel
theorem dX8_readFatal_38 : decode cX8_readFatal 38 = .ok (.isub, 1) := by decide +kernel
theorem dX8_readFatal_39 : decode cX8_readFatal 39 = .ok (.invokevirtual 117, 3) := by decide +kernel
theorem dX8_readFatal_42 : decode cX8_readFatal 42 = .ok (.ifCond .ne 5, 3) := by decide +kernel
theorem dX8_readFatal_45 : decode cX8_readFatal 45 = .ok (.iconst 0, 1) := by decide +kernel
theorem dX8_readFatal_46 : decode cX8_readFatal 46 = .ok (.ireturn, 1) := by decide +kernel
theorem dX8_readFatal_47 : decode cX8_readFatal 47 = .ok (.aload_n 1, 1) := by decide +kernel
theorem dX8_readFatal_48 : decode cX8_readFatal 48 = .ok (.iload_n 2, 1) := by decide +kernel
theorem dX8_readFatal_49 : decode cX8_readFatal 49 = .ok (.aload_n 0, 1) := by decide +kernel
theorem dX8_readFatal_50 : decode cX8_readFatal 50 = .ok (.getfield 120, 3) := by decide +kernel
theorem dX8_readFatal_53 : decode cX8_readFatal 53 = .ok (.iastore, 1) := by decide +kernel
theorem dX8_readFatal_54 : decode cX8_readFatal 54 = .ok (.iconst 1, 1) := by decide +kernel
theorem dX8_readFatal_55 : decode cX8_readFatal 55 = .ok (.ireturn, 1) := by decide +kernel
