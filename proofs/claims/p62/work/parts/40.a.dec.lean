theorem dX8_readMarks_0 : decode cX8_readMarks 0 = .ok (.iconst 0, 1) := by decide +kernel
theorem dX8_readMarks_1 : decode cX8_readMarks 1 = .ok (.istore_n 2, 1) := by decide +kernel
theorem dX8_readMarks_2 : decode cX8_readMarks 2 = .ok (.iconst 0, 1) := by decide +kernel
theorem dX8_readMarks_3 : decode cX8_readMarks 3 = .ok (.istore_n 3, 1) := by decide +kernel
theorem dX8_readMarks_4 : decode cX8_readMarks 4 = .ok (.iconst 0, 1) := by decide +kernel
theorem dX8_readMarks_5 : decode cX8_readMarks 5 = .ok (.istore 4, 2) := by decide +kernel
theorem dX8_readMarks_7 : decode cX8_readMarks 7 = .ok (.iload 4, 2) := by decide +kernel
theorem dX8_readMarks_9 : decode cX8_readMarks 9 = .ok (.iconst 2, 1) := by decide +kernel
theorem dX8_readMarks_10 : decode cX8_readMarks 10 = .ok (.if_icmp .ge 85, 3) := by decide +kernel
theorem dX8_readMarks_13 : decode cX8_readMarks 13 = .ok (.iload_n 2, 1) := by decide +kernel
theorem dX8_readMarks_14 : decode cX8_readMarks 14 = .ok (.ifCond .ne 31, 3) := by decide +kernel
theorem dX8_readMarks_17 : decode cX8_readMarks 17 = .ok (.aload_n 0, 1) := by decide +kernel
theorem dX8_readMarks_18 : decode cX8_readMarks 18 = .ok (.ldc 139, 2) := by decide +kernel
theorem dX8_readMarks_20 : decode cX8_readMarks 20 = .ok (.invokevirtual 59, 3) := by decide +kernel
theorem dX8_readMarks_23 : decode cX8_readMarks 23 = .ok (.ifCond .eq 22, 3) := by decide +kernel
theorem dX8_readMarks_26 : decode cX8_readMarks 26 = .ok (.aload_n 0, 1) := by decide +kernel
theorem dX8_readMarks_27 : decode cX8_readMarks 27 = .ok (.invokevirtual 38, 3) := by decide +kernel
theorem dX8_readMarks_30 : decode cX8_readMarks 30 = .ok (.aload_n 0, 1) := by decide +kernel
theorem dX8_readMarks_31 : decode cX8_readMarks 31 = .ok (.getfield 18, 3) := by decide +kernel
theorem dX8_readMarks_34 : decode cX8_readMarks 34 = .ok (.getfield 141, 3) := by decide +kernel
theorem dX8_readMarks_37 : decode cX8_readMarks 37 = .ok (.iload_n 1, 1) := by decide +kernel
theorem dX8_readMarks_38 : decode cX8_readMarks 38 = .ok (.iconst 1, 1) := by decide +kernel
theorem dX8_readMarks_39 : decode cX8_readMarks 39 = .ok (.iastore, 1) := by decide +kernel
theorem dX8_readMarks_40 : decode cX8_readMarks 40 = .ok (.iconst 1, 1) := by decide +kernel
theorem dX8_readMarks_41 : decode cX8_readMarks 41 = .ok (.istore_n 2, 1) := by decide +kernel
theorem dX8_readMarks_42 : decode cX8_readMarks 42 = .ok (.goto 47, 3) := by decide +kernel
theorem dX8_readMarks_45 : decode cX8_readMarks 45 = .ok (.iload_n 3, 1) := by decide +kernel
theorem dX8_readMarks_46 : decode cX8_readMarks 46 = .ok (.ifCond .ne 43, 3) := by decide +kernel
theorem dX8_readMarks_49 : decode cX8_readMarks 49 = .ok (.aload_n 0, 1) := by decide +kernel
theorem dX8_readMarks_50 : decode cX8_readMarks 50 = .ok (.ldc 143, 2) := by decide +kernel
theorem dX8_readMarks_52 : decode cX8_readMarks 52 = .ok (.invokevirtual 59, 3) := by decide +kernel
theorem dX8_readMarks_55 : decode cX8_readMarks 55 = .ok (.ifCond .eq 34, 3) := by decide +kernel
theorem dX8_readMarks_58 : decode cX8_readMarks 58 = .ok (.aload_n 0, 1) := by decide +kernel
theorem dX8_readMarks_59 : decode cX8_readMarks 59 = .ok (.invokevirtual 38, 3) := by decide +kernel
theorem dX8_readMarks_62 : decode cX8_readMarks 62 = .ok (.aload_n 0, 1) := by decide +kernel
theorem dX8_readMarks_63 : decode cX8_readMarks 63 = .ok (.iconst 0, 1) := by decide +kernel
theorem dX8_readMarks_64 : decode cX8_readMarks 64 = .ok (.bipush 50, 2) := by decide +kernel
theorem dX8_readMarks_66 : decode cX8_readMarks 66 = .ok (.invokevirtual 117, 3) := by decide +kernel
theorem dX8_readMarks_69 : decode cX8_readMarks 69 = .ok (.ifCond .ne 5, 3) := by decide +kernel
theorem dX8_readMarks_72 : decode cX8_readMarks 72 = .ok (.iconst 0, 1) := by decide +kernel
theorem dX8_readMarks_73 : decode cX8_readMarks 73 = .ok (.ireturn, 1) := by decide +kernel
theorem dX8_readMarks_74 : decode cX8_readMarks 74 = .ok (.aload_n 0, 1) := by decide +kernel
theorem dX8_readMarks_75 : decode cX8_readMarks 75 = .ok (.getfield 18, 3) := by decide +kernel
theorem dX8_readMarks_78 : decode cX8_readMarks 78 = .ok (.getfield 145, 3) := by decide +kernel
theorem dX8_readMarks_81 : decode cX8_readMarks 81 = .ok (.iload_n 1, 1) := by decide +kernel
theorem dX8_readMarks_82 : decode cX8_readMarks 82 = .ok (.aload_n 0, 1) := by decide +kernel
theorem dX8_readMarks_83 : decode cX8_readMarks 83 = .ok (.getfield 120, 3) := by decide +kernel
theorem dX8_readMarks_86 : decode cX8_readMarks 86 = .ok (.iastore, 1) := by decide +kernel
theorem dX8_readMarks_87 : decode cX8_readMarks 87 = .ok (.iconst 1, 1) := by decide +kernel
theorem dX8_readMarks_88 : decode cX8_readMarks 88 = .ok (.istore_n 3, 1) := by decide +kernel
theorem dX8_readMarks_89 : decode cX8_readMarks 89 = .ok (.iinc 4 1, 3) := by decide +kernel
theorem dX8_readMarks_92 : decode cX8_readMarks 92 = .ok (.goto (-85), 3) := by decide +kernel
theorem dX8_readMarks_95 : decode cX8_readMarks 95 = .ok (.iconst 1, 1) := by decide +kernel
theorem dX8_readMarks_96 : decode cX8_readMarks 96 = .ok (.ireturn, 1) := by decide +kernel
theorem dX8_readPair_0 : decode cX8_readPair 0 = .ok (.aload_n 0, 1) := by decide +kernel
theorem dX8_readPair_1 : decode cX8_readPair 1 = .ok (.getfield 18, 3) := by decide +kernel
theorem dX8_readPair_4 : decode cX8_readPair 4 = .ok (.getfield 147, 3) := by decide +kernel
theorem dX8_readPair_7 : decode cX8_readPair 7 = .ok (.bipush 16, 2) := by decide +kernel
theorem dX8_readPair_9 : decode cX8_readPair 9 = .ok (.if_icmp .lt 13, 3) := by decide +kernel
theorem dX8_readPair_12 : decode cX8_readPair 12 = .ok (.aload_n 0, 1) := by decide +kernel
theorem dX8_readPair_13 : decode cX8_readPair 13 = .ok (.iconst 3, 1) := by decide +kernel
theorem dX8_readPair_14 : decode cX8_readPair 14 = .ok (.aload_n 0, 1) := by decide +kernel
theorem dX8_readPair_15 : decode cX8_readPair 15 = .ok (.getfield 103, 3) := by decide +kernel
theorem dX8_readPair_18 : decode cX8_readPair 18 = .ok (.invokevirtual 106, 3) := by decide +kernel
theorem dX8_readPair_21 : decode cX8_readPair 21 = .ok (.ireturn, 1) := by decide +kernel
theorem dX8_readPair_22 : decode cX8_readPair 22 = .ok (.aload_n 0, 1) := by decide +kernel
theorem dX8_readPair_23 : decode cX8_readPair 23 = .ok (.invokevirtual 38, 3) := by decide +kernel
theorem dX8_readPair_26 : decode cX8_readPair 26 = .ok (.aload_n 0, 1) := by decide +kernel
theorem dX8_readPair_27 : decode cX8_readPair 27 = .ok (.iconst 0, 1) := by decide +kernel
theorem dX8_readPair_28 : decode cX8_readPair 28 = .ok (.aload_n 0, 1) := by decide +kernel
theorem dX8_readPair_29 : decode cX8_readPair 29 = .ok (.getfield 18, 3) := by decide +kernel
theorem dX8_readPair_32 : decode cX8_readPair 32 = .ok (.getfield 66, 3) := by decide +kernel
theorem dX8_readPair_35 : decode cX8_readPair 35 = .ok (.iconst 1, 1) := by decide +kernel
theorem dX8_readPair_36 : decode cX8_readPair 36 = .ok (.isub, 1) := by decide +kernel
theorem dX8_readPair_37 : decode cX8_readPair 37 = .ok (.invokevirtual 117, 3) := by decide +kernel
theorem dX8_readPair_40 : decode cX8_readPair 40 = .ok (.ifCond .ne 5, 3) := by decide +kernel
theorem dX8_readPair_43 : decode cX8_readPair 43 = .ok (.iconst 0, 1) := by decide +kernel
theorem dX8_readPair_44 : decode cX8_readPair 44 = .ok (.ireturn, 1) := by decide +kernel
theorem dX8_readPair_45 : decode cX8_readPair 45 = .ok (.aload_n 0, 1) := by decide +kernel
theorem dX8_readPair_46 : decode cX8_readPair 46 = .ok (.getfield 120, 3) := by decide +kernel
theorem dX8_readPair_49 : decode cX8_readPair 49 = .ok (.istore_n 1, 1) := by decide +kernel
theorem dX8_readPair_50 : decode cX8_readPair 50 = .ok (.aload_n 0, 1) := by decide +kernel
theorem dX8_readPair_51 : decode cX8_readPair 51 = .ok (.iconst 0, 1) := by decide +kernel
theorem dX8_readPair_52 : decode cX8_readPair 52 = .ok (.aload_n 0, 1) := by decide +kernel
theorem dX8_readPair_53 : decode cX8_readPair 53 = .ok (.getfield 18, 3) := by decide +kernel
theorem dX8_readPair_56 : decode cX8_readPair 56 = .ok (.getfield 66, 3) := by decide +kernel
theorem dX8_readPair_59 : decode cX8_readPair 59 = .ok (.iconst 1, 1) := by decide +kernel
theorem dX8_readPair_60 : decode cX8_readPair 60 = .ok (.isub, 1) := by decide +kernel
theorem dX8_readPair_61 : decode cX8_readPair 61 = .ok (.invokevirtual 117, 3) := by decide +kernel
theorem dX8_readPair_64 : decode cX8_readPair 64 = .ok (.ifCond .ne 5, 3) := by decide +kernel
theorem dX8_readPair_67 : decode cX8_readPair 67 = .ok (.iconst 0, 1) := by decide +kernel
theorem dX8_readPair_68 : decode cX8_readPair 68 = .ok (.ireturn, 1) := by decide +kernel
theorem dX8_readPair_69 : decode cX8_readPair 69 = .ok (.aload_n 0, 1) := by decide +kernel
theorem dX8_readPair_70 : decode cX8_readPair 70 = .ok (.getfield 120, 3) := by decide +kernel
theorem dX8_readPair_73 : decode cX8_readPair 73 = .ok (.istore_n 2, 1) := by decide +kernel
theorem dX8_readPair_74 : decode cX8_readPair 74 = .ok (.iload_n 1, 1) := by decide +kernel
theorem dX8_readPair_75 : decode cX8_readPair 75 = .ok (.iload_n 2, 1) := by decide +kernel
theorem dX8_readPair_76 : decode cX8_readPair 76 = .ok (.if_icmp .eq 16, 3) := by decide +kernel
theorem dX8_readPair_79 : decode cX8_readPair 79 = .ok (.aload_n 0, 1) := by decide +kernel
theorem dX8_readPair_80 : decode cX8_readPair 80 = .ok (.getfield 18, 3) := by decide +kernel
theorem dX8_readPair_83 : decode cX8_readPair 83 = .ok (.iload_n 1, 1) := by decide +kernel
theorem dX8_readPair_84 : decode cX8_readPair 84 = .ok (.iload_n 2, 1) := by decide +kernel
theorem dX8_readPair_85 : decode cX8_readPair 85 = .ok (.invokevirtual 150, 3) := by decide +kernel
theorem dX8_readPair_88 : decode cX8_readPair 88 = .ok (.iconst (-1), 1) := by decide +kernel
theorem dX8_readPair_89 : decode cX8_readPair 89 = .ok (.if_icmp .eq 13, 3) := by decide +kernel
theorem dX8_readPair_92 : decode cX8_readPair 92 = .ok (.aload_n 0, 1) := by decide +kernel
theorem dX8_readPair_93 : decode cX8_readPair 93 = .ok (.iconst 2, 1) := by decide +kernel
theorem dX8_readPair_94 : decode cX8_readPair 94 = .ok (.aload_n 0, 1) := by decide +kernel
theorem dX8_readPair_95 : decode cX8_readPair 95 = .ok (.getfield 154, 3) := by decide +kernel
theorem dX8_readPair_98 : decode cX8_readPair 98 = .ok (.invokevirtual 106, 3) := by decide +kernel
theorem dX8_readPair_101 : decode cX8_readPair 101 = .ok (.ireturn, 1) := by decide +kernel
theorem dX8_readPair_102 : decode cX8_readPair 102 = .ok (.aload_n 0, 1) := by decide +kernel
theorem dX8_readPair_103 : decode cX8_readPair 103 = .ok (.ldc 157, 2) := by decide +kernel
theorem dX8_readPair_105 : decode cX8_readPair 105 = .ok (.invokevirtual 112, 3) := by decide +kernel
theorem dX8_readPair_108 : decode cX8_readPair 108 = .ok (.ifCond .eq 13, 3) := by decide +kernel
theorem dX8_readPair_111 : decode cX8_readPair 111 = .ok (.aload_n 0, 1) := by decide +kernel
theorem dX8_readPair_112 : decode cX8_readPair 112 = .ok (.iconst 0, 1) := by decide +kernel
theorem dX8_readPair_113 : decode cX8_readPair 113 = .ok (.bipush 15, 2) := by decide +kernel
theorem dX8_readPair_115 : decode cX8_readPair 115 = .ok (.invokevirtual 117, 3) := by decide +kernel
theorem dX8_readPair_118 : decode cX8_readPair 118 = .ok (.ifCond .ne 5, 3) := by decide +kernel
theorem dX8_readPair_121 : decode cX8_readPair 121 = .ok (.iconst 0, 1) := by decide +kernel
theorem dX8_readPair_122 : decode cX8_readPair 122 = .ok (.ireturn, 1) := by decide +kernel
theorem dX8_readPair_123 : decode cX8_readPair 123 = .ok (.aload_n 0, 1) := by decide +kernel
theorem dX8_readPair_124 : decode cX8_readPair 124 = .ok (.getfield 18, 3) := by decide +kernel
theorem dX8_readPair_127 : decode cX8_readPair 127 = .ok (.iload_n 1, 1) := by decide +kernel
theorem dX8_readPair_128 : decode cX8_readPair 128 = .ok (.iload_n 2, 1) := by decide +kernel
theorem dX8_readPair_129 : decode cX8_readPair 129 = .ok (.aload_n 0, 1) := by decide +kernel
theorem dX8_readPair_130 : decode cX8_readPair 130 = .ok (.getfield 120, 3) := by decide +kernel
theorem dX8_readPair_133 : decode cX8_readPair 133 = .ok (.invokevirtual 159, 3) := by decide +kernel
theorem dX8_readPair_136 : decode cX8_readPair 136 = .ok (.iconst 1, 1) := by decide +kernel
theorem dX8_readPair_137 : decode cX8_readPair 137 = .ok (.ireturn, 1) := by decide +kernel
theorem dX8_readLost_0 : decode cX8_readLost 0 = .ok (.aload_n 0, 1) := by decide +kernel
theorem dX8_readLost_1 : decode cX8_readLost 1 = .ok (.invokevirtual 38, 3) := by decide +kernel
theorem dX8_readLost_4 : decode cX8_readLost 4 = .ok (.aload_n 0, 1) := by decide +kernel
theorem dX8_readLost_5 : decode cX8_readLost 5 = .ok (.iconst 0, 1) := by decide +kernel
theorem dX8_readLost_6 : decode cX8_readLost 6 = .ok (.aload_n 0, 1) := by decide +kernel
theorem dX8_readLost_7 : decode cX8_readLost 7 = .ok (.getfield 18, 3) := by decide +kernel
theorem dX8_readLost_10 : decode cX8_readLost 10 = .ok (.getfield 123, 3) := by decide +kernel
theorem dX8_readLost_13 : decode cX8_readLost 13 = .ok (.iconst 1, 1) := by decide +kernel
theorem dX8_readLost_14 : decode cX8_readLost 14 = .ok (.isub, 1) := by decide +kernel
theorem dX8_readLost_15 : decode cX8_readLost 15 = .ok (.invokevirtual 117, 3) := by decide +kernel
theorem dX8_readLost_18 : decode cX8_readLost 18 = .ok (.ifCond .ne 5, 3) := by decide +kernel
theorem dX8_readLost_21 : decode cX8_readLost 21 = .ok (.iconst 0, 1) := by decide +kernel
theorem dX8_readLost_22 : decode cX8_readLost 22 = .ok (.ireturn, 1) := by decide +kernel
theorem dX8_readLost_23 : decode cX8_readLost 23 = .ok (.aload_n 0, 1) := by decide +kernel
theorem dX8_readLost_24 : decode cX8_readLost 24 = .ok (.getfield 120, 3) := by decide +kernel
theorem dX8_readLost_27 : decode cX8_readLost 27 = .ok (.istore_n 1, 1) := by decide +kernel
theorem dX8_readLost_28 : decode cX8_readLost 28 = .ok (.aload_n 0, 1) := by decide +kernel
theorem dX8_readLost_29 : decode cX8_readLost 29 = .ok (.iconst 0, 1) := by decide +kernel
theorem dX8_readLost_30 : decode cX8_readLost 30 = .ok (.aload_n 0, 1) := by decide +kernel
theorem dX8_readLost_31 : decode cX8_readLost 31 = .ok (.getfield 18, 3) := by decide +kernel
theorem dX8_readLost_34 : decode cX8_readLost 34 = .ok (.getfield 66, 3) := by decide +kernel
theorem dX8_readLost_37 : decode cX8_readLost 37 = .ok (.iconst 1, 1) := by decide +kernel
theorem dX8_readLost_38 : decode cX8_readLost 38 = .ok (.isub, 1) := by decide +kernel
theorem dX8_readLost_39 : decode cX8_readLost 39 = .ok (.invokevirtual 117, 3) := by decide +kernel
theorem dX8_readLost_42 : decode cX8_readLost 42 = .ok (.ifCond .ne 5, 3) := by decide +kernel
theorem dX8_readLost_45 : decode cX8_readLost 45 = .ok (.iconst 0, 1) := by decide +kernel
theorem dX8_readLost_46 : decode cX8_readLost 46 = .ok (.ireturn, 1) := by decide +kernel
theorem dX8_readLost_47 : decode cX8_readLost 47 = .ok (.aload_n 0, 1) := by decide +kernel
theorem dX8_readLost_48 : decode cX8_readLost 48 = .ok (.getfield 120, 3) := by decide +kernel
theorem dX8_readLost_51 : decode cX8_readLost 51 = .ok (.istore_n 2, 1) := by decide +kernel
theorem dX8_readLost_52 : decode cX8_readLost 52 = .ok (.aload_n 0, 1) := by decide +kernel
theorem dX8_readLost_53 : decode cX8_readLost 53 = .ok (.iconst 0, 1) := by decide +kernel
theorem dX8_readLost_54 : decode cX8_readLost 54 = .ok (.aload_n 0, 1) := by decide +kernel
theorem dX8_readLost_55 : decode cX8_readLost 55 = .ok (.getfield 18, 3) := by decide +kernel
theorem dX8_readLost_58 : decode cX8_readLost 58 = .ok (.getfield 66, 3) := by decide +kernel
theorem dX8_readLost_61 : decode cX8_readLost 61 = .ok (.iconst 1, 1) := by decide +kernel
theorem dX8_readLost_62 : decode cX8_readLost 62 = .ok (.isub, 1) := by decide +kernel
theorem dX8_readLost_63 : decode cX8_readLost 63 = .ok (.invokevirtual 117, 3) := by decide +kernel
theorem dX8_readLost_66 : decode cX8_readLost 66 = .ok (.ifCond .ne 5, 3) := by decide +kernel
theorem dX8_readLost_69 : decode cX8_readLost 69 = .ok (.iconst 0, 1) := by decide +kernel
theorem dX8_readLost_70 : decode cX8_readLost 70 = .ok (.ireturn, 1) := by decide +kernel
theorem dX8_readLost_71 : decode cX8_readLost 71 = .ok (.aload_n 0, 1) := by decide +kernel
theorem dX8_readLost_72 : decode cX8_readLost 72 = .ok (.getfield 18, 3) := by decide +kernel
theorem dX8_readLost_75 : decode cX8_readLost 75 = .ok (.iload_n 2, 1) := by decide +kernel
theorem dX8_readLost_76 : decode cX8_readLost 76 = .ok (.aload_n 0, 1) := by decide +kernel
theorem dX8_readLost_77 : decode cX8_readLost 77 = .ok (.getfield 120, 3) := by decide +kernel
theorem dX8_readLost_80 : decode cX8_readLost 80 = .ok (.invokevirtual 150, 3) := by decide +kernel
theorem dX8_readLost_83 : decode cX8_readLost 83 = .ok (.istore_n 3, 1) := by decide +kernel
theorem dX8_readLost_84 : decode cX8_readLost 84 = .ok (.iload_n 3, 1) := by decide +kernel
theorem dX8_readLost_85 : decode cX8_readLost 85 = .ok (.iconst (-1), 1) := by decide +kernel
theorem dX8_readLost_86 : decode cX8_readLost 86 = .ok (.if_icmp .ne 13, 3) := by decide +kernel
theorem dX8_readLost_89 : decode cX8_readLost 89 = .ok (.aload_n 0, 1) := by decide +kernel
theorem dX8_readLost_90 : decode cX8_readLost 90 = .ok (.iconst 2, 1) := by decide +kernel
theorem dX8_readLost_91 : decode cX8_readLost 91 = .ok (.aload_n 0, 1) := by decide +kernel
theorem dX8_readLost_92 : decode cX8_readLost 92 = .ok (.getfield 154, 3) := by decide +kernel
theorem dX8_readLost_95 : decode cX8_readLost 95 = .ok (.invokevirtual 106, 3) := by decide +kernel
theorem dX8_readLost_98 : decode cX8_readLost 98 = .ok (.ireturn, 1) := by decide +kernel
theorem dX8_readLost_99 : decode cX8_readLost 99 = .ok (.aload_n 0, 1) := by decide +kernel
theorem dX8_readLost_100 : decode cX8_readLost 100 = .ok (.getfield 18, 3) := by decide +kernel
theorem dX8_readLost_103 : decode cX8_readLost 103 = .ok (.getfield 163, 3) := by decide +kernel
theorem dX8_readLost_106 : decode cX8_readLost 106 = .ok (.iconst 2, 1) := by decide +kernel
theorem dX8_readLost_107 : decode cX8_readLost 107 = .ok (.iload_n 3, 1) := by decide +kernel
theorem dX8_readLost_108 : decode cX8_readLost 108 = .ok (.imul, 1) := by decide +kernel
theorem dX8_readLost_109 : decode cX8_readLost 109 = .ok (.iaload, 1) := by decide +kernel
theorem dX8_readLost_110 : decode cX8_readLost 110 = .ok (.iload_n 2, 1) := by decide +kernel
theorem dX8_readLost_111 : decode cX8_readLost 111 = .ok (.if_icmp .ne 7, 3) := by decide +kernel
theorem dX8_readLost_114 : decode cX8_readLost 114 = .ok (.iconst 0, 1) := by decide +kernel
theorem dX8_readLost_115 : decode cX8_readLost 115 = .ok (.goto 4, 3) := by decide +kernel
theorem dX8_readLost_118 : decode cX8_readLost 118 = .ok (.iconst 1, 1) := by decide +kernel
theorem dX8_readLost_119 : decode cX8_readLost 119 = .ok (.istore 4, 2) := by decide +kernel
theorem dX8_readLost_121 : decode cX8_readLost 121 = .ok (.aload_n 0, 1) := by decide +kernel
theorem dX8_readLost_122 : decode cX8_readLost 122 = .ok (.getfield 18, 3) := by decide +kernel
theorem dX8_readLost_125 : decode cX8_readLost 125 = .ok (.getfield 166, 3) := by decide +kernel
theorem dX8_readLost_128 : decode cX8_readLost 128 = .ok (.iconst 2, 1) := by decide +kernel
theorem dX8_readLost_129 : decode cX8_readLost 129 = .ok (.iload_n 3, 1) := by decide +kernel
theorem dX8_readLost_130 : decode cX8_readLost 130 = .ok (.imul, 1) := by decide +kernel
theorem dX8_readLost_131 : decode cX8_readLost 131 = .ok (.iload 4, 2) := by decide +kernel
theorem dX8_readLost_133 : decode cX8_readLost 133 = .ok (.iadd, 1) := by decide +kernel
theorem dX8_readLost_134 : decode cX8_readLost 134 = .ok (.dup2, 1) := by decide +kernel
theorem dX8_readLost_135 : decode cX8_readLost 135 = .ok (.laload, 1) := by decide +kernel
theorem dX8_readLost_136 : decode cX8_readLost 136 = .ok (.lconst 1, 1) := by decide +kernel
theorem dX8_readLost_137 : decode cX8_readLost 137 = .ok (.iload_n 1, 1) := by decide +kernel
theorem dX8_readLost_138 : decode cX8_readLost 138 = .ok (.lshl, 1) := by decide +kernel
theorem dX8_readLost_139 : decode cX8_readLost 139 = .ok (.lor, 1) := by decide +kernel
theorem dX8_readLost_140 : decode cX8_readLost 140 = .ok (.lastore, 1) := by decide +kernel
theorem dX8_readLost_141 : decode cX8_readLost 141 = .ok (.iconst 1, 1) := by decide +kernel
theorem dX8_readLost_142 : decode cX8_readLost 142 = .ok (.ireturn, 1) := by decide +kernel
