theorem dX8_readLine_0 : decode cX8_readLine 0 = .ok (.aload_n 0, 1) := by decide +kernel
theorem dX8_readLine_1 : decode cX8_readLine 1 = .ok (.getfield 18, 3) := by decide +kernel
theorem dX8_readLine_4 : decode cX8_readLine 4 = .ok (.getfield 51, 3) := by decide +kernel
theorem dX8_readLine_7 : decode cX8_readLine 7 = .ok (.ifCond .ne 8, 3) := by decide +kernel
theorem dX8_readLine_10 : decode cX8_readLine 10 = .ok (.aload_n 0, 1) := by decide +kernel
theorem dX8_readLine_11 : decode cX8_readLine 11 = .ok (.invokevirtual 54, 3) := by decide +kernel
theorem dX8_readLine_14 : decode cX8_readLine 14 = .ok (.ireturn, 1) := by decide +kernel
theorem dX8_readLine_15 : decode cX8_readLine 15 = .ok (.aload_n 0, 1) := by decide +kernel
theorem dX8_readLine_16 : decode cX8_readLine 16 = .ok (.ldc 57, 2) := by decide +kernel
theorem dX8_readLine_18 : decode cX8_readLine 18 = .ok (.invokevirtual 59, 3) := by decide +kernel
theorem dX8_readLine_21 : decode cX8_readLine 21 = .ok (.ifCond .eq 32, 3) := by decide +kernel
theorem dX8_readLine_24 : decode cX8_readLine 24 = .ok (.aload_n 0, 1) := by decide +kernel
theorem dX8_readLine_25 : decode cX8_readLine 25 = .ok (.invokevirtual 63, 3) := by decide +kernel
theorem dX8_readLine_28 : decode cX8_readLine 28 = .ok (.ifCond .eq 23, 3) := by decide +kernel
theorem dX8_readLine_31 : decode cX8_readLine 31 = .ok (.aload_n 0, 1) := by decide +kernel
theorem dX8_readLine_32 : decode cX8_readLine 32 = .ok (.aload_n 0, 1) := by decide +kernel
theorem dX8_readLine_33 : decode cX8_readLine 33 = .ok (.getfield 18, 3) := by decide +kernel
theorem dX8_readLine_36 : decode cX8_readLine 36 = .ok (.getfield 66, 3) := by decide +kernel
theorem dX8_readLine_39 : decode cX8_readLine 39 = .ok (.iconst 1, 1) := by decide +kernel
theorem dX8_readLine_40 : decode cX8_readLine 40 = .ok (.isub, 1) := by decide +kernel
theorem dX8_readLine_41 : decode cX8_readLine 41 = .ok (.invokevirtual 69, 3) := by decide +kernel
theorem dX8_readLine_44 : decode cX8_readLine 44 = .ok (.ifCond .eq 7, 3) := by decide +kernel
theorem dX8_readLine_47 : decode cX8_readLine 47 = .ok (.iconst 1, 1) := by decide +kernel
theorem dX8_readLine_48 : decode cX8_readLine 48 = .ok (.goto 4, 3) := by decide +kernel
theorem dX8_readLine_51 : decode cX8_readLine 51 = .ok (.iconst 0, 1) := by decide +kernel
theorem dX8_readLine_52 : decode cX8_readLine 52 = .ok (.ireturn, 1) := by decide +kernel
theorem dX8_readLine_53 : decode cX8_readLine 53 = .ok (.aload_n 0, 1) := by decide +kernel
theorem dX8_readLine_54 : decode cX8_readLine 54 = .ok (.ldc 73, 2) := by decide +kernel
theorem dX8_readLine_56 : decode cX8_readLine 56 = .ok (.invokevirtual 59, 3) := by decide +kernel
theorem dX8_readLine_59 : decode cX8_readLine 59 = .ok (.ifCond .eq 8, 3) := by decide +kernel
theorem dX8_readLine_62 : decode cX8_readLine 62 = .ok (.aload_n 0, 1) := by decide +kernel
theorem dX8_readLine_63 : decode cX8_readLine 63 = .ok (.invokevirtual 75, 3) := by decide +kernel
theorem dX8_readLine_66 : decode cX8_readLine 66 = .ok (.ireturn, 1) := by decide +kernel
theorem dX8_readLine_67 : decode cX8_readLine 67 = .ok (.aload_n 0, 1) := by decide +kernel
theorem dX8_readLine_68 : decode cX8_readLine 68 = .ok (.ldc 78, 2) := by decide +kernel
theorem dX8_readLine_70 : decode cX8_readLine 70 = .ok (.invokevirtual 59, 3) := by decide +kernel
theorem dX8_readLine_73 : decode cX8_readLine 73 = .ok (.ifCond .eq 8, 3) := by decide +kernel
theorem dX8_readLine_76 : decode cX8_readLine 76 = .ok (.aload_n 0, 1) := by decide +kernel
theorem dX8_readLine_77 : decode cX8_readLine 77 = .ok (.invokevirtual 80, 3) := by decide +kernel
theorem dX8_readLine_80 : decode cX8_readLine 80 = .ok (.ireturn, 1) := by decide +kernel
theorem dX8_readLine_81 : decode cX8_readLine 81 = .ok (.aload_n 0, 1) := by decide +kernel
theorem dX8_readLine_82 : decode cX8_readLine 82 = .ok (.ldc 83, 2) := by decide +kernel
theorem dX8_readLine_84 : decode cX8_readLine 84 = .ok (.invokevirtual 59, 3) := by decide +kernel
theorem dX8_readLine_87 : decode cX8_readLine 87 = .ok (.ifCond .eq 8, 3) := by decide +kernel
theorem dX8_readLine_90 : decode cX8_readLine 90 = .ok (.aload_n 0, 1) := by decide +kernel
theorem dX8_readLine_91 : decode cX8_readLine 91 = .ok (.invokevirtual 85, 3) := by decide +kernel
theorem dX8_readLine_94 : decode cX8_readLine 94 = .ok (.ireturn, 1) := by decide +kernel
theorem dX8_readLine_95 : decode cX8_readLine 95 = .ok (.aload_n 0, 1) := by decide +kernel
theorem dX8_readLine_96 : decode cX8_readLine 96 = .ok (.ldc 88, 2) := by decide +kernel
theorem dX8_readLine_98 : decode cX8_readLine 98 = .ok (.invokevirtual 59, 3) := by decide +kernel
theorem dX8_readLine_101 : decode cX8_readLine 101 = .ok (.ifCond .eq 15, 3) := by decide +kernel
theorem dX8_readLine_104 : decode cX8_readLine 104 = .ok (.aload_n 0, 1) := by decide +kernel
theorem dX8_readLine_105 : decode cX8_readLine 105 = .ok (.aload_n 0, 1) := by decide +kernel
theorem dX8_readLine_106 : decode cX8_readLine 106 = .ok (.getfield 18, 3) := by decide +kernel
theorem dX8_readLine_109 : decode cX8_readLine 109 = .ok (.getfield 90, 3) := by decide +kernel
theorem dX8_readLine_112 : decode cX8_readLine 112 = .ok (.invokevirtual 94, 3) := by decide +kernel
theorem dX8_readLine_115 : decode cX8_readLine 115 = .ok (.ireturn, 1) := by decide +kernel
theorem dX8_readLine_116 : decode cX8_readLine 116 = .ok (.aload_n 0, 1) := by decide +kernel
theorem dX8_readLine_117 : decode cX8_readLine 117 = .ok (.ldc 98, 2) := by decide +kernel
theorem dX8_readLine_119 : decode cX8_readLine 119 = .ok (.invokevirtual 59, 3) := by decide +kernel
theorem dX8_readLine_122 : decode cX8_readLine 122 = .ok (.ifCond .eq 15, 3) := by decide +kernel
theorem dX8_readLine_125 : decode cX8_readLine 125 = .ok (.aload_n 0, 1) := by decide +kernel
theorem dX8_readLine_126 : decode cX8_readLine 126 = .ok (.aload_n 0, 1) := by decide +kernel
theorem dX8_readLine_127 : decode cX8_readLine 127 = .ok (.getfield 18, 3) := by decide +kernel
theorem dX8_readLine_130 : decode cX8_readLine 130 = .ok (.getfield 100, 3) := by decide +kernel
theorem dX8_readLine_133 : decode cX8_readLine 133 = .ok (.invokevirtual 94, 3) := by decide +kernel
theorem dX8_readLine_136 : decode cX8_readLine 136 = .ok (.ireturn, 1) := by decide +kernel
theorem dX8_readLine_137 : decode cX8_readLine 137 = .ok (.aload_n 0, 1) := by decide +kernel
theorem dX8_readLine_138 : decode cX8_readLine 138 = .ok (.iconst 1, 1) := by decide +kernel
theorem dX8_readLine_139 : decode cX8_readLine 139 = .ok (.aload_n 0, 1) := by decide +kernel
theorem dX8_readLine_140 : decode cX8_readLine 140 = .ok (.getfield 103, 3) := by decide +kernel
theorem dX8_readLine_143 : decode cX8_readLine 143 = .ok (.invokevirtual 106, 3) := by decide +kernel
theorem dX8_readLine_146 : decode cX8_readLine 146 = .ok (.ireturn, 1) := by decide +kernel
theorem dX8_readPair_0 : decode cX8_readPair 0 = .ok (.aload_n 0, 1) := by decide +kernel
theorem dX8_readPair_1 : decode cX8_readPair 1 = .ok (.getfield 18, 3) := by decide +kernel
theorem dX8_readPair_4 : decode cX8_readPair 4 = .ok (.getfield 147, 3) := by decide +kernel
theorem dX8_readPair_7 : decode cX8_readPair 7 = .ok (.bipush 16, 2) := by decide +kernel
theorem dX8_readPair_9 : decode cX8_readPair 9 = .ok (.if_icmp .lt 13, 3) := by decide +kernel
theorem dX8_readPair_12 : decode cX8_readPair 12 = .ok (.aload_n 0, 1) := by decide +kernel
theorem dX8_readPair_13 : decode cX8_readPair 13 = .ok (.iconst 3, 1) := by decide +kernel
theorem dX8_readPair_14 : decode cX8_readPair 14 = .ok (.aload_n 0, 1) := by decide +kernel
theorem dX8_readPair_15 : decode cX8_readPair 15 = .ok (.getfield 103, 3) := by decide +kernel
theorem dX8_readPair_18 : decode cX8_readPair 18 = .ok (.invokevirtual 106, 3) := by decide +kernel
theorem dX8_readPair_21 : decode cX8_readPair 21 = .ok (.ireturn, 1) := by decide +kernel
theorem dX8_readPair_22 : decode cX8_readPair 22 = .ok (.aload_n 0, 1) := by decide +kernel
theorem dX8_readPair_23 : decode cX8_readPair 23 = .ok (.invokevirtual 38, 3) := by decide +kernel
theorem dX8_readPair_26 : decode cX8_readPair 26 = .ok (.aload_n 0, 1) := by decide +kernel
theorem dX8_readPair_27 : decode cX8_readPair 27 = .ok (.iconst 0, 1) := by decide +kernel
theorem dX8_readPair_28 : decode cX8_readPair 28 = .ok (.aload_n 0, 1) := by decide +kernel
theorem dX8_readPair_29 : decode cX8_readPair 29 = .ok (.getfield 18, 3) := by decide +kernel
theorem dX8_readPair_32 : decode cX8_readPair 32 = .ok (.getfield 66, 3) := by decide +kernel
theorem dX8_readPair_35 : decode cX8_readPair 35 = .ok (.iconst 1, 1) := by decide +kernel
theorem dX8_readPair_36 : decode cX8_readPair 36 = .ok (.isub, 1) := by decide +kernel
theorem dX8_readPair_37 : decode cX8_readPair 37 = .ok (.invokevirtual 117, 3) := by decide +kernel
theorem dX8_readPair_40 : decode cX8_readPair 40 = .ok (.ifCond .ne 5, 3) := by decide +kernel
theorem dX8_readPair_43 : decode cX8_readPair 43 = .ok (.iconst 0, 1) := by decide +kernel
theorem dX8_readPair_44 : decode cX8_readPair 44 = .ok (.ireturn, 1) := by decide +kernel
theorem dX8_readPair_45 : decode cX8_readPair 45 = .ok (.aload_n 0, 1) := by decide +kernel
theorem dX8_readPair_46 : decode cX8_readPair 46 = .ok (.getfield 120, 3) := by decide +kernel
theorem dX8_readPair_49 : decode cX8_readPair 49 = .ok (.istore_n 1, 1) := by decide +kernel
theorem dX8_readPair_50 : decode cX8_readPair 50 = .ok (.aload_n 0, 1) := by decide +kernel
theorem dX8_readPair_51 : decode cX8_readPair 51 = .ok (.iconst 0, 1) := by decide +kernel
theorem dX8_readPair_52 : decode cX8_readPair 52 = .ok (.aload_n 0, 1) := by decide +kernel
theorem dX8_readPair_53 : decode cX8_readPair 53 = .ok (.getfield 18, 3) := by decide +kernel
theorem dX8_readPair_56 : decode cX8_readPair 56 = .ok (.getfield 66, 3) := by decide +kernel
theorem dX8_readPair_59 : decode cX8_readPair 59 = .ok (.iconst 1, 1) := by decide +kernel
theorem dX8_readPair_60 : decode cX8_readPair 60 = .ok (.isub, 1) := by decide +kernel
theorem dX8_readPair_61 : decode cX8_readPair 61 = .ok (.invokevirtual 117, 3) := by decide +kernel
theorem dX8_readPair_64 : decode cX8_readPair 64 = .ok (.ifCond .ne 5, 3) := by decide +kernel
theorem dX8_readPair_67 : decode cX8_readPair 67 = .ok (.iconst 0, 1) := by decide +kernel
theorem dX8_readPair_68 : decode cX8_readPair 68 = .ok (.ireturn, 1) := by decide +kernel
theorem dX8_readPair_69 : decode cX8_readPair 69 = .ok (.aload_n 0, 1) := by decide +kernel
theorem dX8_readPair_70 : decode cX8_readPair 70 = .ok (.getfield 120, 3) := by decide +kernel
theorem dX8_readPair_73 : decode cX8_readPair 73 = .ok (.istore_n 2, 1) := by decide +kernel
theorem dX8_readPair_74 : decode cX8_readPair 74 = .ok (.iload_n 1, 1) := by decide +kernel
theorem dX8_readPair_75 : decode cX8_readPair 75 = .ok (.iload_n 2, 1) := by decide +kernel
theorem dX8_readPair_76 : decode cX8_readPair 76 = .ok (.if_icmp .eq 16, 3) := by decide +kernel
theorem dX8_readPair_79 : decode cX8_readPair 79 = .ok (.aload_n 0, 1) := by decide +kernel
theorem dX8_readPair_80 : decode cX8_readPair 80 = .ok (.getfield 18, 3) := by decide +kernel
theorem dX8_readPair_83 : decode cX8_readPair 83 = .ok (.iload_n 1, 1) := by decide +kernel
theorem dX8_readPair_84 : decode cX8_readPair 84 = .ok (.iload_n 2, 1) := by decide +kernel
theorem dX8_readPair_85 : decode cX8_readPair 85 = .ok (.invokevirtual 150, 3) := by decide +kernel
theorem dX8_readPair_88 : decode cX8_readPair 88 = .ok (.iconst (-1), 1) := by decide +kernel
theorem dX8_readPair_89 : decode cX8_readPair 89 = .ok (.if_icmp .eq 13, 3) := by decide +kernel
theorem dX8_readPair_92 : decode cX8_readPair 92 = .ok (.aload_n 0, 1) := by decide +kernel
theorem dX8_readPair_93 : decode cX8_readPair 93 = .ok (.iconst 2, 1) := by decide +kernel
theorem dX8_readPair_94 : decode cX8_readPair 94 = .ok (.aload_n 0, 1) := by decide +kernel
theorem dX8_readPair_95 : decode cX8_readPair 95 = .ok (.getfield 154, 3) := by decide +kernel
theorem dX8_readPair_98 : decode cX8_readPair 98 = .ok (.invokevirtual 106, 3) := by decide +kernel
theorem dX8_readPair_101 : decode cX8_readPair 101 = .ok (.ireturn, 1) := by decide +kernel
theorem dX8_readPair_102 : decode cX8_readPair 102 = .ok (.aload_n 0, 1) := by decide +kernel
theorem dX8_readPair_103 : decode cX8_readPair 103 = .ok (.ldc 157, 2) := by decide +kernel
theorem dX8_readPair_105 : decode cX8_readPair 105 = .ok (.invokevirtual 112, 3) := by decide +kernel
theorem dX8_readPair_108 : decode cX8_readPair 108 = .ok (.ifCond .eq 13, 3) := by decide +kernel
theorem dX8_readPair_111 : decode cX8_readPair 111 = .ok (.aload_n 0, 1) := by decide +kernel
theorem dX8_readPair_112 : decode cX8_readPair 112 = .ok (.iconst 0, 1) := by decide +kernel
theorem dX8_readPair_113 : decode cX8_readPair 113 = .ok (.bipush 15, 2) := by decide +kernel
theorem dX8_readPair_115 : decode cX8_readPair 115 = .ok (.invokevirtual 117, 3) := by decide +kernel
theorem dX8_readPair_118 : decode cX8_readPair 118 = .ok (.ifCond .ne 5, 3) := by decide +kernel
theorem dX8_readPair_121 : decode cX8_readPair 121 = .ok (.iconst 0, 1) := by decide +kernel
theorem dX8_readPair_122 : decode cX8_readPair 122 = .ok (.ireturn, 1) := by decide +kernel
theorem dX8_readPair_123 : decode cX8_readPair 123 = .ok (.aload_n 0, 1) := by decide +kernel
theorem dX8_readPair_124 : decode cX8_readPair 124 = .ok (.getfield 18, 3) := by decide +kernel
theorem dX8_readPair_127 : decode cX8_readPair 127 = .ok (.iload_n 1, 1) := by decide +kernel
theorem dX8_readPair_128 : decode cX8_readPair 128 = .ok (.iload_n 2, 1) := by decide +kernel
theorem dX8_readPair_129 : decode cX8_readPair 129 = .ok (.aload_n 0, 1) := by decide +kernel
theorem dX8_readPair_130 : decode cX8_readPair 130 = .ok (.getfield 120, 3) := by decide +kernel
theorem dX8_readPair_133 : decode cX8_readPair 133 = .ok (.invokevirtual 159, 3) := by decide +kernel
theorem dX8_readPair_136 : decode cX8_readPair 136 = .ok (.iconst 1, 1) := by decide +kernel
theorem dX8_readPair_137 : decode cX8_readPair 137 = .ok (.ireturn, 1) := by decide +kernel
theorem dX8_readLost_0 : decode cX8_readLost 0 = .ok (.aload_n 0, 1) := by decide +kernel
theorem dX8_readLost_1 : decode cX8_readLost 1 = .ok (.invokevirtual 38, 3) := by decide +kernel
theorem dX8_readLost_4 : decode cX8_readLost 4 = .ok (.aload_n 0, 1) := by decide +kernel
theorem dX8_readLost_5 : decode cX8_readLost 5 = .ok (.iconst 0, 1) := by decide +kernel
theorem dX8_readLost_6 : decode cX8_readLost 6 = .ok (.aload_n 0, 1) := by decide +kernel
theorem dX8_readLost_7 : decode cX8_readLost 7 = .ok (.getfield 18, 3) := by decide +kernel
theorem dX8_readLost_10 : decode cX8_readLost 10 = .ok (.getfield 123, 3) := by decide +kernel
theorem dX8_readLost_13 : decode cX8_readLost 13 = .ok (.iconst 1, 1) := by decide +kernel
theorem dX8_readLost_14 : decode cX8_readLost 14 = .ok (.isub, 1) := by decide +kernel
theorem dX8_readLost_15 : decode cX8_readLost 15 = .ok (.invokevirtual 117, 3) := by decide +kernel
theorem dX8_readLost_18 : decode cX8_readLost 18 = .ok (.ifCond .ne 5, 3) := by decide +kernel
theorem dX8_readLost_21 : decode cX8_readLost 21 = .ok (.iconst 0, 1) := by decide +kernel
theorem dX8_readLost_22 : decode cX8_readLost 22 = .ok (.ireturn, 1) := by decide +kernel
theorem dX8_readLost_23 : decode cX8_readLost 23 = .ok (.aload_n 0, 1) := by decide +kernel
theorem dX8_readLost_24 : decode cX8_readLost 24 = .ok (.getfield 120, 3) := by decide +kernel
theorem dX8_readLost_27 : decode cX8_readLost 27 = .ok (.istore_n 1, 1) := by decide +kernel
theorem dX8_readLost_28 : decode cX8_readLost 28 = .ok (.aload_n 0, 1) := by decide +kernel
theorem dX8_readLost_29 : decode cX8_readLost 29 = .ok (.iconst 0, 1) := by decide +kernel
theorem dX8_readLost_30 : decode cX8_readLost 30 = .ok (.aload_n 0, 1) := by decide +kernel
theorem dX8_readLost_31 : decode cX8_readLost 31 = .ok (.getfield 18, 3) := by decide +kernel
theorem dX8_readLost_34 : decode cX8_readLost 34 = .ok (.getfield 66, 3) := by decide +kernel
theorem dX8_readLost_37 : decode cX8_readLost 37 = .ok (.iconst 1, 1) := by decide +kernel
theorem dX8_readLost_38 : decode cX8_readLost 38 = .ok (.isub, 1) := by decide +kernel
theorem dX8_readLost_39 : decode cX8_readLost 39 = .ok (.invokevirtual 117, 3) := by decide +kernel
theorem dX8_readLost_42 : decode cX8_readLost 42 = .ok (.ifCond .ne 5, 3) := by decide +kernel
theorem dX8_readLost_45 : decode cX8_readLost 45 = .ok (.iconst 0, 1) := by decide +kernel
theorem dX8_readLost_46 : decode cX8_readLost 46 = .ok (.ireturn, 1) := by decide +kernel
theorem dX8_readLost_47 : decode cX8_readLost 47 = .ok (.aload_n 0, 1) := by decide +kernel
theorem dX8_readLost_48 : decode cX8_readLost 48 = .ok (.getfield 120, 3) := by decide +kernel
theorem dX8_readLost_51 : decode cX8_readLost 51 = .ok (.istore_n 2, 1) := by decide +kernel
theorem dX8_readLost_52 : decode cX8_readLost 52 = .ok (.aload_n 0, 1) := by decide +kernel
theorem dX8_readLost_53 : decode cX8_readLost 53 = .ok (.iconst 0, 1) := by decide +kernel
theorem dX8_readLost_54 : decode cX8_readLost 54 = .ok (.aload_n 0, 1) := by decide +kernel
theorem dX8_readLost_55 : decode cX8_readLost 55 = .ok (.getfield 18, 3) := by decide +kernel
theorem dX8_readLost_58 : decode cX8_readLost 58 = .ok (.getfield 66, 3) := by decide +kernel
theorem dX8_readLost_61 : decode cX8_readLost 61 = .ok (.iconst 1, 1) := by decide +kernel
theorem dX8_readLost_62 : decode cX8_readLost 62 = .ok (.isub, 1) := by decide +kernel
theorem dX8_readLost_63 : decode cX8_readLost 63 = .ok (.invokevirtual 117, 3) := by decide +kernel
theorem dX8_readLost_66 : decode cX8_readLost 66 = .ok (.ifCond .ne 5, 3) := by decide +kernel
theorem dX8_readLost_69 : decode cX8_readLost 69 = .ok (.iconst 0, 1) := by decide +kernel
theorem dX8_readLost_70 : decode cX8_readLost 70 = .ok (.ireturn, 1) := by decide +kernel
theorem dX8_readLost_71 : decode cX8_readLost 71 = .ok (.aload_n 0, 1) := by decide +kernel
theorem dX8_readLost_72 : decode cX8_readLost 72 = .ok (.getfield 18, 3) := by decide +kernel
theorem dX8_readLost_75 : decode cX8_readLost 75 = .ok (.iload_n 2, 1) := by decide +kernel
theorem dX8_readLost_76 : decode cX8_readLost 76 = .ok (.aload_n 0, 1) := by decide +kernel
theorem dX8_readLost_77 : decode cX8_readLost 77 = .ok (.getfield 120, 3) := by decide +kernel
theorem dX8_readLost_80 : decode cX8_readLost 80 = .ok (.invokevirtual 150, 3) := by decide +kernel
theorem dX8_readLost_83 : decode cX8_readLost 83 = .ok (.istore_n 3, 1) := by decide +kernel
theorem dX8_readLost_84 : decode cX8_readLost 84 = .ok (.iload_n 3, 1) := by decide +kernel
theorem dX8_readLost_85 : decode cX8_readLost 85 = .ok (.iconst (-1), 1) := by decide +kernel
theorem dX8_readLost_86 : decode cX8_readLost 86 = .ok (.if_icmp .ne 13, 3) := by decide +kernel
theorem dX8_readLost_89 : decode cX8_readLost 89 = .ok (.aload_n 0, 1) := by decide +kernel
theorem dX8_readLost_90 : decode cX8_readLost 90 = .ok (.iconst 2, 1) := by decide +kernel
theorem dX8_readLost_91 : decode cX8_readLost 91 = .ok (.aload_n 0, 1) := by decide +kernel
theorem dX8_readLost_92 : decode cX8_readLost 92 = .ok (.getfield 154, 3) := by decide +kernel
theorem dX8_readLost_95 : decode cX8_readLost 95 = .ok (.invokevirtual 106, 3) := by decide +kernel
theorem dX8_readLost_98 : decode cX8_readLost 98 = .ok (.ireturn, 1) := by decide +kernel
theorem dX8_readLost_99 : decode cX8_readLost 99 = .ok (.aload_n 0, 1) := by decide +kernel
theorem dX8_readLost_100 : decode cX8_readLost 100 = .ok (.getfield 18, 3) := by decide +kernel
theorem dX8_readLost_103 : decode cX8_readLost 103 = .ok (.getfield 163, 3) := by decide +kernel
theorem dX8_readLost_106 : decode cX8_readLost 106 = .ok (.iconst 2, 1) := by decide +kernel
theorem dX8_readLost_107 : decode cX8_readLost 107 = .ok (.iload_n 3, 1) := by decide +kernel
theorem dX8_readLost_108 : decode cX8_readLost 108 = .ok (.imul, 1) := by decide +kernel
theorem dX8_readLost_109 : decode cX8_readLost 109 = .ok (.iaload, 1) := by decide +kernel
theorem dX8_readLost_110 : decode cX8_readLost 110 = .ok (.iload_n 2, 1) := by decide +kernel
theorem dX8_readLost_111 : decode cX8_readLost 111 = .ok (.if_icmp .ne 7, 3) := by decide +kernel
theorem dX8_readLost_114 : decode cX8_readLost 114 = .ok (.iconst 0, 1) := by decide +kernel
theorem dX8_readLost_115 : decode cX8_readLost 115 = .ok (.goto 4, 3) := by decide +kernel
theorem dX8_readLost_118 : decode cX8_readLost 118 = .ok (.iconst 1, 1) := by decide +kernel
theorem dX8_readLost_119 : decode cX8_readLost 119 = .ok (.istore 4, 2) := by decide +kernel
theorem dX8_readLost_121 : decode cX8_readLost 121 = .ok (.aload_n 0, 1) := by decide +kernel
theorem dX8_readLost_122 : decode cX8_readLost 122 = .ok (.getfield 18, 3) := by decide +kernel
theorem dX8_readLost_125 : decode cX8_readLost 125 = .ok (.getfield 166, 3) := by decide +kernel
theorem dX8_readLost_128 : decode cX8_readLost 128 = .ok (.iconst 2, 1) := by decide +kernel
theorem dX8_readLost_129 : decode cX8_readLost 129 = .ok (.iload_n 3, 1) := by decide +kernel
theorem dX8_readLost_130 : decode cX8_readLost 130 = .ok (.imul, 1) := by decide +kernel
theorem dX8_readLost_131 : decode cX8_readLost 131 = .ok (.iload 4, 2) := by decide +kernel
theorem dX8_readLost_133 : decode cX8_readLost 133 = .ok (.iadd, 1) := by decide +kernel
theorem dX8_readLost_134 : decode cX8_readLost 134 = .ok (.dup2, 1) := by decide +kernel
theorem dX8_readLost_135 : decode cX8_readLost 135 = .ok (.laload, 1) := by decide +kernel
theorem dX8_readLost_136 : decode cX8_readLost 136 = .ok (.lconst 1, 1) := by decide +kernel
theorem dX8_readLost_137 : decode cX8_readLost 137 = .ok (.iload_n 1, 1) := by decide +kernel
theorem dX8_readLost_138 : decode cX8_readLost 138 = .ok (.lshl, 1) := by decide +kernel
theorem dX8_readLost_139 : decode cX8_readLost 139 = .ok (.lor, 1) := by decide +kernel
theorem dX8_readLost_140 : decode cX8_readLost 140 = .ok (.lastore, 1) := by decide +kernel
theorem dX8_readLost_141 : decode cX8_readLost 141 = .ok (.iconst 1, 1) := by decide +kernel
theorem dX8_readLost_142 : decode cX8_readLost 142 = .ok (.ireturn, 1) := by decide +kernel
theorem dX8_readStrike_0 : decode cX8_readStrike 0 = .ok (.aload_n 0, 1) := by decide +kernel
theorem dX8_readStrike_1 : decode cX8_readStrike 1 = .ok (.invokevirtual 38, 3) := by decide +kernel
theorem dX8_readStrike_4 : decode cX8_readStrike 4 = .ok (.aload_n 0, 1) := by decide +kernel
theorem dX8_readStrike_5 : decode cX8_readStrike 5 = .ok (.iconst 0, 1) := by decide +kernel
theorem dX8_readStrike_6 : decode cX8_readStrike 6 = .ok (.aload_n 0, 1) := by decide +kernel
theorem dX8_readStrike_7 : decode cX8_readStrike 7 = .ok (.getfield 18, 3) := by decide +kernel
theorem dX8_readStrike_10 : decode cX8_readStrike 10 = .ok (.getfield 123, 3) := by decide +kernel
theorem dX8_readStrike_13 : decode cX8_readStrike 13 = .ok (.iconst 1, 1) := by decide +kernel
theorem dX8_readStrike_14 : decode cX8_readStrike 14 = .ok (.isub, 1) := by decide +kernel
theorem dX8_readStrike_15 : decode cX8_readStrike 15 = .ok (.invokevirtual 117, 3) := by decide +kernel
theorem dX8_readStrike_18 : decode cX8_readStrike 18 = .ok (.ifCond .ne 5, 3) := by decide +kernel
theorem dX8_readStrike_21 : decode cX8_readStrike 21 = .ok (.iconst 0, 1) := by decide +kernel
theorem dX8_readStrike_22 : decode cX8_readStrike 22 = .ok (.ireturn, 1) := by decide +kernel
theorem dX8_readStrike_23 : decode cX8_readStrike 23 = .ok (.aload_n 0, 1) := by decide +kernel
theorem dX8_readStrike_24 : decode cX8_readStrike 24 = .ok (.getfield 18, 3) := by decide +kernel
theorem dX8_readStrike_27 : decode cX8_readStrike 27 = .ok (.dup, 1) := by decide +kernel
theorem dX8_readStrike_28 : decode cX8_readStrike 28 = .ok (.getfield 169, 3) := by decide +kernel
theorem dX8_readStrike_31 : decode cX8_readStrike 31 = .ok (.lconst 1, 1) := by decide +kernel
theorem dX8_readStrike_32 : decode cX8_readStrike 32 = .ok (.aload_n 0, 1) := by decide +kernel
theorem dX8_readStrike_33 : decode cX8_readStrike 33 = .ok (.getfield 120, 3) := by decide +kernel
theorem dX8_readStrike_36 : decode cX8_readStrike 36 = .ok (.lshl, 1) := by decide +kernel
theorem dX8_readStrike_37 : decode cX8_readStrike 37 = .ok (.lor, 1) := by decide +kernel
theorem dX8_readStrike_38 : decode cX8_readStrike 38 = .ok (.putfield 169, 3) := by decide +kernel
theorem dX8_readStrike_41 : decode cX8_readStrike 41 = .ok (.iconst 1, 1) := by decide +kernel
theorem dX8_readStrike_42 : decode cX8_readStrike 42 = .ok (.ireturn, 1) := by decide +kernel
theorem dX8_readFatal_0 : decode cX8_readFatal 0 = .ok (.aload_n 0, 1) := by decide +kernel
theorem dX8_readFatal_1 : decode cX8_readFatal 1 = .ok (.invokevirtual 38, 3) := by decide +kernel
theorem dX8_readFatal_4 : decode cX8_readFatal 4 = .ok (.aload_n 0, 1) := by decide +kernel
theorem dX8_readFatal_5 : decode cX8_readFatal 5 = .ok (.iconst 0, 1) := by decide +kernel
theorem dX8_readFatal_6 : decode cX8_readFatal 6 = .ok (.aload_n 0, 1) := by decide +kernel
theorem dX8_readFatal_7 : decode cX8_readFatal 7 = .ok (.getfield 18, 3) := by decide +kernel
theorem dX8_readFatal_10 : decode cX8_readFatal 10 = .ok (.getfield 66, 3) := by decide +kernel
theorem dX8_readFatal_13 : decode cX8_readFatal 13 = .ok (.iconst 1, 1) := by decide +kernel
theorem dX8_readFatal_14 : decode cX8_readFatal 14 = .ok (.isub, 1) := by decide +kernel
theorem dX8_readFatal_15 : decode cX8_readFatal 15 = .ok (.invokevirtual 117, 3) := by decide +kernel
theorem dX8_readFatal_18 : decode cX8_readFatal 18 = .ok (.ifCond .ne 5, 3) := by decide +kernel
theorem dX8_readFatal_21 : decode cX8_readFatal 21 = .ok (.iconst 0, 1) := by decide +kernel
theorem dX8_readFatal_22 : decode cX8_readFatal 22 = .ok (.ireturn, 1) := by decide +kernel
theorem dX8_readFatal_23 : decode cX8_readFatal 23 = .ok (.aload_n 0, 1) := by decide +kernel
theorem dX8_readFatal_24 : decode cX8_readFatal 24 = .ok (.getfield 120, 3) := by decide +kernel
theorem dX8_readFatal_27 : decode cX8_readFatal 27 = .ok (.istore_n 2, 1) := by decide +kernel
theorem dX8_readFatal_28 : decode cX8_readFatal 28 = .ok (.aload_n 0, 1) := by decide +kernel
theorem dX8_readFatal_29 : decode cX8_readFatal 29 = .ok (.iconst 0, 1) := by decide +kernel
theorem dX8_readFatal_30 : decode cX8_readFatal 30 = .ok (.aload_n 0, 1) := by decide +kernel
theorem dX8_readFatal_31 : decode cX8_readFatal 31 = .ok (.getfield 18, 3) := by decide +kernel
theorem dX8_readFatal_34 : decode cX8_readFatal 34 = .ok (.getfield 123, 3) := by decide +kernel
theorem dX8_readFatal_37 : decode cX8_readFatal 37 = .ok (.iconst 1, 1) := by decide +kernel
theorem dX8_readFatal_38 : decode cX8_readFatal 38 = .ok (.isub, 1) := by decide +kernel
theorem dX8_readFatal_39 : decode cX8_readFatal 39 = .ok (.invokevirtual 117, 3) := by decide +kernel
theorem dX8_readFatal_42 : decode cX8_readFatal 42 = .ok (.ifCond .ne 5, 3) := by decide +kernel
theorem dX8_readFatal_45 : decode cX8_readFatal 45 = .ok (.iconst 0, 1) := by decide +kernel
theorem dX8_readFatal_46 : decode cX8_readFatal 46 = .ok (.ireturn, 1) := by decide +kernel
theorem dX8_readFatal_47 : decode cX8_readFatal 47 = .ok (.aload_n 1, 1) := by decide +kernel
theorem dX8_readFatal_48 : decode cX8_readFatal 48 = .ok (.iload_n 2, 1) := by decide +kernel
theorem dX8_readFatal_49 : decode cX8_readFatal 49 = .ok (.aload_n 0, 1) := by decide +kernel
theorem dX8_readFatal_50 : decode cX8_readFatal 50 = .ok (.getfield 120, 3) := by decide +kernel
theorem dX8_readFatal_53 : decode cX8_readFatal 53 = .ok (.iastore, 1) := by decide +kernel
theorem dX8_readFatal_54 : decode cX8_readFatal 54 = .ok (.iconst 1, 1) := by decide +kernel
theorem dX8_readFatal_55 : decode cX8_readFatal 55 = .ok (.ireturn, 1) := by decide +kernel
