theorem dX1_goThrough_0 : decode cX1_goThrough 0 = .ok (.aload_n 0, 1) := by decide +kernel
theorem dX1_goThrough_1 : decode cX1_goThrough 1 = .ok (.aload_n 1, 1) := by decide +kernel
theorem dX1_goThrough_2 : decode cX1_goThrough 2 = .ok (.iload_n 2, 1) := by decide +kernel
theorem dX1_goThrough_3 : decode cX1_goThrough 3 = .ok (.iconst 0, 1) := by decide +kernel
theorem dX1_goThrough_4 : decode cX1_goThrough 4 = .ok (.invokevirtual 22, 3) := by decide +kernel
theorem dX1_goThrough_7 : decode cX1_goThrough 7 = .ok (.putfield 28, 3) := by decide +kernel
theorem dX1_goThrough_10 : decode cX1_goThrough 10 = .ok (.aload_n 0, 1) := by decide +kernel
theorem dX1_goThrough_11 : decode cX1_goThrough 11 = .ok (.aload_n 1, 1) := by decide +kernel
theorem dX1_goThrough_12 : decode cX1_goThrough 12 = .ok (.iload_n 2, 1) := by decide +kernel
theorem dX1_goThrough_13 : decode cX1_goThrough 13 = .ok (.iconst 1, 1) := by decide +kernel
theorem dX1_goThrough_14 : decode cX1_goThrough 14 = .ok (.invokevirtual 22, 3) := by decide +kernel
theorem dX1_goThrough_17 : decode cX1_goThrough 17 = .ok (.putfield 32, 3) := by decide +kernel
theorem dX1_goThrough_20 : decode cX1_goThrough 20 = .ok (.aload_n 0, 1) := by decide +kernel
theorem dX1_goThrough_21 : decode cX1_goThrough 21 = .ok (.getfield 9, 3) := by decide +kernel
theorem dX1_goThrough_24 : decode cX1_goThrough 24 = .ok (.iconst 0, 1) := by decide +kernel
theorem dX1_goThrough_25 : decode cX1_goThrough 25 = .ok (.aload_n 1, 1) := by decide +kernel
theorem dX1_goThrough_26 : decode cX1_goThrough 26 = .ok (.getfield 35, 3) := by decide +kernel
theorem dX1_goThrough_29 : decode cX1_goThrough 29 = .ok (.aload_n 1, 1) := by decide +kernel
theorem dX1_goThrough_30 : decode cX1_goThrough 30 = .ok (.getfield 36, 3) := by decide +kernel
theorem dX1_goThrough_33 : decode cX1_goThrough 33 = .ok (.iconst 2, 1) := by decide +kernel
theorem dX1_goThrough_34 : decode cX1_goThrough 34 = .ok (.iload_n 2, 1) := by decide +kernel
theorem dX1_goThrough_35 : decode cX1_goThrough 35 = .ok (.imul, 1) := by decide +kernel
theorem dX1_goThrough_36 : decode cX1_goThrough 36 = .ok (.iaload, 1) := by decide +kernel
theorem dX1_goThrough_37 : decode cX1_goThrough 37 = .ok (.iaload, 1) := by decide +kernel
theorem dX1_goThrough_38 : decode cX1_goThrough 38 = .ok (.iastore, 1) := by decide +kernel
theorem dX1_goThrough_39 : decode cX1_goThrough 39 = .ok (.aload_n 0, 1) := by decide +kernel
theorem dX1_goThrough_40 : decode cX1_goThrough 40 = .ok (.getfield 9, 3) := by decide +kernel
theorem dX1_goThrough_43 : decode cX1_goThrough 43 = .ok (.iconst 1, 1) := by decide +kernel
theorem dX1_goThrough_44 : decode cX1_goThrough 44 = .ok (.aload_n 1, 1) := by decide +kernel
theorem dX1_goThrough_45 : decode cX1_goThrough 45 = .ok (.getfield 35, 3) := by decide +kernel
theorem dX1_goThrough_48 : decode cX1_goThrough 48 = .ok (.aload_n 1, 1) := by decide +kernel
theorem dX1_goThrough_49 : decode cX1_goThrough 49 = .ok (.getfield 36, 3) := by decide +kernel
theorem dX1_goThrough_52 : decode cX1_goThrough 52 = .ok (.iconst 2, 1) := by decide +kernel
theorem dX1_goThrough_53 : decode cX1_goThrough 53 = .ok (.iload_n 2, 1) := by decide +kernel
theorem dX1_goThrough_54 : decode cX1_goThrough 54 = .ok (.imul, 1) := by decide +kernel
theorem dX1_goThrough_55 : decode cX1_goThrough 55 = .ok (.iconst 1, 1) := by decide +kernel
theorem dX1_goThrough_56 : decode cX1_goThrough 56 = .ok (.iadd, 1) := by decide +kernel
theorem dX1_goThrough_57 : decode cX1_goThrough 57 = .ok (.iaload, 1) := by decide +kernel
theorem dX1_goThrough_58 : decode cX1_goThrough 58 = .ok (.iaload, 1) := by decide +kernel
theorem dX1_goThrough_59 : decode cX1_goThrough 59 = .ok (.iastore, 1) := by decide +kernel
theorem dX1_goThrough_60 : decode cX1_goThrough 60 = .ok (.aload_n 0, 1) := by decide +kernel
theorem dX1_goThrough_61 : decode cX1_goThrough 61 = .ok (.lconst 1, 1) := by decide +kernel
theorem dX1_goThrough_62 : decode cX1_goThrough 62 = .ok (.putfield 39, 3) := by decide +kernel
theorem dX1_goThrough_65 : decode cX1_goThrough 65 = .ok (.aload_n 0, 1) := by decide +kernel
theorem dX1_goThrough_66 : decode cX1_goThrough 66 = .ok (.lconst 0, 1) := by decide +kernel
theorem dX1_goThrough_67 : decode cX1_goThrough 67 = .ok (.putfield 43, 3) := by decide +kernel
theorem dX1_goThrough_70 : decode cX1_goThrough 70 = .ok (.aload_n 0, 1) := by decide +kernel
theorem dX1_goThrough_71 : decode cX1_goThrough 71 = .ok (.getfield 15, 3) := by decide +kernel
theorem dX1_goThrough_74 : decode cX1_goThrough 74 = .ok (.lconst 0, 1) := by decide +kernel
theorem dX1_goThrough_75 : decode cX1_goThrough 75 = .ok (.invokestatic 46, 3) := by decide +kernel
theorem dX1_goThrough_78 : decode cX1_goThrough 78 = .ok (.aload_n 0, 1) := by decide +kernel
theorem dX1_goThrough_79 : decode cX1_goThrough 79 = .ok (.getfield 15, 3) := by decide +kernel
theorem dX1_goThrough_82 : decode cX1_goThrough 82 = .ok (.aload_n 1, 1) := by decide +kernel
theorem dX1_goThrough_83 : decode cX1_goThrough 83 = .ok (.getfield 52, 3) := by decide +kernel
theorem dX1_goThrough_86 : decode cX1_goThrough 86 = .ok (.iload_n 2, 1) := by decide +kernel
theorem dX1_goThrough_87 : decode cX1_goThrough 87 = .ok (.iaload, 1) := by decide +kernel
theorem dX1_goThrough_88 : decode cX1_goThrough 88 = .ok (.lconst 1, 1) := by decide +kernel
theorem dX1_goThrough_89 : decode cX1_goThrough 89 = .ok (.lastore, 1) := by decide +kernel
theorem dX1_goThrough_90 : decode cX1_goThrough 90 = .ok (.iconst 0, 1) := by decide +kernel
theorem dX1_goThrough_91 : decode cX1_goThrough 91 = .ok (.istore 4, 2) := by decide +kernel
theorem dX1_goThrough_93 : decode cX1_goThrough 93 = .ok (.iload 4, 2) := by decide +kernel
theorem dX1_goThrough_95 : decode cX1_goThrough 95 = .ok (.iload_n 3, 1) := by decide +kernel
theorem dX1_goThrough_96 : decode cX1_goThrough 96 = .ok (.if_icmp .ge 13, 3) := by decide +kernel
theorem dX1_goThrough_99 : decode cX1_goThrough 99 = .ok (.aload_n 0, 1) := by decide +kernel
theorem dX1_goThrough_100 : decode cX1_goThrough 100 = .ok (.invokevirtual 55, 3) := by decide +kernel
theorem dX1_goThrough_103 : decode cX1_goThrough 103 = .ok (.iinc 4 1, 3) := by decide +kernel
theorem dX1_goThrough_106 : decode cX1_goThrough 106 = .ok (.goto (-13), 3) := by decide +kernel
theorem dX1_goThrough_109 : decode cX1_goThrough 109 = .ok (.return_, 1) := by decide +kernel
theorem dX8_push_0 : decode cX8_push 0 = .ok (.bipush 24, 2) := by decide +kernel
theorem dX8_push_2 : decode cX8_push 2 = .ok (.istore_n 2, 1) := by decide +kernel
theorem dX8_push_3 : decode cX8_push 3 = .ok (.iload_n 2, 1) := by decide +kernel
theorem dX8_push_4 : decode cX8_push 4 = .ok (.ifCond .lt 42, 3) := by decide +kernel
theorem dX8_push_7 : decode cX8_push 7 = .ok (.aload_n 0, 1) := by decide +kernel
theorem dX8_push_8 : decode cX8_push 8 = .ok (.getfield 9, 3) := by decide +kernel
theorem dX8_push_11 : decode cX8_push 11 = .ok (.sipush 1600, 3) := by decide +kernel
theorem dX8_push_14 : decode cX8_push 14 = .ok (.if_icmp .ge 32, 3) := by decide +kernel
theorem dX8_push_17 : decode cX8_push 17 = .ok (.aload_n 0, 1) := by decide +kernel
theorem dX8_push_18 : decode cX8_push 18 = .ok (.getfield 28, 3) := by decide +kernel
theorem dX8_push_21 : decode cX8_push 21 = .ok (.aload_n 0, 1) := by decide +kernel
theorem dX8_push_22 : decode cX8_push 22 = .ok (.getfield 9, 3) := by decide +kernel
theorem dX8_push_25 : decode cX8_push 25 = .ok (.iload_n 1, 1) := by decide +kernel
theorem dX8_push_26 : decode cX8_push 26 = .ok (.iload_n 2, 1) := by decide +kernel
theorem dX8_push_27 : decode cX8_push 27 = .ok (.ishr, 1) := by decide +kernel
theorem dX8_push_28 : decode cX8_push 28 = .ok (.i2b, 1) := by decide +kernel
theorem dX8_push_29 : decode cX8_push 29 = .ok (.bastore, 1) := by decide +kernel
theorem dX8_push_30 : decode cX8_push 30 = .ok (.aload_n 0, 1) := by decide +kernel
theorem dX8_push_31 : decode cX8_push 31 = .ok (.dup, 1) := by decide +kernel
theorem dX8_push_32 : decode cX8_push 32 = .ok (.getfield 9, 3) := by decide +kernel
theorem dX8_push_35 : decode cX8_push 35 = .ok (.iconst 1, 1) := by decide +kernel
theorem dX8_push_36 : decode cX8_push 36 = .ok (.iadd, 1) := by decide +kernel
theorem dX8_push_37 : decode cX8_push 37 = .ok (.putfield 9, 3) := by decide +kernel
theorem dX8_push_40 : decode cX8_push 40 = .ok (.iinc 2 (-8), 3) := by decide +kernel
theorem dX8_push_43 : decode cX8_push 43 = .ok (.goto (-40), 3) := by decide +kernel
theorem dX8_push_46 : decode cX8_push 46 = .ok (.return_, 1) := by decide +kernel
theorem dX8_refuse_0 : decode cX8_refuse 0 = .ok (.aload_n 0, 1) := by decide +kernel
theorem dX8_refuse_1 : decode cX8_refuse 1 = .ok (.iload_n 1, 1) := by decide +kernel
theorem dX8_refuse_2 : decode cX8_refuse 2 = .ok (.putfield 22, 3) := by decide +kernel
theorem dX8_refuse_5 : decode cX8_refuse 5 = .ok (.aload_n 0, 1) := by decide +kernel
theorem dX8_refuse_6 : decode cX8_refuse 6 = .ok (.iload_n 2, 1) := by decide +kernel
theorem dX8_refuse_7 : decode cX8_refuse 7 = .ok (.putfield 25, 3) := by decide +kernel
theorem dX8_refuse_10 : decode cX8_refuse 10 = .ok (.iconst 0, 1) := by decide +kernel
theorem dX8_refuse_11 : decode cX8_refuse 11 = .ok (.ireturn, 1) := by decide +kernel
theorem dX8_valueOfToken_0 : decode cX8_valueOfToken 0 = .ok (.iconst 0, 1) := by decide +kernel
theorem dX8_valueOfToken_1 : decode cX8_valueOfToken 1 = .ok (.istore_n 1, 1) := by decide +kernel
theorem dX8_valueOfToken_2 : decode cX8_valueOfToken 2 = .ok (.aload_n 0, 1) := by decide +kernel
theorem dX8_valueOfToken_3 : decode cX8_valueOfToken 3 = .ok (.getfield 103, 3) := by decide +kernel
theorem dX8_valueOfToken_6 : decode cX8_valueOfToken 6 = .ok (.istore_n 2, 1) := by decide +kernel
theorem dX8_valueOfToken_7 : decode cX8_valueOfToken 7 = .ok (.iload_n 2, 1) := by decide +kernel
theorem dX8_valueOfToken_8 : decode cX8_valueOfToken 8 = .ok (.aload_n 0, 1) := by decide +kernel
theorem dX8_valueOfToken_9 : decode cX8_valueOfToken 9 = .ok (.getfield 35, 3) := by decide +kernel
theorem dX8_valueOfToken_12 : decode cX8_valueOfToken 12 = .ok (.if_icmp .ge 29, 3) := by decide +kernel
theorem dX8_valueOfToken_15 : decode cX8_valueOfToken 15 = .ok (.sipush 1000, 3) := by decide +kernel
theorem dX8_valueOfToken_18 : decode cX8_valueOfToken 18 = .ok (.bipush 10, 2) := by decide +kernel
theorem dX8_valueOfToken_20 : decode cX8_valueOfToken 20 = .ok (.iload_n 1, 1) := by decide +kernel
theorem dX8_valueOfToken_21 : decode cX8_valueOfToken 21 = .ok (.imul, 1) := by decide +kernel
theorem dX8_valueOfToken_22 : decode cX8_valueOfToken 22 = .ok (.aload_n 0, 1) := by decide +kernel
theorem dX8_valueOfToken_23 : decode cX8_valueOfToken 23 = .ok (.iload_n 2, 1) := by decide +kernel
theorem dX8_valueOfToken_24 : decode cX8_valueOfToken 24 = .ok (.invokevirtual 181, 3) := by decide +kernel
theorem dX8_valueOfToken_27 : decode cX8_valueOfToken 27 = .ok (.iadd, 1) := by decide +kernel
theorem dX8_valueOfToken_28 : decode cX8_valueOfToken 28 = .ok (.bipush 48, 2) := by decide +kernel
theorem dX8_valueOfToken_30 : decode cX8_valueOfToken 30 = .ok (.isub, 1) := by decide +kernel
theorem dX8_valueOfToken_31 : decode cX8_valueOfToken 31 = .ok (.invokestatic 189, 3) := by decide +kernel
theorem dX8_valueOfToken_34 : decode cX8_valueOfToken 34 = .ok (.istore_n 1, 1) := by decide +kernel
theorem dX8_valueOfToken_35 : decode cX8_valueOfToken 35 = .ok (.iinc 2 1, 3) := by decide +kernel
theorem dX8_valueOfToken_38 : decode cX8_valueOfToken 38 = .ok (.goto (-31), 3) := by decide +kernel
theorem dX8_valueOfToken_41 : decode cX8_valueOfToken 41 = .ok (.iload_n 1, 1) := by decide +kernel
theorem dX8_valueOfToken_42 : decode cX8_valueOfToken 42 = .ok (.ireturn, 1) := by decide +kernel
theorem dX8_goToNext_0 : decode cX8_goToNext 0 = .ok (.aload_n 0, 1) := by decide +kernel
theorem dX8_goToNext_1 : decode cX8_goToNext 1 = .ok (.getfield 35, 3) := by decide +kernel
theorem dX8_goToNext_4 : decode cX8_goToNext 4 = .ok (.aload_n 0, 1) := by decide +kernel
theorem dX8_goToNext_5 : decode cX8_goToNext 5 = .ok (.getfield 9, 3) := by decide +kernel
theorem dX8_goToNext_8 : decode cX8_goToNext 8 = .ok (.if_icmp .ge 30, 3) := by decide +kernel
theorem dX8_goToNext_11 : decode cX8_goToNext 11 = .ok (.aload_n 0, 1) := by decide +kernel
theorem dX8_goToNext_12 : decode cX8_goToNext 12 = .ok (.aload_n 0, 1) := by decide +kernel
theorem dX8_goToNext_13 : decode cX8_goToNext 13 = .ok (.getfield 35, 3) := by decide +kernel
theorem dX8_goToNext_16 : decode cX8_goToNext 16 = .ok (.invokevirtual 181, 3) := by decide +kernel
theorem dX8_goToNext_19 : decode cX8_goToNext 19 = .ok (.invokestatic 194, 3) := by decide +kernel
theorem dX8_goToNext_22 : decode cX8_goToNext 22 = .ok (.ifCond .eq 16, 3) := by decide +kernel
theorem dX8_goToNext_25 : decode cX8_goToNext 25 = .ok (.aload_n 0, 1) := by decide +kernel
theorem dX8_goToNext_26 : decode cX8_goToNext 26 = .ok (.dup, 1) := by decide +kernel
theorem dX8_goToNext_27 : decode cX8_goToNext 27 = .ok (.getfield 35, 3) := by decide +kernel
theorem dX8_goToNext_30 : decode cX8_goToNext 30 = .ok (.iconst 1, 1) := by decide +kernel
theorem dX8_goToNext_31 : decode cX8_goToNext 31 = .ok (.iadd, 1) := by decide +kernel
theorem dX8_goToNext_32 : decode cX8_goToNext 32 = .ok (.putfield 35, 3) := by decide +kernel
theorem dX8_goToNext_35 : decode cX8_goToNext 35 = .ok (.goto (-35), 3) := by decide +kernel
theorem dX8_goToNext_38 : decode cX8_goToNext 38 = .ok (.aload_n 0, 1) := by decide +kernel
theorem dX8_goToNext_39 : decode cX8_goToNext 39 = .ok (.aload_n 0, 1) := by decide +kernel
theorem dX8_goToNext_40 : decode cX8_goToNext 40 = .ok (.getfield 35, 3) := by decide +kernel
theorem dX8_goToNext_43 : decode cX8_goToNext 43 = .ok (.putfield 103, 3) := by decide +kernel
theorem dX8_goToNext_46 : decode cX8_goToNext 46 = .ok (.aload_n 0, 1) := by decide +kernel
theorem dX8_goToNext_47 : decode cX8_goToNext 47 = .ok (.aload_n 0, 1) := by decide +kernel
theorem dX8_goToNext_48 : decode cX8_goToNext 48 = .ok (.getfield 35, 3) := by decide +kernel
theorem dX8_goToNext_51 : decode cX8_goToNext 51 = .ok (.aload_n 0, 1) := by decide +kernel
theorem dX8_goToNext_52 : decode cX8_goToNext 52 = .ok (.getfield 9, 3) := by decide +kernel
theorem dX8_goToNext_55 : decode cX8_goToNext 55 = .ok (.if_icmp .ge 17, 3) := by decide +kernel
theorem dX8_goToNext_58 : decode cX8_goToNext 58 = .ok (.aload_n 0, 1) := by decide +kernel
theorem dX8_goToNext_59 : decode cX8_goToNext 59 = .ok (.aload_n 0, 1) := by decide +kernel
theorem dX8_goToNext_60 : decode cX8_goToNext 60 = .ok (.getfield 35, 3) := by decide +kernel
theorem dX8_goToNext_63 : decode cX8_goToNext 63 = .ok (.invokevirtual 181, 3) := by decide +kernel
theorem dX8_goToNext_66 : decode cX8_goToNext 66 = .ok (.invokestatic 197, 3) := by decide +kernel
theorem dX8_goToNext_69 : decode cX8_goToNext 69 = .ok (.goto 4, 3) := by decide +kernel
theorem dX8_goToNext_72 : decode cX8_goToNext 72 = .ok (.iconst 0, 1) := by decide +kernel
theorem dX8_goToNext_73 : decode cX8_goToNext 73 = .ok (.putfield 41, 3) := by decide +kernel
theorem dX8_goToNext_76 : decode cX8_goToNext 76 = .ok (.aload_n 0, 1) := by decide +kernel
theorem dX8_goToNext_77 : decode cX8_goToNext 77 = .ok (.getfield 41, 3) := by decide +kernel
theorem dX8_goToNext_80 : decode cX8_goToNext 80 = .ok (.iconst 1, 1) := by decide +kernel
theorem dX8_goToNext_81 : decode cX8_goToNext 81 = .ok (.if_icmp .eq 11, 3) := by decide +kernel
theorem dX8_goToNext_84 : decode cX8_goToNext 84 = .ok (.aload_n 0, 1) := by decide +kernel
theorem dX8_goToNext_85 : decode cX8_goToNext 85 = .ok (.getfield 41, 3) := by decide +kernel
theorem dX8_goToNext_88 : decode cX8_goToNext 88 = .ok (.iconst 2, 1) := by decide +kernel
theorem dX8_goToNext_89 : decode cX8_goToNext 89 = .ok (.if_icmp .ne 45, 3) := by decide +kernel
theorem dX8_goToNext_92 : decode cX8_goToNext 92 = .ok (.aload_n 0, 1) := by decide +kernel
theorem dX8_goToNext_93 : decode cX8_goToNext 93 = .ok (.getfield 35, 3) := by decide +kernel
theorem dX8_goToNext_96 : decode cX8_goToNext 96 = .ok (.aload_n 0, 1) := by decide +kernel
theorem dX8_goToNext_97 : decode cX8_goToNext 97 = .ok (.getfield 9, 3) := by decide +kernel
theorem dX8_goToNext_100 : decode cX8_goToNext 100 = .ok (.if_icmp .ge 51, 3) := by decide +kernel
theorem dX8_goToNext_103 : decode cX8_goToNext 103 = .ok (.aload_n 0, 1) := by decide +kernel
theorem dX8_goToNext_104 : decode cX8_goToNext 104 = .ok (.aload_n 0, 1) := by decide +kernel
theorem dX8_goToNext_105 : decode cX8_goToNext 105 = .ok (.getfield 35, 3) := by decide +kernel
theorem dX8_goToNext_108 : decode cX8_goToNext 108 = .ok (.invokevirtual 181, 3) := by decide +kernel
theorem dX8_goToNext_111 : decode cX8_goToNext 111 = .ok (.invokestatic 197, 3) := by decide +kernel
theorem dX8_goToNext_114 : decode cX8_goToNext 114 = .ok (.aload_n 0, 1) := by decide +kernel
theorem dX8_goToNext_115 : decode cX8_goToNext 115 = .ok (.getfield 41, 3) := by decide +kernel
theorem dX8_goToNext_118 : decode cX8_goToNext 118 = .ok (.if_icmp .ne 33, 3) := by decide +kernel
theorem dX8_goToNext_121 : decode cX8_goToNext 121 = .ok (.aload_n 0, 1) := by decide +kernel
theorem dX8_goToNext_122 : decode cX8_goToNext 122 = .ok (.dup, 1) := by decide +kernel
theorem dX8_goToNext_123 : decode cX8_goToNext 123 = .ok (.getfield 35, 3) := by decide +kernel
theorem dX8_goToNext_126 : decode cX8_goToNext 126 = .ok (.iconst 1, 1) := by decide +kernel
theorem dX8_goToNext_127 : decode cX8_goToNext 127 = .ok (.iadd, 1) := by decide +kernel
theorem dX8_goToNext_128 : decode cX8_goToNext 128 = .ok (.putfield 35, 3) := by decide +kernel
theorem dX8_goToNext_131 : decode cX8_goToNext 131 = .ok (.goto (-39), 3) := by decide +kernel
theorem dX8_goToNext_134 : decode cX8_goToNext 134 = .ok (.aload_n 0, 1) := by decide +kernel
theorem dX8_goToNext_135 : decode cX8_goToNext 135 = .ok (.getfield 41, 3) := by decide +kernel
theorem dX8_goToNext_138 : decode cX8_goToNext 138 = .ok (.ifCond .eq 13, 3) := by decide +kernel
theorem dX8_goToNext_141 : decode cX8_goToNext 141 = .ok (.aload_n 0, 1) := by decide +kernel
theorem dX8_goToNext_142 : decode cX8_goToNext 142 = .ok (.dup, 1) := by decide +kernel
theorem dX8_goToNext_143 : decode cX8_goToNext 143 = .ok (.getfield 35, 3) := by decide +kernel
theorem dX8_goToNext_146 : decode cX8_goToNext 146 = .ok (.iconst 1, 1) := by decide +kernel
theorem dX8_goToNext_147 : decode cX8_goToNext 147 = .ok (.iadd, 1) := by decide +kernel
theorem dX8_goToNext_148 : decode cX8_goToNext 148 = .ok (.putfield 35, 3) := by decide +kernel
theorem dX8_goToNext_151 : decode cX8_goToNext 151 = .ok (.return_, 1) := by decide +kernel
theorem dX8_byteAt_0 : decode cX8_byteAt 0 = .ok (.iload_n 1, 1) := by decide +kernel
theorem dX8_byteAt_1 : decode cX8_byteAt 1 = .ok (.ifCond .lt 19, 3) := by decide +kernel
theorem dX8_byteAt_4 : decode cX8_byteAt 4 = .ok (.iload_n 1, 1) := by decide +kernel
theorem dX8_byteAt_5 : decode cX8_byteAt 5 = .ok (.sipush 1600, 3) := by decide +kernel
theorem dX8_byteAt_8 : decode cX8_byteAt 8 = .ok (.if_icmp .ge 12, 3) := by decide +kernel
theorem dX8_byteAt_11 : decode cX8_byteAt 11 = .ok (.aload_n 0, 1) := by decide +kernel
theorem dX8_byteAt_12 : decode cX8_byteAt 12 = .ok (.getfield 28, 3) := by decide +kernel
theorem dX8_byteAt_15 : decode cX8_byteAt 15 = .ok (.iload_n 1, 1) := by decide +kernel
theorem dX8_byteAt_16 : decode cX8_byteAt 16 = .ok (.baload, 1) := by decide +kernel
theorem dX8_byteAt_17 : decode cX8_byteAt 17 = .ok (.goto 4, 3) := by decide +kernel
theorem dX8_byteAt_20 : decode cX8_byteAt 20 = .ok (.iconst 0, 1) := by decide +kernel
theorem dX8_byteAt_21 : decode cX8_byteAt 21 = .ok (.ireturn, 1) := by decide +kernel
theorem dX8_isBlank_0 : decode cX8_isBlank 0 = .ok (.iload_n 0, 1) := by decide +kernel
theorem dX8_isBlank_1 : decode cX8_isBlank 1 = .ok (.bipush 32, 2) := by decide +kernel
theorem dX8_isBlank_3 : decode cX8_isBlank 3 = .ok (.if_icmp .eq 9, 3) := by decide +kernel
theorem dX8_isBlank_6 : decode cX8_isBlank 6 = .ok (.iload_n 0, 1) := by decide +kernel
theorem dX8_isBlank_7 : decode cX8_isBlank 7 = .ok (.bipush 10, 2) := by decide +kernel
theorem dX8_isBlank_9 : decode cX8_isBlank 9 = .ok (.if_icmp .ne 7, 3) := by decide +kernel
theorem dX8_isBlank_12 : decode cX8_isBlank 12 = .ok (.iconst 1, 1) := by decide +kernel
theorem dX8_isBlank_13 : decode cX8_isBlank 13 = .ok (.goto 4, 3) := by decide +kernel
theorem dX8_isBlank_16 : decode cX8_isBlank 16 = .ok (.iconst 0, 1) := by decide +kernel
theorem dX8_isBlank_17 : decode cX8_isBlank 17 = .ok (.ireturn, 1) := by decide +kernel
theorem dX8_kindOf_0 : decode cX8_kindOf 0 = .ok (.iload_n 0, 1) := by decide +kernel
theorem dX8_kindOf_1 : decode cX8_kindOf 1 = .ok (.bipush 97, 2) := by decide +kernel
theorem dX8_kindOf_3 : decode cX8_kindOf 3 = .ok (.if_icmp .lt 11, 3) := by decide +kernel
theorem dX8_kindOf_6 : decode cX8_kindOf 6 = .ok (.iload_n 0, 1) := by decide +kernel
theorem dX8_kindOf_7 : decode cX8_kindOf 7 = .ok (.bipush 122, 2) := by decide +kernel
theorem dX8_kindOf_9 : decode cX8_kindOf 9 = .ok (.if_icmp .gt 5, 3) := by decide +kernel
theorem dX8_kindOf_12 : decode cX8_kindOf 12 = .ok (.iconst 1, 1) := by decide +kernel
theorem dX8_kindOf_13 : decode cX8_kindOf 13 = .ok (.ireturn, 1) := by decide +kernel
theorem dX8_kindOf_14 : decode cX8_kindOf 14 = .ok (.iload_n 0, 1) := by decide +kernel
theorem dX8_kindOf_15 : decode cX8_kindOf 15 = .ok (.bipush 48, 2) := by decide +kernel
theorem dX8_kindOf_17 : decode cX8_kindOf 17 = .ok (.if_icmp .lt 11, 3) := by decide +kernel
theorem dX8_kindOf_20 : decode cX8_kindOf 20 = .ok (.iload_n 0, 1) := by decide +kernel
theorem dX8_kindOf_21 : decode cX8_kindOf 21 = .ok (.bipush 57, 2) := by decide +kernel
theorem dX8_kindOf_23 : decode cX8_kindOf 23 = .ok (.if_icmp .gt 5, 3) := by decide +kernel
theorem dX8_kindOf_26 : decode cX8_kindOf 26 = .ok (.iconst 2, 1) := by decide +kernel
theorem dX8_kindOf_27 : decode cX8_kindOf 27 = .ok (.ireturn, 1) := by decide +kernel
theorem dX8_kindOf_28 : decode cX8_kindOf 28 = .ok (.iload_n 0, 1) := by decide +kernel
theorem dX8_kindOf_29 : decode cX8_kindOf 29 = .ok (.bipush 59, 2) := by decide +kernel
theorem dX8_kindOf_31 : decode cX8_kindOf 31 = .ok (.if_icmp .ne 7, 3) := by decide +kernel
theorem dX8_kindOf_34 : decode cX8_kindOf 34 = .ok (.iconst 3, 1) := by decide +kernel
theorem dX8_kindOf_35 : decode cX8_kindOf 35 = .ok (.goto 4, 3) := by decide +kernel
theorem dX8_kindOf_38 : decode cX8_kindOf 38 = .ok (.iconst 4, 1) := by decide +kernel
theorem dX8_kindOf_39 : decode cX8_kindOf 39 = .ok (.ireturn, 1) := by decide +kernel
theorem dJ0_length_8abf5_0 : decode cJ0_length_8abf5 0 = .ok (.aload_n 0, 1) := by decide +kernel
theorem dJ0_length_8abf5_1 : decode cJ0_length_8abf5 1 = .ok (.getfield 9, 3) := by decide +kernel
theorem dJ0_length_8abf5_4 : decode cJ0_length_8abf5 4 = .ok (.arraylength, 1) := by decide +kernel
theorem dJ0_length_8abf5_5 : decode cJ0_length_8abf5 5 = .ok (.aload_n 0, 1) := by decide +kernel
theorem dJ0_length_8abf5_6 : decode cJ0_length_8abf5 6 = .ok (.invokevirtual 335, 3) := by decide +kernel
theorem dJ0_length_8abf5_9 : decode cJ0_length_8abf5 9 = .ok (.ishr, 1) := by decide +kernel
theorem dJ0_length_8abf5_10 : decode cJ0_length_8abf5 10 = .ok (.ireturn, 1) := by decide +kernel
theorem dJ0_charAt_5068e_0 : decode cJ0_charAt_5068e 0 = .ok (.aload_n 0, 1) := by decide +kernel
theorem dJ0_charAt_5068e_1 : decode cJ0_charAt_5068e 1 = .ok (.invokevirtual 492, 3) := by decide +kernel
theorem dJ0_charAt_5068e_4 : decode cJ0_charAt_5068e 4 = .ok (.ifCond .eq 12, 3) := by decide +kernel
theorem dJ0_charAt_5068e_7 : decode cJ0_charAt_5068e 7 = .ok (.aload_n 0, 1) := by decide +kernel
theorem dJ0_charAt_5068e_8 : decode cJ0_charAt_5068e 8 = .ok (.getfield 9, 3) := by decide +kernel
theorem dJ0_charAt_5068e_11 : decode cJ0_charAt_5068e 11 = .ok (.iload_n 1, 1) := by decide +kernel
theorem dJ0_charAt_5068e_12 : decode cJ0_charAt_5068e 12 = .ok (.invokestatic 495, 3) := by decide +kernel
theorem dJ0_charAt_5068e_15 : decode cJ0_charAt_5068e 15 = .ok (.ireturn, 1) := by decide +kernel
theorem dJ0_coder_7d493_0 : decode cJ0_coder_7d493 0 = .ok (.getstatic 38, 3) := by decide +kernel
theorem dJ0_coder_7d493_3 : decode cJ0_coder_7d493 3 = .ok (.ifCond .eq 10, 3) := by decide +kernel
theorem dJ0_coder_7d493_6 : decode cJ0_coder_7d493 6 = .ok (.aload_n 0, 1) := by decide +kernel
theorem dJ0_coder_7d493_7 : decode cJ0_coder_7d493 7 = .ok (.getfield 15, 3) := by decide +kernel
theorem dJ0_coder_7d493_10 : decode cJ0_coder_7d493 10 = .ok (.goto 4, 3) := by decide +kernel
theorem dJ0_coder_7d493_14 : decode cJ0_coder_7d493 14 = .ok (.ireturn, 1) := by decide +kernel
theorem dJ0_isLatin1_aae02_0 : decode cJ0_isLatin1_aae02 0 = .ok (.getstatic 38, 3) := by decide +kernel
theorem dJ0_isLatin1_aae02_3 : decode cJ0_isLatin1_aae02 3 = .ok (.ifCond .eq 14, 3) := by decide +kernel
theorem dJ0_isLatin1_aae02_6 : decode cJ0_isLatin1_aae02 6 = .ok (.aload_n 0, 1) := by decide +kernel
theorem dJ0_isLatin1_aae02_7 : decode cJ0_isLatin1_aae02 7 = .ok (.getfield 15, 3) := by decide +kernel
theorem dJ0_isLatin1_aae02_10 : decode cJ0_isLatin1_aae02 10 = .ok (.ifCond .ne 7, 3) := by decide +kernel
theorem dJ0_isLatin1_aae02_13 : decode cJ0_isLatin1_aae02 13 = .ok (.iconst 1, 1) := by decide +kernel
theorem dJ0_isLatin1_aae02_14 : decode cJ0_isLatin1_aae02 14 = .ok (.goto 4, 3) := by decide +kernel
theorem dJ0_isLatin1_aae02_18 : decode cJ0_isLatin1_aae02 18 = .ok (.ireturn, 1) := by decide +kernel
theorem dJ0_checkIndex_df160_0 : decode cJ0_checkIndex_df160 0 = .ok (.iload_n 0, 1) := by decide +kernel
theorem dJ0_checkIndex_df160_1 : decode cJ0_checkIndex_df160 1 = .ok (.iload_n 1, 1) := by decide +kernel
theorem dJ0_checkIndex_df160_2 : decode cJ0_checkIndex_df160 2 = .ok (.getstatic 1053, 3) := by decide +kernel
theorem dJ0_checkIndex_df160_5 : decode cJ0_checkIndex_df160 5 = .ok (.invokestatic 1059, 3) := by decide +kernel
theorem dJ0_checkIndex_df160_8 : decode cJ0_checkIndex_df160 8 = .ok (.pop, 1) := by decide +kernel
theorem dJ0_checkIndex_df160_9 : decode cJ0_checkIndex_df160 9 = .ok (.return_, 1) := by decide +kernel
theorem dJ1_charAt_3b067_0 : decode cJ1_charAt_3b067 0 = .ok (.iload_n 1, 1) := by decide +kernel
theorem dJ1_charAt_3b067_1 : decode cJ1_charAt_3b067 1 = .ok (.aload_n 0, 1) := by decide +kernel
theorem dJ1_charAt_3b067_2 : decode cJ1_charAt_3b067 2 = .ok (.arraylength, 1) := by decide +kernel
theorem dJ1_charAt_3b067_3 : decode cJ1_charAt_3b067 3 = .ok (.invokestatic 9, 3) := by decide +kernel
theorem dJ1_charAt_3b067_6 : decode cJ1_charAt_3b067 6 = .ok (.aload_n 0, 1) := by decide +kernel
theorem dJ1_charAt_3b067_7 : decode cJ1_charAt_3b067 7 = .ok (.iload_n 1, 1) := by decide +kernel
theorem dJ1_charAt_3b067_8 : decode cJ1_charAt_3b067 8 = .ok (.baload, 1) := by decide +kernel
theorem dJ1_charAt_3b067_9 : decode cJ1_charAt_3b067 9 = .ok (.sipush 255, 3) := by decide +kernel
theorem dJ1_charAt_3b067_12 : decode cJ1_charAt_3b067 12 = .ok (.iand, 1) := by decide +kernel
theorem dJ1_charAt_3b067_13 : decode cJ1_charAt_3b067 13 = .ok (.i2c, 1) := by decide +kernel
theorem dJ1_charAt_3b067_14 : decode cJ1_charAt_3b067 14 = .ok (.ireturn, 1) := by decide +kernel
theorem dJ3_checkIndex_8e157_0 : decode cJ3_checkIndex_8e157 0 = .ok (.iload_n 0, 1) := by decide +kernel
theorem dJ3_checkIndex_8e157_1 : decode cJ3_checkIndex_8e157 1 = .ok (.ifCond .lt 8, 3) := by decide +kernel
theorem dJ3_checkIndex_8e157_4 : decode cJ3_checkIndex_8e157 4 = .ok (.iload_n 0, 1) := by decide +kernel
theorem dJ3_checkIndex_8e157_5 : decode cJ3_checkIndex_8e157 5 = .ok (.iload_n 1, 1) := by decide +kernel
theorem dJ3_checkIndex_8e157_6 : decode cJ3_checkIndex_8e157 6 = .ok (.if_icmp .lt 10, 3) := by decide +kernel
theorem dJ3_checkIndex_8e157_16 : decode cJ3_checkIndex_8e157 16 = .ok (.iload_n 0, 1) := by decide +kernel
theorem dJ3_checkIndex_8e157_17 : decode cJ3_checkIndex_8e157 17 = .ok (.ireturn, 1) := by decide +kernel
