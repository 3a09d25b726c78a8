theorem dX11_odd_0 : decode cX11_odd 0 = .ok (.aload_n 0, 1) := by decide +kernel
theorem dX11_odd_1 : decode cX11_odd 1 = .ok (.iload_n 1, 1) := by decide +kernel
theorem dX11_odd_2 : decode cX11_odd 2 = .ok (.iload_n 2, 1) := by decide +kernel
theorem dX11_odd_3 : decode cX11_odd 3 = .ok (.invokevirtual 325, 3) := by decide +kernel
theorem dX11_odd_6 : decode cX11_odd 6 = .ok (.istore_n 3, 1) := by decide +kernel
theorem dX11_odd_7 : decode cX11_odd 7 = .ok (.iload_n 3, 1) := by decide +kernel
theorem dX11_odd_8 : decode cX11_odd 8 = .ok (.ifCond .eq 5, 3) := by decide +kernel
theorem dX11_odd_11 : decode cX11_odd 11 = .ok (.iload_n 3, 1) := by decide +kernel
theorem dX11_odd_12 : decode cX11_odd 12 = .ok (.ireturn, 1) := by decide +kernel
theorem dX11_odd_13 : decode cX11_odd 13 = .ok (.aload_n 0, 1) := by decide +kernel
theorem dX11_odd_14 : decode cX11_odd 14 = .ok (.invokevirtual 159, 3) := by decide +kernel
theorem dX11_odd_17 : decode cX11_odd 17 = .ok (.astore 4, 2) := by decide +kernel
theorem dX11_odd_19 : decode cX11_odd 19 = .ok (.iconst 0, 1) := by decide +kernel
theorem dX11_odd_20 : decode cX11_odd 20 = .ok (.istore 5, 2) := by decide +kernel
theorem dX11_odd_22 : decode cX11_odd 22 = .ok (.iload 5, 2) := by decide +kernel
theorem dX11_odd_24 : decode cX11_odd 24 = .ok (.aload_n 0, 1) := by decide +kernel
theorem dX11_odd_25 : decode cX11_odd 25 = .ok (.getfield 65, 3) := by decide +kernel
theorem dX11_odd_28 : decode cX11_odd 28 = .ok (.getfield 339, 3) := by decide +kernel
theorem dX11_odd_31 : decode cX11_odd 31 = .ok (.iload_n 1, 1) := by decide +kernel
theorem dX11_odd_32 : decode cX11_odd 32 = .ok (.iaload, 1) := by decide +kernel
theorem dX11_odd_33 : decode cX11_odd 33 = .ok (.if_icmp .ge 131, 3) := by decide +kernel
theorem dX11_odd_36 : decode cX11_odd 36 = .ok (.aload_n 0, 1) := by decide +kernel
theorem dX11_odd_37 : decode cX11_odd 37 = .ok (.getfield 65, 3) := by decide +kernel
theorem dX11_odd_40 : decode cX11_odd 40 = .ok (.iload_n 1, 1) := by decide +kernel
theorem dX11_odd_41 : decode cX11_odd 41 = .ok (.iload 5, 2) := by decide +kernel
theorem dX11_odd_43 : decode cX11_odd 43 = .ok (.invokevirtual 342, 3) := by decide +kernel
theorem dX11_odd_46 : decode cX11_odd 46 = .ok (.l2i, 1) := by decide +kernel
theorem dX11_odd_47 : decode cX11_odd 47 = .ok (.istore 6, 2) := by decide +kernel
theorem dX11_odd_49 : decode cX11_odd 49 = .ok (.aload 4, 2) := by decide +kernel
theorem dX11_odd_51 : decode cX11_odd 51 = .ok (.getfield 174, 3) := by decide +kernel
theorem dX11_odd_54 : decode cX11_odd 54 = .ok (.iconst 2, 1) := by decide +kernel
theorem dX11_odd_55 : decode cX11_odd 55 = .ok (.iload_n 2, 1) := by decide +kernel
theorem dX11_odd_56 : decode cX11_odd 56 = .ok (.imul, 1) := by decide +kernel
theorem dX11_odd_57 : decode cX11_odd 57 = .ok (.laload, 1) := by decide +kernel
theorem dX11_odd_58 : decode cX11_odd 58 = .ok (.iload 6, 2) := by decide +kernel
theorem dX11_odd_60 : decode cX11_odd 60 = .ok (.invokestatic 167, 3) := by decide +kernel
theorem dX11_odd_63 : decode cX11_odd 63 = .ok (.aload_n 0, 1) := by decide +kernel
theorem dX11_odd_64 : decode cX11_odd 64 = .ok (.getfield 65, 3) := by decide +kernel
theorem dX11_odd_67 : decode cX11_odd 67 = .ok (.iload_n 1, 1) := by decide +kernel
theorem dX11_odd_68 : decode cX11_odd 68 = .ok (.iload 5, 2) := by decide +kernel
theorem dX11_odd_70 : decode cX11_odd 70 = .ok (.iconst 1, 1) := by decide +kernel
theorem dX11_odd_71 : decode cX11_odd 71 = .ok (.iadd, 1) := by decide +kernel
theorem dX11_odd_72 : decode cX11_odd 72 = .ok (.invokevirtual 342, 3) := by decide +kernel
theorem dX11_odd_75 : decode cX11_odd 75 = .ok (.lconst 1, 1) := by decide +kernel
theorem dX11_odd_76 : decode cX11_odd 76 = .ok (.lcmp, 1) := by decide +kernel
theorem dX11_odd_77 : decode cX11_odd 77 = .ok (.ifCond .ne 7, 3) := by decide +kernel
theorem dX11_odd_80 : decode cX11_odd 80 = .ok (.iconst 1, 1) := by decide +kernel
theorem dX11_odd_81 : decode cX11_odd 81 = .ok (.goto 4, 3) := by decide +kernel
theorem dX11_odd_84 : decode cX11_odd 84 = .ok (.iconst 0, 1) := by decide +kernel
theorem dX11_odd_85 : decode cX11_odd 85 = .ok (.if_icmp .ne 7, 3) := by decide +kernel
theorem dX11_odd_88 : decode cX11_odd 88 = .ok (.iconst 1, 1) := by decide +kernel
theorem dX11_odd_89 : decode cX11_odd 89 = .ok (.goto 4, 3) := by decide +kernel
theorem dX11_odd_92 : decode cX11_odd 92 = .ok (.iconst 0, 1) := by decide +kernel
theorem dX11_odd_93 : decode cX11_odd 93 = .ok (.istore 7, 2) := by decide +kernel
theorem dX11_odd_95 : decode cX11_odd 95 = .ok (.aload 4, 2) := by decide +kernel
theorem dX11_odd_97 : decode cX11_odd 97 = .ok (.getfield 174, 3) := by decide +kernel
theorem dX11_odd_100 : decode cX11_odd 100 = .ok (.iconst 2, 1) := by decide +kernel
theorem dX11_odd_101 : decode cX11_odd 101 = .ok (.iload_n 2, 1) := by decide +kernel
theorem dX11_odd_102 : decode cX11_odd 102 = .ok (.imul, 1) := by decide +kernel
theorem dX11_odd_103 : decode cX11_odd 103 = .ok (.iconst 1, 1) := by decide +kernel
theorem dX11_odd_104 : decode cX11_odd 104 = .ok (.iadd, 1) := by decide +kernel
theorem dX11_odd_105 : decode cX11_odd 105 = .ok (.laload, 1) := by decide +kernel
theorem dX11_odd_106 : decode cX11_odd 106 = .ok (.iload 6, 2) := by decide +kernel
theorem dX11_odd_108 : decode cX11_odd 108 = .ok (.invokestatic 167, 3) := by decide +kernel
theorem dX11_odd_111 : decode cX11_odd 111 = .ok (.aload_n 0, 1) := by decide +kernel
theorem dX11_odd_112 : decode cX11_odd 112 = .ok (.getfield 65, 3) := by decide +kernel
theorem dX11_odd_115 : decode cX11_odd 115 = .ok (.iload_n 1, 1) := by decide +kernel
theorem dX11_odd_116 : decode cX11_odd 116 = .ok (.iload 5, 2) := by decide +kernel
theorem dX11_odd_118 : decode cX11_odd 118 = .ok (.iconst 2, 1) := by decide +kernel
theorem dX11_odd_119 : decode cX11_odd 119 = .ok (.iadd, 1) := by decide +kernel
theorem dX11_odd_120 : decode cX11_odd 120 = .ok (.invokevirtual 342, 3) := by decide +kernel
theorem dX11_odd_123 : decode cX11_odd 123 = .ok (.lconst 1, 1) := by decide +kernel
theorem dX11_odd_124 : decode cX11_odd 124 = .ok (.lcmp, 1) := by decide +kernel
theorem dX11_odd_125 : decode cX11_odd 125 = .ok (.ifCond .ne 7, 3) := by decide +kernel
theorem dX11_odd_128 : decode cX11_odd 128 = .ok (.iconst 1, 1) := by decide +kernel
theorem dX11_odd_129 : decode cX11_odd 129 = .ok (.goto 4, 3) := by decide +kernel
theorem dX11_odd_132 : decode cX11_odd 132 = .ok (.iconst 0, 1) := by decide +kernel
theorem dX11_odd_133 : decode cX11_odd 133 = .ok (.if_icmp .ne 7, 3) := by decide +kernel
theorem dX11_odd_136 : decode cX11_odd 136 = .ok (.iconst 1, 1) := by decide +kernel
theorem dX11_odd_137 : decode cX11_odd 137 = .ok (.goto 4, 3) := by decide +kernel
theorem dX11_odd_140 : decode cX11_odd 140 = .ok (.iconst 0, 1) := by decide +kernel
theorem dX11_odd_141 : decode cX11_odd 141 = .ok (.istore 8, 2) := by decide +kernel
theorem dX11_odd_143 : decode cX11_odd 143 = .ok (.iload 7, 2) := by decide +kernel
theorem dX11_odd_145 : decode cX11_odd 145 = .ok (.ifCond .eq 8, 3) := by decide +kernel
theorem dX11_odd_148 : decode cX11_odd 148 = .ok (.iload 8, 2) := by decide +kernel
theorem dX11_odd_150 : decode cX11_odd 150 = .ok (.ifCond .ne 8, 3) := by decide +kernel
theorem dX11_odd_153 : decode cX11_odd 153 = .ok (.iload 5, 2) := by decide +kernel
theorem dX11_odd_155 : decode cX11_odd 155 = .ok (.iconst 3, 1) := by decide +kernel
theorem dX11_odd_156 : decode cX11_odd 156 = .ok (.idiv, 1) := by decide +kernel
theorem dX11_odd_157 : decode cX11_odd 157 = .ok (.ireturn, 1) := by decide +kernel
theorem dX11_odd_158 : decode cX11_odd 158 = .ok (.iinc 5 3, 3) := by decide +kernel
theorem dX11_odd_161 : decode cX11_odd 161 = .ok (.goto (-139), 3) := by decide +kernel
theorem dX11_odd_164 : decode cX11_odd 164 = .ok (.iconst (-1), 1) := by decide +kernel
theorem dX11_odd_165 : decode cX11_odd 165 = .ok (.ireturn, 1) := by decide +kernel
theorem dX11_life_0 : decode cX11_life 0 = .ok (.aload_n 0, 1) := by decide +kernel
theorem dX11_life_1 : decode cX11_life 1 = .ok (.getfield 19, 3) := by decide +kernel
theorem dX11_life_4 : decode cX11_life 4 = .ok (.invokevirtual 220, 3) := by decide +kernel
theorem dX11_life_7 : decode cX11_life 7 = .ok (.ifCond .eq 18, 3) := by decide +kernel
theorem dX11_life_10 : decode cX11_life 10 = .ok (.iload_n 1, 1) := by decide +kernel
theorem dX11_life_11 : decode cX11_life 11 = .ok (.invokestatic 346, 3) := by decide +kernel
theorem dX11_life_14 : decode cX11_life 14 = .ok (.ifCond .eq 11, 3) := by decide +kernel
theorem dX11_life_17 : decode cX11_life 17 = .ok (.iload_n 2, 1) := by decide +kernel
theorem dX11_life_18 : decode cX11_life 18 = .ok (.iconst 3, 1) := by decide +kernel
theorem dX11_life_19 : decode cX11_life 19 = .ok (.invokestatic 148, 3) := by decide +kernel
theorem dX11_life_22 : decode cX11_life 22 = .ok (.ifCond .ne 6, 3) := by decide +kernel
theorem dX11_life_25 : decode cX11_life 25 = .ok (.bipush (-2), 2) := by decide +kernel
theorem dX11_life_27 : decode cX11_life 27 = .ok (.ireturn, 1) := by decide +kernel
theorem dX11_life_28 : decode cX11_life 28 = .ok (.aload_n 0, 1) := by decide +kernel
theorem dX11_life_29 : decode cX11_life 29 = .ok (.getfield 79, 3) := by decide +kernel
theorem dX11_life_32 : decode cX11_life 32 = .ok (.aload_n 0, 1) := by decide +kernel
theorem dX11_life_33 : decode cX11_life 33 = .ok (.getfield 19, 3) := by decide +kernel
theorem dX11_life_36 : decode cX11_life 36 = .ok (.iload_n 1, 1) := by decide +kernel
theorem dX11_life_37 : decode cX11_life 37 = .ok (.invokevirtual 349, 3) := by decide +kernel
theorem dX11_life_40 : decode cX11_life 40 = .ok (.iload_n 2, 1) := by decide +kernel
theorem dX11_life_41 : decode cX11_life 41 = .ok (.ifCond .ne 11, 3) := by decide +kernel
theorem dX11_life_44 : decode cX11_life 44 = .ok (.aload_n 0, 1) := by decide +kernel
theorem dX11_life_45 : decode cX11_life 45 = .ok (.getfield 79, 3) := by decide +kernel
theorem dX11_life_48 : decode cX11_life 48 = .ok (.getfield 352, 3) := by decide +kernel
theorem dX11_life_51 : decode cX11_life 51 = .ok (.ireturn, 1) := by decide +kernel
theorem dX11_life_52 : decode cX11_life 52 = .ok (.iload_n 2, 1) := by decide +kernel
theorem dX11_life_53 : decode cX11_life 53 = .ok (.iconst 1, 1) := by decide +kernel
theorem dX11_life_54 : decode cX11_life 54 = .ok (.if_icmp .ne 17, 3) := by decide +kernel
theorem dX11_life_57 : decode cX11_life 57 = .ok (.aload_n 0, 1) := by decide +kernel
theorem dX11_life_58 : decode cX11_life 58 = .ok (.getfield 79, 3) := by decide +kernel
theorem dX11_life_61 : decode cX11_life 61 = .ok (.aload_n 0, 1) := by decide +kernel
theorem dX11_life_62 : decode cX11_life 62 = .ok (.getfield 19, 3) := by decide +kernel
theorem dX11_life_65 : decode cX11_life 65 = .ok (.invokevirtual 355, 3) := by decide +kernel
theorem dX11_life_68 : decode cX11_life 68 = .ok (.goto 10, 3) := by decide +kernel
theorem dX11_life_71 : decode cX11_life 71 = .ok (.aload_n 0, 1) := by decide +kernel
theorem dX11_life_72 : decode cX11_life 72 = .ok (.getfield 79, 3) := by decide +kernel
theorem dX11_life_75 : decode cX11_life 75 = .ok (.getfield 359, 3) := by decide +kernel
theorem dX11_life_78 : decode cX11_life 78 = .ok (.ireturn, 1) := by decide +kernel
theorem dX11_lives_0 : decode cX11_lives 0 = .ok (.aload_n 0, 1) := by decide +kernel
theorem dX11_lives_1 : decode cX11_lives 1 = .ok (.getfield 19, 3) := by decide +kernel
theorem dX11_lives_4 : decode cX11_lives 4 = .ok (.iload_n 2, 1) := by decide +kernel
theorem dX11_lives_5 : decode cX11_lives 5 = .ok (.invokevirtual 135, 3) := by decide +kernel
theorem dX11_lives_8 : decode cX11_lives 8 = .ok (.ifCond .eq 10, 3) := by decide +kernel
theorem dX11_lives_11 : decode cX11_lives 11 = .ok (.iload_n 1, 1) := by decide +kernel
theorem dX11_lives_12 : decode cX11_lives 12 = .ok (.invokestatic 346, 3) := by decide +kernel
theorem dX11_lives_15 : decode cX11_lives 15 = .ok (.ifCond .ne 6, 3) := by decide +kernel
theorem dX11_lives_18 : decode cX11_lives 18 = .ok (.bipush (-2), 2) := by decide +kernel
theorem dX11_lives_20 : decode cX11_lives 20 = .ok (.ireturn, 1) := by decide +kernel
theorem dX11_lives_21 : decode cX11_lives 21 = .ok (.aload_n 0, 1) := by decide +kernel
theorem dX11_lives_22 : decode cX11_lives 22 = .ok (.getfield 79, 3) := by decide +kernel
theorem dX11_lives_25 : decode cX11_lives 25 = .ok (.aload_n 0, 1) := by decide +kernel
theorem dX11_lives_26 : decode cX11_lives 26 = .ok (.getfield 19, 3) := by decide +kernel
theorem dX11_lives_29 : decode cX11_lives 29 = .ok (.iload_n 1, 1) := by decide +kernel
theorem dX11_lives_30 : decode cX11_lives 30 = .ok (.invokevirtual 349, 3) := by decide +kernel
theorem dX11_lives_33 : decode cX11_lives 33 = .ok (.aload_n 0, 1) := by decide +kernel
theorem dX11_lives_34 : decode cX11_lives 34 = .ok (.getfield 79, 3) := by decide +kernel
theorem dX11_lives_37 : decode cX11_lives 37 = .ok (.getfield 362, 3) := by decide +kernel
theorem dX11_lives_40 : decode cX11_lives 40 = .ok (.iload_n 2, 1) := by decide +kernel
theorem dX11_lives_41 : decode cX11_lives 41 = .ok (.iaload, 1) := by decide +kernel
theorem dX11_lives_42 : decode cX11_lives 42 = .ok (.ireturn, 1) := by decide +kernel
theorem dX11_lasts_0 : decode cX11_lasts 0 = .ok (.aload_n 0, 1) := by decide +kernel
theorem dX11_lasts_1 : decode cX11_lasts 1 = .ok (.getfield 19, 3) := by decide +kernel
theorem dX11_lasts_4 : decode cX11_lasts 4 = .ok (.iload_n 3, 1) := by decide +kernel
theorem dX11_lasts_5 : decode cX11_lasts 5 = .ok (.invokevirtual 135, 3) := by decide +kernel
theorem dX11_lasts_8 : decode cX11_lasts 8 = .ok (.ifCond .eq 21, 3) := by decide +kernel
theorem dX11_lasts_11 : decode cX11_lasts 11 = .ok (.iload_n 1, 1) := by decide +kernel
theorem dX11_lasts_12 : decode cX11_lasts 12 = .ok (.invokestatic 346, 3) := by decide +kernel
theorem dX11_lasts_15 : decode cX11_lasts 15 = .ok (.ifCond .eq 14, 3) := by decide +kernel
theorem dX11_lasts_18 : decode cX11_lasts 18 = .ok (.iload_n 2, 1) := by decide +kernel
theorem dX11_lasts_19 : decode cX11_lasts 19 = .ok (.iconst 1, 1) := by decide +kernel
theorem dX11_lasts_20 : decode cX11_lasts 20 = .ok (.if_icmp .lt 9, 3) := by decide +kernel
theorem dX11_lasts_23 : decode cX11_lasts 23 = .ok (.iload_n 2, 1) := by decide +kernel
theorem dX11_lasts_24 : decode cX11_lasts 24 = .ok (.bipush 20, 2) := by decide +kernel
theorem dX11_lasts_26 : decode cX11_lasts 26 = .ok (.if_icmp .le 6, 3) := by decide +kernel
theorem dX11_lasts_29 : decode cX11_lasts 29 = .ok (.bipush (-2), 2) := by decide +kernel
theorem dX11_lasts_31 : decode cX11_lasts 31 = .ok (.ireturn, 1) := by decide +kernel
theorem dX11_lasts_32 : decode cX11_lasts 32 = .ok (.iconst 0, 1) := by decide +kernel
theorem dX11_lasts_33 : decode cX11_lasts 33 = .ok (.istore 4, 2) := by decide +kernel
theorem dX11_lasts_35 : decode cX11_lasts 35 = .ok (.iconst 0, 1) := by decide +kernel
theorem dX11_lasts_36 : decode cX11_lasts 36 = .ok (.istore 5, 2) := by decide +kernel
theorem dX11_lasts_38 : decode cX11_lasts 38 = .ok (.iload 5, 2) := by decide +kernel
theorem dX11_lasts_40 : decode cX11_lasts 40 = .ok (.iload_n 2, 1) := by decide +kernel
theorem dX11_lasts_41 : decode cX11_lasts 41 = .ok (.if_icmp .ge 48, 3) := by decide +kernel
theorem dX11_lasts_44 : decode cX11_lasts 44 = .ok (.aload_n 0, 1) := by decide +kernel
theorem dX11_lasts_45 : decode cX11_lasts 45 = .ok (.getfield 79, 3) := by decide +kernel
theorem dX11_lasts_48 : decode cX11_lasts 48 = .ok (.aload_n 0, 1) := by decide +kernel
theorem dX11_lasts_49 : decode cX11_lasts 49 = .ok (.getfield 19, 3) := by decide +kernel
theorem dX11_lasts_52 : decode cX11_lasts 52 = .ok (.iload_n 1, 1) := by decide +kernel
theorem dX11_lasts_53 : decode cX11_lasts 53 = .ok (.iload 5, 2) := by decide +kernel
theorem dX11_lasts_55 : decode cX11_lasts 55 = .ok (.iadd, 1) := by decide +kernel
theorem dX11_lasts_56 : decode cX11_lasts 56 = .ok (.invokevirtual 349, 3) := by decide +kernel
theorem dX11_lasts_59 : decode cX11_lasts 59 = .ok (.aload_n 0, 1) := by decide +kernel
theorem dX11_lasts_60 : decode cX11_lasts 60 = .ok (.getfield 79, 3) := by decide +kernel
theorem dX11_lasts_63 : decode cX11_lasts 63 = .ok (.getfield 362, 3) := by decide +kernel
theorem dX11_lasts_66 : decode cX11_lasts 66 = .ok (.iload_n 3, 1) := by decide +kernel
theorem dX11_lasts_67 : decode cX11_lasts 67 = .ok (.iaload, 1) := by decide +kernel
theorem dX11_lasts_68 : decode cX11_lasts 68 = .ok (.aload_n 0, 1) := by decide +kernel
theorem dX11_lasts_69 : decode cX11_lasts 69 = .ok (.getfield 19, 3) := by decide +kernel
theorem dX11_lasts_72 : decode cX11_lasts 72 = .ok (.getfield 177, 3) := by decide +kernel
theorem dX11_lasts_75 : decode cX11_lasts 75 = .ok (.iconst 1, 1) := by decide +kernel
theorem dX11_lasts_76 : decode cX11_lasts 76 = .ok (.isub, 1) := by decide +kernel
theorem dX11_lasts_77 : decode cX11_lasts 77 = .ok (.if_icmp .ne 6, 3) := by decide +kernel
theorem dX11_lasts_80 : decode cX11_lasts 80 = .ok (.iinc 4 1, 3) := by decide +kernel
theorem dX11_lasts_83 : decode cX11_lasts 83 = .ok (.iinc 5 1, 3) := by decide +kernel
theorem dX11_lasts_86 : decode cX11_lasts 86 = .ok (.goto (-48), 3) := by decide +kernel
theorem dX11_lasts_89 : decode cX11_lasts 89 = .ok (.iload 4, 2) := by decide +kernel
theorem dX11_lasts_91 : decode cX11_lasts 91 = .ok (.ireturn, 1) := by decide +kernel
theorem dX11_train_0 : decode cX11_train 0 = .ok (.aload_n 0, 1) := by decide +kernel
theorem dX11_train_1 : decode cX11_train 1 = .ok (.getfield 19, 3) := by decide +kernel
theorem dX11_train_4 : decode cX11_train 4 = .ok (.iload_n 1, 1) := by decide +kernel
theorem dX11_train_5 : decode cX11_train 5 = .ok (.invokevirtual 115, 3) := by decide +kernel
theorem dX11_train_8 : decode cX11_train 8 = .ok (.ifCond .ne 6, 3) := by decide +kernel
theorem dX11_train_11 : decode cX11_train 11 = .ok (.bipush (-2), 2) := by decide +kernel
theorem dX11_train_13 : decode cX11_train 13 = .ok (.ireturn, 1) := by decide +kernel
theorem dX11_train_14 : decode cX11_train 14 = .ok (.iload_n 2, 1) := by decide +kernel
theorem dX11_train_15 : decode cX11_train 15 = .ok (.tableswitch 72 0 2 #[25, 41, 56], 25) := by decide +kernel
theorem dX11_train_40 : decode cX11_train 40 = .ok (.aload_n 0, 1) := by decide +kernel
theorem dX11_train_41 : decode cX11_train 41 = .ok (.aload_n 0, 1) := by decide +kernel
theorem dX11_train_42 : decode cX11_train 42 = .ok (.getfield 19, 3) := by decide +kernel
theorem dX11_train_45 : decode cX11_train 45 = .ok (.getfield 119, 3) := by decide +kernel
theorem dX11_train_48 : decode cX11_train 48 = .ok (.iload_n 1, 1) := by decide +kernel
theorem dX11_train_49 : decode cX11_train 49 = .ok (.iload_n 3, 1) := by decide +kernel
theorem dX11_train_50 : decode cX11_train 50 = .ok (.bipush 15, 2) := by decide +kernel
theorem dX11_train_52 : decode cX11_train 52 = .ok (.invokevirtual 365, 3) := by decide +kernel
theorem dX11_train_55 : decode cX11_train 55 = .ok (.ireturn, 1) := by decide +kernel
theorem dX11_train_56 : decode cX11_train 56 = .ok (.aload_n 0, 1) := by decide +kernel
theorem dX11_train_57 : decode cX11_train 57 = .ok (.aload_n 0, 1) := by decide +kernel
theorem dX11_train_58 : decode cX11_train 58 = .ok (.getfield 19, 3) := by decide +kernel
theorem dX11_train_61 : decode cX11_train 61 = .ok (.getfield 123, 3) := by decide +kernel
theorem dX11_train_64 : decode cX11_train 64 = .ok (.iload_n 1, 1) := by decide +kernel
theorem dX11_train_65 : decode cX11_train 65 = .ok (.iload_n 3, 1) := by decide +kernel
theorem dX11_train_66 : decode cX11_train 66 = .ok (.iconst 1, 1) := by decide +kernel
theorem dX11_train_67 : decode cX11_train 67 = .ok (.invokevirtual 365, 3) := by decide +kernel
theorem dX11_train_70 : decode cX11_train 70 = .ok (.ireturn, 1) := by decide +kernel
theorem dX11_train_71 : decode cX11_train 71 = .ok (.aload_n 0, 1) := by decide +kernel
theorem dX11_train_72 : decode cX11_train 72 = .ok (.aload_n 0, 1) := by decide +kernel
theorem dX11_train_73 : decode cX11_train 73 = .ok (.getfield 19, 3) := by decide +kernel
theorem dX11_train_76 : decode cX11_train 76 = .ok (.getfield 126, 3) := by decide +kernel
theorem dX11_train_79 : decode cX11_train 79 = .ok (.iload_n 1, 1) := by decide +kernel
theorem dX11_train_80 : decode cX11_train 80 = .ok (.iload_n 3, 1) := by decide +kernel
theorem dX11_train_81 : decode cX11_train 81 = .ok (.bipush 50, 2) := by decide +kernel
theorem dX11_train_83 : decode cX11_train 83 = .ok (.invokevirtual 365, 3) := by decide +kernel
theorem dX11_train_86 : decode cX11_train 86 = .ok (.ireturn, 1) := by decide +kernel
theorem dX11_train_87 : decode cX11_train 87 = .ok (.bipush (-2), 2) := by decide +kernel
theorem dX11_train_89 : decode cX11_train 89 = .ok (.ireturn, 1) := by decide +kernel
theorem dX11_begin_0 : decode cX11_begin 0 = .ok (.aload_n 0, 1) := by decide +kernel
theorem dX11_begin_1 : decode cX11_begin 1 = .ok (.getfield 19, 3) := by decide +kernel
theorem dX11_begin_4 : decode cX11_begin 4 = .ok (.iload_n 1, 1) := by decide +kernel
theorem dX11_begin_5 : decode cX11_begin 5 = .ok (.invokevirtual 135, 3) := by decide +kernel
theorem dX11_begin_8 : decode cX11_begin 8 = .ok (.ifCond .ne 6, 3) := by decide +kernel
theorem dX11_begin_11 : decode cX11_begin 11 = .ok (.bipush (-2), 2) := by decide +kernel
theorem dX11_begin_13 : decode cX11_begin 13 = .ok (.ireturn, 1) := by decide +kernel
theorem dX11_begin_14 : decode cX11_begin 14 = .ok (.aload_n 0, 1) := by decide +kernel
theorem dX11_begin_15 : decode cX11_begin 15 = .ok (.aload_n 0, 1) := by decide +kernel
theorem dX11_begin_16 : decode cX11_begin 16 = .ok (.getfield 19, 3) := by decide +kernel
theorem dX11_begin_19 : decode cX11_begin 19 = .ok (.getfield 141, 3) := by decide +kernel
theorem dX11_begin_22 : decode cX11_begin 22 = .ok (.iload_n 1, 1) := by decide +kernel
theorem dX11_begin_23 : decode cX11_begin 23 = .ok (.iload_n 2, 1) := by decide +kernel
theorem dX11_begin_24 : decode cX11_begin 24 = .ok (.bipush 15, 2) := by decide +kernel
theorem dX11_begin_26 : decode cX11_begin 26 = .ok (.invokevirtual 365, 3) := by decide +kernel
theorem dX11_begin_29 : decode cX11_begin 29 = .ok (.ireturn, 1) := by decide +kernel
