theorem dX12_life_0 : decode cX12_life 0 = .ok (.aload_n 0, 1) := by decide +kernel
theorem dX12_life_1 : decode cX12_life 1 = .ok (.iconst 0, 1) := by decide +kernel
theorem dX12_life_2 : decode cX12_life 2 = .ok (.putfield 107, 3) := by decide +kernel
theorem dX12_life_5 : decode cX12_life 5 = .ok (.iload_n 1, 1) := by decide +kernel
theorem dX12_life_6 : decode cX12_life 6 = .ok (.invokestatic 530, 3) := by decide +kernel
theorem dX12_life_9 : decode cX12_life 9 = .ok (.ifCond .eq 22, 3) := by decide +kernel
theorem dX12_life_12 : decode cX12_life 12 = .ok (.aload_n 0, 1) := by decide +kernel
theorem dX12_life_13 : decode cX12_life 13 = .ok (.invokevirtual 373, 3) := by decide +kernel
theorem dX12_life_16 : decode cX12_life 16 = .ok (.ifCond .eq 15, 3) := by decide +kernel
theorem dX12_life_19 : decode cX12_life 19 = .ok (.iload_n 2, 1) := by decide +kernel
theorem dX12_life_20 : decode cX12_life 20 = .ok (.i2l, 1) := by decide +kernel
theorem dX12_life_21 : decode cX12_life 21 = .ok (.lconst 0, 1) := by decide +kernel
theorem dX12_life_22 : decode cX12_life 22 = .ok (.ldc2_w 284, 3) := by decide +kernel
theorem dX12_life_25 : decode cX12_life 25 = .ok (.invokestatic 112, 3) := by decide +kernel
theorem dX12_life_28 : decode cX12_life 28 = .ok (.ifCond .ne 6, 3) := by decide +kernel
theorem dX12_life_31 : decode cX12_life 31 = .ok (.bipush (-2), 2) := by decide +kernel
theorem dX12_life_33 : decode cX12_life 33 = .ok (.ireturn, 1) := by decide +kernel
theorem dX12_life_34 : decode cX12_life 34 = .ok (.aload_n 0, 1) := by decide +kernel
theorem dX12_life_35 : decode cX12_life 35 = .ok (.iload_n 1, 1) := by decide +kernel
theorem dX12_life_36 : decode cX12_life 36 = .ok (.i2l, 1) := by decide +kernel
theorem dX12_life_37 : decode cX12_life 37 = .ok (.invokevirtual 533, 3) := by decide +kernel
theorem dX12_life_40 : decode cX12_life 40 = .ok (.iload_n 2, 1) := by decide +kernel
theorem dX12_life_41 : decode cX12_life 41 = .ok (.ifCond .le 20, 3) := by decide +kernel
theorem dX12_life_44 : decode cX12_life 44 = .ok (.iload_n 2, 1) := by decide +kernel
theorem dX12_life_45 : decode cX12_life 45 = .ok (.iconst 1, 1) := by decide +kernel
theorem dX12_life_46 : decode cX12_life 46 = .ok (.if_icmp .ne 10, 3) := by decide +kernel
theorem dX12_life_49 : decode cX12_life 49 = .ok (.aload_n 0, 1) := by decide +kernel
theorem dX12_life_50 : decode cX12_life 50 = .ok (.invokevirtual 379, 3) := by decide +kernel
theorem dX12_life_53 : decode cX12_life 53 = .ok (.goto 7, 3) := by decide +kernel
theorem dX12_life_56 : decode cX12_life 56 = .ok (.aload_n 0, 1) := by decide +kernel
theorem dX12_life_57 : decode cX12_life 57 = .ok (.getfield 309, 3) := by decide +kernel
theorem dX12_life_60 : decode cX12_life 60 = .ok (.ireturn, 1) := by decide +kernel
theorem dX12_life_61 : decode cX12_life 61 = .ok (.iconst 0, 1) := by decide +kernel
theorem dX12_life_62 : decode cX12_life 62 = .ok (.istore_n 3, 1) := by decide +kernel
theorem dX12_life_63 : decode cX12_life 63 = .ok (.iconst 0, 1) := by decide +kernel
theorem dX12_life_64 : decode cX12_life 64 = .ok (.istore 4, 2) := by decide +kernel
theorem dX12_life_66 : decode cX12_life 66 = .ok (.iload 4, 2) := by decide +kernel
theorem dX12_life_68 : decode cX12_life 68 = .ok (.aload_n 0, 1) := by decide +kernel
theorem dX12_life_69 : decode cX12_life 69 = .ok (.getfield 34, 3) := by decide +kernel
theorem dX12_life_72 : decode cX12_life 72 = .ok (.iconst 0, 1) := by decide +kernel
theorem dX12_life_73 : decode cX12_life 73 = .ok (.iaload, 1) := by decide +kernel
theorem dX12_life_74 : decode cX12_life 74 = .ok (.if_icmp .ge 19, 3) := by decide +kernel
theorem dX12_life_77 : decode cX12_life 77 = .ok (.iload_n 3, 1) := by decide +kernel
theorem dX12_life_78 : decode cX12_life 78 = .ok (.aload_n 0, 1) := by decide +kernel
theorem dX12_life_79 : decode cX12_life 79 = .ok (.iload 4, 2) := by decide +kernel
theorem dX12_life_81 : decode cX12_life 81 = .ok (.iconst 0, 1) := by decide +kernel
theorem dX12_life_82 : decode cX12_life 82 = .ok (.invokevirtual 355, 3) := by decide +kernel
theorem dX12_life_85 : decode cX12_life 85 = .ok (.iadd, 1) := by decide +kernel
theorem dX12_life_86 : decode cX12_life 86 = .ok (.istore_n 3, 1) := by decide +kernel
theorem dX12_life_87 : decode cX12_life 87 = .ok (.iinc 4 1, 3) := by decide +kernel
theorem dX12_life_90 : decode cX12_life 90 = .ok (.goto (-24), 3) := by decide +kernel
theorem dX12_life_93 : decode cX12_life 93 = .ok (.iload_n 3, 1) := by decide +kernel
theorem dX12_life_94 : decode cX12_life 94 = .ok (.ireturn, 1) := by decide +kernel
theorem dX12_lives_0 : decode cX12_lives 0 = .ok (.aload_n 0, 1) := by decide +kernel
theorem dX12_lives_1 : decode cX12_lives 1 = .ok (.iconst 0, 1) := by decide +kernel
theorem dX12_lives_2 : decode cX12_lives 2 = .ok (.putfield 107, 3) := by decide +kernel
theorem dX12_lives_5 : decode cX12_lives 5 = .ok (.iload_n 1, 1) := by decide +kernel
theorem dX12_lives_6 : decode cX12_lives 6 = .ok (.invokestatic 530, 3) := by decide +kernel
theorem dX12_lives_9 : decode cX12_lives 9 = .ok (.ifCond .eq 11, 3) := by decide +kernel
theorem dX12_lives_12 : decode cX12_lives 12 = .ok (.aload_n 0, 1) := by decide +kernel
theorem dX12_lives_13 : decode cX12_lives 13 = .ok (.iload_n 2, 1) := by decide +kernel
theorem dX12_lives_14 : decode cX12_lives 14 = .ok (.invokevirtual 281, 3) := by decide +kernel
theorem dX12_lives_17 : decode cX12_lives 17 = .ok (.ifCond .ne 6, 3) := by decide +kernel
theorem dX12_lives_20 : decode cX12_lives 20 = .ok (.bipush (-2), 2) := by decide +kernel
theorem dX12_lives_22 : decode cX12_lives 22 = .ok (.ireturn, 1) := by decide +kernel
theorem dX12_lives_23 : decode cX12_lives 23 = .ok (.aload_n 0, 1) := by decide +kernel
theorem dX12_lives_24 : decode cX12_lives 24 = .ok (.iload_n 1, 1) := by decide +kernel
theorem dX12_lives_25 : decode cX12_lives 25 = .ok (.i2l, 1) := by decide +kernel
theorem dX12_lives_26 : decode cX12_lives 26 = .ok (.invokevirtual 533, 3) := by decide +kernel
theorem dX12_lives_29 : decode cX12_lives 29 = .ok (.aload_n 0, 1) := by decide +kernel
theorem dX12_lives_30 : decode cX12_lives 30 = .ok (.iload_n 2, 1) := by decide +kernel
theorem dX12_lives_31 : decode cX12_lives 31 = .ok (.invokevirtual 376, 3) := by decide +kernel
theorem dX12_lives_34 : decode cX12_lives 34 = .ok (.ireturn, 1) := by decide +kernel
theorem dX12_lasts_0 : decode cX12_lasts 0 = .ok (.aload_n 0, 1) := by decide +kernel
theorem dX12_lasts_1 : decode cX12_lasts 1 = .ok (.iconst 0, 1) := by decide +kernel
theorem dX12_lasts_2 : decode cX12_lasts 2 = .ok (.putfield 107, 3) := by decide +kernel
theorem dX12_lasts_5 : decode cX12_lasts 5 = .ok (.iload_n 1, 1) := by decide +kernel
theorem dX12_lasts_6 : decode cX12_lasts 6 = .ok (.invokestatic 530, 3) := by decide +kernel
theorem dX12_lasts_9 : decode cX12_lasts 9 = .ok (.ifCond .eq 23, 3) := by decide +kernel
theorem dX12_lasts_12 : decode cX12_lasts 12 = .ok (.iload_n 2, 1) := by decide +kernel
theorem dX12_lasts_13 : decode cX12_lasts 13 = .ok (.i2l, 1) := by decide +kernel
theorem dX12_lasts_14 : decode cX12_lasts 14 = .ok (.lconst 1, 1) := by decide +kernel
theorem dX12_lasts_15 : decode cX12_lasts 15 = .ok (.ldc2_w 536, 3) := by decide +kernel
theorem dX12_lasts_18 : decode cX12_lasts 18 = .ok (.invokestatic 112, 3) := by decide +kernel
theorem dX12_lasts_21 : decode cX12_lasts 21 = .ok (.ifCond .eq 11, 3) := by decide +kernel
theorem dX12_lasts_24 : decode cX12_lasts 24 = .ok (.aload_n 0, 1) := by decide +kernel
theorem dX12_lasts_25 : decode cX12_lasts 25 = .ok (.iload_n 3, 1) := by decide +kernel
theorem dX12_lasts_26 : decode cX12_lasts 26 = .ok (.invokevirtual 281, 3) := by decide +kernel
theorem dX12_lasts_29 : decode cX12_lasts 29 = .ok (.ifCond .ne 6, 3) := by decide +kernel
theorem dX12_lasts_32 : decode cX12_lasts 32 = .ok (.bipush (-2), 2) := by decide +kernel
theorem dX12_lasts_34 : decode cX12_lasts 34 = .ok (.ireturn, 1) := by decide +kernel
theorem dX12_lasts_35 : decode cX12_lasts 35 = .ok (.iconst 0, 1) := by decide +kernel
theorem dX12_lasts_36 : decode cX12_lasts 36 = .ok (.istore 4, 2) := by decide +kernel
theorem dX12_lasts_38 : decode cX12_lasts 38 = .ok (.iconst 0, 1) := by decide +kernel
theorem dX12_lasts_39 : decode cX12_lasts 39 = .ok (.istore 5, 2) := by decide +kernel
theorem dX12_lasts_41 : decode cX12_lasts 41 = .ok (.iload 5, 2) := by decide +kernel
theorem dX12_lasts_43 : decode cX12_lasts 43 = .ok (.iload_n 2, 1) := by decide +kernel
theorem dX12_lasts_44 : decode cX12_lasts 44 = .ok (.if_icmp .ge 45, 3) := by decide +kernel
theorem dX12_lasts_47 : decode cX12_lasts 47 = .ok (.aload_n 0, 1) := by decide +kernel
theorem dX12_lasts_48 : decode cX12_lasts 48 = .ok (.iload_n 1, 1) := by decide +kernel
theorem dX12_lasts_49 : decode cX12_lasts 49 = .ok (.i2l, 1) := by decide +kernel
theorem dX12_lasts_50 : decode cX12_lasts 50 = .ok (.iload 5, 2) := by decide +kernel
theorem dX12_lasts_52 : decode cX12_lasts 52 = .ok (.i2l, 1) := by decide +kernel
theorem dX12_lasts_53 : decode cX12_lasts 53 = .ok (.ladd, 1) := by decide +kernel
theorem dX12_lasts_54 : decode cX12_lasts 54 = .ok (.invokevirtual 533, 3) := by decide +kernel
theorem dX12_lasts_57 : decode cX12_lasts 57 = .ok (.iload 4, 2) := by decide +kernel
theorem dX12_lasts_59 : decode cX12_lasts 59 = .ok (.aload_n 0, 1) := by decide +kernel
theorem dX12_lasts_60 : decode cX12_lasts 60 = .ok (.iload_n 3, 1) := by decide +kernel
theorem dX12_lasts_61 : decode cX12_lasts 61 = .ok (.invokevirtual 376, 3) := by decide +kernel
theorem dX12_lasts_64 : decode cX12_lasts 64 = .ok (.aload_n 0, 1) := by decide +kernel
theorem dX12_lasts_65 : decode cX12_lasts 65 = .ok (.getfield 34, 3) := by decide +kernel
theorem dX12_lasts_68 : decode cX12_lasts 68 = .ok (.iconst 0, 1) := by decide +kernel
theorem dX12_lasts_69 : decode cX12_lasts 69 = .ok (.iaload, 1) := by decide +kernel
theorem dX12_lasts_70 : decode cX12_lasts 70 = .ok (.iconst 1, 1) := by decide +kernel
theorem dX12_lasts_71 : decode cX12_lasts 71 = .ok (.isub, 1) := by decide +kernel
theorem dX12_lasts_72 : decode cX12_lasts 72 = .ok (.if_icmp .ne 7, 3) := by decide +kernel
theorem dX12_lasts_75 : decode cX12_lasts 75 = .ok (.iconst 1, 1) := by decide +kernel
theorem dX12_lasts_76 : decode cX12_lasts 76 = .ok (.goto 4, 3) := by decide +kernel
theorem dX12_lasts_79 : decode cX12_lasts 79 = .ok (.iconst 0, 1) := by decide +kernel
theorem dX12_lasts_80 : decode cX12_lasts 80 = .ok (.iadd, 1) := by decide +kernel
theorem dX12_lasts_81 : decode cX12_lasts 81 = .ok (.istore 4, 2) := by decide +kernel
theorem dX12_lasts_83 : decode cX12_lasts 83 = .ok (.iinc 5 1, 3) := by decide +kernel
theorem dX12_lasts_86 : decode cX12_lasts 86 = .ok (.goto (-45), 3) := by decide +kernel
theorem dX12_lasts_89 : decode cX12_lasts 89 = .ok (.iload 4, 2) := by decide +kernel
theorem dX12_lasts_91 : decode cX12_lasts 91 = .ok (.ireturn, 1) := by decide +kernel
