theorem dX12_laysFits_0 : decode cX12_laysFits 0 = .ok (.aload_n 0, 1) := by decide +kernel
theorem dX12_laysFits_1 : decode cX12_laysFits 1 = .ok (.iconst 0, 1) := by decide +kernel
theorem dX12_laysFits_2 : decode cX12_laysFits 2 = .ok (.putfield 506, 3) := by decide +kernel
theorem dX12_laysFits_5 : decode cX12_laysFits 5 = .ok (.aload_n 0, 1) := by decide +kernel
theorem dX12_laysFits_6 : decode cX12_laysFits 6 = .ok (.lconst 0, 1) := by decide +kernel
theorem dX12_laysFits_7 : decode cX12_laysFits 7 = .ok (.putfield 509, 3) := by decide +kernel
theorem dX12_laysFits_10 : decode cX12_laysFits 10 = .ok (.aload_n 0, 1) := by decide +kernel
theorem dX12_laysFits_11 : decode cX12_laysFits 11 = .ok (.lconst 0, 1) := by decide +kernel
theorem dX12_laysFits_12 : decode cX12_laysFits 12 = .ok (.putfield 512, 3) := by decide +kernel
theorem dX12_laysFits_15 : decode cX12_laysFits 15 = .ok (.iconst 0, 1) := by decide +kernel
theorem dX12_laysFits_16 : decode cX12_laysFits 16 = .ok (.istore_n 3, 1) := by decide +kernel
theorem dX12_laysFits_17 : decode cX12_laysFits 17 = .ok (.iload_n 3, 1) := by decide +kernel
theorem dX12_laysFits_18 : decode cX12_laysFits 18 = .ok (.bipush 32, 2) := by decide +kernel
theorem dX12_laysFits_20 : decode cX12_laysFits 20 = .ok (.if_icmp .ge 90, 3) := by decide +kernel
theorem dX12_laysFits_23 : decode cX12_laysFits 23 = .ok (.iconst 0, 1) := by decide +kernel
theorem dX12_laysFits_24 : decode cX12_laysFits 24 = .ok (.istore 4, 2) := by decide +kernel
theorem dX12_laysFits_26 : decode cX12_laysFits 26 = .ok (.iload 4, 2) := by decide +kernel
theorem dX12_laysFits_28 : decode cX12_laysFits 28 = .ok (.bipush 32, 2) := by decide +kernel
theorem dX12_laysFits_30 : decode cX12_laysFits 30 = .ok (.if_icmp .ge 74, 3) := by decide +kernel
theorem dX12_laysFits_33 : decode cX12_laysFits 33 = .ok (.aload_n 0, 1) := by decide +kernel
theorem dX12_laysFits_34 : decode cX12_laysFits 34 = .ok (.iload_n 2, 1) := by decide +kernel
theorem dX12_laysFits_35 : decode cX12_laysFits 35 = .ok (.iload_n 3, 1) := by decide +kernel
theorem dX12_laysFits_36 : decode cX12_laysFits 36 = .ok (.iload 4, 2) := by decide +kernel
theorem dX12_laysFits_38 : decode cX12_laysFits 38 = .ok (.aload_n 0, 1) := by decide +kernel
theorem dX12_laysFits_39 : decode cX12_laysFits 39 = .ok (.getfield 40, 3) := by decide +kernel
theorem dX12_laysFits_42 : decode cX12_laysFits 42 = .ok (.iconst 3, 1) := by decide +kernel
theorem dX12_laysFits_43 : decode cX12_laysFits 43 = .ok (.iload_n 2, 1) := by decide +kernel
theorem dX12_laysFits_44 : decode cX12_laysFits 44 = .ok (.imul, 1) := by decide +kernel
theorem dX12_laysFits_45 : decode cX12_laysFits 45 = .ok (.iconst 2, 1) := by decide +kernel
theorem dX12_laysFits_46 : decode cX12_laysFits 46 = .ok (.iadd, 1) := by decide +kernel
theorem dX12_laysFits_47 : decode cX12_laysFits 47 = .ok (.iaload, 1) := by decide +kernel
theorem dX12_laysFits_48 : decode cX12_laysFits 48 = .ok (.invokevirtual 515, 3) := by decide +kernel
theorem dX12_laysFits_51 : decode cX12_laysFits 51 = .ok (.aload_n 0, 1) := by decide +kernel
theorem dX12_laysFits_52 : decode cX12_laysFits 52 = .ok (.iload_n 1, 1) := by decide +kernel
theorem dX12_laysFits_53 : decode cX12_laysFits 53 = .ok (.invokevirtual 519, 3) := by decide +kernel
theorem dX12_laysFits_56 : decode cX12_laysFits 56 = .ok (.iconst (-1), 1) := by decide +kernel
theorem dX12_laysFits_57 : decode cX12_laysFits 57 = .ok (.if_icmp .eq 6, 3) := by decide +kernel
theorem dX12_laysFits_60 : decode cX12_laysFits 60 = .ok (.goto 38, 3) := by decide +kernel
theorem dX12_laysFits_63 : decode cX12_laysFits 63 = .ok (.aload_n 0, 1) := by decide +kernel
theorem dX12_laysFits_64 : decode cX12_laysFits 64 = .ok (.dup, 1) := by decide +kernel
theorem dX12_laysFits_65 : decode cX12_laysFits 65 = .ok (.getfield 506, 3) := by decide +kernel
theorem dX12_laysFits_68 : decode cX12_laysFits 68 = .ok (.iconst 1, 1) := by decide +kernel
theorem dX12_laysFits_69 : decode cX12_laysFits 69 = .ok (.iadd, 1) := by decide +kernel
theorem dX12_laysFits_70 : decode cX12_laysFits 70 = .ok (.putfield 506, 3) := by decide +kernel
theorem dX12_laysFits_73 : decode cX12_laysFits 73 = .ok (.aload_n 0, 1) := by decide +kernel
theorem dX12_laysFits_74 : decode cX12_laysFits 74 = .ok (.dup, 1) := by decide +kernel
theorem dX12_laysFits_75 : decode cX12_laysFits 75 = .ok (.getfield 509, 3) := by decide +kernel
theorem dX12_laysFits_78 : decode cX12_laysFits 78 = .ok (.lconst 1, 1) := by decide +kernel
theorem dX12_laysFits_79 : decode cX12_laysFits 79 = .ok (.iload_n 3, 1) := by decide +kernel
theorem dX12_laysFits_80 : decode cX12_laysFits 80 = .ok (.lshl, 1) := by decide +kernel
theorem dX12_laysFits_81 : decode cX12_laysFits 81 = .ok (.lor, 1) := by decide +kernel
theorem dX12_laysFits_82 : decode cX12_laysFits 82 = .ok (.putfield 509, 3) := by decide +kernel
theorem dX12_laysFits_85 : decode cX12_laysFits 85 = .ok (.aload_n 0, 1) := by decide +kernel
theorem dX12_laysFits_86 : decode cX12_laysFits 86 = .ok (.dup, 1) := by decide +kernel
theorem dX12_laysFits_87 : decode cX12_laysFits 87 = .ok (.getfield 512, 3) := by decide +kernel
theorem dX12_laysFits_90 : decode cX12_laysFits 90 = .ok (.lconst 1, 1) := by decide +kernel
theorem dX12_laysFits_91 : decode cX12_laysFits 91 = .ok (.iload 4, 2) := by decide +kernel
theorem dX12_laysFits_93 : decode cX12_laysFits 93 = .ok (.lshl, 1) := by decide +kernel
theorem dX12_laysFits_94 : decode cX12_laysFits 94 = .ok (.lor, 1) := by decide +kernel
theorem dX12_laysFits_95 : decode cX12_laysFits 95 = .ok (.putfield 512, 3) := by decide +kernel
theorem dX12_laysFits_98 : decode cX12_laysFits 98 = .ok (.iinc 4 1, 3) := by decide +kernel
theorem dX12_laysFits_101 : decode cX12_laysFits 101 = .ok (.goto (-75), 3) := by decide +kernel
theorem dX12_laysFits_104 : decode cX12_laysFits 104 = .ok (.iinc 3 1, 3) := by decide +kernel
theorem dX12_laysFits_107 : decode cX12_laysFits 107 = .ok (.goto (-90), 3) := by decide +kernel
theorem dX12_laysFits_110 : decode cX12_laysFits 110 = .ok (.return_, 1) := by decide +kernel
theorem dX12_fits_0 : decode cX12_fits 0 = .ok (.aload_n 0, 1) := by decide +kernel
theorem dX12_fits_1 : decode cX12_fits 1 = .ok (.iconst 0, 1) := by decide +kernel
theorem dX12_fits_2 : decode cX12_fits 2 = .ok (.putfield 107, 3) := by decide +kernel
theorem dX12_fits_5 : decode cX12_fits 5 = .ok (.aload_n 0, 1) := by decide +kernel
theorem dX12_fits_6 : decode cX12_fits 6 = .ok (.iload_n 1, 1) := by decide +kernel
theorem dX12_fits_7 : decode cX12_fits 7 = .ok (.iload_n 2, 1) := by decide +kernel
theorem dX12_fits_8 : decode cX12_fits 8 = .ok (.invokevirtual 522, 3) := by decide +kernel
theorem dX12_fits_11 : decode cX12_fits 11 = .ok (.istore_n 3, 1) := by decide +kernel
theorem dX12_fits_12 : decode cX12_fits 12 = .ok (.iload_n 3, 1) := by decide +kernel
theorem dX12_fits_13 : decode cX12_fits 13 = .ok (.ifCond .eq 5, 3) := by decide +kernel
theorem dX12_fits_16 : decode cX12_fits 16 = .ok (.iload_n 3, 1) := by decide +kernel
theorem dX12_fits_17 : decode cX12_fits 17 = .ok (.ireturn, 1) := by decide +kernel
theorem dX12_fits_18 : decode cX12_fits 18 = .ok (.aload_n 0, 1) := by decide +kernel
theorem dX12_fits_19 : decode cX12_fits 19 = .ok (.iload_n 1, 1) := by decide +kernel
theorem dX12_fits_20 : decode cX12_fits 20 = .ok (.iload_n 2, 1) := by decide +kernel
theorem dX12_fits_21 : decode cX12_fits 21 = .ok (.invokevirtual 525, 3) := by decide +kernel
theorem dX12_fits_24 : decode cX12_fits 24 = .ok (.aload_n 0, 1) := by decide +kernel
theorem dX12_fits_25 : decode cX12_fits 25 = .ok (.getfield 506, 3) := by decide +kernel
theorem dX12_fits_28 : decode cX12_fits 28 = .ok (.ireturn, 1) := by decide +kernel
theorem dX12_which_0 : decode cX12_which 0 = .ok (.aload_n 0, 1) := by decide +kernel
theorem dX12_which_1 : decode cX12_which 1 = .ok (.iconst 0, 1) := by decide +kernel
theorem dX12_which_2 : decode cX12_which 2 = .ok (.putfield 107, 3) := by decide +kernel
theorem dX12_which_5 : decode cX12_which 5 = .ok (.iload_n 3, 1) := by decide +kernel
theorem dX12_which_6 : decode cX12_which 6 = .ok (.invokestatic 340, 3) := by decide +kernel
theorem dX12_which_9 : decode cX12_which 9 = .ok (.ifCond .eq 12, 3) := by decide +kernel
theorem dX12_which_12 : decode cX12_which 12 = .ok (.aload_n 0, 1) := by decide +kernel
theorem dX12_which_13 : decode cX12_which 13 = .ok (.iload_n 1, 1) := by decide +kernel
theorem dX12_which_14 : decode cX12_which 14 = .ok (.iload_n 2, 1) := by decide +kernel
theorem dX12_which_15 : decode cX12_which 15 = .ok (.invokevirtual 522, 3) := by decide +kernel
theorem dX12_which_18 : decode cX12_which 18 = .ok (.goto 5, 3) := by decide +kernel
theorem dX12_which_21 : decode cX12_which 21 = .ok (.bipush (-2), 2) := by decide +kernel
theorem dX12_which_23 : decode cX12_which 23 = .ok (.istore 4, 2) := by decide +kernel
theorem dX12_which_25 : decode cX12_which 25 = .ok (.iload 4, 2) := by decide +kernel
theorem dX12_which_27 : decode cX12_which 27 = .ok (.ifCond .eq 7, 3) := by decide +kernel
theorem dX12_which_30 : decode cX12_which 30 = .ok (.iload 4, 2) := by decide +kernel
theorem dX12_which_32 : decode cX12_which 32 = .ok (.i2l, 1) := by decide +kernel
theorem dX12_which_33 : decode cX12_which 33 = .ok (.lreturn, 1) := by decide +kernel
theorem dX12_which_34 : decode cX12_which 34 = .ok (.aload_n 0, 1) := by decide +kernel
theorem dX12_which_35 : decode cX12_which 35 = .ok (.iload_n 1, 1) := by decide +kernel
theorem dX12_which_36 : decode cX12_which 36 = .ok (.iload_n 2, 1) := by decide +kernel
theorem dX12_which_37 : decode cX12_which 37 = .ok (.invokevirtual 525, 3) := by decide +kernel
theorem dX12_which_40 : decode cX12_which 40 = .ok (.iload_n 3, 1) := by decide +kernel
theorem dX12_which_41 : decode cX12_which 41 = .ok (.ifCond .ne 10, 3) := by decide +kernel
theorem dX12_which_44 : decode cX12_which 44 = .ok (.aload_n 0, 1) := by decide +kernel
theorem dX12_which_45 : decode cX12_which 45 = .ok (.getfield 509, 3) := by decide +kernel
theorem dX12_which_48 : decode cX12_which 48 = .ok (.goto 7, 3) := by decide +kernel
theorem dX12_which_51 : decode cX12_which 51 = .ok (.aload_n 0, 1) := by decide +kernel
theorem dX12_which_52 : decode cX12_which 52 = .ok (.getfield 512, 3) := by decide +kernel
theorem dX12_which_55 : decode cX12_which 55 = .ok (.lreturn, 1) := by decide +kernel
theorem dX12_draws_0 : decode cX12_draws 0 = .ok (.aload_n 0, 1) := by decide +kernel
theorem dX12_draws_1 : decode cX12_draws 1 = .ok (.lload_n 1, 1) := by decide +kernel
theorem dX12_draws_2 : decode cX12_draws 2 = .ok (.putfield 298, 3) := by decide +kernel
theorem dX12_draws_5 : decode cX12_draws 5 = .ok (.aload_n 0, 1) := by decide +kernel
theorem dX12_draws_6 : decode cX12_draws 6 = .ok (.iconst 0, 1) := by decide +kernel
theorem dX12_draws_7 : decode cX12_draws 7 = .ok (.putfield 309, 3) := by decide +kernel
theorem dX12_draws_10 : decode cX12_draws 10 = .ok (.aload_n 0, 1) := by decide +kernel
theorem dX12_draws_11 : decode cX12_draws 11 = .ok (.iconst 1, 1) := by decide +kernel
theorem dX12_draws_12 : decode cX12_draws 12 = .ok (.putfield 292, 3) := by decide +kernel
theorem dX12_draws_15 : decode cX12_draws 15 = .ok (.aload_n 0, 1) := by decide +kernel
theorem dX12_draws_16 : decode cX12_draws 16 = .ok (.invokevirtual 346, 3) := by decide +kernel
theorem dX12_draws_19 : decode cX12_draws 19 = .ok (.aload_n 0, 1) := by decide +kernel
theorem dX12_draws_20 : decode cX12_draws 20 = .ok (.iconst 0, 1) := by decide +kernel
theorem dX12_draws_21 : decode cX12_draws 21 = .ok (.putfield 292, 3) := by decide +kernel
theorem dX12_draws_24 : decode cX12_draws 24 = .ok (.return_, 1) := by decide +kernel
theorem dX12_life_0 : decode cX12_life 0 = .ok (.aload_n 0, 1) := by decide +kernel
theorem dX12_life_1 : decode cX12_life 1 = .ok (.iconst 0, 1) := by decide +kernel
theorem dX12_life_2 : decode cX12_life 2 = .ok (.putfield 107, 3) := by decide +kernel
theorem dX12_life_5 : decode cX12_life 5 = .ok (.iload_n 1, 1) := by decide +kernel
theorem dX12_life_6 : decode cX12_life 6 = .ok (.invokestatic 530, 3) := by decide +kernel
theorem dX12_life_9 : decode cX12_life 9 = .ok (.ifCond .eq 22, 3) := by decide +kernel
theorem dX12_life_12 : decode cX12_life 12 = .ok (.aload_n 0, 1) := by decide +kernel
theorem dX12_life_13 : decode cX12_life 13 = .ok (.invokevirtual 373, 3) := by decide +kernel
theorem dX12_life_16 : decode cX12_life 16 = .ok (.ifCond .eq 15, 3) := by decide +kernel
theorem dX12_life_19 : decode cX12_life 19 = .ok (.iload_n 2, 1) := by decide +kernel
theorem dX12_life_20 : decode cX12_life 20 = .ok (.i2l, 1) := by decide +kernel
theorem dX12_life_21 : decode cX12_life 21 = .ok (.lconst 0, 1) := by decide +kernel
theorem dX12_life_22 : decode cX12_life 22 = .ok (.ldc2_w 284, 3) := by decide +kernel
theorem dX12_life_25 : decode cX12_life 25 = .ok (.invokestatic 112, 3) := by decide +kernel
theorem dX12_life_28 : decode cX12_life 28 = .ok (.ifCond .ne 6, 3) := by decide +kernel
theorem dX12_life_31 : decode cX12_life 31 = .ok (.bipush (-2), 2) := by decide +kernel
theorem dX12_life_33 : decode cX12_life 33 = .ok (.ireturn, 1) := by decide +kernel
theorem dX12_life_34 : decode cX12_life 34 = .ok (.aload_n 0, 1) := by decide +kernel
theorem dX12_life_35 : decode cX12_life 35 = .ok (.iload_n 1, 1) := by decide +kernel
theorem dX12_life_36 : decode cX12_life 36 = .ok (.i2l, 1) := by decide +kernel
theorem dX12_life_37 : decode cX12_life 37 = .ok (.invokevirtual 533, 3) := by decide +kernel
theorem dX12_life_40 : decode cX12_life 40 = .ok (.iload_n 2, 1) := by decide +kernel
theorem dX12_life_41 : decode cX12_life 41 = .ok (.ifCond .le 20, 3) := by decide +kernel
theorem dX12_life_44 : decode cX12_life 44 = .ok (.iload_n 2, 1) := by decide +kernel
theorem dX12_life_45 : decode cX12_life 45 = .ok (.iconst 1, 1) := by decide +kernel
theorem dX12_life_46 : decode cX12_life 46 = .ok (.if_icmp .ne 10, 3) := by decide +kernel
theorem dX12_life_49 : decode cX12_life 49 = .ok (.aload_n 0, 1) := by decide +kernel
theorem dX12_life_50 : decode cX12_life 50 = .ok (.invokevirtual 379, 3) := by decide +kernel
theorem dX12_life_53 : decode cX12_life 53 = .ok (.goto 7, 3) := by decide +kernel
theorem dX12_life_56 : decode cX12_life 56 = .ok (.aload_n 0, 1) := by decide +kernel
theorem dX12_life_57 : decode cX12_life 57 = .ok (.getfield 309, 3) := by decide +kernel
theorem dX12_life_60 : decode cX12_life 60 = .ok (.ireturn, 1) := by decide +kernel
theorem dX12_life_61 : decode cX12_life 61 = .ok (.iconst 0, 1) := by decide +kernel
theorem dX12_life_62 : decode cX12_life 62 = .ok (.istore_n 3, 1) := by decide +kernel
theorem dX12_life_63 : decode cX12_life 63 = .ok (.iconst 0, 1) := by decide +kernel
theorem dX12_life_64 : decode cX12_life 64 = .ok (.istore 4, 2) := by decide +kernel
theorem dX12_life_66 : decode cX12_life 66 = .ok (.iload 4, 2) := by decide +kernel
theorem dX12_life_68 : decode cX12_life 68 = .ok (.aload_n 0, 1) := by decide +kernel
theorem dX12_life_69 : decode cX12_life 69 = .ok (.getfield 34, 3) := by decide +kernel
theorem dX12_life_72 : decode cX12_life 72 = .ok (.iconst 0, 1) := by decide +kernel
theorem dX12_life_73 : decode cX12_life 73 = .ok (.iaload, 1) := by decide +kernel
theorem dX12_life_74 : decode cX12_life 74 = .ok (.if_icmp .ge 19, 3) := by decide +kernel
theorem dX12_life_77 : decode cX12_life 77 = .ok (.iload_n 3, 1) := by decide +kernel
theorem dX12_life_78 : decode cX12_life 78 = .ok (.aload_n 0, 1) := by decide +kernel
theorem dX12_life_79 : decode cX12_life 79 = .ok (.iload 4, 2) := by decide +kernel
theorem dX12_life_81 : decode cX12_life 81 = .ok (.iconst 0, 1) := by decide +kernel
theorem dX12_life_82 : decode cX12_life 82 = .ok (.invokevirtual 355, 3) := by decide +kernel
theorem dX12_life_85 : decode cX12_life 85 = .ok (.iadd, 1) := by decide +kernel
theorem dX12_life_86 : decode cX12_life 86 = .ok (.istore_n 3, 1) := by decide +kernel
theorem dX12_life_87 : decode cX12_life 87 = .ok (.iinc 4 1, 3) := by decide +kernel
theorem dX12_life_90 : decode cX12_life 90 = .ok (.goto (-24), 3) := by decide +kernel
theorem dX12_life_93 : decode cX12_life 93 = .ok (.iload_n 3, 1) := by decide +kernel
theorem dX12_life_94 : decode cX12_life 94 = .ok (.ireturn, 1) := by decide +kernel
theorem dX12_lives_0 : decode cX12_lives 0 = .ok (.aload_n 0, 1) := by decide +kernel
theorem dX12_lives_1 : decode cX12_lives 1 = .ok (.iconst 0, 1) := by decide +kernel
theorem dX12_lives_2 : decode cX12_lives 2 = .ok (.putfield 107, 3) := by decide +kernel
theorem dX12_lives_5 : decode cX12_lives 5 = .ok (.iload_n 1, 1) := by decide +kernel
theorem dX12_lives_6 : decode cX12_lives 6 = .ok (.invokestatic 530, 3) := by decide +kernel
theorem dX12_lives_9 : decode cX12_lives 9 = .ok (.ifCond .eq 11, 3) := by decide +kernel
theorem dX12_lives_12 : decode cX12_lives 12 = .ok (.aload_n 0, 1) := by decide +kernel
theorem dX12_lives_13 : decode cX12_lives 13 = .ok (.iload_n 2, 1) := by decide +kernel
theorem dX12_lives_14 : decode cX12_lives 14 = .ok (.invokevirtual 281, 3) := by decide +kernel
theorem dX12_lives_17 : decode cX12_lives 17 = .ok (.ifCond .ne 6, 3) := by decide +kernel
theorem dX12_lives_20 : decode cX12_lives 20 = .ok (.bipush (-2), 2) := by decide +kernel
theorem dX12_lives_22 : decode cX12_lives 22 = .ok (.ireturn, 1) := by decide +kernel
theorem dX12_lives_23 : decode cX12_lives 23 = .ok (.aload_n 0, 1) := by decide +kernel
theorem dX12_lives_24 : decode cX12_lives 24 = .ok (.iload_n 1, 1) := by decide +kernel
theorem dX12_lives_25 : decode cX12_lives 25 = .ok (.i2l, 1) := by decide +kernel
theorem dX12_lives_26 : decode cX12_lives 26 = .ok (.invokevirtual 533, 3) := by decide +kernel
theorem dX12_lives_29 : decode cX12_lives 29 = .ok (.aload_n 0, 1) := by decide +kernel
theorem dX12_lives_30 : decode cX12_lives 30 = .ok (.iload_n 2, 1) := by decide +kernel
theorem dX12_lives_31 : decode cX12_lives 31 = .ok (.invokevirtual 376, 3) := by decide +kernel
theorem dX12_lives_34 : decode cX12_lives 34 = .ok (.ireturn, 1) := by decide +kernel
theorem dX12_lasts_0 : decode cX12_lasts 0 = .ok (.aload_n 0, 1) := by decide +kernel
theorem dX12_lasts_1 : decode cX12_lasts 1 = .ok (.iconst 0, 1) := by decide +kernel
theorem dX12_lasts_2 : decode cX12_lasts 2 = .ok (.putfield 107, 3) := by decide +kernel
theorem dX12_lasts_5 : decode cX12_lasts 5 = .ok (.iload_n 1, 1) := by decide +kernel
theorem dX12_lasts_6 : decode cX12_lasts 6 = .ok (.invokestatic 530, 3) := by decide +kernel
theorem dX12_lasts_9 : decode cX12_lasts 9 = .ok (.ifCond .eq 23, 3) := by decide +kernel
theorem dX12_lasts_12 : decode cX12_lasts 12 = .ok (.iload_n 2, 1) := by decide +kernel
theorem dX12_lasts_13 : decode cX12_lasts 13 = .ok (.i2l, 1) := by decide +kernel
theorem dX12_lasts_14 : decode cX12_lasts 14 = .ok (.lconst 1, 1) := by decide +kernel
theorem dX12_lasts_15 : decode cX12_lasts 15 = .ok (.ldc2_w 536, 3) := by decide +kernel
theorem dX12_lasts_18 : decode cX12_lasts 18 = .ok (.invokestatic 112, 3) := by decide +kernel
theorem dX12_lasts_21 : decode cX12_lasts 21 = .ok (.ifCond .eq 11, 3) := by decide +kernel
theorem dX12_lasts_24 : decode cX12_lasts 24 = .ok (.aload_n 0, 1) := by decide +kernel
theorem dX12_lasts_25 : decode cX12_lasts 25 = .ok (.iload_n 3, 1) := by decide +kernel
theorem dX12_lasts_26 : decode cX12_lasts 26 = .ok (.invokevirtual 281, 3) := by decide +kernel
theorem dX12_lasts_29 : decode cX12_lasts 29 = .ok (.ifCond .ne 6, 3) := by decide +kernel
theorem dX12_lasts_32 : decode cX12_lasts 32 = .ok (.bipush (-2), 2) := by decide +kernel
theorem dX12_lasts_34 : decode cX12_lasts 34 = .ok (.ireturn, 1) := by decide +kernel
theorem dX12_lasts_35 : decode cX12_lasts 35 = .ok (.iconst 0, 1) := by decide +kernel
theorem dX12_lasts_36 : decode cX12_lasts 36 = .ok (.istore 4, 2) := by decide +kernel
theorem dX12_lasts_38 : decode cX12_lasts 38 = .ok (.iconst 0, 1) := by decide +kernel
theorem dX12_lasts_39 : decode cX12_lasts 39 = .ok (.istore 5, 2) := by decide +kernel
theorem dX12_lasts_41 : decode cX12_lasts 41 = .ok (.iload 5, 2) := by decide +kernel
theorem dX12_lasts_43 : decode cX12_lasts 43 = .ok (.iload_n 2, 1) := by decide +kernel
theorem dX12_lasts_44 : decode cX12_lasts 44 = .ok (.if_icmp .ge 45, 3) := by decide +kernel
theorem dX12_lasts_47 : decode cX12_lasts 47 = .ok (.aload_n 0, 1) := by decide +kernel
theorem dX12_lasts_48 : decode cX12_lasts 48 = .ok (.iload_n 1, 1) := by decide +kernel
theorem dX12_lasts_49 : decode cX12_lasts 49 = .ok (.i2l, 1) := by decide +kernel
theorem dX12_lasts_50 : decode cX12_lasts 50 = .ok (.iload 5, 2) := by decide +kernel
theorem dX12_lasts_52 : decode cX12_lasts 52 = .ok (.i2l, 1) := by decide +kernel
theorem dX12_lasts_53 : decode cX12_lasts 53 = .ok (.ladd, 1) := by decide +kernel
theorem dX12_lasts_54 : decode cX12_lasts 54 = .ok (.invokevirtual 533, 3) := by decide +kernel
theorem dX12_lasts_57 : decode cX12_lasts 57 = .ok (.iload 4, 2) := by decide +kernel
theorem dX12_lasts_59 : decode cX12_lasts 59 = .ok (.aload_n 0, 1) := by decide +kernel
theorem dX12_lasts_60 : decode cX12_lasts 60 = .ok (.iload_n 3, 1) := by decide +kernel
theorem dX12_lasts_61 : decode cX12_lasts 61 = .ok (.invokevirtual 376, 3) := by decide +kernel
theorem dX12_lasts_64 : decode cX12_lasts 64 = .ok (.aload_n 0, 1) := by decide +kernel
theorem dX12_lasts_65 : decode cX12_lasts 65 = .ok (.getfield 34, 3) := by decide +kernel
theorem dX12_lasts_68 : decode cX12_lasts 68 = .ok (.iconst 0, 1) := by decide +kernel
theorem dX12_lasts_69 : decode cX12_lasts 69 = .ok (.iaload, 1) := by decide +kernel
theorem dX12_lasts_70 : decode cX12_lasts 70 = .ok (.iconst 1, 1) := by decide +kernel
theorem dX12_lasts_71 : decode cX12_lasts 71 = .ok (.isub, 1) := by decide +kernel
theorem dX12_lasts_72 : decode cX12_lasts 72 = .ok (.if_icmp .ne 7, 3) := by decide +kernel
theorem dX12_lasts_75 : decode cX12_lasts 75 = .ok (.iconst 1, 1) := by decide +kernel
theorem dX12_lasts_76 : decode cX12_lasts 76 = .ok (.goto 4, 3) := by decide +kernel
theorem dX12_lasts_79 : decode cX12_lasts 79 = .ok (.iconst 0, 1) := by decide +kernel
theorem dX12_lasts_80 : decode cX12_lasts 80 = .ok (.iadd, 1) := by decide +kernel
theorem dX12_lasts_81 : decode cX12_lasts 81 = .ok (.istore 4, 2) := by decide +kernel
theorem dX12_lasts_83 : decode cX12_lasts 83 = .ok (.iinc 5 1, 3) := by decide +kernel
theorem dX12_lasts_86 : decode cX12_lasts 86 = .ok (.goto (-45), 3) := by decide +kernel
theorem dX12_lasts_89 : decode cX12_lasts 89 = .ok (.iload 4, 2) := by decide +kernel
theorem dX12_lasts_91 : decode cX12_lasts 91 = .ok (.ireturn, 1) := by decide +kernel
