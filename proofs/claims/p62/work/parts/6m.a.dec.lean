theorem dX12_family_0 : decode cX12_family 0 = .ok (.aload_n 0, 1) := by decide +kernel
theorem dX12_family_1 : decode cX12_family 1 = .ok (.iconst 0, 1) := by decide +kernel
theorem dX12_family_2 : decode cX12_family 2 = .ok (.putfield 107, 3) := by decide +kernel
theorem dX12_family_5 : decode cX12_family 5 = .ok (.aload_n 0, 1) := by decide +kernel
theorem dX12_family_6 : decode cX12_family 6 = .ok (.iload_n 1, 1) := by decide +kernel
theorem dX12_family_7 : decode cX12_family 7 = .ok (.invokevirtual 503, 3) := by decide +kernel
theorem dX12_family_10 : decode cX12_family 10 = .ok (.ifCond .eq 11, 3) := by decide +kernel
theorem dX12_family_13 : decode cX12_family 13 = .ok (.aload_n 0, 1) := by decide +kernel
theorem dX12_family_14 : decode cX12_family 14 = .ok (.iload_n 1, 1) := by decide +kernel
theorem dX12_family_15 : decode cX12_family 15 = .ok (.invokevirtual 500, 3) := by decide +kernel
theorem dX12_family_18 : decode cX12_family 18 = .ok (.goto 5, 3) := by decide +kernel
theorem dX12_family_21 : decode cX12_family 21 = .ok (.bipush (-2), 2) := by decide +kernel
theorem dX12_family_23 : decode cX12_family 23 = .ok (.ireturn, 1) := by decide +kernel
theorem dX12_together_0 : decode cX12_together 0 = .ok (.aload_n 0, 1) := by decide +kernel
theorem dX12_together_1 : decode cX12_together 1 = .ok (.iconst 0, 1) := by decide +kernel
theorem dX12_together_2 : decode cX12_together 2 = .ok (.putfield 107, 3) := by decide +kernel
theorem dX12_together_5 : decode cX12_together 5 = .ok (.aload_n 0, 1) := by decide +kernel
theorem dX12_together_6 : decode cX12_together 6 = .ok (.iload_n 1, 1) := by decide +kernel
theorem dX12_together_7 : decode cX12_together 7 = .ok (.invokevirtual 503, 3) := by decide +kernel
theorem dX12_together_10 : decode cX12_together 10 = .ok (.ifCond .ne 6, 3) := by decide +kernel
theorem dX12_together_13 : decode cX12_together 13 = .ok (.bipush (-2), 2) := by decide +kernel
theorem dX12_together_15 : decode cX12_together 15 = .ok (.ireturn, 1) := by decide +kernel
theorem dX12_together_16 : decode cX12_together 16 = .ok (.aload_n 0, 1) := by decide +kernel
theorem dX12_together_17 : decode cX12_together 17 = .ok (.iload_n 1, 1) := by decide +kernel
theorem dX12_together_18 : decode cX12_together 18 = .ok (.invokevirtual 500, 3) := by decide +kernel
theorem dX12_together_21 : decode cX12_together 21 = .ok (.pop, 1) := by decide +kernel
theorem dX12_together_22 : decode cX12_together 22 = .ok (.aload_n 0, 1) := by decide +kernel
theorem dX12_together_23 : decode cX12_together 23 = .ok (.getfield 497, 3) := by decide +kernel
theorem dX12_together_26 : decode cX12_together 26 = .ok (.ireturn, 1) := by decide +kernel
theorem dX12_whyNot_0 : decode cX12_whyNot 0 = .ok (.iload_n 1, 1) := by decide +kernel
theorem dX12_whyNot_1 : decode cX12_whyNot 1 = .ok (.invokestatic 116, 3) := by decide +kernel
theorem dX12_whyNot_4 : decode cX12_whyNot 4 = .ok (.ifCond .eq 11, 3) := by decide +kernel
theorem dX12_whyNot_7 : decode cX12_whyNot 7 = .ok (.aload_n 0, 1) := by decide +kernel
theorem dX12_whyNot_8 : decode cX12_whyNot 8 = .ok (.iload_n 2, 1) := by decide +kernel
theorem dX12_whyNot_9 : decode cX12_whyNot 9 = .ok (.invokevirtual 281, 3) := by decide +kernel
theorem dX12_whyNot_12 : decode cX12_whyNot 12 = .ok (.ifCond .ne 6, 3) := by decide +kernel
theorem dX12_whyNot_15 : decode cX12_whyNot 15 = .ok (.bipush (-2), 2) := by decide +kernel
theorem dX12_whyNot_17 : decode cX12_whyNot 17 = .ok (.ireturn, 1) := by decide +kernel
theorem dX12_whyNot_18 : decode cX12_whyNot 18 = .ok (.aload_n 0, 1) := by decide +kernel
theorem dX12_whyNot_19 : decode cX12_whyNot 19 = .ok (.getfield 7, 3) := by decide +kernel
theorem dX12_whyNot_22 : decode cX12_whyNot 22 = .ok (.iload_n 1, 1) := by decide +kernel
theorem dX12_whyNot_23 : decode cX12_whyNot 23 = .ok (.iaload, 1) := by decide +kernel
theorem dX12_whyNot_24 : decode cX12_whyNot 24 = .ok (.iconst (-1), 1) := by decide +kernel
theorem dX12_whyNot_25 : decode cX12_whyNot 25 = .ok (.if_icmp .ne 6, 3) := by decide +kernel
theorem dX12_whyNot_28 : decode cX12_whyNot 28 = .ok (.bipush (-6), 2) := by decide +kernel
theorem dX12_whyNot_30 : decode cX12_whyNot 30 = .ok (.ireturn, 1) := by decide +kernel
theorem dX12_whyNot_31 : decode cX12_whyNot 31 = .ok (.aload_n 0, 1) := by decide +kernel
theorem dX12_whyNot_32 : decode cX12_whyNot 32 = .ok (.getfield 13, 3) := by decide +kernel
theorem dX12_whyNot_35 : decode cX12_whyNot 35 = .ok (.iload_n 1, 1) := by decide +kernel
theorem dX12_whyNot_36 : decode cX12_whyNot 36 = .ok (.iaload, 1) := by decide +kernel
theorem dX12_whyNot_37 : decode cX12_whyNot 37 = .ok (.iconst 3, 1) := by decide +kernel
theorem dX12_whyNot_38 : decode cX12_whyNot 38 = .ok (.irem, 1) := by decide +kernel
theorem dX12_whyNot_39 : decode cX12_whyNot 39 = .ok (.ifCond .eq 6, 3) := by decide +kernel
theorem dX12_whyNot_42 : decode cX12_whyNot 42 = .ok (.bipush (-2), 2) := by decide +kernel
theorem dX12_whyNot_44 : decode cX12_whyNot 44 = .ok (.ireturn, 1) := by decide +kernel
theorem dX12_whyNot_45 : decode cX12_whyNot 45 = .ok (.iconst 0, 1) := by decide +kernel
theorem dX12_whyNot_46 : decode cX12_whyNot 46 = .ok (.istore_n 3, 1) := by decide +kernel
theorem dX12_whyNot_47 : decode cX12_whyNot 47 = .ok (.iload_n 3, 1) := by decide +kernel
theorem dX12_whyNot_48 : decode cX12_whyNot 48 = .ok (.aload_n 0, 1) := by decide +kernel
theorem dX12_whyNot_49 : decode cX12_whyNot 49 = .ok (.getfield 13, 3) := by decide +kernel
theorem dX12_whyNot_52 : decode cX12_whyNot 52 = .ok (.iload_n 1, 1) := by decide +kernel
theorem dX12_whyNot_53 : decode cX12_whyNot 53 = .ok (.iaload, 1) := by decide +kernel
theorem dX12_whyNot_54 : decode cX12_whyNot 54 = .ok (.if_icmp .ge 68, 3) := by decide +kernel
theorem dX12_whyNot_57 : decode cX12_whyNot 57 = .ok (.bipush 60, 2) := by decide +kernel
theorem dX12_whyNot_59 : decode cX12_whyNot 59 = .ok (.iload_n 1, 1) := by decide +kernel
theorem dX12_whyNot_60 : decode cX12_whyNot 60 = .ok (.imul, 1) := by decide +kernel
theorem dX12_whyNot_61 : decode cX12_whyNot 61 = .ok (.iload_n 3, 1) := by decide +kernel
theorem dX12_whyNot_62 : decode cX12_whyNot 62 = .ok (.iadd, 1) := by decide +kernel
theorem dX12_whyNot_63 : decode cX12_whyNot 63 = .ok (.istore 4, 2) := by decide +kernel
theorem dX12_whyNot_65 : decode cX12_whyNot 65 = .ok (.aload_n 0, 1) := by decide +kernel
theorem dX12_whyNot_66 : decode cX12_whyNot 66 = .ok (.aload_n 0, 1) := by decide +kernel
theorem dX12_whyNot_67 : decode cX12_whyNot 67 = .ok (.getfield 16, 3) := by decide +kernel
theorem dX12_whyNot_70 : decode cX12_whyNot 70 = .ok (.iload 4, 2) := by decide +kernel
theorem dX12_whyNot_72 : decode cX12_whyNot 72 = .ok (.laload, 1) := by decide +kernel
theorem dX12_whyNot_73 : decode cX12_whyNot 73 = .ok (.invokevirtual 343, 3) := by decide +kernel
theorem dX12_whyNot_76 : decode cX12_whyNot 76 = .ok (.ifCond .eq 37, 3) := by decide +kernel
theorem dX12_whyNot_79 : decode cX12_whyNot 79 = .ok (.aload_n 0, 1) := by decide +kernel
theorem dX12_whyNot_80 : decode cX12_whyNot 80 = .ok (.getfield 16, 3) := by decide +kernel
theorem dX12_whyNot_83 : decode cX12_whyNot 83 = .ok (.iload 4, 2) := by decide +kernel
theorem dX12_whyNot_85 : decode cX12_whyNot 85 = .ok (.iconst 1, 1) := by decide +kernel
theorem dX12_whyNot_86 : decode cX12_whyNot 86 = .ok (.iadd, 1) := by decide +kernel
theorem dX12_whyNot_87 : decode cX12_whyNot 87 = .ok (.laload, 1) := by decide +kernel
theorem dX12_whyNot_88 : decode cX12_whyNot 88 = .ok (.lconst 0, 1) := by decide +kernel
theorem dX12_whyNot_89 : decode cX12_whyNot 89 = .ok (.lconst 1, 1) := by decide +kernel
theorem dX12_whyNot_90 : decode cX12_whyNot 90 = .ok (.invokestatic 112, 3) := by decide +kernel
theorem dX12_whyNot_93 : decode cX12_whyNot 93 = .ok (.ifCond .eq 20, 3) := by decide +kernel
theorem dX12_whyNot_96 : decode cX12_whyNot 96 = .ok (.aload_n 0, 1) := by decide +kernel
theorem dX12_whyNot_97 : decode cX12_whyNot 97 = .ok (.getfield 16, 3) := by decide +kernel
theorem dX12_whyNot_100 : decode cX12_whyNot 100 = .ok (.iload 4, 2) := by decide +kernel
theorem dX12_whyNot_102 : decode cX12_whyNot 102 = .ok (.iconst 2, 1) := by decide +kernel
theorem dX12_whyNot_103 : decode cX12_whyNot 103 = .ok (.iadd, 1) := by decide +kernel
theorem dX12_whyNot_104 : decode cX12_whyNot 104 = .ok (.laload, 1) := by decide +kernel
theorem dX12_whyNot_105 : decode cX12_whyNot 105 = .ok (.lconst 0, 1) := by decide +kernel
theorem dX12_whyNot_106 : decode cX12_whyNot 106 = .ok (.lconst 1, 1) := by decide +kernel
theorem dX12_whyNot_107 : decode cX12_whyNot 107 = .ok (.invokestatic 112, 3) := by decide +kernel
theorem dX12_whyNot_110 : decode cX12_whyNot 110 = .ok (.ifCond .ne 6, 3) := by decide +kernel
theorem dX12_whyNot_113 : decode cX12_whyNot 113 = .ok (.bipush (-2), 2) := by decide +kernel
theorem dX12_whyNot_115 : decode cX12_whyNot 115 = .ok (.ireturn, 1) := by decide +kernel
theorem dX12_whyNot_116 : decode cX12_whyNot 116 = .ok (.iinc 3 3, 3) := by decide +kernel
theorem dX12_whyNot_119 : decode cX12_whyNot 119 = .ok (.goto (-72), 3) := by decide +kernel
theorem dX12_whyNot_122 : decode cX12_whyNot 122 = .ok (.iconst 0, 1) := by decide +kernel
theorem dX12_whyNot_123 : decode cX12_whyNot 123 = .ok (.ireturn, 1) := by decide +kernel
theorem dX12_tries_0 : decode cX12_tries 0 = .ok (.iload 4, 2) := by decide +kernel
theorem dX12_tries_2 : decode cX12_tries 2 = .ok (.istore 5, 2) := by decide +kernel
theorem dX12_tries_4 : decode cX12_tries 4 = .ok (.iconst 0, 1) := by decide +kernel
theorem dX12_tries_5 : decode cX12_tries 5 = .ok (.istore 6, 2) := by decide +kernel
theorem dX12_tries_7 : decode cX12_tries 7 = .ok (.iload 6, 2) := by decide +kernel
theorem dX12_tries_9 : decode cX12_tries 9 = .ok (.aload_n 0, 1) := by decide +kernel
theorem dX12_tries_10 : decode cX12_tries 10 = .ok (.getfield 34, 3) := by decide +kernel
theorem dX12_tries_13 : decode cX12_tries 13 = .ok (.iconst 0, 1) := by decide +kernel
theorem dX12_tries_14 : decode cX12_tries 14 = .ok (.iaload, 1) := by decide +kernel
theorem dX12_tries_15 : decode cX12_tries 15 = .ok (.if_icmp .ge 74, 3) := by decide +kernel
theorem dX12_tries_18 : decode cX12_tries 18 = .ok (.aload_n 0, 1) := by decide +kernel
theorem dX12_tries_19 : decode cX12_tries 19 = .ok (.iload_n 1, 1) := by decide +kernel
theorem dX12_tries_20 : decode cX12_tries 20 = .ok (.iload 6, 2) := by decide +kernel
theorem dX12_tries_22 : decode cX12_tries 22 = .ok (.invokevirtual 330, 3) := by decide +kernel
theorem dX12_tries_25 : decode cX12_tries 25 = .ok (.aload_n 0, 1) := by decide +kernel
theorem dX12_tries_26 : decode cX12_tries 26 = .ok (.getfield 53, 3) := by decide +kernel
theorem dX12_tries_29 : decode cX12_tries 29 = .ok (.iconst 0, 1) := by decide +kernel
theorem dX12_tries_30 : decode cX12_tries 30 = .ok (.iload_n 2, 1) := by decide +kernel
theorem dX12_tries_31 : decode cX12_tries 31 = .ok (.iastore, 1) := by decide +kernel
theorem dX12_tries_32 : decode cX12_tries 32 = .ok (.aload_n 0, 1) := by decide +kernel
theorem dX12_tries_33 : decode cX12_tries 33 = .ok (.getfield 53, 3) := by decide +kernel
theorem dX12_tries_36 : decode cX12_tries 36 = .ok (.iconst 1, 1) := by decide +kernel
theorem dX12_tries_37 : decode cX12_tries 37 = .ok (.iload_n 3, 1) := by decide +kernel
theorem dX12_tries_38 : decode cX12_tries 38 = .ok (.iastore, 1) := by decide +kernel
theorem dX12_tries_39 : decode cX12_tries 39 = .ok (.aload_n 0, 1) := by decide +kernel
theorem dX12_tries_40 : decode cX12_tries 40 = .ok (.iload 5, 2) := by decide +kernel
theorem dX12_tries_42 : decode cX12_tries 42 = .ok (.invokevirtual 333, 3) := by decide +kernel
theorem dX12_tries_45 : decode cX12_tries 45 = .ok (.istore 5, 2) := by decide +kernel
theorem dX12_tries_47 : decode cX12_tries 47 = .ok (.aload_n 0, 1) := by decide +kernel
theorem dX12_tries_48 : decode cX12_tries 48 = .ok (.getfield 104, 3) := by decide +kernel
theorem dX12_tries_51 : decode cX12_tries 51 = .ok (.iload 6, 2) := by decide +kernel
theorem dX12_tries_53 : decode cX12_tries 53 = .ok (.aload_n 0, 1) := by decide +kernel
theorem dX12_tries_54 : decode cX12_tries 54 = .ok (.getfield 65, 3) := by decide +kernel
theorem dX12_tries_57 : decode cX12_tries 57 = .ok (.iconst 0, 1) := by decide +kernel
theorem dX12_tries_58 : decode cX12_tries 58 = .ok (.baload, 1) := by decide +kernel
theorem dX12_tries_59 : decode cX12_tries 59 = .ok (.ifCond .eq 7, 3) := by decide +kernel
theorem dX12_tries_62 : decode cX12_tries 62 = .ok (.iconst 1, 1) := by decide +kernel
theorem dX12_tries_63 : decode cX12_tries 63 = .ok (.goto 4, 3) := by decide +kernel
theorem dX12_tries_66 : decode cX12_tries 66 = .ok (.iconst 0, 1) := by decide +kernel
theorem dX12_tries_67 : decode cX12_tries 67 = .ok (.aload_n 0, 1) := by decide +kernel
theorem dX12_tries_68 : decode cX12_tries 68 = .ok (.getfield 65, 3) := by decide +kernel
theorem dX12_tries_71 : decode cX12_tries 71 = .ok (.iconst 1, 1) := by decide +kernel
theorem dX12_tries_72 : decode cX12_tries 72 = .ok (.baload, 1) := by decide +kernel
theorem dX12_tries_73 : decode cX12_tries 73 = .ok (.ifCond .eq 7, 3) := by decide +kernel
theorem dX12_tries_76 : decode cX12_tries 76 = .ok (.iconst 2, 1) := by decide +kernel
theorem dX12_tries_77 : decode cX12_tries 77 = .ok (.goto 4, 3) := by decide +kernel
theorem dX12_tries_80 : decode cX12_tries 80 = .ok (.iconst 0, 1) := by decide +kernel
theorem dX12_tries_81 : decode cX12_tries 81 = .ok (.ior, 1) := by decide +kernel
theorem dX12_tries_82 : decode cX12_tries 82 = .ok (.iastore, 1) := by decide +kernel
theorem dX12_tries_83 : decode cX12_tries 83 = .ok (.iinc 6 1, 3) := by decide +kernel
theorem dX12_tries_86 : decode cX12_tries 86 = .ok (.goto (-79), 3) := by decide +kernel
theorem dX12_tries_89 : decode cX12_tries 89 = .ok (.return_, 1) := by decide +kernel
theorem dX12_firstOdd_0 : decode cX12_firstOdd 0 = .ok (.iconst 0, 1) := by decide +kernel
theorem dX12_firstOdd_1 : decode cX12_firstOdd 1 = .ok (.istore_n 2, 1) := by decide +kernel
theorem dX12_firstOdd_2 : decode cX12_firstOdd 2 = .ok (.iconst 3, 1) := by decide +kernel
theorem dX12_firstOdd_3 : decode cX12_firstOdd 3 = .ok (.iload_n 2, 1) := by decide +kernel
theorem dX12_firstOdd_4 : decode cX12_firstOdd 4 = .ok (.imul, 1) := by decide +kernel
theorem dX12_firstOdd_5 : decode cX12_firstOdd 5 = .ok (.aload_n 0, 1) := by decide +kernel
theorem dX12_firstOdd_6 : decode cX12_firstOdd 6 = .ok (.getfield 13, 3) := by decide +kernel
theorem dX12_firstOdd_9 : decode cX12_firstOdd 9 = .ok (.iload_n 1, 1) := by decide +kernel
theorem dX12_firstOdd_10 : decode cX12_firstOdd 10 = .ok (.iaload, 1) := by decide +kernel
theorem dX12_firstOdd_11 : decode cX12_firstOdd 11 = .ok (.if_icmp .ge 58, 3) := by decide +kernel
theorem dX12_firstOdd_14 : decode cX12_firstOdd 14 = .ok (.bipush 60, 2) := by decide +kernel
theorem dX12_firstOdd_16 : decode cX12_firstOdd 16 = .ok (.iload_n 1, 1) := by decide +kernel
theorem dX12_firstOdd_17 : decode cX12_firstOdd 17 = .ok (.imul, 1) := by decide +kernel
theorem dX12_firstOdd_18 : decode cX12_firstOdd 18 = .ok (.iconst 3, 1) := by decide +kernel
theorem dX12_firstOdd_19 : decode cX12_firstOdd 19 = .ok (.iload_n 2, 1) := by decide +kernel
theorem dX12_firstOdd_20 : decode cX12_firstOdd 20 = .ok (.imul, 1) := by decide +kernel
theorem dX12_firstOdd_21 : decode cX12_firstOdd 21 = .ok (.iadd, 1) := by decide +kernel
theorem dX12_firstOdd_22 : decode cX12_firstOdd 22 = .ok (.istore_n 3, 1) := by decide +kernel
theorem dX12_firstOdd_23 : decode cX12_firstOdd 23 = .ok (.aload_n 0, 1) := by decide +kernel
theorem dX12_firstOdd_24 : decode cX12_firstOdd 24 = .ok (.getfield 104, 3) := by decide +kernel
theorem dX12_firstOdd_27 : decode cX12_firstOdd 27 = .ok (.aload_n 0, 1) := by decide +kernel
theorem dX12_firstOdd_28 : decode cX12_firstOdd 28 = .ok (.getfield 16, 3) := by decide +kernel
theorem dX12_firstOdd_31 : decode cX12_firstOdd 31 = .ok (.iload_n 3, 1) := by decide +kernel
theorem dX12_firstOdd_32 : decode cX12_firstOdd 32 = .ok (.laload, 1) := by decide +kernel
theorem dX12_firstOdd_33 : decode cX12_firstOdd 33 = .ok (.l2i, 1) := by decide +kernel
theorem dX12_firstOdd_34 : decode cX12_firstOdd 34 = .ok (.iaload, 1) := by decide +kernel
theorem dX12_firstOdd_35 : decode cX12_firstOdd 35 = .ok (.i2l, 1) := by decide +kernel
theorem dX12_firstOdd_36 : decode cX12_firstOdd 36 = .ok (.aload_n 0, 1) := by decide +kernel
theorem dX12_firstOdd_37 : decode cX12_firstOdd 37 = .ok (.getfield 16, 3) := by decide +kernel
theorem dX12_firstOdd_40 : decode cX12_firstOdd 40 = .ok (.iload_n 3, 1) := by decide +kernel
theorem dX12_firstOdd_41 : decode cX12_firstOdd 41 = .ok (.iconst 1, 1) := by decide +kernel
theorem dX12_firstOdd_42 : decode cX12_firstOdd 42 = .ok (.iadd, 1) := by decide +kernel
theorem dX12_firstOdd_43 : decode cX12_firstOdd 43 = .ok (.laload, 1) := by decide +kernel
theorem dX12_firstOdd_44 : decode cX12_firstOdd 44 = .ok (.ldc2_w 284, 3) := by decide +kernel
theorem dX12_firstOdd_47 : decode cX12_firstOdd 47 = .ok (.aload_n 0, 1) := by decide +kernel
theorem dX12_firstOdd_48 : decode cX12_firstOdd 48 = .ok (.getfield 16, 3) := by decide +kernel
theorem dX12_firstOdd_51 : decode cX12_firstOdd 51 = .ok (.iload_n 3, 1) := by decide +kernel
theorem dX12_firstOdd_52 : decode cX12_firstOdd 52 = .ok (.iconst 2, 1) := by decide +kernel
theorem dX12_firstOdd_53 : decode cX12_firstOdd 53 = .ok (.iadd, 1) := by decide +kernel
theorem dX12_firstOdd_54 : decode cX12_firstOdd 54 = .ok (.laload, 1) := by decide +kernel
theorem dX12_firstOdd_55 : decode cX12_firstOdd 55 = .ok (.lmul, 1) := by decide +kernel
theorem dX12_firstOdd_56 : decode cX12_firstOdd 56 = .ok (.ladd, 1) := by decide +kernel
theorem dX12_firstOdd_57 : decode cX12_firstOdd 57 = .ok (.lcmp, 1) := by decide +kernel
theorem dX12_firstOdd_58 : decode cX12_firstOdd 58 = .ok (.ifCond .eq 5, 3) := by decide +kernel
theorem dX12_firstOdd_61 : decode cX12_firstOdd 61 = .ok (.iload_n 2, 1) := by decide +kernel
theorem dX12_firstOdd_62 : decode cX12_firstOdd 62 = .ok (.ireturn, 1) := by decide +kernel
theorem dX12_firstOdd_63 : decode cX12_firstOdd 63 = .ok (.iinc 2 1, 3) := by decide +kernel
theorem dX12_firstOdd_66 : decode cX12_firstOdd 66 = .ok (.goto (-64), 3) := by decide +kernel
theorem dX12_firstOdd_69 : decode cX12_firstOdd 69 = .ok (.iconst (-1), 1) := by decide +kernel
theorem dX12_firstOdd_70 : decode cX12_firstOdd 70 = .ok (.ireturn, 1) := by decide +kernel
theorem dX12_draws_0 : decode cX12_draws 0 = .ok (.aload_n 0, 1) := by decide +kernel
theorem dX12_draws_1 : decode cX12_draws 1 = .ok (.lload_n 1, 1) := by decide +kernel
theorem dX12_draws_2 : decode cX12_draws 2 = .ok (.putfield 298, 3) := by decide +kernel
theorem dX12_draws_5 : decode cX12_draws 5 = .ok (.aload_n 0, 1) := by decide +kernel
theorem dX12_draws_6 : decode cX12_draws 6 = .ok (.iconst 0, 1) := by decide +kernel
theorem dX12_draws_7 : decode cX12_draws 7 = .ok (.putfield 309, 3) := by decide +kernel
theorem dX12_draws_10 : decode cX12_draws 10 = .ok (.aload_n 0, 1) := by decide +kernel
theorem dX12_draws_11 : decode cX12_draws 11 = .ok (.iconst 1, 1) := by decide +kernel
theorem dX12_draws_12 : decode cX12_draws 12 = .ok (.putfield 292, 3) := by decide +kernel
theorem dX12_draws_15 : decode cX12_draws 15 = .ok (.aload_n 0, 1) := by decide +kernel
theorem dX12_draws_16 : decode cX12_draws 16 = .ok (.invokevirtual 346, 3) := by decide +kernel
theorem dX12_draws_19 : decode cX12_draws 19 = .ok (.aload_n 0, 1) := by decide +kernel
theorem dX12_draws_20 : decode cX12_draws 20 = .ok (.iconst 0, 1) := by decide +kernel
theorem dX12_draws_21 : decode cX12_draws 21 = .ok (.putfield 292, 3) := by decide +kernel
theorem dX12_draws_24 : decode cX12_draws 24 = .ok (.return_, 1) := by decide +kernel
