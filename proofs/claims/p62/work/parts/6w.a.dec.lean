theorem dX12_leastOf_0 : decode cX12_leastOf 0 = .ok (.aload_n 0, 1) := by decide +kernel
theorem dX12_leastOf_1 : decode cX12_leastOf 1 = .ok (.iload_n 1, 1) := by decide +kernel
theorem dX12_leastOf_2 : decode cX12_leastOf 2 = .ok (.iload_n 2, 1) := by decide +kernel
theorem dX12_leastOf_3 : decode cX12_leastOf 3 = .ok (.iload_n 3, 1) := by decide +kernel
theorem dX12_leastOf_4 : decode cX12_leastOf 4 = .ok (.iload 4, 2) := by decide +kernel
theorem dX12_leastOf_6 : decode cX12_leastOf 6 = .ok (.invokevirtual 477, 3) := by decide +kernel
theorem dX12_leastOf_9 : decode cX12_leastOf 9 = .ok (.aload_n 0, 1) := by decide +kernel
theorem dX12_leastOf_10 : decode cX12_leastOf 10 = .ok (.getfield 98, 3) := by decide +kernel
theorem dX12_leastOf_13 : decode cX12_leastOf 13 = .ok (.bipush 16, 2) := by decide +kernel
theorem dX12_leastOf_15 : decode cX12_leastOf 15 = .ok (.iload_n 3, 1) := by decide +kernel
theorem dX12_leastOf_16 : decode cX12_leastOf 16 = .ok (.imul, 1) := by decide +kernel
theorem dX12_leastOf_17 : decode cX12_leastOf 17 = .ok (.aload_n 0, 1) := by decide +kernel
theorem dX12_leastOf_18 : decode cX12_leastOf 18 = .ok (.getfield 40, 3) := by decide +kernel
theorem dX12_leastOf_21 : decode cX12_leastOf 21 = .ok (.iconst 3, 1) := by decide +kernel
theorem dX12_leastOf_22 : decode cX12_leastOf 22 = .ok (.iload_n 1, 1) := by decide +kernel
theorem dX12_leastOf_23 : decode cX12_leastOf 23 = .ok (.imul, 1) := by decide +kernel
theorem dX12_leastOf_24 : decode cX12_leastOf 24 = .ok (.iconst 2, 1) := by decide +kernel
theorem dX12_leastOf_25 : decode cX12_leastOf 25 = .ok (.iadd, 1) := by decide +kernel
theorem dX12_leastOf_26 : decode cX12_leastOf 26 = .ok (.iaload, 1) := by decide +kernel
theorem dX12_leastOf_27 : decode cX12_leastOf 27 = .ok (.iadd, 1) := by decide +kernel
theorem dX12_leastOf_28 : decode cX12_leastOf 28 = .ok (.iaload, 1) := by decide +kernel
theorem dX12_leastOf_29 : decode cX12_leastOf 29 = .ok (.istore 5, 2) := by decide +kernel
theorem dX12_leastOf_31 : decode cX12_leastOf 31 = .ok (.iload 5, 2) := by decide +kernel
theorem dX12_leastOf_33 : decode cX12_leastOf 33 = .ok (.ldc 158, 2) := by decide +kernel
theorem dX12_leastOf_35 : decode cX12_leastOf 35 = .ok (.if_icmp .lt 7, 3) := by decide +kernel
theorem dX12_leastOf_38 : decode cX12_leastOf 38 = .ok (.iconst (-1), 1) := by decide +kernel
theorem dX12_leastOf_39 : decode cX12_leastOf 39 = .ok (.goto 5, 3) := by decide +kernel
theorem dX12_leastOf_42 : decode cX12_leastOf 42 = .ok (.iload 5, 2) := by decide +kernel
theorem dX12_leastOf_44 : decode cX12_leastOf 44 = .ok (.ireturn, 1) := by decide +kernel
theorem dX12_stepOf_0 : decode cX12_stepOf 0 = .ok (.aload_n 0, 1) := by decide +kernel
theorem dX12_stepOf_1 : decode cX12_stepOf 1 = .ok (.iload_n 1, 1) := by decide +kernel
theorem dX12_stepOf_2 : decode cX12_stepOf 2 = .ok (.iload_n 2, 1) := by decide +kernel
theorem dX12_stepOf_3 : decode cX12_stepOf 3 = .ok (.iload_n 3, 1) := by decide +kernel
theorem dX12_stepOf_4 : decode cX12_stepOf 4 = .ok (.iload 5, 2) := by decide +kernel
theorem dX12_stepOf_6 : decode cX12_stepOf 6 = .ok (.invokevirtual 481, 3) := by decide +kernel
theorem dX12_stepOf_9 : decode cX12_stepOf 9 = .ok (.iconst (-1), 1) := by decide +kernel
theorem dX12_stepOf_10 : decode cX12_stepOf 10 = .ok (.if_icmp .eq 17, 3) := by decide +kernel
theorem dX12_stepOf_13 : decode cX12_stepOf 13 = .ok (.iload 4, 2) := by decide +kernel
theorem dX12_stepOf_15 : decode cX12_stepOf 15 = .ok (.i2l, 1) := by decide +kernel
theorem dX12_stepOf_16 : decode cX12_stepOf 16 = .ok (.lconst 0, 1) := by decide +kernel
theorem dX12_stepOf_17 : decode cX12_stepOf 17 = .ok (.iload_n 3, 1) := by decide +kernel
theorem dX12_stepOf_18 : decode cX12_stepOf 18 = .ok (.iconst 1, 1) := by decide +kernel
theorem dX12_stepOf_19 : decode cX12_stepOf 19 = .ok (.isub, 1) := by decide +kernel
theorem dX12_stepOf_20 : decode cX12_stepOf 20 = .ok (.i2l, 1) := by decide +kernel
theorem dX12_stepOf_21 : decode cX12_stepOf 21 = .ok (.invokestatic 112, 3) := by decide +kernel
theorem dX12_stepOf_24 : decode cX12_stepOf 24 = .ok (.ifCond .ne 5, 3) := by decide +kernel
theorem dX12_stepOf_27 : decode cX12_stepOf 27 = .ok (.iconst (-1), 1) := by decide +kernel
theorem dX12_stepOf_28 : decode cX12_stepOf 28 = .ok (.ireturn, 1) := by decide +kernel
theorem dX12_stepOf_29 : decode cX12_stepOf 29 = .ok (.aload_n 0, 1) := by decide +kernel
theorem dX12_stepOf_30 : decode cX12_stepOf 30 = .ok (.iload_n 2, 1) := by decide +kernel
theorem dX12_stepOf_31 : decode cX12_stepOf 31 = .ok (.putfield 68, 3) := by decide +kernel
theorem dX12_stepOf_34 : decode cX12_stepOf 34 = .ok (.aload_n 0, 1) := by decide +kernel
theorem dX12_stepOf_35 : decode cX12_stepOf 35 = .ok (.getfield 40, 3) := by decide +kernel
theorem dX12_stepOf_38 : decode cX12_stepOf 38 = .ok (.iconst 3, 1) := by decide +kernel
theorem dX12_stepOf_39 : decode cX12_stepOf 39 = .ok (.iload_n 1, 1) := by decide +kernel
theorem dX12_stepOf_40 : decode cX12_stepOf 40 = .ok (.imul, 1) := by decide +kernel
theorem dX12_stepOf_41 : decode cX12_stepOf 41 = .ok (.iconst 2, 1) := by decide +kernel
theorem dX12_stepOf_42 : decode cX12_stepOf 42 = .ok (.iadd, 1) := by decide +kernel
theorem dX12_stepOf_43 : decode cX12_stepOf 43 = .ok (.iaload, 1) := by decide +kernel
theorem dX12_stepOf_44 : decode cX12_stepOf 44 = .ok (.istore 6, 2) := by decide +kernel
theorem dX12_stepOf_46 : decode cX12_stepOf 46 = .ok (.iconst 0, 1) := by decide +kernel
theorem dX12_stepOf_47 : decode cX12_stepOf 47 = .ok (.istore 7, 2) := by decide +kernel
theorem dX12_stepOf_49 : decode cX12_stepOf 49 = .ok (.iload_n 3, 1) := by decide +kernel
theorem dX12_stepOf_50 : decode cX12_stepOf 50 = .ok (.istore 8, 2) := by decide +kernel
theorem dX12_stepOf_52 : decode cX12_stepOf 52 = .ok (.iload 8, 2) := by decide +kernel
theorem dX12_stepOf_54 : decode cX12_stepOf 54 = .ok (.iload_n 3, 1) := by decide +kernel
theorem dX12_stepOf_55 : decode cX12_stepOf 55 = .ok (.iload 4, 2) := by decide +kernel
theorem dX12_stepOf_57 : decode cX12_stepOf 57 = .ok (.isub, 1) := by decide +kernel
theorem dX12_stepOf_58 : decode cX12_stepOf 58 = .ok (.if_icmp .lt 58, 3) := by decide +kernel
theorem dX12_stepOf_61 : decode cX12_stepOf 61 = .ok (.aload_n 0, 1) := by decide +kernel
theorem dX12_stepOf_62 : decode cX12_stepOf 62 = .ok (.iload_n 2, 1) := by decide +kernel
theorem dX12_stepOf_63 : decode cX12_stepOf 63 = .ok (.iload 8, 2) := by decide +kernel
theorem dX12_stepOf_65 : decode cX12_stepOf 65 = .ok (.iload 6, 2) := by decide +kernel
theorem dX12_stepOf_67 : decode cX12_stepOf 67 = .ok (.iconst 0, 1) := by decide +kernel
theorem dX12_stepOf_68 : decode cX12_stepOf 68 = .ok (.iload 5, 2) := by decide +kernel
theorem dX12_stepOf_70 : decode cX12_stepOf 70 = .ok (.invokevirtual 470, 3) := by decide +kernel
theorem dX12_stepOf_73 : decode cX12_stepOf 73 = .ok (.aload_n 0, 1) := by decide +kernel
theorem dX12_stepOf_74 : decode cX12_stepOf 74 = .ok (.getfield 98, 3) := by decide +kernel
theorem dX12_stepOf_77 : decode cX12_stepOf 77 = .ok (.bipush 16, 2) := by decide +kernel
theorem dX12_stepOf_79 : decode cX12_stepOf 79 = .ok (.iload 8, 2) := by decide +kernel
theorem dX12_stepOf_81 : decode cX12_stepOf 81 = .ok (.imul, 1) := by decide +kernel
theorem dX12_stepOf_82 : decode cX12_stepOf 82 = .ok (.iload 6, 2) := by decide +kernel
theorem dX12_stepOf_84 : decode cX12_stepOf 84 = .ok (.iadd, 1) := by decide +kernel
theorem dX12_stepOf_85 : decode cX12_stepOf 85 = .ok (.iaload, 1) := by decide +kernel
theorem dX12_stepOf_86 : decode cX12_stepOf 86 = .ok (.if_icmp .eq 7, 3) := by decide +kernel
theorem dX12_stepOf_89 : decode cX12_stepOf 89 = .ok (.iconst 1, 1) := by decide +kernel
theorem dX12_stepOf_90 : decode cX12_stepOf 90 = .ok (.goto 4, 3) := by decide +kernel
theorem dX12_stepOf_93 : decode cX12_stepOf 93 = .ok (.iconst 0, 1) := by decide +kernel
theorem dX12_stepOf_94 : decode cX12_stepOf 94 = .ok (.istore 7, 2) := by decide +kernel
theorem dX12_stepOf_96 : decode cX12_stepOf 96 = .ok (.aload_n 0, 1) := by decide +kernel
theorem dX12_stepOf_97 : decode cX12_stepOf 97 = .ok (.iload 7, 2) := by decide +kernel
theorem dX12_stepOf_99 : decode cX12_stepOf 99 = .ok (.putfield 312, 3) := by decide +kernel
theorem dX12_stepOf_102 : decode cX12_stepOf 102 = .ok (.aload_n 0, 1) := by decide +kernel
theorem dX12_stepOf_103 : decode cX12_stepOf 103 = .ok (.iload 6, 2) := by decide +kernel
theorem dX12_stepOf_105 : decode cX12_stepOf 105 = .ok (.invokevirtual 333, 3) := by decide +kernel
theorem dX12_stepOf_108 : decode cX12_stepOf 108 = .ok (.istore 6, 2) := by decide +kernel
theorem dX12_stepOf_110 : decode cX12_stepOf 110 = .ok (.iinc 8 (-1), 3) := by decide +kernel
theorem dX12_stepOf_113 : decode cX12_stepOf 113 = .ok (.goto (-61), 3) := by decide +kernel
theorem dX12_stepOf_116 : decode cX12_stepOf 116 = .ok (.aload_n 0, 1) := by decide +kernel
theorem dX12_stepOf_117 : decode cX12_stepOf 117 = .ok (.iconst (-1), 1) := by decide +kernel
theorem dX12_stepOf_118 : decode cX12_stepOf 118 = .ok (.putfield 68, 3) := by decide +kernel
theorem dX12_stepOf_121 : decode cX12_stepOf 121 = .ok (.iload 7, 2) := by decide +kernel
theorem dX12_stepOf_123 : decode cX12_stepOf 123 = .ok (.ifCond .eq 7, 3) := by decide +kernel
theorem dX12_stepOf_126 : decode cX12_stepOf 126 = .ok (.iconst 1, 1) := by decide +kernel
theorem dX12_stepOf_127 : decode cX12_stepOf 127 = .ok (.goto 4, 3) := by decide +kernel
theorem dX12_stepOf_130 : decode cX12_stepOf 130 = .ok (.iconst 0, 1) := by decide +kernel
theorem dX12_stepOf_131 : decode cX12_stepOf 131 = .ok (.ireturn, 1) := by decide +kernel
theorem dX12_ending_0 : decode cX12_ending 0 = .ok (.aload_n 0, 1) := by decide +kernel
theorem dX12_ending_1 : decode cX12_ending 1 = .ok (.iconst 0, 1) := by decide +kernel
theorem dX12_ending_2 : decode cX12_ending 2 = .ok (.putfield 107, 3) := by decide +kernel
theorem dX12_ending_5 : decode cX12_ending 5 = .ok (.aload_n 0, 1) := by decide +kernel
theorem dX12_ending_6 : decode cX12_ending 6 = .ok (.iload_n 1, 1) := by decide +kernel
theorem dX12_ending_7 : decode cX12_ending 7 = .ok (.iload_n 2, 1) := by decide +kernel
theorem dX12_ending_8 : decode cX12_ending 8 = .ok (.iload_n 3, 1) := by decide +kernel
theorem dX12_ending_9 : decode cX12_ending 9 = .ok (.invokevirtual 487, 3) := by decide +kernel
theorem dX12_ending_12 : decode cX12_ending 12 = .ok (.ifCond .eq 14, 3) := by decide +kernel
theorem dX12_ending_15 : decode cX12_ending 15 = .ok (.aload_n 0, 1) := by decide +kernel
theorem dX12_ending_16 : decode cX12_ending 16 = .ok (.iload_n 1, 1) := by decide +kernel
theorem dX12_ending_17 : decode cX12_ending 17 = .ok (.iload_n 2, 1) := by decide +kernel
theorem dX12_ending_18 : decode cX12_ending 18 = .ok (.iload_n 3, 1) := by decide +kernel
theorem dX12_ending_19 : decode cX12_ending 19 = .ok (.iconst 0, 1) := by decide +kernel
theorem dX12_ending_20 : decode cX12_ending 20 = .ok (.invokevirtual 481, 3) := by decide +kernel
theorem dX12_ending_23 : decode cX12_ending 23 = .ok (.goto 5, 3) := by decide +kernel
theorem dX12_ending_26 : decode cX12_ending 26 = .ok (.bipush (-2), 2) := by decide +kernel
theorem dX12_ending_28 : decode cX12_ending 28 = .ok (.ireturn, 1) := by decide +kernel
theorem dX12_step_0 : decode cX12_step 0 = .ok (.aload_n 0, 1) := by decide +kernel
theorem dX12_step_1 : decode cX12_step 1 = .ok (.iconst 0, 1) := by decide +kernel
theorem dX12_step_2 : decode cX12_step 2 = .ok (.putfield 107, 3) := by decide +kernel
theorem dX12_step_5 : decode cX12_step 5 = .ok (.aload_n 0, 1) := by decide +kernel
theorem dX12_step_6 : decode cX12_step 6 = .ok (.iload_n 1, 1) := by decide +kernel
theorem dX12_step_7 : decode cX12_step 7 = .ok (.iload_n 2, 1) := by decide +kernel
theorem dX12_step_8 : decode cX12_step 8 = .ok (.iload_n 3, 1) := by decide +kernel
theorem dX12_step_9 : decode cX12_step 9 = .ok (.invokevirtual 487, 3) := by decide +kernel
theorem dX12_step_12 : decode cX12_step 12 = .ok (.ifCond .eq 16, 3) := by decide +kernel
theorem dX12_step_15 : decode cX12_step 15 = .ok (.aload_n 0, 1) := by decide +kernel
theorem dX12_step_16 : decode cX12_step 16 = .ok (.iload_n 1, 1) := by decide +kernel
theorem dX12_step_17 : decode cX12_step 17 = .ok (.iload_n 2, 1) := by decide +kernel
theorem dX12_step_18 : decode cX12_step 18 = .ok (.iload_n 3, 1) := by decide +kernel
theorem dX12_step_19 : decode cX12_step 19 = .ok (.iload 4, 2) := by decide +kernel
theorem dX12_step_21 : decode cX12_step 21 = .ok (.iconst 0, 1) := by decide +kernel
theorem dX12_step_22 : decode cX12_step 22 = .ok (.invokevirtual 490, 3) := by decide +kernel
theorem dX12_step_25 : decode cX12_step 25 = .ok (.goto 5, 3) := by decide +kernel
theorem dX12_step_28 : decode cX12_step 28 = .ok (.bipush (-2), 2) := by decide +kernel
theorem dX12_step_30 : decode cX12_step 30 = .ok (.ireturn, 1) := by decide +kernel
theorem dX12_keeping_0 : decode cX12_keeping 0 = .ok (.aload_n 0, 1) := by decide +kernel
theorem dX12_keeping_1 : decode cX12_keeping 1 = .ok (.iconst 0, 1) := by decide +kernel
theorem dX12_keeping_2 : decode cX12_keeping 2 = .ok (.putfield 107, 3) := by decide +kernel
theorem dX12_keeping_5 : decode cX12_keeping 5 = .ok (.aload_n 0, 1) := by decide +kernel
theorem dX12_keeping_6 : decode cX12_keeping 6 = .ok (.iload_n 1, 1) := by decide +kernel
theorem dX12_keeping_7 : decode cX12_keeping 7 = .ok (.iload_n 2, 1) := by decide +kernel
theorem dX12_keeping_8 : decode cX12_keeping 8 = .ok (.iload_n 3, 1) := by decide +kernel
theorem dX12_keeping_9 : decode cX12_keeping 9 = .ok (.invokevirtual 487, 3) := by decide +kernel
theorem dX12_keeping_12 : decode cX12_keeping 12 = .ok (.ifCond .eq 14, 3) := by decide +kernel
theorem dX12_keeping_15 : decode cX12_keeping 15 = .ok (.aload_n 0, 1) := by decide +kernel
theorem dX12_keeping_16 : decode cX12_keeping 16 = .ok (.iload_n 1, 1) := by decide +kernel
theorem dX12_keeping_17 : decode cX12_keeping 17 = .ok (.iload_n 2, 1) := by decide +kernel
theorem dX12_keeping_18 : decode cX12_keeping 18 = .ok (.iload_n 3, 1) := by decide +kernel
theorem dX12_keeping_19 : decode cX12_keeping 19 = .ok (.iconst 1, 1) := by decide +kernel
theorem dX12_keeping_20 : decode cX12_keeping 20 = .ok (.invokevirtual 481, 3) := by decide +kernel
theorem dX12_keeping_23 : decode cX12_keeping 23 = .ok (.goto 5, 3) := by decide +kernel
theorem dX12_keeping_26 : decode cX12_keeping 26 = .ok (.bipush (-2), 2) := by decide +kernel
theorem dX12_keeping_28 : decode cX12_keeping 28 = .ok (.ireturn, 1) := by decide +kernel
