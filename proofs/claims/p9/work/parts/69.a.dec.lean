theorem dX12_pair_0 : decode cX12_pair 0 = .ok (.aload_n 0, 1) := by decide +kernel
theorem dX12_pair_1 : decode cX12_pair 1 = .ok (.iconst 0, 1) := by decide +kernel
theorem dX12_pair_2 : decode cX12_pair 2 = .ok (.putfield 107, 3) := by decide +kernel
theorem dX12_pair_5 : decode cX12_pair 5 = .ok (.aload_n 0, 1) := by decide +kernel
theorem dX12_pair_6 : decode cX12_pair 6 = .ok (.iload_n 1, 1) := by decide +kernel
theorem dX12_pair_7 : decode cX12_pair 7 = .ok (.invokevirtual 281, 3) := by decide +kernel
theorem dX12_pair_10 : decode cX12_pair 10 = .ok (.ifCond .eq 28, 3) := by decide +kernel
theorem dX12_pair_13 : decode cX12_pair 13 = .ok (.iload_n 2, 1) := by decide +kernel
theorem dX12_pair_14 : decode cX12_pair 14 = .ok (.i2l, 1) := by decide +kernel
theorem dX12_pair_15 : decode cX12_pair 15 = .ok (.lconst 0, 1) := by decide +kernel
theorem dX12_pair_16 : decode cX12_pair 16 = .ok (.ldc2_w 284, 3) := by decide +kernel
theorem dX12_pair_19 : decode cX12_pair 19 = .ok (.invokestatic 112, 3) := by decide +kernel
theorem dX12_pair_22 : decode cX12_pair 22 = .ok (.ifCond .eq 16, 3) := by decide +kernel
theorem dX12_pair_25 : decode cX12_pair 25 = .ok (.aload_n 0, 1) := by decide +kernel
theorem dX12_pair_26 : decode cX12_pair 26 = .ok (.getfield 40, 3) := by decide +kernel
theorem dX12_pair_29 : decode cX12_pair 29 = .ok (.iconst 3, 1) := by decide +kernel
theorem dX12_pair_30 : decode cX12_pair 30 = .ok (.iload_n 1, 1) := by decide +kernel
theorem dX12_pair_31 : decode cX12_pair 31 = .ok (.imul, 1) := by decide +kernel
theorem dX12_pair_32 : decode cX12_pair 32 = .ok (.iload_n 2, 1) := by decide +kernel
theorem dX12_pair_33 : decode cX12_pair 33 = .ok (.iadd, 1) := by decide +kernel
theorem dX12_pair_34 : decode cX12_pair 34 = .ok (.iaload, 1) := by decide +kernel
theorem dX12_pair_35 : decode cX12_pair 35 = .ok (.goto 5, 3) := by decide +kernel
theorem dX12_pair_38 : decode cX12_pair 38 = .ok (.bipush (-2), 2) := by decide +kernel
theorem dX12_pair_40 : decode cX12_pair 40 = .ok (.ireturn, 1) := by decide +kernel
theorem dX12_of_0 : decode cX12_of 0 = .ok (.aload_n 0, 1) := by decide +kernel
theorem dX12_of_1 : decode cX12_of 1 = .ok (.iconst 0, 1) := by decide +kernel
theorem dX12_of_2 : decode cX12_of 2 = .ok (.putfield 107, 3) := by decide +kernel
theorem dX12_of_5 : decode cX12_of 5 = .ok (.aload_n 0, 1) := by decide +kernel
theorem dX12_of_6 : decode cX12_of 6 = .ok (.iload_n 1, 1) := by decide +kernel
theorem dX12_of_7 : decode cX12_of 7 = .ok (.invokevirtual 276, 3) := by decide +kernel
theorem dX12_of_10 : decode cX12_of 10 = .ok (.ifCond .eq 26, 3) := by decide +kernel
theorem dX12_of_13 : decode cX12_of 13 = .ok (.aload_n 0, 1) := by decide +kernel
theorem dX12_of_14 : decode cX12_of 14 = .ok (.iload_n 2, 1) := by decide +kernel
theorem dX12_of_15 : decode cX12_of 15 = .ok (.invokevirtual 276, 3) := by decide +kernel
theorem dX12_of_18 : decode cX12_of 18 = .ok (.ifCond .eq 18, 3) := by decide +kernel
theorem dX12_of_21 : decode cX12_of 21 = .ok (.iload_n 1, 1) := by decide +kernel
theorem dX12_of_22 : decode cX12_of 22 = .ok (.iload_n 2, 1) := by decide +kernel
theorem dX12_of_23 : decode cX12_of 23 = .ok (.if_icmp .eq 13, 3) := by decide +kernel
theorem dX12_of_26 : decode cX12_of 26 = .ok (.aload_n 0, 1) := by decide +kernel
theorem dX12_of_27 : decode cX12_of 27 = .ok (.iconst 0, 1) := by decide +kernel
theorem dX12_of_28 : decode cX12_of 28 = .ok (.iload_n 1, 1) := by decide +kernel
theorem dX12_of_29 : decode cX12_of 29 = .ok (.iload_n 2, 1) := by decide +kernel
theorem dX12_of_30 : decode cX12_of 30 = .ok (.invokevirtual 210, 3) := by decide +kernel
theorem dX12_of_33 : decode cX12_of 33 = .ok (.goto 5, 3) := by decide +kernel
theorem dX12_of_36 : decode cX12_of 36 = .ok (.bipush (-2), 2) := by decide +kernel
theorem dX12_of_38 : decode cX12_of 38 = .ok (.ireturn, 1) := by decide +kernel
theorem dX12_does_0 : decode cX12_does 0 = .ok (.aload_n 0, 1) := by decide +kernel
theorem dX12_does_1 : decode cX12_does 1 = .ok (.iconst 0, 1) := by decide +kernel
theorem dX12_does_2 : decode cX12_does 2 = .ok (.putfield 107, 3) := by decide +kernel
theorem dX12_does_5 : decode cX12_does 5 = .ok (.iload_n 1, 1) := by decide +kernel
theorem dX12_does_6 : decode cX12_does 6 = .ok (.i2l, 1) := by decide +kernel
theorem dX12_does_7 : decode cX12_does 7 = .ok (.lconst 0, 1) := by decide +kernel
theorem dX12_does_8 : decode cX12_does 8 = .ok (.ldc2_w 286, 3) := by decide +kernel
theorem dX12_does_11 : decode cX12_does 11 = .ok (.invokestatic 112, 3) := by decide +kernel
theorem dX12_does_14 : decode cX12_does 14 = .ok (.ifCond .eq 35, 3) := by decide +kernel
theorem dX12_does_17 : decode cX12_does 17 = .ok (.iload_n 2, 1) := by decide +kernel
theorem dX12_does_18 : decode cX12_does 18 = .ok (.i2l, 1) := by decide +kernel
theorem dX12_does_19 : decode cX12_does 19 = .ok (.lconst 0, 1) := by decide +kernel
theorem dX12_does_20 : decode cX12_does 20 = .ok (.lconst 1, 1) := by decide +kernel
theorem dX12_does_21 : decode cX12_does 21 = .ok (.invokestatic 112, 3) := by decide +kernel
theorem dX12_does_24 : decode cX12_does 24 = .ok (.ifCond .eq 25, 3) := by decide +kernel
theorem dX12_does_27 : decode cX12_does 27 = .ok (.iload_n 3, 1) := by decide +kernel
theorem dX12_does_28 : decode cX12_does 28 = .ok (.i2l, 1) := by decide +kernel
theorem dX12_does_29 : decode cX12_does 29 = .ok (.lconst 0, 1) := by decide +kernel
theorem dX12_does_30 : decode cX12_does 30 = .ok (.lconst 1, 1) := by decide +kernel
theorem dX12_does_31 : decode cX12_does 31 = .ok (.invokestatic 112, 3) := by decide +kernel
theorem dX12_does_34 : decode cX12_does 34 = .ok (.ifCond .eq 15, 3) := by decide +kernel
theorem dX12_does_37 : decode cX12_does 37 = .ok (.iload_n 1, 1) := by decide +kernel
theorem dX12_does_38 : decode cX12_does 38 = .ok (.iload_n 2, 1) := by decide +kernel
theorem dX12_does_39 : decode cX12_does 39 = .ok (.iconst 2, 1) := by decide +kernel
theorem dX12_does_40 : decode cX12_does 40 = .ok (.iload_n 3, 1) := by decide +kernel
theorem dX12_does_41 : decode cX12_does 41 = .ok (.imul, 1) := by decide +kernel
theorem dX12_does_42 : decode cX12_does 42 = .ok (.iadd, 1) := by decide +kernel
theorem dX12_does_43 : decode cX12_does 43 = .ok (.ishr, 1) := by decide +kernel
theorem dX12_does_44 : decode cX12_does 44 = .ok (.iconst 1, 1) := by decide +kernel
theorem dX12_does_45 : decode cX12_does 45 = .ok (.iand, 1) := by decide +kernel
theorem dX12_does_46 : decode cX12_does 46 = .ok (.goto 5, 3) := by decide +kernel
theorem dX12_does_49 : decode cX12_does 49 = .ok (.bipush (-2), 2) := by decide +kernel
theorem dX12_does_51 : decode cX12_does 51 = .ok (.ireturn, 1) := by decide +kernel
theorem dX12_wouldSend_0 : decode cX12_wouldSend 0 = .ok (.iload_n 2, 1) := by decide +kernel
theorem dX12_wouldSend_1 : decode cX12_wouldSend 1 = .ok (.iconst 2, 1) := by decide +kernel
theorem dX12_wouldSend_2 : decode cX12_wouldSend 2 = .ok (.iload_n 1, 1) := by decide +kernel
theorem dX12_wouldSend_3 : decode cX12_wouldSend 3 = .ok (.imul, 1) := by decide +kernel
theorem dX12_wouldSend_4 : decode cX12_wouldSend 4 = .ok (.ishr, 1) := by decide +kernel
theorem dX12_wouldSend_5 : decode cX12_wouldSend 5 = .ok (.iconst 3, 1) := by decide +kernel
theorem dX12_wouldSend_6 : decode cX12_wouldSend 6 = .ok (.iand, 1) := by decide +kernel
theorem dX12_wouldSend_7 : decode cX12_wouldSend 7 = .ok (.istore_n 3, 1) := by decide +kernel
theorem dX12_wouldSend_8 : decode cX12_wouldSend 8 = .ok (.aload_n 0, 1) := by decide +kernel
theorem dX12_wouldSend_9 : decode cX12_wouldSend 9 = .ok (.getfield 53, 3) := by decide +kernel
theorem dX12_wouldSend_12 : decode cX12_wouldSend 12 = .ok (.iload_n 1, 1) := by decide +kernel
theorem dX12_wouldSend_13 : decode cX12_wouldSend 13 = .ok (.iaload, 1) := by decide +kernel
theorem dX12_wouldSend_14 : decode cX12_wouldSend 14 = .ok (.bipush 15, 2) := by decide +kernel
theorem dX12_wouldSend_16 : decode cX12_wouldSend 16 = .ok (.iand, 1) := by decide +kernel
theorem dX12_wouldSend_17 : decode cX12_wouldSend 17 = .ok (.iload_n 3, 1) := by decide +kernel
theorem dX12_wouldSend_18 : decode cX12_wouldSend 18 = .ok (.invokestatic 288, 3) := by decide +kernel
theorem dX12_wouldSend_21 : decode cX12_wouldSend 21 = .ok (.ireturn, 1) := by decide +kernel
theorem dX12_isForgotten_0 : decode cX12_isForgotten 0 = .ok (.aload_n 0, 1) := by decide +kernel
theorem dX12_isForgotten_1 : decode cX12_isForgotten 1 = .ok (.getfield 292, 3) := by decide +kernel
theorem dX12_isForgotten_4 : decode cX12_isForgotten 4 = .ok (.ifCond .ne 5, 3) := by decide +kernel
theorem dX12_isForgotten_7 : decode cX12_isForgotten 7 = .ok (.iconst 0, 1) := by decide +kernel
theorem dX12_isForgotten_8 : decode cX12_isForgotten 8 = .ok (.ireturn, 1) := by decide +kernel
theorem dX12_isForgotten_9 : decode cX12_isForgotten 9 = .ok (.aload_n 0, 1) := by decide +kernel
theorem dX12_isForgotten_10 : decode cX12_isForgotten 10 = .ok (.ldc2_w 296, 3) := by decide +kernel
theorem dX12_isForgotten_13 : decode cX12_isForgotten 13 = .ok (.aload_n 0, 1) := by decide +kernel
theorem dX12_isForgotten_14 : decode cX12_isForgotten 14 = .ok (.getfield 298, 3) := by decide +kernel
theorem dX12_isForgotten_17 : decode cX12_isForgotten 17 = .ok (.lmul, 1) := by decide +kernel
theorem dX12_isForgotten_18 : decode cX12_isForgotten 18 = .ok (.ldc2_w 301, 3) := by decide +kernel
theorem dX12_isForgotten_21 : decode cX12_isForgotten 21 = .ok (.ladd, 1) := by decide +kernel
theorem dX12_isForgotten_22 : decode cX12_isForgotten 22 = .ok (.ldc2_w 303, 3) := by decide +kernel
theorem dX12_isForgotten_25 : decode cX12_isForgotten 25 = .ok (.lrem, 1) := by decide +kernel
theorem dX12_isForgotten_26 : decode cX12_isForgotten 26 = .ok (.putfield 298, 3) := by decide +kernel
theorem dX12_isForgotten_29 : decode cX12_isForgotten 29 = .ok (.aload_n 0, 1) := by decide +kernel
theorem dX12_isForgotten_30 : decode cX12_isForgotten 30 = .ok (.getfield 298, 3) := by decide +kernel
theorem dX12_isForgotten_33 : decode cX12_isForgotten 33 = .ok (.ldc2_w 305, 3) := by decide +kernel
theorem dX12_isForgotten_36 : decode cX12_isForgotten 36 = .ok (.ldiv, 1) := by decide +kernel
theorem dX12_isForgotten_37 : decode cX12_isForgotten 37 = .ok (.ldc2_w 307, 3) := by decide +kernel
theorem dX12_isForgotten_40 : decode cX12_isForgotten 40 = .ok (.lrem, 1) := by decide +kernel
theorem dX12_isForgotten_41 : decode cX12_isForgotten 41 = .ok (.aload_n 0, 1) := by decide +kernel
theorem dX12_isForgotten_42 : decode cX12_isForgotten 42 = .ok (.getfield 71, 3) := by decide +kernel
theorem dX12_isForgotten_45 : decode cX12_isForgotten 45 = .ok (.iload_n 1, 1) := by decide +kernel
theorem dX12_isForgotten_46 : decode cX12_isForgotten 46 = .ok (.iaload, 1) := by decide +kernel
theorem dX12_isForgotten_47 : decode cX12_isForgotten 47 = .ok (.i2l, 1) := by decide +kernel
theorem dX12_isForgotten_48 : decode cX12_isForgotten 48 = .ok (.lcmp, 1) := by decide +kernel
theorem dX12_isForgotten_49 : decode cX12_isForgotten 49 = .ok (.ifCond .ge 7, 3) := by decide +kernel
theorem dX12_isForgotten_52 : decode cX12_isForgotten 52 = .ok (.iconst 1, 1) := by decide +kernel
theorem dX12_isForgotten_53 : decode cX12_isForgotten 53 = .ok (.goto 4, 3) := by decide +kernel
theorem dX12_isForgotten_56 : decode cX12_isForgotten 56 = .ok (.iconst 0, 1) := by decide +kernel
theorem dX12_isForgotten_57 : decode cX12_isForgotten 57 = .ok (.istore_n 2, 1) := by decide +kernel
theorem dX12_isForgotten_58 : decode cX12_isForgotten 58 = .ok (.aload_n 0, 1) := by decide +kernel
theorem dX12_isForgotten_59 : decode cX12_isForgotten 59 = .ok (.dup, 1) := by decide +kernel
theorem dX12_isForgotten_60 : decode cX12_isForgotten 60 = .ok (.getfield 309, 3) := by decide +kernel
theorem dX12_isForgotten_63 : decode cX12_isForgotten 63 = .ok (.iload_n 2, 1) := by decide +kernel
theorem dX12_isForgotten_64 : decode cX12_isForgotten 64 = .ok (.ifCond .eq 7, 3) := by decide +kernel
theorem dX12_isForgotten_67 : decode cX12_isForgotten 67 = .ok (.iconst 1, 1) := by decide +kernel
theorem dX12_isForgotten_68 : decode cX12_isForgotten 68 = .ok (.goto 4, 3) := by decide +kernel
theorem dX12_isForgotten_71 : decode cX12_isForgotten 71 = .ok (.iconst 0, 1) := by decide +kernel
theorem dX12_isForgotten_72 : decode cX12_isForgotten 72 = .ok (.iadd, 1) := by decide +kernel
theorem dX12_isForgotten_73 : decode cX12_isForgotten 73 = .ok (.putfield 309, 3) := by decide +kernel
theorem dX12_isForgotten_76 : decode cX12_isForgotten 76 = .ok (.iload_n 2, 1) := by decide +kernel
theorem dX12_isForgotten_77 : decode cX12_isForgotten 77 = .ok (.ireturn, 1) := by decide +kernel
theorem dX12_yearOf_0 : decode cX12_yearOf 0 = .ok (.iconst 0, 1) := by decide +kernel
theorem dX12_yearOf_1 : decode cX12_yearOf 1 = .ok (.istore_n 2, 1) := by decide +kernel
theorem dX12_yearOf_2 : decode cX12_yearOf 2 = .ok (.iload_n 2, 1) := by decide +kernel
theorem dX12_yearOf_3 : decode cX12_yearOf 3 = .ok (.iconst 2, 1) := by decide +kernel
theorem dX12_yearOf_4 : decode cX12_yearOf 4 = .ok (.if_icmp .ge 78, 3) := by decide +kernel
theorem dX12_yearOf_7 : decode cX12_yearOf 7 = .ok (.aload_n 0, 1) := by decide +kernel
theorem dX12_yearOf_8 : decode cX12_yearOf 8 = .ok (.getfield 65, 3) := by decide +kernel
theorem dX12_yearOf_11 : decode cX12_yearOf 11 = .ok (.iload_n 2, 1) := by decide +kernel
theorem dX12_yearOf_12 : decode cX12_yearOf 12 = .ok (.iconst 0, 1) := by decide +kernel
theorem dX12_yearOf_13 : decode cX12_yearOf 13 = .ok (.bastore, 1) := by decide +kernel
theorem dX12_yearOf_14 : decode cX12_yearOf 14 = .ok (.iload_n 2, 1) := by decide +kernel
theorem dX12_yearOf_15 : decode cX12_yearOf 15 = .ok (.aload_n 0, 1) := by decide +kernel
theorem dX12_yearOf_16 : decode cX12_yearOf 16 = .ok (.getfield 68, 3) := by decide +kernel
theorem dX12_yearOf_19 : decode cX12_yearOf 19 = .ok (.if_icmp .ne 10, 3) := by decide +kernel
theorem dX12_yearOf_22 : decode cX12_yearOf 22 = .ok (.aload_n 0, 1) := by decide +kernel
theorem dX12_yearOf_23 : decode cX12_yearOf 23 = .ok (.getfield 312, 3) := by decide +kernel
theorem dX12_yearOf_26 : decode cX12_yearOf 26 = .ok (.goto 34, 3) := by decide +kernel
theorem dX12_yearOf_29 : decode cX12_yearOf 29 = .ok (.aload_n 0, 1) := by decide +kernel
theorem dX12_yearOf_30 : decode cX12_yearOf 30 = .ok (.getfield 56, 3) := by decide +kernel
theorem dX12_yearOf_33 : decode cX12_yearOf 33 = .ok (.iload_n 2, 1) := by decide +kernel
theorem dX12_yearOf_34 : decode cX12_yearOf 34 = .ok (.baload, 1) := by decide +kernel
theorem dX12_yearOf_35 : decode cX12_yearOf 35 = .ok (.ifCond .eq 24, 3) := by decide +kernel
theorem dX12_yearOf_38 : decode cX12_yearOf 38 = .ok (.aload_n 0, 1) := by decide +kernel
theorem dX12_yearOf_39 : decode cX12_yearOf 39 = .ok (.iload_n 2, 1) := by decide +kernel
theorem dX12_yearOf_40 : decode cX12_yearOf 40 = .ok (.iload_n 1, 1) := by decide +kernel
theorem dX12_yearOf_41 : decode cX12_yearOf 41 = .ok (.invokevirtual 315, 3) := by decide +kernel
theorem dX12_yearOf_44 : decode cX12_yearOf 44 = .ok (.ifCond .eq 15, 3) := by decide +kernel
theorem dX12_yearOf_47 : decode cX12_yearOf 47 = .ok (.aload_n 0, 1) := by decide +kernel
theorem dX12_yearOf_48 : decode cX12_yearOf 48 = .ok (.iload_n 2, 1) := by decide +kernel
theorem dX12_yearOf_49 : decode cX12_yearOf 49 = .ok (.invokevirtual 318, 3) := by decide +kernel
theorem dX12_yearOf_52 : decode cX12_yearOf 52 = .ok (.ifCond .ne 7, 3) := by decide +kernel
theorem dX12_yearOf_55 : decode cX12_yearOf 55 = .ok (.iconst 1, 1) := by decide +kernel
theorem dX12_yearOf_56 : decode cX12_yearOf 56 = .ok (.goto 4, 3) := by decide +kernel
theorem dX12_yearOf_59 : decode cX12_yearOf 59 = .ok (.iconst 0, 1) := by decide +kernel
theorem dX12_yearOf_60 : decode cX12_yearOf 60 = .ok (.istore_n 3, 1) := by decide +kernel
theorem dX12_yearOf_61 : decode cX12_yearOf 61 = .ok (.aload_n 0, 1) := by decide +kernel
theorem dX12_yearOf_62 : decode cX12_yearOf 62 = .ok (.getfield 62, 3) := by decide +kernel
theorem dX12_yearOf_65 : decode cX12_yearOf 65 = .ok (.iload_n 2, 1) := by decide +kernel
theorem dX12_yearOf_66 : decode cX12_yearOf 66 = .ok (.iload_n 3, 1) := by decide +kernel
theorem dX12_yearOf_67 : decode cX12_yearOf 67 = .ok (.ifCond .eq 7, 3) := by decide +kernel
theorem dX12_yearOf_70 : decode cX12_yearOf 70 = .ok (.iconst 1, 1) := by decide +kernel
theorem dX12_yearOf_71 : decode cX12_yearOf 71 = .ok (.goto 4, 3) := by decide +kernel
theorem dX12_yearOf_74 : decode cX12_yearOf 74 = .ok (.iconst 0, 1) := by decide +kernel
theorem dX12_yearOf_75 : decode cX12_yearOf 75 = .ok (.iastore, 1) := by decide +kernel
theorem dX12_yearOf_76 : decode cX12_yearOf 76 = .ok (.iinc 2 1, 3) := by decide +kernel
theorem dX12_yearOf_79 : decode cX12_yearOf 79 = .ok (.goto (-77), 3) := by decide +kernel
theorem dX12_yearOf_82 : decode cX12_yearOf 82 = .ok (.aload_n 0, 1) := by decide +kernel
theorem dX12_yearOf_83 : decode cX12_yearOf 83 = .ok (.getfield 74, 3) := by decide +kernel
theorem dX12_yearOf_86 : decode cX12_yearOf 86 = .ok (.astore_n 2, 1) := by decide +kernel
theorem dX12_yearOf_87 : decode cX12_yearOf 87 = .ok (.iconst 0, 1) := by decide +kernel
theorem dX12_yearOf_88 : decode cX12_yearOf 88 = .ok (.istore_n 3, 1) := by decide +kernel
theorem dX12_yearOf_89 : decode cX12_yearOf 89 = .ok (.iload_n 3, 1) := by decide +kernel
theorem dX12_yearOf_90 : decode cX12_yearOf 90 = .ok (.iconst 2, 1) := by decide +kernel
theorem dX12_yearOf_91 : decode cX12_yearOf 91 = .ok (.if_icmp .ge 40, 3) := by decide +kernel
theorem dX12_yearOf_94 : decode cX12_yearOf 94 = .ok (.aload_n 2, 1) := by decide +kernel
theorem dX12_yearOf_95 : decode cX12_yearOf 95 = .ok (.iload_n 3, 1) := by decide +kernel
theorem dX12_yearOf_96 : decode cX12_yearOf 96 = .ok (.aload_n 0, 1) := by decide +kernel
theorem dX12_yearOf_97 : decode cX12_yearOf 97 = .ok (.getfield 62, 3) := by decide +kernel
theorem dX12_yearOf_100 : decode cX12_yearOf 100 = .ok (.iconst 1, 1) := by decide +kernel
theorem dX12_yearOf_101 : decode cX12_yearOf 101 = .ok (.iload_n 3, 1) := by decide +kernel
theorem dX12_yearOf_102 : decode cX12_yearOf 102 = .ok (.isub, 1) := by decide +kernel
theorem dX12_yearOf_103 : decode cX12_yearOf 103 = .ok (.iaload, 1) := by decide +kernel
theorem dX12_yearOf_104 : decode cX12_yearOf 104 = .ok (.iconst 1, 1) := by decide +kernel
theorem dX12_yearOf_105 : decode cX12_yearOf 105 = .ok (.if_icmp .ne 18, 3) := by decide +kernel
theorem dX12_yearOf_108 : decode cX12_yearOf 108 = .ok (.aload_n 0, 1) := by decide +kernel
theorem dX12_yearOf_109 : decode cX12_yearOf 109 = .ok (.getfield 59, 3) := by decide +kernel
theorem dX12_yearOf_112 : decode cX12_yearOf 112 = .ok (.iconst 1, 1) := by decide +kernel
theorem dX12_yearOf_113 : decode cX12_yearOf 113 = .ok (.iload_n 3, 1) := by decide +kernel
theorem dX12_yearOf_114 : decode cX12_yearOf 114 = .ok (.isub, 1) := by decide +kernel
theorem dX12_yearOf_115 : decode cX12_yearOf 115 = .ok (.baload, 1) := by decide +kernel
theorem dX12_yearOf_116 : decode cX12_yearOf 116 = .ok (.ifCond .eq 7, 3) := by decide +kernel
theorem dX12_yearOf_119 : decode cX12_yearOf 119 = .ok (.iconst 1, 1) := by decide +kernel
theorem dX12_yearOf_120 : decode cX12_yearOf 120 = .ok (.goto 4, 3) := by decide +kernel
theorem dX12_yearOf_123 : decode cX12_yearOf 123 = .ok (.iconst 0, 1) := by decide +kernel
theorem dX12_yearOf_124 : decode cX12_yearOf 124 = .ok (.bastore, 1) := by decide +kernel
theorem dX12_yearOf_125 : decode cX12_yearOf 125 = .ok (.iinc 3 1, 3) := by decide +kernel
theorem dX12_yearOf_128 : decode cX12_yearOf 128 = .ok (.goto (-39), 3) := by decide +kernel
theorem dX12_yearOf_131 : decode cX12_yearOf 131 = .ok (.iconst 0, 1) := by decide +kernel
theorem dX12_yearOf_132 : decode cX12_yearOf 132 = .ok (.istore_n 3, 1) := by decide +kernel
theorem dX12_yearOf_133 : decode cX12_yearOf 133 = .ok (.iload_n 3, 1) := by decide +kernel
theorem dX12_yearOf_134 : decode cX12_yearOf 134 = .ok (.iconst 2, 1) := by decide +kernel
theorem dX12_yearOf_135 : decode cX12_yearOf 135 = .ok (.if_icmp .ge 67, 3) := by decide +kernel
theorem dX12_yearOf_138 : decode cX12_yearOf 138 = .ok (.iload_n 3, 1) := by decide +kernel
theorem dX12_yearOf_139 : decode cX12_yearOf 139 = .ok (.aload_n 0, 1) := by decide +kernel
theorem dX12_yearOf_140 : decode cX12_yearOf 140 = .ok (.getfield 68, 3) := by decide +kernel
theorem dX12_yearOf_143 : decode cX12_yearOf 143 = .ok (.if_icmp .eq 53, 3) := by decide +kernel
theorem dX12_yearOf_146 : decode cX12_yearOf 146 = .ok (.aload_n 0, 1) := by decide +kernel
theorem dX12_yearOf_147 : decode cX12_yearOf 147 = .ok (.getfield 56, 3) := by decide +kernel
theorem dX12_yearOf_150 : decode cX12_yearOf 150 = .ok (.iload_n 3, 1) := by decide +kernel
theorem dX12_yearOf_151 : decode cX12_yearOf 151 = .ok (.baload, 1) := by decide +kernel
theorem dX12_yearOf_152 : decode cX12_yearOf 152 = .ok (.ifCond .eq 44, 3) := by decide +kernel
theorem dX12_yearOf_155 : decode cX12_yearOf 155 = .ok (.aload_n 0, 1) := by decide +kernel
theorem dX12_yearOf_156 : decode cX12_yearOf 156 = .ok (.getfield 62, 3) := by decide +kernel
theorem dX12_yearOf_159 : decode cX12_yearOf 159 = .ok (.iload_n 3, 1) := by decide +kernel
theorem dX12_yearOf_160 : decode cX12_yearOf 160 = .ok (.iaload, 1) := by decide +kernel
theorem dX12_yearOf_161 : decode cX12_yearOf 161 = .ok (.ifCond .ne 35, 3) := by decide +kernel
theorem dX12_yearOf_164 : decode cX12_yearOf 164 = .ok (.aload_n 0, 1) := by decide +kernel
theorem dX12_yearOf_165 : decode cX12_yearOf 165 = .ok (.getfield 53, 3) := by decide +kernel
theorem dX12_yearOf_168 : decode cX12_yearOf 168 = .ok (.iload_n 3, 1) := by decide +kernel
theorem dX12_yearOf_169 : decode cX12_yearOf 169 = .ok (.iaload, 1) := by decide +kernel
theorem dX12_yearOf_170 : decode cX12_yearOf 170 = .ok (.bipush 16, 2) := by decide +kernel
theorem dX12_yearOf_172 : decode cX12_yearOf 172 = .ok (.if_icmp .lt 24, 3) := by decide +kernel
theorem dX12_yearOf_175 : decode cX12_yearOf 175 = .ok (.aload_n 2, 1) := by decide +kernel
theorem dX12_yearOf_176 : decode cX12_yearOf 176 = .ok (.iload_n 3, 1) := by decide +kernel
theorem dX12_yearOf_177 : decode cX12_yearOf 177 = .ok (.baload, 1) := by decide +kernel
theorem dX12_yearOf_178 : decode cX12_yearOf 178 = .ok (.ifCond .eq 18, 3) := by decide +kernel
theorem dX12_yearOf_181 : decode cX12_yearOf 181 = .ok (.aload_n 0, 1) := by decide +kernel
theorem dX12_yearOf_182 : decode cX12_yearOf 182 = .ok (.iload_n 3, 1) := by decide +kernel
theorem dX12_yearOf_183 : decode cX12_yearOf 183 = .ok (.invokevirtual 318, 3) := by decide +kernel
theorem dX12_yearOf_186 : decode cX12_yearOf 186 = .ok (.ifCond .ne 10, 3) := by decide +kernel
theorem dX12_yearOf_189 : decode cX12_yearOf 189 = .ok (.aload_n 0, 1) := by decide +kernel
theorem dX12_yearOf_190 : decode cX12_yearOf 190 = .ok (.getfield 62, 3) := by decide +kernel
theorem dX12_yearOf_193 : decode cX12_yearOf 193 = .ok (.iload_n 3, 1) := by decide +kernel
theorem dX12_yearOf_194 : decode cX12_yearOf 194 = .ok (.iconst 2, 1) := by decide +kernel
theorem dX12_yearOf_195 : decode cX12_yearOf 195 = .ok (.iastore, 1) := by decide +kernel
theorem dX12_yearOf_196 : decode cX12_yearOf 196 = .ok (.iinc 3 1, 3) := by decide +kernel
theorem dX12_yearOf_199 : decode cX12_yearOf 199 = .ok (.goto (-66), 3) := by decide +kernel
theorem dX12_yearOf_202 : decode cX12_yearOf 202 = .ok (.iload_n 1, 1) := by decide +kernel
theorem dX12_yearOf_203 : decode cX12_yearOf 203 = .ok (.iconst 5, 1) := by decide +kernel
theorem dX12_yearOf_204 : decode cX12_yearOf 204 = .ok (.iand, 1) := by decide +kernel
theorem dX12_yearOf_205 : decode cX12_yearOf 205 = .ok (.iconst 1, 1) := by decide +kernel
theorem dX12_yearOf_206 : decode cX12_yearOf 206 = .ok (.ishl, 1) := by decide +kernel
theorem dX12_yearOf_207 : decode cX12_yearOf 207 = .ok (.istore_n 3, 1) := by decide +kernel
theorem dX12_yearOf_208 : decode cX12_yearOf 208 = .ok (.iconst 0, 1) := by decide +kernel
theorem dX12_yearOf_209 : decode cX12_yearOf 209 = .ok (.istore 4, 2) := by decide +kernel
theorem dX12_yearOf_211 : decode cX12_yearOf 211 = .ok (.iload 4, 2) := by decide +kernel
theorem dX12_yearOf_213 : decode cX12_yearOf 213 = .ok (.iconst 2, 1) := by decide +kernel
theorem dX12_yearOf_214 : decode cX12_yearOf 214 = .ok (.if_icmp .ge 68, 3) := by decide +kernel
theorem dX12_yearOf_217 : decode cX12_yearOf 217 = .ok (.aload_n 0, 1) := by decide +kernel
theorem dX12_yearOf_218 : decode cX12_yearOf 218 = .ok (.getfield 65, 3) := by decide +kernel
theorem dX12_yearOf_221 : decode cX12_yearOf 221 = .ok (.iload 4, 2) := by decide +kernel
theorem dX12_yearOf_223 : decode cX12_yearOf 223 = .ok (.aload_n 0, 1) := by decide +kernel
theorem dX12_yearOf_224 : decode cX12_yearOf 224 = .ok (.getfield 62, 3) := by decide +kernel
theorem dX12_yearOf_227 : decode cX12_yearOf 227 = .ok (.iconst 1, 1) := by decide +kernel
theorem dX12_yearOf_228 : decode cX12_yearOf 228 = .ok (.iload 4, 2) := by decide +kernel
theorem dX12_yearOf_230 : decode cX12_yearOf 230 = .ok (.isub, 1) := by decide +kernel
theorem dX12_yearOf_231 : decode cX12_yearOf 231 = .ok (.iaload, 1) := by decide +kernel
theorem dX12_yearOf_232 : decode cX12_yearOf 232 = .ok (.ifCond .le 19, 3) := by decide +kernel
theorem dX12_yearOf_235 : decode cX12_yearOf 235 = .ok (.aload_n 0, 1) := by decide +kernel
theorem dX12_yearOf_236 : decode cX12_yearOf 236 = .ok (.getfield 59, 3) := by decide +kernel
theorem dX12_yearOf_239 : decode cX12_yearOf 239 = .ok (.iconst 1, 1) := by decide +kernel
theorem dX12_yearOf_240 : decode cX12_yearOf 240 = .ok (.iload 4, 2) := by decide +kernel
theorem dX12_yearOf_242 : decode cX12_yearOf 242 = .ok (.isub, 1) := by decide +kernel
theorem dX12_yearOf_243 : decode cX12_yearOf 243 = .ok (.baload, 1) := by decide +kernel
theorem dX12_yearOf_244 : decode cX12_yearOf 244 = .ok (.ifCond .eq 7, 3) := by decide +kernel
theorem dX12_yearOf_247 : decode cX12_yearOf 247 = .ok (.iconst 1, 1) := by decide +kernel
theorem dX12_yearOf_248 : decode cX12_yearOf 248 = .ok (.goto 4, 3) := by decide +kernel
theorem dX12_yearOf_251 : decode cX12_yearOf 251 = .ok (.iconst 0, 1) := by decide +kernel
theorem dX12_yearOf_252 : decode cX12_yearOf 252 = .ok (.bastore, 1) := by decide +kernel
theorem dX12_yearOf_253 : decode cX12_yearOf 253 = .ok (.iload_n 3, 1) := by decide +kernel
theorem dX12_yearOf_254 : decode cX12_yearOf 254 = .ok (.aload_n 0, 1) := by decide +kernel
theorem dX12_yearOf_255 : decode cX12_yearOf 255 = .ok (.getfield 65, 3) := by decide +kernel
theorem dX12_yearOf_258 : decode cX12_yearOf 258 = .ok (.iload 4, 2) := by decide +kernel
theorem dX12_yearOf_260 : decode cX12_yearOf 260 = .ok (.baload, 1) := by decide +kernel
theorem dX12_yearOf_261 : decode cX12_yearOf 261 = .ok (.ifCond .eq 12, 3) := by decide +kernel
theorem dX12_yearOf_264 : decode cX12_yearOf 264 = .ok (.iconst 1, 1) := by decide +kernel
theorem dX12_yearOf_265 : decode cX12_yearOf 265 = .ok (.iconst 2, 1) := by decide +kernel
theorem dX12_yearOf_266 : decode cX12_yearOf 266 = .ok (.iload 4, 2) := by decide +kernel
theorem dX12_yearOf_268 : decode cX12_yearOf 268 = .ok (.imul, 1) := by decide +kernel
theorem dX12_yearOf_269 : decode cX12_yearOf 269 = .ok (.ishl, 1) := by decide +kernel
theorem dX12_yearOf_270 : decode cX12_yearOf 270 = .ok (.goto 4, 3) := by decide +kernel
theorem dX12_yearOf_273 : decode cX12_yearOf 273 = .ok (.iconst 0, 1) := by decide +kernel
theorem dX12_yearOf_274 : decode cX12_yearOf 274 = .ok (.ior, 1) := by decide +kernel
theorem dX12_yearOf_275 : decode cX12_yearOf 275 = .ok (.istore_n 3, 1) := by decide +kernel
theorem dX12_yearOf_276 : decode cX12_yearOf 276 = .ok (.iinc 4 1, 3) := by decide +kernel
theorem dX12_yearOf_279 : decode cX12_yearOf 279 = .ok (.goto (-68), 3) := by decide +kernel
theorem dX12_yearOf_282 : decode cX12_yearOf 282 = .ok (.iload_n 3, 1) := by decide +kernel
theorem dX12_yearOf_283 : decode cX12_yearOf 283 = .ok (.ireturn, 1) := by decide +kernel
