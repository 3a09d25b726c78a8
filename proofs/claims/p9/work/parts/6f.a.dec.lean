theorem dX12_streak_0 : decode cX12_streak 0 = .ok (.aload_n 0, 1) := by decide +kernel
theorem dX12_streak_1 : decode cX12_streak 1 = .ok (.iconst 0, 1) := by decide +kernel
theorem dX12_streak_2 : decode cX12_streak 2 = .ok (.putfield 107, 3) := by decide +kernel
theorem dX12_streak_5 : decode cX12_streak 5 = .ok (.aload_n 0, 1) := by decide +kernel
theorem dX12_streak_6 : decode cX12_streak 6 = .ok (.iload_n 1, 1) := by decide +kernel
theorem dX12_streak_7 : decode cX12_streak 7 = .ok (.invokevirtual 281, 3) := by decide +kernel
theorem dX12_streak_10 : decode cX12_streak 10 = .ok (.ifCond .eq 13, 3) := by decide +kernel
theorem dX12_streak_13 : decode cX12_streak 13 = .ok (.iload_n 2, 1) := by decide +kernel
theorem dX12_streak_14 : decode cX12_streak 14 = .ok (.i2l, 1) := by decide +kernel
theorem dX12_streak_15 : decode cX12_streak 15 = .ok (.lconst 0, 1) := by decide +kernel
theorem dX12_streak_16 : decode cX12_streak 16 = .ok (.lconst 1, 1) := by decide +kernel
theorem dX12_streak_17 : decode cX12_streak 17 = .ok (.invokestatic 112, 3) := by decide +kernel
theorem dX12_streak_20 : decode cX12_streak 20 = .ok (.ifCond .ne 6, 3) := by decide +kernel
theorem dX12_streak_23 : decode cX12_streak 23 = .ok (.bipush (-2), 2) := by decide +kernel
theorem dX12_streak_25 : decode cX12_streak 25 = .ok (.ireturn, 1) := by decide +kernel
theorem dX12_streak_26 : decode cX12_streak 26 = .ok (.aload_n 0, 1) := by decide +kernel
theorem dX12_streak_27 : decode cX12_streak 27 = .ok (.invokevirtual 346, 3) := by decide +kernel
theorem dX12_streak_30 : decode cX12_streak 30 = .ok (.iconst 0, 1) := by decide +kernel
theorem dX12_streak_31 : decode cX12_streak 31 = .ok (.istore_n 3, 1) := by decide +kernel
theorem dX12_streak_32 : decode cX12_streak 32 = .ok (.iconst (-1), 1) := by decide +kernel
theorem dX12_streak_33 : decode cX12_streak 33 = .ok (.istore 4, 2) := by decide +kernel
theorem dX12_streak_35 : decode cX12_streak 35 = .ok (.iconst 0, 1) := by decide +kernel
theorem dX12_streak_36 : decode cX12_streak 36 = .ok (.istore 5, 2) := by decide +kernel
theorem dX12_streak_38 : decode cX12_streak 38 = .ok (.iconst 0, 1) := by decide +kernel
theorem dX12_streak_39 : decode cX12_streak 39 = .ok (.istore 6, 2) := by decide +kernel
theorem dX12_streak_41 : decode cX12_streak 41 = .ok (.iload 6, 2) := by decide +kernel
theorem dX12_streak_43 : decode cX12_streak 43 = .ok (.aload_n 0, 1) := by decide +kernel
theorem dX12_streak_44 : decode cX12_streak 44 = .ok (.getfield 34, 3) := by decide +kernel
theorem dX12_streak_47 : decode cX12_streak 47 = .ok (.iconst 0, 1) := by decide +kernel
theorem dX12_streak_48 : decode cX12_streak 48 = .ok (.iaload, 1) := by decide +kernel
theorem dX12_streak_49 : decode cX12_streak 49 = .ok (.if_icmp .ge 62, 3) := by decide +kernel
theorem dX12_streak_52 : decode cX12_streak 52 = .ok (.aload_n 0, 1) := by decide +kernel
theorem dX12_streak_53 : decode cX12_streak 53 = .ok (.iload_n 1, 1) := by decide +kernel
theorem dX12_streak_54 : decode cX12_streak 54 = .ok (.iconst 0, 1) := by decide +kernel
theorem dX12_streak_55 : decode cX12_streak 55 = .ok (.iload 6, 2) := by decide +kernel
theorem dX12_streak_57 : decode cX12_streak 57 = .ok (.invokevirtual 352, 3) := by decide +kernel
theorem dX12_streak_60 : decode cX12_streak 60 = .ok (.ifCond .eq 21, 3) := by decide +kernel
theorem dX12_streak_63 : decode cX12_streak 63 = .ok (.aload_n 0, 1) := by decide +kernel
theorem dX12_streak_64 : decode cX12_streak 64 = .ok (.iload_n 1, 1) := by decide +kernel
theorem dX12_streak_65 : decode cX12_streak 65 = .ok (.iconst 1, 1) := by decide +kernel
theorem dX12_streak_66 : decode cX12_streak 66 = .ok (.iload 6, 2) := by decide +kernel
theorem dX12_streak_68 : decode cX12_streak 68 = .ok (.invokevirtual 352, 3) := by decide +kernel
theorem dX12_streak_71 : decode cX12_streak 71 = .ok (.ifCond .eq 10, 3) := by decide +kernel
theorem dX12_streak_74 : decode cX12_streak 74 = .ok (.iload 5, 2) := by decide +kernel
theorem dX12_streak_76 : decode cX12_streak 76 = .ok (.iconst 1, 1) := by decide +kernel
theorem dX12_streak_77 : decode cX12_streak 77 = .ok (.iadd, 1) := by decide +kernel
theorem dX12_streak_78 : decode cX12_streak 78 = .ok (.goto 4, 3) := by decide +kernel
theorem dX12_streak_81 : decode cX12_streak 81 = .ok (.iconst 0, 1) := by decide +kernel
theorem dX12_streak_82 : decode cX12_streak 82 = .ok (.istore 5, 2) := by decide +kernel
theorem dX12_streak_84 : decode cX12_streak 84 = .ok (.iload 5, 2) := by decide +kernel
theorem dX12_streak_86 : decode cX12_streak 86 = .ok (.iload_n 3, 1) := by decide +kernel
theorem dX12_streak_87 : decode cX12_streak 87 = .ok (.if_icmp .gt 6, 3) := by decide +kernel
theorem dX12_streak_90 : decode cX12_streak 90 = .ok (.goto 15, 3) := by decide +kernel
theorem dX12_streak_93 : decode cX12_streak 93 = .ok (.iload 5, 2) := by decide +kernel
theorem dX12_streak_95 : decode cX12_streak 95 = .ok (.istore_n 3, 1) := by decide +kernel
theorem dX12_streak_96 : decode cX12_streak 96 = .ok (.iload 6, 2) := by decide +kernel
theorem dX12_streak_98 : decode cX12_streak 98 = .ok (.iload 5, 2) := by decide +kernel
theorem dX12_streak_100 : decode cX12_streak 100 = .ok (.isub, 1) := by decide +kernel
theorem dX12_streak_101 : decode cX12_streak 101 = .ok (.iconst 1, 1) := by decide +kernel
theorem dX12_streak_102 : decode cX12_streak 102 = .ok (.iadd, 1) := by decide +kernel
theorem dX12_streak_103 : decode cX12_streak 103 = .ok (.istore 4, 2) := by decide +kernel
theorem dX12_streak_105 : decode cX12_streak 105 = .ok (.iinc 6 1, 3) := by decide +kernel
theorem dX12_streak_108 : decode cX12_streak 108 = .ok (.goto (-67), 3) := by decide +kernel
theorem dX12_streak_111 : decode cX12_streak 111 = .ok (.iload_n 2, 1) := by decide +kernel
theorem dX12_streak_112 : decode cX12_streak 112 = .ok (.ifCond .ne 7, 3) := by decide +kernel
theorem dX12_streak_115 : decode cX12_streak 115 = .ok (.iload_n 3, 1) := by decide +kernel
theorem dX12_streak_116 : decode cX12_streak 116 = .ok (.goto 5, 3) := by decide +kernel
theorem dX12_streak_119 : decode cX12_streak 119 = .ok (.iload 4, 2) := by decide +kernel
theorem dX12_streak_121 : decode cX12_streak 121 = .ok (.ireturn, 1) := by decide +kernel
theorem dX12_train_0 : decode cX12_train 0 = .ok (.aload_n 0, 1) := by decide +kernel
theorem dX12_train_1 : decode cX12_train 1 = .ok (.iconst 0, 1) := by decide +kernel
theorem dX12_train_2 : decode cX12_train 2 = .ok (.putfield 107, 3) := by decide +kernel
theorem dX12_train_5 : decode cX12_train 5 = .ok (.aload_n 0, 1) := by decide +kernel
theorem dX12_train_6 : decode cX12_train 6 = .ok (.iload_n 1, 1) := by decide +kernel
theorem dX12_train_7 : decode cX12_train 7 = .ok (.invokevirtual 276, 3) := by decide +kernel
theorem dX12_train_10 : decode cX12_train 10 = .ok (.ifCond .eq 46, 3) := by decide +kernel
theorem dX12_train_13 : decode cX12_train 13 = .ok (.iload_n 2, 1) := by decide +kernel
theorem dX12_train_14 : decode cX12_train 14 = .ok (.i2l, 1) := by decide +kernel
theorem dX12_train_15 : decode cX12_train 15 = .ok (.lconst 0, 1) := by decide +kernel
theorem dX12_train_16 : decode cX12_train 16 = .ok (.ldc2_w 284, 3) := by decide +kernel
theorem dX12_train_19 : decode cX12_train 19 = .ok (.invokestatic 112, 3) := by decide +kernel
theorem dX12_train_22 : decode cX12_train 22 = .ok (.ifCond .eq 34, 3) := by decide +kernel
theorem dX12_train_25 : decode cX12_train 25 = .ok (.iload_n 3, 1) := by decide +kernel
theorem dX12_train_26 : decode cX12_train 26 = .ok (.i2l, 1) := by decide +kernel
theorem dX12_train_27 : decode cX12_train 27 = .ok (.lconst 0, 1) := by decide +kernel
theorem dX12_train_28 : decode cX12_train 28 = .ok (.iload_n 2, 1) := by decide +kernel
theorem dX12_train_29 : decode cX12_train 29 = .ok (.ifCond .ne 9, 3) := by decide +kernel
theorem dX12_train_32 : decode cX12_train 32 = .ok (.ldc2_w 286, 3) := by decide +kernel
theorem dX12_train_35 : decode cX12_train 35 = .ok (.goto 15, 3) := by decide +kernel
theorem dX12_train_38 : decode cX12_train 38 = .ok (.iload_n 2, 1) := by decide +kernel
theorem dX12_train_39 : decode cX12_train 39 = .ok (.iconst 1, 1) := by decide +kernel
theorem dX12_train_40 : decode cX12_train 40 = .ok (.if_icmp .ne 7, 3) := by decide +kernel
theorem dX12_train_43 : decode cX12_train 43 = .ok (.lconst 1, 1) := by decide +kernel
theorem dX12_train_44 : decode cX12_train 44 = .ok (.goto 6, 3) := by decide +kernel
theorem dX12_train_47 : decode cX12_train 47 = .ok (.ldc2_w 538, 3) := by decide +kernel
theorem dX12_train_50 : decode cX12_train 50 = .ok (.invokestatic 112, 3) := by decide +kernel
theorem dX12_train_53 : decode cX12_train 53 = .ok (.ifCond .ne 6, 3) := by decide +kernel
theorem dX12_train_56 : decode cX12_train 56 = .ok (.bipush (-2), 2) := by decide +kernel
theorem dX12_train_58 : decode cX12_train 58 = .ok (.ireturn, 1) := by decide +kernel
theorem dX12_train_59 : decode cX12_train 59 = .ok (.aload_n 0, 1) := by decide +kernel
theorem dX12_train_60 : decode cX12_train 60 = .ok (.iload_n 1, 1) := by decide +kernel
theorem dX12_train_61 : decode cX12_train 61 = .ok (.iload_n 2, 1) := by decide +kernel
theorem dX12_train_62 : decode cX12_train 62 = .ok (.invokevirtual 273, 3) := by decide +kernel
theorem dX12_train_65 : decode cX12_train 65 = .ok (.istore 4, 2) := by decide +kernel
theorem dX12_train_67 : decode cX12_train 67 = .ok (.aload_n 0, 1) := by decide +kernel
theorem dX12_train_68 : decode cX12_train 68 = .ok (.getfield 37, 3) := by decide +kernel
theorem dX12_train_71 : decode cX12_train 71 = .ok (.iconst 5, 1) := by decide +kernel
theorem dX12_train_72 : decode cX12_train 72 = .ok (.iload_n 1, 1) := by decide +kernel
theorem dX12_train_73 : decode cX12_train 73 = .ok (.imul, 1) := by decide +kernel
theorem dX12_train_74 : decode cX12_train 74 = .ok (.iload_n 2, 1) := by decide +kernel
theorem dX12_train_75 : decode cX12_train 75 = .ok (.iadd, 1) := by decide +kernel
theorem dX12_train_76 : decode cX12_train 76 = .ok (.iload_n 3, 1) := by decide +kernel
theorem dX12_train_77 : decode cX12_train 77 = .ok (.iastore, 1) := by decide +kernel
theorem dX12_train_78 : decode cX12_train 78 = .ok (.iload 4, 2) := by decide +kernel
theorem dX12_train_80 : decode cX12_train 80 = .ok (.ireturn, 1) := by decide +kernel
theorem dX12_begin_0 : decode cX12_begin 0 = .ok (.aload_n 0, 1) := by decide +kernel
theorem dX12_begin_1 : decode cX12_begin 1 = .ok (.iconst 0, 1) := by decide +kernel
theorem dX12_begin_2 : decode cX12_begin 2 = .ok (.putfield 107, 3) := by decide +kernel
theorem dX12_begin_5 : decode cX12_begin 5 = .ok (.aload_n 0, 1) := by decide +kernel
theorem dX12_begin_6 : decode cX12_begin 6 = .ok (.iload_n 1, 1) := by decide +kernel
theorem dX12_begin_7 : decode cX12_begin 7 = .ok (.invokevirtual 281, 3) := by decide +kernel
theorem dX12_begin_10 : decode cX12_begin 10 = .ok (.ifCond .eq 15, 3) := by decide +kernel
theorem dX12_begin_13 : decode cX12_begin 13 = .ok (.iload_n 2, 1) := by decide +kernel
theorem dX12_begin_14 : decode cX12_begin 14 = .ok (.i2l, 1) := by decide +kernel
theorem dX12_begin_15 : decode cX12_begin 15 = .ok (.lconst 0, 1) := by decide +kernel
theorem dX12_begin_16 : decode cX12_begin 16 = .ok (.ldc2_w 286, 3) := by decide +kernel
theorem dX12_begin_19 : decode cX12_begin 19 = .ok (.invokestatic 112, 3) := by decide +kernel
theorem dX12_begin_22 : decode cX12_begin 22 = .ok (.ifCond .ne 6, 3) := by decide +kernel
theorem dX12_begin_25 : decode cX12_begin 25 = .ok (.bipush (-2), 2) := by decide +kernel
theorem dX12_begin_27 : decode cX12_begin 27 = .ok (.ireturn, 1) := by decide +kernel
theorem dX12_begin_28 : decode cX12_begin 28 = .ok (.aload_n 0, 1) := by decide +kernel
theorem dX12_begin_29 : decode cX12_begin 29 = .ok (.getfield 40, 3) := by decide +kernel
theorem dX12_begin_32 : decode cX12_begin 32 = .ok (.iconst 3, 1) := by decide +kernel
theorem dX12_begin_33 : decode cX12_begin 33 = .ok (.iload_n 1, 1) := by decide +kernel
theorem dX12_begin_34 : decode cX12_begin 34 = .ok (.imul, 1) := by decide +kernel
theorem dX12_begin_35 : decode cX12_begin 35 = .ok (.iconst 2, 1) := by decide +kernel
theorem dX12_begin_36 : decode cX12_begin 36 = .ok (.iadd, 1) := by decide +kernel
theorem dX12_begin_37 : decode cX12_begin 37 = .ok (.iaload, 1) := by decide +kernel
theorem dX12_begin_38 : decode cX12_begin 38 = .ok (.istore_n 3, 1) := by decide +kernel
theorem dX12_begin_39 : decode cX12_begin 39 = .ok (.aload_n 0, 1) := by decide +kernel
theorem dX12_begin_40 : decode cX12_begin 40 = .ok (.getfield 40, 3) := by decide +kernel
theorem dX12_begin_43 : decode cX12_begin 43 = .ok (.iconst 3, 1) := by decide +kernel
theorem dX12_begin_44 : decode cX12_begin 44 = .ok (.iload_n 1, 1) := by decide +kernel
theorem dX12_begin_45 : decode cX12_begin 45 = .ok (.imul, 1) := by decide +kernel
theorem dX12_begin_46 : decode cX12_begin 46 = .ok (.iconst 2, 1) := by decide +kernel
theorem dX12_begin_47 : decode cX12_begin 47 = .ok (.iadd, 1) := by decide +kernel
theorem dX12_begin_48 : decode cX12_begin 48 = .ok (.iload_n 2, 1) := by decide +kernel
theorem dX12_begin_49 : decode cX12_begin 49 = .ok (.iastore, 1) := by decide +kernel
theorem dX12_begin_50 : decode cX12_begin 50 = .ok (.iload_n 3, 1) := by decide +kernel
theorem dX12_begin_51 : decode cX12_begin 51 = .ok (.ireturn, 1) := by decide +kernel
theorem dX12_withBit_0 : decode cX12_withBit 0 = .ok (.iload_n 3, 1) := by decide +kernel
theorem dX12_withBit_1 : decode cX12_withBit 1 = .ok (.iconst 1, 1) := by decide +kernel
theorem dX12_withBit_2 : decode cX12_withBit 2 = .ok (.if_icmp .ne 11, 3) := by decide +kernel
theorem dX12_withBit_5 : decode cX12_withBit 5 = .ok (.lload_n 0, 1) := by decide +kernel
theorem dX12_withBit_6 : decode cX12_withBit 6 = .ok (.lconst 1, 1) := by decide +kernel
theorem dX12_withBit_7 : decode cX12_withBit 7 = .ok (.iload_n 2, 1) := by decide +kernel
theorem dX12_withBit_8 : decode cX12_withBit 8 = .ok (.lshl, 1) := by decide +kernel
theorem dX12_withBit_9 : decode cX12_withBit 9 = .ok (.lor, 1) := by decide +kernel
theorem dX12_withBit_10 : decode cX12_withBit 10 = .ok (.goto 12, 3) := by decide +kernel
theorem dX12_withBit_13 : decode cX12_withBit 13 = .ok (.lload_n 0, 1) := by decide +kernel
theorem dX12_withBit_14 : decode cX12_withBit 14 = .ok (.lconst 1, 1) := by decide +kernel
theorem dX12_withBit_15 : decode cX12_withBit 15 = .ok (.iload_n 2, 1) := by decide +kernel
theorem dX12_withBit_16 : decode cX12_withBit 16 = .ok (.lshl, 1) := by decide +kernel
theorem dX12_withBit_17 : decode cX12_withBit 17 = .ok (.ldc2_w 151, 3) := by decide +kernel
theorem dX12_withBit_20 : decode cX12_withBit 20 = .ok (.lxor, 1) := by decide +kernel
theorem dX12_withBit_21 : decode cX12_withBit 21 = .ok (.land, 1) := by decide +kernel
theorem dX12_withBit_22 : decode cX12_withBit 22 = .ok (.lreturn, 1) := by decide +kernel
theorem dX12_lose_0 : decode cX12_lose 0 = .ok (.aload_n 0, 1) := by decide +kernel
theorem dX12_lose_1 : decode cX12_lose 1 = .ok (.iconst 0, 1) := by decide +kernel
theorem dX12_lose_2 : decode cX12_lose 2 = .ok (.putfield 107, 3) := by decide +kernel
theorem dX12_lose_5 : decode cX12_lose 5 = .ok (.aload_n 0, 1) := by decide +kernel
theorem dX12_lose_6 : decode cX12_lose 6 = .ok (.iload_n 1, 1) := by decide +kernel
theorem dX12_lose_7 : decode cX12_lose 7 = .ok (.invokevirtual 281, 3) := by decide +kernel
theorem dX12_lose_10 : decode cX12_lose 10 = .ok (.ifCond .eq 30, 3) := by decide +kernel
theorem dX12_lose_13 : decode cX12_lose 13 = .ok (.iload_n 2, 1) := by decide +kernel
theorem dX12_lose_14 : decode cX12_lose 14 = .ok (.invokestatic 340, 3) := by decide +kernel
theorem dX12_lose_17 : decode cX12_lose 17 = .ok (.ifCond .eq 23, 3) := by decide +kernel
theorem dX12_lose_20 : decode cX12_lose 20 = .ok (.aload_n 0, 1) := by decide +kernel
theorem dX12_lose_21 : decode cX12_lose 21 = .ok (.iload_n 3, 1) := by decide +kernel
theorem dX12_lose_22 : decode cX12_lose 22 = .ok (.i2l, 1) := by decide +kernel
theorem dX12_lose_23 : decode cX12_lose 23 = .ok (.invokevirtual 343, 3) := by decide +kernel
theorem dX12_lose_26 : decode cX12_lose 26 = .ok (.ifCond .eq 14, 3) := by decide +kernel
theorem dX12_lose_29 : decode cX12_lose 29 = .ok (.iload 4, 2) := by decide +kernel
theorem dX12_lose_31 : decode cX12_lose 31 = .ok (.i2l, 1) := by decide +kernel
theorem dX12_lose_32 : decode cX12_lose 32 = .ok (.lconst 0, 1) := by decide +kernel
theorem dX12_lose_33 : decode cX12_lose 33 = .ok (.lconst 1, 1) := by decide +kernel
theorem dX12_lose_34 : decode cX12_lose 34 = .ok (.invokestatic 112, 3) := by decide +kernel
theorem dX12_lose_37 : decode cX12_lose 37 = .ok (.ifCond .ne 6, 3) := by decide +kernel
theorem dX12_lose_40 : decode cX12_lose 40 = .ok (.bipush (-2), 2) := by decide +kernel
theorem dX12_lose_42 : decode cX12_lose 42 = .ok (.ireturn, 1) := by decide +kernel
theorem dX12_lose_43 : decode cX12_lose 43 = .ok (.aload_n 0, 1) := by decide +kernel
theorem dX12_lose_44 : decode cX12_lose 44 = .ok (.getfield 43, 3) := by decide +kernel
theorem dX12_lose_47 : decode cX12_lose 47 = .ok (.iconst 2, 1) := by decide +kernel
theorem dX12_lose_48 : decode cX12_lose 48 = .ok (.iload_n 1, 1) := by decide +kernel
theorem dX12_lose_49 : decode cX12_lose 49 = .ok (.imul, 1) := by decide +kernel
theorem dX12_lose_50 : decode cX12_lose 50 = .ok (.iload_n 2, 1) := by decide +kernel
theorem dX12_lose_51 : decode cX12_lose 51 = .ok (.iadd, 1) := by decide +kernel
theorem dX12_lose_52 : decode cX12_lose 52 = .ok (.laload, 1) := by decide +kernel
theorem dX12_lose_53 : decode cX12_lose 53 = .ok (.iload_n 3, 1) := by decide +kernel
theorem dX12_lose_54 : decode cX12_lose 54 = .ok (.lshr, 1) := by decide +kernel
theorem dX12_lose_55 : decode cX12_lose 55 = .ok (.lconst 1, 1) := by decide +kernel
theorem dX12_lose_56 : decode cX12_lose 56 = .ok (.land, 1) := by decide +kernel
theorem dX12_lose_57 : decode cX12_lose 57 = .ok (.l2i, 1) := by decide +kernel
theorem dX12_lose_58 : decode cX12_lose 58 = .ok (.istore 5, 2) := by decide +kernel
theorem dX12_lose_60 : decode cX12_lose 60 = .ok (.aload_n 0, 1) := by decide +kernel
theorem dX12_lose_61 : decode cX12_lose 61 = .ok (.getfield 43, 3) := by decide +kernel
theorem dX12_lose_64 : decode cX12_lose 64 = .ok (.iconst 2, 1) := by decide +kernel
theorem dX12_lose_65 : decode cX12_lose 65 = .ok (.iload_n 1, 1) := by decide +kernel
theorem dX12_lose_66 : decode cX12_lose 66 = .ok (.imul, 1) := by decide +kernel
theorem dX12_lose_67 : decode cX12_lose 67 = .ok (.iload_n 2, 1) := by decide +kernel
theorem dX12_lose_68 : decode cX12_lose 68 = .ok (.iadd, 1) := by decide +kernel
theorem dX12_lose_69 : decode cX12_lose 69 = .ok (.aload_n 0, 1) := by decide +kernel
theorem dX12_lose_70 : decode cX12_lose 70 = .ok (.getfield 43, 3) := by decide +kernel
theorem dX12_lose_73 : decode cX12_lose 73 = .ok (.iconst 2, 1) := by decide +kernel
theorem dX12_lose_74 : decode cX12_lose 74 = .ok (.iload_n 1, 1) := by decide +kernel
theorem dX12_lose_75 : decode cX12_lose 75 = .ok (.imul, 1) := by decide +kernel
theorem dX12_lose_76 : decode cX12_lose 76 = .ok (.iload_n 2, 1) := by decide +kernel
theorem dX12_lose_77 : decode cX12_lose 77 = .ok (.iadd, 1) := by decide +kernel
theorem dX12_lose_78 : decode cX12_lose 78 = .ok (.laload, 1) := by decide +kernel
theorem dX12_lose_79 : decode cX12_lose 79 = .ok (.iload_n 3, 1) := by decide +kernel
theorem dX12_lose_80 : decode cX12_lose 80 = .ok (.iload 4, 2) := by decide +kernel
theorem dX12_lose_82 : decode cX12_lose 82 = .ok (.invokestatic 540, 3) := by decide +kernel
theorem dX12_lose_85 : decode cX12_lose 85 = .ok (.lastore, 1) := by decide +kernel
theorem dX12_lose_86 : decode cX12_lose 86 = .ok (.iload 5, 2) := by decide +kernel
theorem dX12_lose_88 : decode cX12_lose 88 = .ok (.ireturn, 1) := by decide +kernel
theorem dX12_bitsOf_0 : decode cX12_bitsOf 0 = .ok (.iconst 0, 1) := by decide +kernel
theorem dX12_bitsOf_1 : decode cX12_bitsOf 1 = .ok (.istore_n 2, 1) := by decide +kernel
theorem dX12_bitsOf_2 : decode cX12_bitsOf 2 = .ok (.lload_n 0, 1) := by decide +kernel
theorem dX12_bitsOf_3 : decode cX12_bitsOf 3 = .ok (.lstore_n 3, 1) := by decide +kernel
theorem dX12_bitsOf_4 : decode cX12_bitsOf 4 = .ok (.lload_n 3, 1) := by decide +kernel
theorem dX12_bitsOf_5 : decode cX12_bitsOf 5 = .ok (.lconst 0, 1) := by decide +kernel
theorem dX12_bitsOf_6 : decode cX12_bitsOf 6 = .ok (.lcmp, 1) := by decide +kernel
theorem dX12_bitsOf_7 : decode cX12_bitsOf 7 = .ok (.ifCond .eq 15, 3) := by decide +kernel
theorem dX12_bitsOf_10 : decode cX12_bitsOf 10 = .ok (.iinc 2 1, 3) := by decide +kernel
theorem dX12_bitsOf_13 : decode cX12_bitsOf 13 = .ok (.lload_n 3, 1) := by decide +kernel
theorem dX12_bitsOf_14 : decode cX12_bitsOf 14 = .ok (.lload_n 3, 1) := by decide +kernel
theorem dX12_bitsOf_15 : decode cX12_bitsOf 15 = .ok (.lconst 1, 1) := by decide +kernel
theorem dX12_bitsOf_16 : decode cX12_bitsOf 16 = .ok (.lsub, 1) := by decide +kernel
theorem dX12_bitsOf_17 : decode cX12_bitsOf 17 = .ok (.land, 1) := by decide +kernel
theorem dX12_bitsOf_18 : decode cX12_bitsOf 18 = .ok (.lstore_n 3, 1) := by decide +kernel
theorem dX12_bitsOf_19 : decode cX12_bitsOf 19 = .ok (.goto (-15), 3) := by decide +kernel
theorem dX12_bitsOf_22 : decode cX12_bitsOf 22 = .ok (.iload_n 2, 1) := by decide +kernel
theorem dX12_bitsOf_23 : decode cX12_bitsOf 23 = .ok (.ireturn, 1) := by decide +kernel
