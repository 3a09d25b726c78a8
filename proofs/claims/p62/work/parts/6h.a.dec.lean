theorem dX12_train_0 : decode cX12_train 0 = .ok (.aload_n 0, 1) := by decide +kernel
theorem dX12_train_1 : decode cX12_train 1 = .ok (.iconst 0, 1) := by decide +kernel
theorem dX12_train_2 : decode cX12_train 2 = .ok (.putfield 107, 3) := by decide +kernel
theorem dX12_train_5 : decode cX12_train 5 = .ok (.aload_n 0, 1) := by decide +kernel
theorem dX12_train_6 : decode cX12_train 6 = .ok (.iload_n 1, 1) := by decide +kernel
theorem dX12_train_7 : decode cX12_train 7 = .ok (.invokevirtual 276, 3) := by decide +kernel
theorem dX12_train_10 : decode cX12_train 10 = .ok (.ifCond .eq 46, 3) := by decide +kernel
theorem dX12_train_13 : decode cX12_train 13 = .ok (.iload_n 2, 1) := by decide +kernel
theorem dX12_train_14 : decode cX12_train 14 = .ok (.i2l, 1) := by decide +kernel
theorem dX12_train_15 : decode cX12_train 15 = .ok (.lconst 0, 1) := by decide +kernel
theorem dX12_train_16 : decode cX12_train 16 = .ok (.ldc2_w 284, 3) := by decide +kernel
theorem dX12_train_19 : decode cX12_train 19 = .ok (.invokestatic 112, 3) := by decide +kernel
theorem dX12_train_22 : decode cX12_train 22 = .ok (.ifCond .eq 34, 3) := by decide +kernel
theorem dX12_train_25 : decode cX12_train 25 = .ok (.iload_n 3, 1) := by decide +kernel
theorem dX12_train_26 : decode cX12_train 26 = .ok (.i2l, 1) := by decide +kernel
theorem dX12_train_27 : decode cX12_train 27 = .ok (.lconst 0, 1) := by decide +kernel
theorem dX12_train_28 : decode cX12_train 28 = .ok (.iload_n 2, 1) := by decide +kernel
theorem dX12_train_29 : decode cX12_train 29 = .ok (.ifCond .ne 9, 3) := by decide +kernel
theorem dX12_train_32 : decode cX12_train 32 = .ok (.ldc2_w 286, 3) := by decide +kernel
theorem dX12_train_35 : decode cX12_train 35 = .ok (.goto 15, 3) := by decide +kernel
theorem dX12_train_38 : decode cX12_train 38 = .ok (.iload_n 2, 1) := by decide +kernel
theorem dX12_train_39 : decode cX12_train 39 = .ok (.iconst 1, 1) := by decide +kernel
theorem dX12_train_40 : decode cX12_train 40 = .ok (.if_icmp .ne 7, 3) := by decide +kernel
theorem dX12_train_43 : decode cX12_train 43 = .ok (.lconst 1, 1) := by decide +kernel
theorem dX12_train_44 : decode cX12_train 44 = .ok (.goto 6, 3) := by decide +kernel
theorem dX12_train_47 : decode cX12_train 47 = .ok (.ldc2_w 538, 3) := by decide +kernel
theorem dX12_train_50 : decode cX12_train 50 = .ok (.invokestatic 112, 3) := by decide +kernel
theorem dX12_train_53 : decode cX12_train 53 = .ok (.ifCond .ne 6, 3) := by decide +kernel
theorem dX12_train_56 : decode cX12_train 56 = .ok (.bipush (-2), 2) := by decide +kernel
theorem dX12_train_58 : decode cX12_train 58 = .ok (.ireturn, 1) := by decide +kernel
theorem dX12_train_59 : decode cX12_train 59 = .ok (.aload_n 0, 1) := by decide +kernel
theorem dX12_train_60 : decode cX12_train 60 = .ok (.iload_n 1, 1) := by decide +kernel
theorem dX12_train_61 : decode cX12_train 61 = .ok (.iload_n 2, 1) := by decide +kernel
theorem dX12_train_62 : decode cX12_train 62 = .ok (.invokevirtual 273, 3) := by decide +kernel
theorem dX12_train_65 : decode cX12_train 65 = .ok (.istore 4, 2) := by decide +kernel
theorem dX12_train_67 : decode cX12_train 67 = .ok (.aload_n 0, 1) := by decide +kernel
theorem dX12_train_68 : decode cX12_train 68 = .ok (.getfield 37, 3) := by decide +kernel
theorem dX12_train_71 : decode cX12_train 71 = .ok (.iconst 5, 1) := by decide +kernel
theorem dX12_train_72 : decode cX12_train 72 = .ok (.iload_n 1, 1) := by decide +kernel
theorem dX12_train_73 : decode cX12_train 73 = .ok (.imul, 1) := by decide +kernel
theorem dX12_train_74 : decode cX12_train 74 = .ok (.iload_n 2, 1) := by decide +kernel
theorem dX12_train_75 : decode cX12_train 75 = .ok (.iadd, 1) := by decide +kernel
theorem dX12_train_76 : decode cX12_train 76 = .ok (.iload_n 3, 1) := by decide +kernel
theorem dX12_train_77 : decode cX12_train 77 = .ok (.iastore, 1) := by decide +kernel
theorem dX12_train_78 : decode cX12_train 78 = .ok (.iload 4, 2) := by decide +kernel
theorem dX12_train_80 : decode cX12_train 80 = .ok (.ireturn, 1) := by decide +kernel
theorem dX12_begin_0 : decode cX12_begin 0 = .ok (.aload_n 0, 1) := by decide +kernel
theorem dX12_begin_1 : decode cX12_begin 1 = .ok (.iconst 0, 1) := by decide +kernel
theorem dX12_begin_2 : decode cX12_begin 2 = .ok (.putfield 107, 3) := by decide +kernel
theorem dX12_begin_5 : decode cX12_begin 5 = .ok (.aload_n 0, 1) := by decide +kernel
theorem dX12_begin_6 : decode cX12_begin 6 = .ok (.iload_n 1, 1) := by decide +kernel
theorem dX12_begin_7 : decode cX12_begin 7 = .ok (.invokevirtual 281, 3) := by decide +kernel
theorem dX12_begin_10 : decode cX12_begin 10 = .ok (.ifCond .eq 15, 3) := by decide +kernel
theorem dX12_begin_13 : decode cX12_begin 13 = .ok (.iload_n 2, 1) := by decide +kernel
theorem dX12_begin_14 : decode cX12_begin 14 = .ok (.i2l, 1) := by decide +kernel
theorem dX12_begin_15 : decode cX12_begin 15 = .ok (.lconst 0, 1) := by decide +kernel
theorem dX12_begin_16 : decode cX12_begin 16 = .ok (.ldc2_w 286, 3) := by decide +kernel
theorem dX12_begin_19 : decode cX12_begin 19 = .ok (.invokestatic 112, 3) := by decide +kernel
theorem dX12_begin_22 : decode cX12_begin 22 = .ok (.ifCond .ne 6, 3) := by decide +kernel
theorem dX12_begin_25 : decode cX12_begin 25 = .ok (.bipush (-2), 2) := by decide +kernel
theorem dX12_begin_27 : decode cX12_begin 27 = .ok (.ireturn, 1) := by decide +kernel
theorem dX12_begin_28 : decode cX12_begin 28 = .ok (.aload_n 0, 1) := by decide +kernel
theorem dX12_begin_29 : decode cX12_begin 29 = .ok (.getfield 40, 3) := by decide +kernel
theorem dX12_begin_32 : decode cX12_begin 32 = .ok (.iconst 3, 1) := by decide +kernel
theorem dX12_begin_33 : decode cX12_begin 33 = .ok (.iload_n 1, 1) := by decide +kernel
theorem dX12_begin_34 : decode cX12_begin 34 = .ok (.imul, 1) := by decide +kernel
theorem dX12_begin_35 : decode cX12_begin 35 = .ok (.iconst 2, 1) := by decide +kernel
theorem dX12_begin_36 : decode cX12_begin 36 = .ok (.iadd, 1) := by decide +kernel
theorem dX12_begin_37 : decode cX12_begin 37 = .ok (.iaload, 1) := by decide +kernel
theorem dX12_begin_38 : decode cX12_begin 38 = .ok (.istore_n 3, 1) := by decide +kernel
theorem dX12_begin_39 : decode cX12_begin 39 = .ok (.aload_n 0, 1) := by decide +kernel
theorem dX12_begin_40 : decode cX12_begin 40 = .ok (.getfield 40, 3) := by decide +kernel
theorem dX12_begin_43 : decode cX12_begin 43 = .ok (.iconst 3, 1) := by decide +kernel
theorem dX12_begin_44 : decode cX12_begin 44 = .ok (.iload_n 1, 1) := by decide +kernel
theorem dX12_begin_45 : decode cX12_begin 45 = .ok (.imul, 1) := by decide +kernel
theorem dX12_begin_46 : decode cX12_begin 46 = .ok (.iconst 2, 1) := by decide +kernel
theorem dX12_begin_47 : decode cX12_begin 47 = .ok (.iadd, 1) := by decide +kernel
theorem dX12_begin_48 : decode cX12_begin 48 = .ok (.iload_n 2, 1) := by decide +kernel
theorem dX12_begin_49 : decode cX12_begin 49 = .ok (.iastore, 1) := by decide +kernel
theorem dX12_begin_50 : decode cX12_begin 50 = .ok (.iload_n 3, 1) := by decide +kernel
theorem dX12_begin_51 : decode cX12_begin 51 = .ok (.ireturn, 1) := by decide +kernel
theorem dX12_lose_0 : decode cX12_lose 0 = .ok (.aload_n 0, 1) := by decide +kernel
theorem dX12_lose_1 : decode cX12_lose 1 = .ok (.iconst 0, 1) := by decide +kernel
theorem dX12_lose_2 : decode cX12_lose 2 = .ok (.putfield 107, 3) := by decide +kernel
theorem dX12_lose_5 : decode cX12_lose 5 = .ok (.aload_n 0, 1) := by decide +kernel
theorem dX12_lose_6 : decode cX12_lose 6 = .ok (.iload_n 1, 1) := by decide +kernel
theorem dX12_lose_7 : decode cX12_lose 7 = .ok (.invokevirtual 281, 3) := by decide +kernel
theorem dX12_lose_10 : decode cX12_lose 10 = .ok (.ifCond .eq 30, 3) := by decide +kernel
theorem dX12_lose_13 : decode cX12_lose 13 = .ok (.iload_n 2, 1) := by decide +kernel
theorem dX12_lose_14 : decode cX12_lose 14 = .ok (.invokestatic 340, 3) := by decide +kernel
theorem dX12_lose_17 : decode cX12_lose 17 = .ok (.ifCond .eq 23, 3) := by decide +kernel
theorem dX12_lose_20 : decode cX12_lose 20 = .ok (.aload_n 0, 1) := by decide +kernel
theorem dX12_lose_21 : decode cX12_lose 21 = .ok (.iload_n 3, 1) := by decide +kernel
theorem dX12_lose_22 : decode cX12_lose 22 = .ok (.i2l, 1) := by decide +kernel
theorem dX12_lose_23 : decode cX12_lose 23 = .ok (.invokevirtual 343, 3) := by decide +kernel
theorem dX12_lose_26 : decode cX12_lose 26 = .ok (.ifCond .eq 14, 3) := by decide +kernel
theorem dX12_lose_29 : decode cX12_lose 29 = .ok (.iload 4, 2) := by decide +kernel
theorem dX12_lose_31 : decode cX12_lose 31 = .ok (.i2l, 1) := by decide +kernel
theorem dX12_lose_32 : decode cX12_lose 32 = .ok (.lconst 0, 1) := by decide +kernel
theorem dX12_lose_33 : decode cX12_lose 33 = .ok (.lconst 1, 1) := by decide +kernel
theorem dX12_lose_34 : decode cX12_lose 34 = .ok (.invokestatic 112, 3) := by decide +kernel
theorem dX12_lose_37 : decode cX12_lose 37 = .ok (.ifCond .ne 6, 3) := by decide +kernel
theorem dX12_lose_40 : decode cX12_lose 40 = .ok (.bipush (-2), 2) := by decide +kernel
theorem dX12_lose_42 : decode cX12_lose 42 = .ok (.ireturn, 1) := by decide +kernel
theorem dX12_lose_43 : decode cX12_lose 43 = .ok (.aload_n 0, 1) := by decide +kernel
theorem dX12_lose_44 : decode cX12_lose 44 = .ok (.getfield 43, 3) := by decide +kernel
theorem dX12_lose_47 : decode cX12_lose 47 = .ok (.iconst 2, 1) := by decide +kernel
theorem dX12_lose_48 : decode cX12_lose 48 = .ok (.iload_n 1, 1) := by decide +kernel
theorem dX12_lose_49 : decode cX12_lose 49 = .ok (.imul, 1) := by decide +kernel
theorem dX12_lose_50 : decode cX12_lose 50 = .ok (.iload_n 2, 1) := by decide +kernel
theorem dX12_lose_51 : decode cX12_lose 51 = .ok (.iadd, 1) := by decide +kernel
theorem dX12_lose_52 : decode cX12_lose 52 = .ok (.laload, 1) := by decide +kernel
theorem dX12_lose_53 : decode cX12_lose 53 = .ok (.iload_n 3, 1) := by decide +kernel
theorem dX12_lose_54 : decode cX12_lose 54 = .ok (.lshr, 1) := by decide +kernel
theorem dX12_lose_55 : decode cX12_lose 55 = .ok (.lconst 1, 1) := by decide +kernel
theorem dX12_lose_56 : decode cX12_lose 56 = .ok (.land, 1) := by decide +kernel
theorem dX12_lose_57 : decode cX12_lose 57 = .ok (.l2i, 1) := by decide +kernel
theorem dX12_lose_58 : decode cX12_lose 58 = .ok (.istore 5, 2) := by decide +kernel
theorem dX12_lose_60 : decode cX12_lose 60 = .ok (.aload_n 0, 1) := by decide +kernel
theorem dX12_lose_61 : decode cX12_lose 61 = .ok (.getfield 43, 3) := by decide +kernel
theorem dX12_lose_64 : decode cX12_lose 64 = .ok (.iconst 2, 1) := by decide +kernel
theorem dX12_lose_65 : decode cX12_lose 65 = .ok (.iload_n 1, 1) := by decide +kernel
theorem dX12_lose_66 : decode cX12_lose 66 = .ok (.imul, 1) := by decide +kernel
theorem dX12_lose_67 : decode cX12_lose 67 = .ok (.iload_n 2, 1) := by decide +kernel
theorem dX12_lose_68 : decode cX12_lose 68 = .ok (.iadd, 1) := by decide +kernel
theorem dX12_lose_69 : decode cX12_lose 69 = .ok (.aload_n 0, 1) := by decide +kernel
theorem dX12_lose_70 : decode cX12_lose 70 = .ok (.getfield 43, 3) := by decide +kernel
theorem dX12_lose_73 : decode cX12_lose 73 = .ok (.iconst 2, 1) := by decide +kernel
theorem dX12_lose_74 : decode cX12_lose 74 = .ok (.iload_n 1, 1) := by decide +kernel
theorem dX12_lose_75 : decode cX12_lose 75 = .ok (.imul, 1) := by decide +kernel
theorem dX12_lose_76 : decode cX12_lose 76 = .ok (.iload_n 2, 1) := by decide +kernel
theorem dX12_lose_77 : decode cX12_lose 77 = .ok (.iadd, 1) := by decide +kernel
theorem dX12_lose_78 : decode cX12_lose 78 = .ok (.laload, 1) := by decide +kernel
theorem dX12_lose_79 : decode cX12_lose 79 = .ok (.iload_n 3, 1) := by decide +kernel
theorem dX12_lose_80 : decode cX12_lose 80 = .ok (.iload 4, 2) := by decide +kernel
theorem dX12_lose_82 : decode cX12_lose 82 = .ok (.invokestatic 540, 3) := by decide +kernel
theorem dX12_lose_85 : decode cX12_lose 85 = .ok (.lastore, 1) := by decide +kernel
theorem dX12_lose_86 : decode cX12_lose 86 = .ok (.iload 5, 2) := by decide +kernel
theorem dX12_lose_88 : decode cX12_lose 88 = .ok (.ireturn, 1) := by decide +kernel
theorem dX12_calls_0 : decode cX12_calls 0 = .ok (.aload_n 0, 1) := by decide +kernel
theorem dX12_calls_1 : decode cX12_calls 1 = .ok (.iconst 0, 1) := by decide +kernel
theorem dX12_calls_2 : decode cX12_calls 2 = .ok (.putfield 107, 3) := by decide +kernel
theorem dX12_calls_5 : decode cX12_calls 5 = .ok (.aload_n 0, 1) := by decide +kernel
theorem dX12_calls_6 : decode cX12_calls 6 = .ok (.iload_n 1, 1) := by decide +kernel
theorem dX12_calls_7 : decode cX12_calls 7 = .ok (.i2l, 1) := by decide +kernel
theorem dX12_calls_8 : decode cX12_calls 8 = .ok (.invokevirtual 343, 3) := by decide +kernel
theorem dX12_calls_11 : decode cX12_calls 11 = .ok (.ifCond .eq 13, 3) := by decide +kernel
theorem dX12_calls_14 : decode cX12_calls 14 = .ok (.iload_n 2, 1) := by decide +kernel
theorem dX12_calls_15 : decode cX12_calls 15 = .ok (.i2l, 1) := by decide +kernel
theorem dX12_calls_16 : decode cX12_calls 16 = .ok (.lconst 0, 1) := by decide +kernel
theorem dX12_calls_17 : decode cX12_calls 17 = .ok (.lconst 1, 1) := by decide +kernel
theorem dX12_calls_18 : decode cX12_calls 18 = .ok (.invokestatic 112, 3) := by decide +kernel
theorem dX12_calls_21 : decode cX12_calls 21 = .ok (.ifCond .ne 6, 3) := by decide +kernel
theorem dX12_calls_24 : decode cX12_calls 24 = .ok (.bipush (-2), 2) := by decide +kernel
theorem dX12_calls_26 : decode cX12_calls 26 = .ok (.ireturn, 1) := by decide +kernel
theorem dX12_calls_27 : decode cX12_calls 27 = .ok (.aload_n 0, 1) := by decide +kernel
theorem dX12_calls_28 : decode cX12_calls 28 = .ok (.getfield 46, 3) := by decide +kernel
theorem dX12_calls_31 : decode cX12_calls 31 = .ok (.iconst 0, 1) := by decide +kernel
theorem dX12_calls_32 : decode cX12_calls 32 = .ok (.laload, 1) := by decide +kernel
theorem dX12_calls_33 : decode cX12_calls 33 = .ok (.iload_n 1, 1) := by decide +kernel
theorem dX12_calls_34 : decode cX12_calls 34 = .ok (.lshr, 1) := by decide +kernel
theorem dX12_calls_35 : decode cX12_calls 35 = .ok (.lconst 1, 1) := by decide +kernel
theorem dX12_calls_36 : decode cX12_calls 36 = .ok (.land, 1) := by decide +kernel
theorem dX12_calls_37 : decode cX12_calls 37 = .ok (.l2i, 1) := by decide +kernel
theorem dX12_calls_38 : decode cX12_calls 38 = .ok (.istore_n 3, 1) := by decide +kernel
theorem dX12_calls_39 : decode cX12_calls 39 = .ok (.aload_n 0, 1) := by decide +kernel
theorem dX12_calls_40 : decode cX12_calls 40 = .ok (.getfield 46, 3) := by decide +kernel
theorem dX12_calls_43 : decode cX12_calls 43 = .ok (.iconst 0, 1) := by decide +kernel
theorem dX12_calls_44 : decode cX12_calls 44 = .ok (.aload_n 0, 1) := by decide +kernel
theorem dX12_calls_45 : decode cX12_calls 45 = .ok (.getfield 46, 3) := by decide +kernel
theorem dX12_calls_48 : decode cX12_calls 48 = .ok (.iconst 0, 1) := by decide +kernel
theorem dX12_calls_49 : decode cX12_calls 49 = .ok (.laload, 1) := by decide +kernel
theorem dX12_calls_50 : decode cX12_calls 50 = .ok (.iload_n 1, 1) := by decide +kernel
theorem dX12_calls_51 : decode cX12_calls 51 = .ok (.iload_n 2, 1) := by decide +kernel
theorem dX12_calls_52 : decode cX12_calls 52 = .ok (.invokestatic 540, 3) := by decide +kernel
theorem dX12_calls_55 : decode cX12_calls 55 = .ok (.lastore, 1) := by decide +kernel
theorem dX12_calls_56 : decode cX12_calls 56 = .ok (.iload_n 3, 1) := by decide +kernel
theorem dX12_calls_57 : decode cX12_calls 57 = .ok (.ireturn, 1) := by decide +kernel
theorem dX12_count_0 : decode cX12_count 0 = .ok (.aload_n 0, 1) := by decide +kernel
theorem dX12_count_1 : decode cX12_count 1 = .ok (.iconst 0, 1) := by decide +kernel
theorem dX12_count_2 : decode cX12_count 2 = .ok (.putfield 107, 3) := by decide +kernel
theorem dX12_count_5 : decode cX12_count 5 = .ok (.iconst 0, 1) := by decide +kernel
theorem dX12_count_6 : decode cX12_count 6 = .ok (.istore_n 2, 1) := by decide +kernel
theorem dX12_count_7 : decode cX12_count 7 = .ok (.iload_n 1, 1) := by decide +kernel
theorem dX12_count_8 : decode cX12_count 8 = .ok (.tableswitch 180 0 9 #[56, 63, 70, 77, 84, 91, 101, 135, 142, 147], 56) := by decide +kernel
theorem dX12_count_64 : decode cX12_count 64 = .ok (.aload_n 0, 1) := by decide +kernel
theorem dX12_count_65 : decode cX12_count 65 = .ok (.getfield 34, 3) := by decide +kernel
theorem dX12_count_68 : decode cX12_count 68 = .ok (.iconst 3, 1) := by decide +kernel
theorem dX12_count_69 : decode cX12_count 69 = .ok (.iaload, 1) := by decide +kernel
theorem dX12_count_70 : decode cX12_count 70 = .ok (.ireturn, 1) := by decide +kernel
theorem dX12_count_71 : decode cX12_count 71 = .ok (.aload_n 0, 1) := by decide +kernel
theorem dX12_count_72 : decode cX12_count 72 = .ok (.getfield 34, 3) := by decide +kernel
theorem dX12_count_75 : decode cX12_count 75 = .ok (.iconst 4, 1) := by decide +kernel
theorem dX12_count_76 : decode cX12_count 76 = .ok (.iaload, 1) := by decide +kernel
theorem dX12_count_77 : decode cX12_count 77 = .ok (.ireturn, 1) := by decide +kernel
theorem dX12_count_78 : decode cX12_count 78 = .ok (.aload_n 0, 1) := by decide +kernel
theorem dX12_count_79 : decode cX12_count 79 = .ok (.getfield 34, 3) := by decide +kernel
theorem dX12_count_82 : decode cX12_count 82 = .ok (.iconst 0, 1) := by decide +kernel
theorem dX12_count_83 : decode cX12_count 83 = .ok (.iaload, 1) := by decide +kernel
theorem dX12_count_84 : decode cX12_count 84 = .ok (.ireturn, 1) := by decide +kernel
theorem dX12_count_85 : decode cX12_count 85 = .ok (.aload_n 0, 1) := by decide +kernel
theorem dX12_count_86 : decode cX12_count 86 = .ok (.getfield 34, 3) := by decide +kernel
theorem dX12_count_89 : decode cX12_count 89 = .ok (.iconst 1, 1) := by decide +kernel
theorem dX12_count_90 : decode cX12_count 90 = .ok (.iaload, 1) := by decide +kernel
theorem dX12_count_91 : decode cX12_count 91 = .ok (.ireturn, 1) := by decide +kernel
theorem dX12_count_92 : decode cX12_count 92 = .ok (.aload_n 0, 1) := by decide +kernel
theorem dX12_count_93 : decode cX12_count 93 = .ok (.getfield 34, 3) := by decide +kernel
theorem dX12_count_96 : decode cX12_count 96 = .ok (.iconst 2, 1) := by decide +kernel
theorem dX12_count_97 : decode cX12_count 97 = .ok (.iaload, 1) := by decide +kernel
theorem dX12_count_98 : decode cX12_count 98 = .ok (.ireturn, 1) := by decide +kernel
theorem dX12_count_99 : decode cX12_count 99 = .ok (.aload_n 0, 1) := by decide +kernel
theorem dX12_count_100 : decode cX12_count 100 = .ok (.getfield 46, 3) := by decide +kernel
theorem dX12_count_103 : decode cX12_count 103 = .ok (.iconst 0, 1) := by decide +kernel
theorem dX12_count_104 : decode cX12_count 104 = .ok (.laload, 1) := by decide +kernel
theorem dX12_count_105 : decode cX12_count 105 = .ok (.invokestatic 544, 3) := by decide +kernel
theorem dX12_count_108 : decode cX12_count 108 = .ok (.ireturn, 1) := by decide +kernel
theorem dX12_count_109 : decode cX12_count 109 = .ok (.iconst 0, 1) := by decide +kernel
theorem dX12_count_110 : decode cX12_count 110 = .ok (.istore_n 3, 1) := by decide +kernel
theorem dX12_count_111 : decode cX12_count 111 = .ok (.iload_n 3, 1) := by decide +kernel
theorem dX12_count_112 : decode cX12_count 112 = .ok (.iconst 2, 1) := by decide +kernel
theorem dX12_count_113 : decode cX12_count 113 = .ok (.aload_n 0, 1) := by decide +kernel
theorem dX12_count_114 : decode cX12_count 114 = .ok (.getfield 34, 3) := by decide +kernel
theorem dX12_count_117 : decode cX12_count 117 = .ok (.iconst 4, 1) := by decide +kernel
theorem dX12_count_118 : decode cX12_count 118 = .ok (.iaload, 1) := by decide +kernel
theorem dX12_count_119 : decode cX12_count 119 = .ok (.imul, 1) := by decide +kernel
theorem dX12_count_120 : decode cX12_count 120 = .ok (.if_icmp .ge 21, 3) := by decide +kernel
theorem dX12_count_123 : decode cX12_count 123 = .ok (.iload_n 2, 1) := by decide +kernel
theorem dX12_count_124 : decode cX12_count 124 = .ok (.aload_n 0, 1) := by decide +kernel
theorem dX12_count_125 : decode cX12_count 125 = .ok (.getfield 43, 3) := by decide +kernel
theorem dX12_count_128 : decode cX12_count 128 = .ok (.iload_n 3, 1) := by decide +kernel
theorem dX12_count_129 : decode cX12_count 129 = .ok (.laload, 1) := by decide +kernel
theorem dX12_count_130 : decode cX12_count 130 = .ok (.invokestatic 544, 3) := by decide +kernel
theorem dX12_count_133 : decode cX12_count 133 = .ok (.iadd, 1) := by decide +kernel
theorem dX12_count_134 : decode cX12_count 134 = .ok (.istore_n 2, 1) := by decide +kernel
theorem dX12_count_135 : decode cX12_count 135 = .ok (.iinc 3 1, 3) := by decide +kernel
theorem dX12_count_138 : decode cX12_count 138 = .ok (.goto (-27), 3) := by decide +kernel
theorem dX12_count_141 : decode cX12_count 141 = .ok (.iload_n 2, 1) := by decide +kernel
theorem dX12_count_142 : decode cX12_count 142 = .ok (.ireturn, 1) := by decide +kernel
theorem dX12_count_143 : decode cX12_count 143 = .ok (.aload_n 0, 1) := by decide +kernel
theorem dX12_count_144 : decode cX12_count 144 = .ok (.getfield 31, 3) := by decide +kernel
theorem dX12_count_147 : decode cX12_count 147 = .ok (.iconst 0, 1) := by decide +kernel
theorem dX12_count_148 : decode cX12_count 148 = .ok (.iaload, 1) := by decide +kernel
theorem dX12_count_149 : decode cX12_count 149 = .ok (.ireturn, 1) := by decide +kernel
theorem dX12_count_150 : decode cX12_count 150 = .ok (.aload_n 0, 1) := by decide +kernel
theorem dX12_count_151 : decode cX12_count 151 = .ok (.getfield 124, 3) := by decide +kernel
theorem dX12_count_154 : decode cX12_count 154 = .ok (.ireturn, 1) := by decide +kernel
theorem dX12_count_155 : decode cX12_count 155 = .ok (.iconst 0, 1) := by decide +kernel
theorem dX12_count_156 : decode cX12_count 156 = .ok (.istore_n 3, 1) := by decide +kernel
theorem dX12_count_157 : decode cX12_count 157 = .ok (.iload_n 3, 1) := by decide +kernel
theorem dX12_count_158 : decode cX12_count 158 = .ok (.iconst 4, 1) := by decide +kernel
theorem dX12_count_159 : decode cX12_count 159 = .ok (.if_icmp .ge 27, 3) := by decide +kernel
theorem dX12_count_162 : decode cX12_count 162 = .ok (.iload_n 2, 1) := by decide +kernel
theorem dX12_count_163 : decode cX12_count 163 = .ok (.aload_n 0, 1) := by decide +kernel
theorem dX12_count_164 : decode cX12_count 164 = .ok (.getfield 7, 3) := by decide +kernel
theorem dX12_count_167 : decode cX12_count 167 = .ok (.iload_n 3, 1) := by decide +kernel
theorem dX12_count_168 : decode cX12_count 168 = .ok (.iaload, 1) := by decide +kernel
theorem dX12_count_169 : decode cX12_count 169 = .ok (.iconst (-1), 1) := by decide +kernel
theorem dX12_count_170 : decode cX12_count 170 = .ok (.if_icmp .ne 7, 3) := by decide +kernel
theorem dX12_count_173 : decode cX12_count 173 = .ok (.iconst 0, 1) := by decide +kernel
theorem dX12_count_174 : decode cX12_count 174 = .ok (.goto 4, 3) := by decide +kernel
theorem dX12_count_177 : decode cX12_count 177 = .ok (.iconst 1, 1) := by decide +kernel
theorem dX12_count_178 : decode cX12_count 178 = .ok (.iadd, 1) := by decide +kernel
theorem dX12_count_179 : decode cX12_count 179 = .ok (.istore_n 2, 1) := by decide +kernel
theorem dX12_count_180 : decode cX12_count 180 = .ok (.iinc 3 1, 3) := by decide +kernel
theorem dX12_count_183 : decode cX12_count 183 = .ok (.goto (-26), 3) := by decide +kernel
theorem dX12_count_186 : decode cX12_count 186 = .ok (.iload_n 2, 1) := by decide +kernel
theorem dX12_count_187 : decode cX12_count 187 = .ok (.ireturn, 1) := by decide +kernel
theorem dX12_count_188 : decode cX12_count 188 = .ok (.iconst (-1), 1) := by decide +kernel
theorem dX12_count_189 : decode cX12_count 189 = .ok (.ireturn, 1) := by decide +kernel
