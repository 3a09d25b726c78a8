theorem dX11_train_0 : decode cX11_train 0 = .ok (.aload_n 0, 1) := by decide +kernel
theorem dX11_train_1 : decode cX11_train 1 = .ok (.getfield 19, 3) := by decide +kernel
theorem dX11_train_4 : decode cX11_train 4 = .ok (.iload_n 1, 1) := by decide +kernel
theorem dX11_train_5 : decode cX11_train 5 = .ok (.invokevirtual 115, 3) := by decide +kernel
theorem dX11_train_8 : decode cX11_train 8 = .ok (.ifCond .ne 6, 3) := by decide +kernel
theorem dX11_train_11 : decode cX11_train 11 = .ok (.bipush (-2), 2) := by decide +kernel
theorem dX11_train_13 : decode cX11_train 13 = .ok (.ireturn, 1) := by decide +kernel
theorem dX11_train_14 : decode cX11_train 14 = .ok (.iload_n 2, 1) := by decide +kernel
theorem dX11_train_15 : decode cX11_train 15 = .ok (.tableswitch 72 0 2 #[25, 41, 56], 25) := by decide +kernel
theorem dX11_train_40 : decode cX11_train 40 = .ok (.aload_n 0, 1) := by decide +kernel
theorem dX11_train_41 : decode cX11_train 41 = .ok (.aload_n 0, 1) := by decide +kernel
theorem dX11_train_42 : decode cX11_train 42 = .ok (.getfield 19, 3) := by decide +kernel
theorem dX11_train_45 : decode cX11_train 45 = .ok (.getfield 119, 3) := by decide +kernel
theorem dX11_train_48 : decode cX11_train 48 = .ok (.iload_n 1, 1) := by decide +kernel
theorem dX11_train_49 : decode cX11_train 49 = .ok (.iload_n 3, 1) := by decide +kernel
theorem dX11_train_50 : decode cX11_train 50 = .ok (.bipush 15, 2) := by decide +kernel
theorem dX11_train_52 : decode cX11_train 52 = .ok (.invokevirtual 365, 3) := by decide +kernel
theorem dX11_train_55 : decode cX11_train 55 = .ok (.ireturn, 1) := by decide +kernel
theorem dX11_train_56 : decode cX11_train 56 = .ok (.aload_n 0, 1) := by decide +kernel
theorem dX11_train_57 : decode cX11_train 57 = .ok (.aload_n 0, 1) := by decide +kernel
theorem dX11_train_58 : decode cX11_train 58 = .ok (.getfield 19, 3) := by decide +kernel
theorem dX11_train_61 : decode cX11_train 61 = .ok (.getfield 123, 3) := by decide +kernel
theorem dX11_train_64 : decode cX11_train 64 = .ok (.iload_n 1, 1) := by decide +kernel
theorem dX11_train_65 : decode cX11_train 65 = .ok (.iload_n 3, 1) := by decide +kernel
theorem dX11_train_66 : decode cX11_train 66 = .ok (.iconst 1, 1) := by decide +kernel
theorem dX11_train_67 : decode cX11_train 67 = .ok (.invokevirtual 365, 3) := by decide +kernel
theorem dX11_train_70 : decode cX11_train 70 = .ok (.ireturn, 1) := by decide +kernel
theorem dX11_train_71 : decode cX11_train 71 = .ok (.aload_n 0, 1) := by decide +kernel
theorem dX11_train_72 : decode cX11_train 72 = .ok (.aload_n 0, 1) := by decide +kernel
theorem dX11_train_73 : decode cX11_train 73 = .ok (.getfield 19, 3) := by decide +kernel
theorem dX11_train_76 : decode cX11_train 76 = .ok (.getfield 126, 3) := by decide +kernel
theorem dX11_train_79 : decode cX11_train 79 = .ok (.iload_n 1, 1) := by decide +kernel
theorem dX11_train_80 : decode cX11_train 80 = .ok (.iload_n 3, 1) := by decide +kernel
theorem dX11_train_81 : decode cX11_train 81 = .ok (.bipush 50, 2) := by decide +kernel
theorem dX11_train_83 : decode cX11_train 83 = .ok (.invokevirtual 365, 3) := by decide +kernel
theorem dX11_train_86 : decode cX11_train 86 = .ok (.ireturn, 1) := by decide +kernel
theorem dX11_train_87 : decode cX11_train 87 = .ok (.bipush (-2), 2) := by decide +kernel
theorem dX11_train_89 : decode cX11_train 89 = .ok (.ireturn, 1) := by decide +kernel
theorem dX11_begin_0 : decode cX11_begin 0 = .ok (.aload_n 0, 1) := by decide +kernel
theorem dX11_begin_1 : decode cX11_begin 1 = .ok (.getfield 19, 3) := by decide +kernel
theorem dX11_begin_4 : decode cX11_begin 4 = .ok (.iload_n 1, 1) := by decide +kernel
theorem dX11_begin_5 : decode cX11_begin 5 = .ok (.invokevirtual 135, 3) := by decide +kernel
theorem dX11_begin_8 : decode cX11_begin 8 = .ok (.ifCond .ne 6, 3) := by decide +kernel
theorem dX11_begin_11 : decode cX11_begin 11 = .ok (.bipush (-2), 2) := by decide +kernel
theorem dX11_begin_13 : decode cX11_begin 13 = .ok (.ireturn, 1) := by decide +kernel
theorem dX11_begin_14 : decode cX11_begin 14 = .ok (.aload_n 0, 1) := by decide +kernel
theorem dX11_begin_15 : decode cX11_begin 15 = .ok (.aload_n 0, 1) := by decide +kernel
theorem dX11_begin_16 : decode cX11_begin 16 = .ok (.getfield 19, 3) := by decide +kernel
theorem dX11_begin_19 : decode cX11_begin 19 = .ok (.getfield 141, 3) := by decide +kernel
theorem dX11_begin_22 : decode cX11_begin 22 = .ok (.iload_n 1, 1) := by decide +kernel
theorem dX11_begin_23 : decode cX11_begin 23 = .ok (.iload_n 2, 1) := by decide +kernel
theorem dX11_begin_24 : decode cX11_begin 24 = .ok (.bipush 15, 2) := by decide +kernel
theorem dX11_begin_26 : decode cX11_begin 26 = .ok (.invokevirtual 365, 3) := by decide +kernel
theorem dX11_begin_29 : decode cX11_begin 29 = .ok (.ireturn, 1) := by decide +kernel
theorem dX11_lose_0 : decode cX11_lose 0 = .ok (.aload_n 0, 1) := by decide +kernel
theorem dX11_lose_1 : decode cX11_lose 1 = .ok (.iload_n 1, 1) := by decide +kernel
theorem dX11_lose_2 : decode cX11_lose 2 = .ok (.iload_n 2, 1) := by decide +kernel
theorem dX11_lose_3 : decode cX11_lose 3 = .ok (.iload_n 3, 1) := by decide +kernel
theorem dX11_lose_4 : decode cX11_lose 4 = .ok (.invokevirtual 155, 3) := by decide +kernel
theorem dX11_lose_7 : decode cX11_lose 7 = .ok (.ifCond .eq 11, 3) := by decide +kernel
theorem dX11_lose_10 : decode cX11_lose 10 = .ok (.iload 4, 2) := by decide +kernel
theorem dX11_lose_12 : decode cX11_lose 12 = .ok (.invokestatic 152, 3) := by decide +kernel
theorem dX11_lose_15 : decode cX11_lose 15 = .ok (.ifCond .ne 6, 3) := by decide +kernel
theorem dX11_lose_18 : decode cX11_lose 18 = .ok (.bipush (-2), 2) := by decide +kernel
theorem dX11_lose_20 : decode cX11_lose 20 = .ok (.ireturn, 1) := by decide +kernel
theorem dX11_lose_21 : decode cX11_lose 21 = .ok (.iconst 2, 1) := by decide +kernel
theorem dX11_lose_22 : decode cX11_lose 22 = .ok (.iload_n 1, 1) := by decide +kernel
theorem dX11_lose_23 : decode cX11_lose 23 = .ok (.imul, 1) := by decide +kernel
theorem dX11_lose_24 : decode cX11_lose 24 = .ok (.iload_n 2, 1) := by decide +kernel
theorem dX11_lose_25 : decode cX11_lose 25 = .ok (.iadd, 1) := by decide +kernel
theorem dX11_lose_26 : decode cX11_lose 26 = .ok (.istore 5, 2) := by decide +kernel
theorem dX11_lose_28 : decode cX11_lose 28 = .ok (.aload_n 0, 1) := by decide +kernel
theorem dX11_lose_29 : decode cX11_lose 29 = .ok (.getfield 19, 3) := by decide +kernel
theorem dX11_lose_32 : decode cX11_lose 32 = .ok (.getfield 369, 3) := by decide +kernel
theorem dX11_lose_35 : decode cX11_lose 35 = .ok (.iload 5, 2) := by decide +kernel
theorem dX11_lose_37 : decode cX11_lose 37 = .ok (.laload, 1) := by decide +kernel
theorem dX11_lose_38 : decode cX11_lose 38 = .ok (.iload_n 3, 1) := by decide +kernel
theorem dX11_lose_39 : decode cX11_lose 39 = .ok (.invokestatic 167, 3) := by decide +kernel
theorem dX11_lose_42 : decode cX11_lose 42 = .ok (.ifCond .eq 7, 3) := by decide +kernel
theorem dX11_lose_45 : decode cX11_lose 45 = .ok (.iconst 1, 1) := by decide +kernel
theorem dX11_lose_46 : decode cX11_lose 46 = .ok (.goto 4, 3) := by decide +kernel
theorem dX11_lose_49 : decode cX11_lose 49 = .ok (.iconst 0, 1) := by decide +kernel
theorem dX11_lose_50 : decode cX11_lose 50 = .ok (.istore 6, 2) := by decide +kernel
theorem dX11_lose_52 : decode cX11_lose 52 = .ok (.aload_n 0, 1) := by decide +kernel
theorem dX11_lose_53 : decode cX11_lose 53 = .ok (.getfield 19, 3) := by decide +kernel
theorem dX11_lose_56 : decode cX11_lose 56 = .ok (.getfield 369, 3) := by decide +kernel
theorem dX11_lose_59 : decode cX11_lose 59 = .ok (.iload 5, 2) := by decide +kernel
theorem dX11_lose_61 : decode cX11_lose 61 = .ok (.aload_n 0, 1) := by decide +kernel
theorem dX11_lose_62 : decode cX11_lose 62 = .ok (.getfield 19, 3) := by decide +kernel
theorem dX11_lose_65 : decode cX11_lose 65 = .ok (.getfield 369, 3) := by decide +kernel
theorem dX11_lose_68 : decode cX11_lose 68 = .ok (.iload 5, 2) := by decide +kernel
theorem dX11_lose_70 : decode cX11_lose 70 = .ok (.laload, 1) := by decide +kernel
theorem dX11_lose_71 : decode cX11_lose 71 = .ok (.iload_n 3, 1) := by decide +kernel
theorem dX11_lose_72 : decode cX11_lose 72 = .ok (.iload 4, 2) := by decide +kernel
theorem dX11_lose_74 : decode cX11_lose 74 = .ok (.invokestatic 372, 3) := by decide +kernel
theorem dX11_lose_77 : decode cX11_lose 77 = .ok (.lastore, 1) := by decide +kernel
theorem dX11_lose_78 : decode cX11_lose 78 = .ok (.aload_n 0, 1) := by decide +kernel
theorem dX11_lose_79 : decode cX11_lose 79 = .ok (.getfield 30, 3) := by decide +kernel
theorem dX11_lose_82 : decode cX11_lose 82 = .ok (.iconst 1, 1) := by decide +kernel
theorem dX11_lose_83 : decode cX11_lose 83 = .ok (.putfield 102, 3) := by decide +kernel
theorem dX11_lose_86 : decode cX11_lose 86 = .ok (.iload 6, 2) := by decide +kernel
theorem dX11_lose_88 : decode cX11_lose 88 = .ok (.ireturn, 1) := by decide +kernel
theorem dX11_calls_0 : decode cX11_calls 0 = .ok (.aload_n 0, 1) := by decide +kernel
theorem dX11_calls_1 : decode cX11_calls 1 = .ok (.getfield 19, 3) := by decide +kernel
theorem dX11_calls_4 : decode cX11_calls 4 = .ok (.iload_n 1, 1) := by decide +kernel
theorem dX11_calls_5 : decode cX11_calls 5 = .ok (.invokevirtual 184, 3) := by decide +kernel
theorem dX11_calls_8 : decode cX11_calls 8 = .ok (.ifCond .eq 10, 3) := by decide +kernel
theorem dX11_calls_11 : decode cX11_calls 11 = .ok (.iload_n 2, 1) := by decide +kernel
theorem dX11_calls_12 : decode cX11_calls 12 = .ok (.invokestatic 152, 3) := by decide +kernel
theorem dX11_calls_15 : decode cX11_calls 15 = .ok (.ifCond .ne 6, 3) := by decide +kernel
theorem dX11_calls_18 : decode cX11_calls 18 = .ok (.bipush (-2), 2) := by decide +kernel
theorem dX11_calls_20 : decode cX11_calls 20 = .ok (.ireturn, 1) := by decide +kernel
theorem dX11_calls_21 : decode cX11_calls 21 = .ok (.aload_n 0, 1) := by decide +kernel
theorem dX11_calls_22 : decode cX11_calls 22 = .ok (.getfield 19, 3) := by decide +kernel
theorem dX11_calls_25 : decode cX11_calls 25 = .ok (.getfield 376, 3) := by decide +kernel
theorem dX11_calls_28 : decode cX11_calls 28 = .ok (.iload_n 1, 1) := by decide +kernel
theorem dX11_calls_29 : decode cX11_calls 29 = .ok (.invokestatic 167, 3) := by decide +kernel
theorem dX11_calls_32 : decode cX11_calls 32 = .ok (.ifCond .eq 7, 3) := by decide +kernel
theorem dX11_calls_35 : decode cX11_calls 35 = .ok (.iconst 1, 1) := by decide +kernel
theorem dX11_calls_36 : decode cX11_calls 36 = .ok (.goto 4, 3) := by decide +kernel
theorem dX11_calls_39 : decode cX11_calls 39 = .ok (.iconst 0, 1) := by decide +kernel
theorem dX11_calls_40 : decode cX11_calls 40 = .ok (.istore_n 3, 1) := by decide +kernel
theorem dX11_calls_41 : decode cX11_calls 41 = .ok (.aload_n 0, 1) := by decide +kernel
theorem dX11_calls_42 : decode cX11_calls 42 = .ok (.getfield 19, 3) := by decide +kernel
theorem dX11_calls_45 : decode cX11_calls 45 = .ok (.aload_n 0, 1) := by decide +kernel
theorem dX11_calls_46 : decode cX11_calls 46 = .ok (.getfield 19, 3) := by decide +kernel
theorem dX11_calls_49 : decode cX11_calls 49 = .ok (.getfield 376, 3) := by decide +kernel
theorem dX11_calls_52 : decode cX11_calls 52 = .ok (.iload_n 1, 1) := by decide +kernel
theorem dX11_calls_53 : decode cX11_calls 53 = .ok (.iload_n 2, 1) := by decide +kernel
theorem dX11_calls_54 : decode cX11_calls 54 = .ok (.invokestatic 372, 3) := by decide +kernel
theorem dX11_calls_57 : decode cX11_calls 57 = .ok (.putfield 376, 3) := by decide +kernel
theorem dX11_calls_60 : decode cX11_calls 60 = .ok (.aload_n 0, 1) := by decide +kernel
theorem dX11_calls_61 : decode cX11_calls 61 = .ok (.getfield 30, 3) := by decide +kernel
theorem dX11_calls_64 : decode cX11_calls 64 = .ok (.iconst 1, 1) := by decide +kernel
theorem dX11_calls_65 : decode cX11_calls 65 = .ok (.putfield 102, 3) := by decide +kernel
theorem dX11_calls_68 : decode cX11_calls 68 = .ok (.iload_n 3, 1) := by decide +kernel
theorem dX11_calls_69 : decode cX11_calls 69 = .ok (.ireturn, 1) := by decide +kernel
theorem dX11_count_0 : decode cX11_count 0 = .ok (.iload_n 1, 1) := by decide +kernel
theorem dX11_count_1 : decode cX11_count 1 = .ok (.tableswitch 138 0 9 #[55, 63, 71, 79, 87, 95, 106, 114, 122, 130], 55) := by decide +kernel
theorem dX11_count_56 : decode cX11_count 56 = .ok (.aload_n 0, 1) := by decide +kernel
theorem dX11_count_57 : decode cX11_count 57 = .ok (.getfield 19, 3) := by decide +kernel
theorem dX11_count_60 : decode cX11_count 60 = .ok (.getfield 223, 3) := by decide +kernel
theorem dX11_count_63 : decode cX11_count 63 = .ok (.ireturn, 1) := by decide +kernel
theorem dX11_count_64 : decode cX11_count 64 = .ok (.aload_n 0, 1) := by decide +kernel
theorem dX11_count_65 : decode cX11_count 65 = .ok (.getfield 19, 3) := by decide +kernel
theorem dX11_count_68 : decode cX11_count 68 = .ok (.getfield 194, 3) := by decide +kernel
theorem dX11_count_71 : decode cX11_count 71 = .ok (.ireturn, 1) := by decide +kernel
theorem dX11_count_72 : decode cX11_count 72 = .ok (.aload_n 0, 1) := by decide +kernel
theorem dX11_count_73 : decode cX11_count 73 = .ok (.getfield 19, 3) := by decide +kernel
theorem dX11_count_76 : decode cX11_count 76 = .ok (.getfield 177, 3) := by decide +kernel
theorem dX11_count_79 : decode cX11_count 79 = .ok (.ireturn, 1) := by decide +kernel
theorem dX11_count_80 : decode cX11_count 80 = .ok (.aload_n 0, 1) := by decide +kernel
theorem dX11_count_81 : decode cX11_count 81 = .ok (.getfield 19, 3) := by decide +kernel
theorem dX11_count_84 : decode cX11_count 84 = .ok (.getfield 379, 3) := by decide +kernel
theorem dX11_count_87 : decode cX11_count 87 = .ok (.ireturn, 1) := by decide +kernel
theorem dX11_count_88 : decode cX11_count 88 = .ok (.aload_n 0, 1) := by decide +kernel
theorem dX11_count_89 : decode cX11_count 89 = .ok (.getfield 19, 3) := by decide +kernel
theorem dX11_count_92 : decode cX11_count 92 = .ok (.getfield 382, 3) := by decide +kernel
theorem dX11_count_95 : decode cX11_count 95 = .ok (.ireturn, 1) := by decide +kernel
theorem dX11_count_96 : decode cX11_count 96 = .ok (.aload_n 0, 1) := by decide +kernel
theorem dX11_count_97 : decode cX11_count 97 = .ok (.getfield 19, 3) := by decide +kernel
theorem dX11_count_100 : decode cX11_count 100 = .ok (.getfield 376, 3) := by decide +kernel
theorem dX11_count_103 : decode cX11_count 103 = .ok (.invokestatic 212, 3) := by decide +kernel
theorem dX11_count_106 : decode cX11_count 106 = .ok (.ireturn, 1) := by decide +kernel
theorem dX11_count_107 : decode cX11_count 107 = .ok (.aload_n 0, 1) := by decide +kernel
theorem dX11_count_108 : decode cX11_count 108 = .ok (.getfield 19, 3) := by decide +kernel
theorem dX11_count_111 : decode cX11_count 111 = .ok (.invokevirtual 385, 3) := by decide +kernel
theorem dX11_count_114 : decode cX11_count 114 = .ok (.ireturn, 1) := by decide +kernel
theorem dX11_count_115 : decode cX11_count 115 = .ok (.aload_n 0, 1) := by decide +kernel
theorem dX11_count_116 : decode cX11_count 116 = .ok (.getfield 19, 3) := by decide +kernel
theorem dX11_count_119 : decode cX11_count 119 = .ok (.getfield 106, 3) := by decide +kernel
theorem dX11_count_122 : decode cX11_count 122 = .ok (.ireturn, 1) := by decide +kernel
theorem dX11_count_123 : decode cX11_count 123 = .ok (.aload_n 0, 1) := by decide +kernel
theorem dX11_count_124 : decode cX11_count 124 = .ok (.getfield 10, 3) := by decide +kernel
theorem dX11_count_127 : decode cX11_count 127 = .ok (.getfield 83, 3) := by decide +kernel
theorem dX11_count_130 : decode cX11_count 130 = .ok (.ireturn, 1) := by decide +kernel
theorem dX11_count_131 : decode cX11_count 131 = .ok (.aload_n 0, 1) := by decide +kernel
theorem dX11_count_132 : decode cX11_count 132 = .ok (.getfield 65, 3) := by decide +kernel
theorem dX11_count_135 : decode cX11_count 135 = .ok (.invokevirtual 388, 3) := by decide +kernel
theorem dX11_count_138 : decode cX11_count 138 = .ok (.ireturn, 1) := by decide +kernel
theorem dX11_count_139 : decode cX11_count 139 = .ok (.iconst (-1), 1) := by decide +kernel
theorem dX11_count_140 : decode cX11_count 140 = .ok (.ireturn, 1) := by decide +kernel
theorem dX11_row_0 : decode cX11_row 0 = .ok (.iload_n 1, 1) := by decide +kernel
theorem dX11_row_1 : decode cX11_row 1 = .ok (.iconst 4, 1) := by decide +kernel
theorem dX11_row_2 : decode cX11_row 2 = .ok (.invokestatic 148, 3) := by decide +kernel
theorem dX11_row_5 : decode cX11_row 5 = .ok (.ifCond .eq 17, 3) := by decide +kernel
theorem dX11_row_8 : decode cX11_row 8 = .ok (.iload_n 2, 1) := by decide +kernel
theorem dX11_row_9 : decode cX11_row 9 = .ok (.iconst 4, 1) := by decide +kernel
theorem dX11_row_10 : decode cX11_row 10 = .ok (.invokestatic 148, 3) := by decide +kernel
theorem dX11_row_13 : decode cX11_row 13 = .ok (.ifCond .eq 9, 3) := by decide +kernel
theorem dX11_row_16 : decode cX11_row 16 = .ok (.iload_n 3, 1) := by decide +kernel
theorem dX11_row_17 : decode cX11_row 17 = .ok (.bipush 60, 2) := by decide +kernel
theorem dX11_row_19 : decode cX11_row 19 = .ok (.if_icmp .le 6, 3) := by decide +kernel
theorem dX11_row_22 : decode cX11_row 22 = .ok (.bipush (-2), 2) := by decide +kernel
theorem dX11_row_24 : decode cX11_row 24 = .ok (.ireturn, 1) := by decide +kernel
theorem dX11_row_25 : decode cX11_row 25 = .ok (.iload_n 3, 1) := by decide +kernel
theorem dX11_row_26 : decode cX11_row 26 = .ok (.ifCond .ge 6, 3) := by decide +kernel
theorem dX11_row_29 : decode cX11_row 29 = .ok (.bipush (-3), 2) := by decide +kernel
theorem dX11_row_31 : decode cX11_row 31 = .ok (.ireturn, 1) := by decide +kernel
theorem dX11_row_32 : decode cX11_row 32 = .ok (.aload_n 0, 1) := by decide +kernel
theorem dX11_row_33 : decode cX11_row 33 = .ok (.getfield 65, 3) := by decide +kernel
theorem dX11_row_36 : decode cX11_row 36 = .ok (.iload_n 1, 1) := by decide +kernel
theorem dX11_row_37 : decode cX11_row 37 = .ok (.iload_n 2, 1) := by decide +kernel
theorem dX11_row_38 : decode cX11_row 38 = .ok (.iload_n 3, 1) := by decide +kernel
theorem dX11_row_39 : decode cX11_row 39 = .ok (.invokevirtual 391, 3) := by decide +kernel
theorem dX11_row_42 : decode cX11_row 42 = .ok (.iconst 0, 1) := by decide +kernel
theorem dX11_row_43 : decode cX11_row 43 = .ok (.ireturn, 1) := by decide +kernel
