theorem dX11_lose_0 : decode cX11_lose 0 = .ok (.aload_n 0, 1) := by decide +kernel
theorem dX11_lose_1 : decode cX11_lose 1 = .ok (.iload_n 1, 1) := by decide +kernel
theorem dX11_lose_2 : decode cX11_lose 2 = .ok (.iload_n 2, 1) := by decide +kernel
theorem dX11_lose_3 : decode cX11_lose 3 = .ok (.iload_n 3, 1) := by decide +kernel
theorem dX11_lose_4 : decode cX11_lose 4 = .ok (.invokevirtual 155, 3) := by decide +kernel
theorem dX11_lose_7 : decode cX11_lose 7 = .ok (.ifCond .eq 11, 3) := by decide +kernel
theorem dX11_lose_10 : decode cX11_lose 10 = .ok (.iload 4, 2) := by decide +kernel
theorem dX11_lose_12 : decode cX11_lose 12 = .ok (.invokestatic 152, 3) := by decide +kernel
theorem dX11_lose_15 : decode cX11_lose 15 = .ok (.ifCond .ne 6, 3) := by decide +kernel
theorem dX11_lose_18 : decode cX11_lose 18 = .ok (.bipush (-2), 2) := by decide +kernel
theorem dX11_lose_20 : decode cX11_lose 20 = .ok (.ireturn, 1) := by decide +kernel
theorem dX11_lose_21 : decode cX11_lose 21 = .ok (.iconst 2, 1) := by decide +kernel
theorem dX11_lose_22 : decode cX11_lose 22 = .ok (.iload_n 1, 1) := by decide +kernel
theorem dX11_lose_23 : decode cX11_lose 23 = .ok (.imul, 1) := by decide +kernel
theorem dX11_lose_24 : decode cX11_lose 24 = .ok (.iload_n 2, 1) := by decide +kernel
theorem dX11_lose_25 : decode cX11_lose 25 = .ok (.iadd, 1) := by decide +kernel
theorem dX11_lose_26 : decode cX11_lose 26 = .ok (.istore 5, 2) := by decide +kernel
theorem dX11_lose_28 : decode cX11_lose 28 = .ok (.aload_n 0, 1) := by decide +kernel
theorem dX11_lose_29 : decode cX11_lose 29 = .ok (.getfield 19, 3) := by decide +kernel
theorem dX11_lose_32 : decode cX11_lose 32 = .ok (.getfield 369, 3) := by decide +kernel
theorem dX11_lose_35 : decode cX11_lose 35 = .ok (.iload 5, 2) := by decide +kernel
theorem dX11_lose_37 : decode cX11_lose 37 = .ok (.laload, 1) := by decide +kernel
theorem dX11_lose_38 : decode cX11_lose 38 = .ok (.iload_n 3, 1) := by decide +kernel
theorem dX11_lose_39 : decode cX11_lose 39 = .ok (.invokestatic 167, 3) := by decide +kernel
theorem dX11_lose_42 : decode cX11_lose 42 = .ok (.ifCond .eq 7, 3) := by decide +kernel
theorem dX11_lose_45 : decode cX11_lose 45 = .ok (.iconst 1, 1) := by decide +kernel
theorem dX11_lose_46 : decode cX11_lose 46 = .ok (.goto 4, 3) := by decide +kernel
theorem dX11_lose_49 : decode cX11_lose 49 = .ok (.iconst 0, 1) := by decide +kernel
theorem dX11_lose_50 : decode cX11_lose 50 = .ok (.istore 6, 2) := by decide +kernel
theorem dX11_lose_52 : decode cX11_lose 52 = .ok (.aload_n 0, 1) := by decide +kernel
theorem dX11_lose_53 : decode cX11_lose 53 = .ok (.getfield 19, 3) := by decide +kernel
theorem dX11_lose_56 : decode cX11_lose 56 = .ok (.getfield 369, 3) := by decide +kernel
theorem dX11_lose_59 : decode cX11_lose 59 = .ok (.iload 5, 2) := by decide +kernel
theorem dX11_lose_61 : decode cX11_lose 61 = .ok (.aload_n 0, 1) := by decide +kernel
theorem dX11_lose_62 : decode cX11_lose 62 = .ok (.getfield 19, 3) := by decide +kernel
theorem dX11_lose_65 : decode cX11_lose 65 = .ok (.getfield 369, 3) := by decide +kernel
theorem dX11_lose_68 : decode cX11_lose 68 = .ok (.iload 5, 2) := by decide +kernel
theorem dX11_lose_70 : decode cX11_lose 70 = .ok (.laload, 1) := by decide +kernel
theorem dX11_lose_71 : decode cX11_lose 71 = .ok (.iload_n 3, 1) := by decide +kernel
theorem dX11_lose_72 : decode cX11_lose 72 = .ok (.iload 4, 2) := by decide +kernel
theorem dX11_lose_74 : decode cX11_lose 74 = .ok (.invokestatic 372, 3) := by decide +kernel
theorem dX11_lose_77 : decode cX11_lose 77 = .ok (.lastore, 1) := by decide +kernel
theorem dX11_lose_78 : decode cX11_lose 78 = .ok (.aload_n 0, 1) := by decide +kernel
theorem dX11_lose_79 : decode cX11_lose 79 = .ok (.getfield 30, 3) := by decide +kernel
theorem dX11_lose_82 : decode cX11_lose 82 = .ok (.iconst 1, 1) := by decide +kernel
theorem dX11_lose_83 : decode cX11_lose 83 = .ok (.putfield 102, 3) := by decide +kernel
theorem dX11_lose_86 : decode cX11_lose 86 = .ok (.iload 6, 2) := by decide +kernel
theorem dX11_lose_88 : decode cX11_lose 88 = .ok (.ireturn, 1) := by decide +kernel
theorem dX11_calls_0 : decode cX11_calls 0 = .ok (.aload_n 0, 1) := by decide +kernel
theorem dX11_calls_1 : decode cX11_calls 1 = .ok (.getfield 19, 3) := by decide +kernel
theorem dX11_calls_4 : decode cX11_calls 4 = .ok (.iload_n 1, 1) := by decide +kernel
theorem dX11_calls_5 : decode cX11_calls 5 = .ok (.invokevirtual 184, 3) := by decide +kernel
theorem dX11_calls_8 : decode cX11_calls 8 = .ok (.ifCond .eq 10, 3) := by decide +kernel
theorem dX11_calls_11 : decode cX11_calls 11 = .ok (.iload_n 2, 1) := by decide +kernel
theorem dX11_calls_12 : decode cX11_calls 12 = .ok (.invokestatic 152, 3) := by decide +kernel
theorem dX11_calls_15 : decode cX11_calls 15 = .ok (.ifCond .ne 6, 3) := by decide +kernel
theorem dX11_calls_18 : decode cX11_calls 18 = .ok (.bipush (-2), 2) := by decide +kernel
theorem dX11_calls_20 : decode cX11_calls 20 = .ok (.ireturn, 1) := by decide +kernel
theorem dX11_calls_21 : decode cX11_calls 21 = .ok (.aload_n 0, 1) := by decide +kernel
theorem dX11_calls_22 : decode cX11_calls 22 = .ok (.getfield 19, 3) := by decide +kernel
theorem dX11_calls_25 : decode cX11_calls 25 = .ok (.getfield 376, 3) := by decide +kernel
theorem dX11_calls_28 : decode cX11_calls 28 = .ok (.iload_n 1, 1) := by decide +kernel
theorem dX11_calls_29 : decode cX11_calls 29 = .ok (.invokestatic 167, 3) := by decide +kernel
theorem dX11_calls_32 : decode cX11_calls 32 = .ok (.ifCond .eq 7, 3) := by decide +kernel
theorem dX11_calls_35 : decode cX11_calls 35 = .ok (.iconst 1, 1) := by decide +kernel
theorem dX11_calls_36 : decode cX11_calls 36 = .ok (.goto 4, 3) := by decide +kernel
theorem dX11_calls_39 : decode cX11_calls 39 = .ok (.iconst 0, 1) := by decide +kernel
theorem dX11_calls_40 : decode cX11_calls 40 = .ok (.istore_n 3, 1) := by decide +kernel
theorem dX11_calls_41 : decode cX11_calls 41 = .ok (.aload_n 0, 1) := by decide +kernel
theorem dX11_calls_42 : decode cX11_calls 42 = .ok (.getfield 19, 3) := by decide +kernel
theorem dX11_calls_45 : decode cX11_calls 45 = .ok (.aload_n 0, 1) := by decide +kernel
theorem dX11_calls_46 : decode cX11_calls 46 = .ok (.getfield 19, 3) := by decide +kernel
theorem dX11_calls_49 : decode cX11_calls 49 = .ok (.getfield 376, 3) := by decide +kernel
theorem dX11_calls_52 : decode cX11_calls 52 = .ok (.iload_n 1, 1) := by decide +kernel
theorem dX11_calls_53 : decode cX11_calls 53 = .ok (.iload_n 2, 1) := by decide +kernel
theorem dX11_calls_54 : decode cX11_calls 54 = .ok (.invokestatic 372, 3) := by decide +kernel
theorem dX11_calls_57 : decode cX11_calls 57 = .ok (.putfield 376, 3) := by decide +kernel
theorem dX11_calls_60 : decode cX11_calls 60 = .ok (.aload_n 0, 1) := by decide +kernel
theorem dX11_calls_61 : decode cX11_calls 61 = .ok (.getfield 30, 3) := by decide +kernel
theorem dX11_calls_64 : decode cX11_calls 64 = .ok (.iconst 1, 1) := by decide +kernel
theorem dX11_calls_65 : decode cX11_calls 65 = .ok (.putfield 102, 3) := by decide +kernel
theorem dX11_calls_68 : decode cX11_calls 68 = .ok (.iload_n 3, 1) := by decide +kernel
theorem dX11_calls_69 : decode cX11_calls 69 = .ok (.ireturn, 1) := by decide +kernel
theorem dX11_count_0 : decode cX11_count 0 = .ok (.iload_n 1, 1) := by decide +kernel
theorem dX11_count_1 : decode cX11_count 1 = .ok (.tableswitch 138 0 9 #[55, 63, 71, 79, 87, 95, 106, 114, 122, 130], 55) := by decide +kernel
theorem dX11_count_56 : decode cX11_count 56 = .ok (.aload_n 0, 1) := by decide +kernel
theorem dX11_count_57 : decode cX11_count 57 = .ok (.getfield 19, 3) := by decide +kernel
theorem dX11_count_60 : decode cX11_count 60 = .ok (.getfield 223, 3) := by decide +kernel
theorem dX11_count_63 : decode cX11_count 63 = .ok (.ireturn, 1) := by decide +kernel
theorem dX11_count_64 : decode cX11_count 64 = .ok (.aload_n 0, 1) := by decide +kernel
theorem dX11_count_65 : decode cX11_count 65 = .ok (.getfield 19, 3) := by decide +kernel
theorem dX11_count_68 : decode cX11_count 68 = .ok (.getfield 194, 3) := by decide +kernel
theorem dX11_count_71 : decode cX11_count 71 = .ok (.ireturn, 1) := by decide +kernel
theorem dX11_count_72 : decode cX11_count 72 = .ok (.aload_n 0, 1) := by decide +kernel
theorem dX11_count_73 : decode cX11_count 73 = .ok (.getfield 19, 3) := by decide +kernel
theorem dX11_count_76 : decode cX11_count 76 = .ok (.getfield 177, 3) := by decide +kernel
theorem dX11_count_79 : decode cX11_count 79 = .ok (.ireturn, 1) := by decide +kernel
theorem dX11_count_80 : decode cX11_count 80 = .ok (.aload_n 0, 1) := by decide +kernel
theorem dX11_count_81 : decode cX11_count 81 = .ok (.getfield 19, 3) := by decide +kernel
theorem dX11_count_84 : decode cX11_count 84 = .ok (.getfield 379, 3) := by decide +kernel
theorem dX11_count_87 : decode cX11_count 87 = .ok (.ireturn, 1) := by decide +kernel
theorem dX11_count_88 : decode cX11_count 88 = .ok (.aload_n 0, 1) := by decide +kernel
theorem dX11_count_89 : decode cX11_count 89 = .ok (.getfield 19, 3) := by decide +kernel
theorem dX11_count_92 : decode cX11_count 92 = .ok (.getfield 382, 3) := by decide +kernel
theorem dX11_count_95 : decode cX11_count 95 = .ok (.ireturn, 1) := by decide +kernel
theorem dX11_count_96 : decode cX11_count 96 = .ok (.aload_n 0, 1) := by decide +kernel
theorem dX11_count_97 : decode cX11_count 97 = .ok (.getfield 19, 3) := by decide +kernel
theorem dX11_count_100 : decode cX11_count 100 = .ok (.getfield 376, 3) := by decide +kernel
theorem dX11_count_103 : decode cX11_count 103 = .ok (.invokestatic 212, 3) := by decide +kernel
theorem dX11_count_106 : decode cX11_count 106 = .ok (.ireturn, 1) := by decide +kernel
theorem dX11_count_107 : decode cX11_count 107 = .ok (.aload_n 0, 1) := by decide +kernel
theorem dX11_count_108 : decode cX11_count 108 = .ok (.getfield 19, 3) := by decide +kernel
theorem dX11_count_111 : decode cX11_count 111 = .ok (.invokevirtual 385, 3) := by decide +kernel
theorem dX11_count_114 : decode cX11_count 114 = .ok (.ireturn, 1) := by decide +kernel
theorem dX11_count_115 : decode cX11_count 115 = .ok (.aload_n 0, 1) := by decide +kernel
theorem dX11_count_116 : decode cX11_count 116 = .ok (.getfield 19, 3) := by decide +kernel
theorem dX11_count_119 : decode cX11_count 119 = .ok (.getfield 106, 3) := by decide +kernel
theorem dX11_count_122 : decode cX11_count 122 = .ok (.ireturn, 1) := by decide +kernel
theorem dX11_count_123 : decode cX11_count 123 = .ok (.aload_n 0, 1) := by decide +kernel
theorem dX11_count_124 : decode cX11_count 124 = .ok (.getfield 10, 3) := by decide +kernel
theorem dX11_count_127 : decode cX11_count 127 = .ok (.getfield 83, 3) := by decide +kernel
theorem dX11_count_130 : decode cX11_count 130 = .ok (.ireturn, 1) := by decide +kernel
theorem dX11_count_131 : decode cX11_count 131 = .ok (.aload_n 0, 1) := by decide +kernel
theorem dX11_count_132 : decode cX11_count 132 = .ok (.getfield 65, 3) := by decide +kernel
theorem dX11_count_135 : decode cX11_count 135 = .ok (.invokevirtual 388, 3) := by decide +kernel
theorem dX11_count_138 : decode cX11_count 138 = .ok (.ireturn, 1) := by decide +kernel
theorem dX11_count_139 : decode cX11_count 139 = .ok (.iconst (-1), 1) := by decide +kernel
theorem dX11_count_140 : decode cX11_count 140 = .ok (.ireturn, 1) := by decide +kernel
theorem dX11_row_0 : decode cX11_row 0 = .ok (.iload_n 1, 1) := by decide +kernel
theorem dX11_row_1 : decode cX11_row 1 = .ok (.iconst 4, 1) := by decide +kernel
theorem dX11_row_2 : decode cX11_row 2 = .ok (.invokestatic 148, 3) := by decide +kernel
theorem dX11_row_5 : decode cX11_row 5 = .ok (.ifCond .eq 17, 3) := by decide +kernel
theorem dX11_row_8 : decode cX11_row 8 = .ok (.iload_n 2, 1) := by decide +kernel
theorem dX11_row_9 : decode cX11_row 9 = .ok (.iconst 4, 1) := by decide +kernel
theorem dX11_row_10 : decode cX11_row 10 = .ok (.invokestatic 148, 3) := by decide +kernel
theorem dX11_row_13 : decode cX11_row 13 = .ok (.ifCond .eq 9, 3) := by decide +kernel
theorem dX11_row_16 : decode cX11_row 16 = .ok (.iload_n 3, 1) := by decide +kernel
theorem dX11_row_17 : decode cX11_row 17 = .ok (.bipush 60, 2) := by decide +kernel
theorem dX11_row_19 : decode cX11_row 19 = .ok (.if_icmp .le 6, 3) := by decide +kernel
theorem dX11_row_22 : decode cX11_row 22 = .ok (.bipush (-2), 2) := by decide +kernel
theorem dX11_row_24 : decode cX11_row 24 = .ok (.ireturn, 1) := by decide +kernel
theorem dX11_row_25 : decode cX11_row 25 = .ok (.iload_n 3, 1) := by decide +kernel
theorem dX11_row_26 : decode cX11_row 26 = .ok (.ifCond .ge 6, 3) := by decide +kernel
theorem dX11_row_29 : decode cX11_row 29 = .ok (.bipush (-3), 2) := by decide +kernel
theorem dX11_row_31 : decode cX11_row 31 = .ok (.ireturn, 1) := by decide +kernel
theorem dX11_row_32 : decode cX11_row 32 = .ok (.aload_n 0, 1) := by decide +kernel
theorem dX11_row_33 : decode cX11_row 33 = .ok (.getfield 65, 3) := by decide +kernel
theorem dX11_row_36 : decode cX11_row 36 = .ok (.iload_n 1, 1) := by decide +kernel
theorem dX11_row_37 : decode cX11_row 37 = .ok (.iload_n 2, 1) := by decide +kernel
theorem dX11_row_38 : decode cX11_row 38 = .ok (.iload_n 3, 1) := by decide +kernel
theorem dX11_row_39 : decode cX11_row 39 = .ok (.invokevirtual 391, 3) := by decide +kernel
theorem dX11_row_42 : decode cX11_row 42 = .ok (.iconst 0, 1) := by decide +kernel
theorem dX11_row_43 : decode cX11_row 43 = .ok (.ireturn, 1) := by decide +kernel
theorem dX11_write_0 : decode cX11_write 0 = .ok (.iload_n 1, 1) := by decide +kernel
theorem dX11_write_1 : decode cX11_write 1 = .ok (.iconst 4, 1) := by decide +kernel
theorem dX11_write_2 : decode cX11_write 2 = .ok (.invokestatic 148, 3) := by decide +kernel
theorem dX11_write_5 : decode cX11_write 5 = .ok (.ifCond .ne 6, 3) := by decide +kernel
theorem dX11_write_8 : decode cX11_write 8 = .ok (.bipush (-2), 2) := by decide +kernel
theorem dX11_write_10 : decode cX11_write 10 = .ok (.ireturn, 1) := by decide +kernel
theorem dX11_write_11 : decode cX11_write 11 = .ok (.aload_n 0, 1) := by decide +kernel
theorem dX11_write_12 : decode cX11_write 12 = .ok (.getfield 65, 3) := by decide +kernel
theorem dX11_write_15 : decode cX11_write 15 = .ok (.iload_n 1, 1) := by decide +kernel
theorem dX11_write_16 : decode cX11_write 16 = .ok (.invokevirtual 394, 3) := by decide +kernel
theorem dX11_write_19 : decode cX11_write 19 = .ok (.ifCond .ne 6, 3) := by decide +kernel
theorem dX11_write_22 : decode cX11_write 22 = .ok (.bipush (-6), 2) := by decide +kernel
theorem dX11_write_24 : decode cX11_write 24 = .ok (.ireturn, 1) := by decide +kernel
theorem dX11_write_25 : decode cX11_write 25 = .ok (.iload_n 2, 1) := by decide +kernel
theorem dX11_write_26 : decode cX11_write 26 = .ok (.aload_n 0, 1) := by decide +kernel
theorem dX11_write_27 : decode cX11_write 27 = .ok (.getfield 65, 3) := by decide +kernel
theorem dX11_write_30 : decode cX11_write 30 = .ok (.getfield 339, 3) := by decide +kernel
theorem dX11_write_33 : decode cX11_write 33 = .ok (.iload_n 1, 1) := by decide +kernel
theorem dX11_write_34 : decode cX11_write 34 = .ok (.iaload, 1) := by decide +kernel
theorem dX11_write_35 : decode cX11_write 35 = .ok (.invokestatic 148, 3) := by decide +kernel
theorem dX11_write_38 : decode cX11_write 38 = .ok (.ifCond .ne 6, 3) := by decide +kernel
theorem dX11_write_41 : decode cX11_write 41 = .ok (.bipush (-7), 2) := by decide +kernel
theorem dX11_write_43 : decode cX11_write 43 = .ok (.ireturn, 1) := by decide +kernel
theorem dX11_write_44 : decode cX11_write 44 = .ok (.aload_n 0, 1) := by decide +kernel
theorem dX11_write_45 : decode cX11_write 45 = .ok (.getfield 65, 3) := by decide +kernel
theorem dX11_write_48 : decode cX11_write 48 = .ok (.iload_n 1, 1) := by decide +kernel
theorem dX11_write_49 : decode cX11_write 49 = .ok (.iload_n 2, 1) := by decide +kernel
theorem dX11_write_50 : decode cX11_write 50 = .ok (.lload_n 3, 1) := by decide +kernel
theorem dX11_write_51 : decode cX11_write 51 = .ok (.invokevirtual 397, 3) := by decide +kernel
theorem dX11_write_54 : decode cX11_write 54 = .ok (.iconst 0, 1) := by decide +kernel
theorem dX11_write_55 : decode cX11_write 55 = .ok (.ireturn, 1) := by decide +kernel
theorem dX11_paste_0 : decode cX11_paste 0 = .ok (.iload_n 1, 1) := by decide +kernel
theorem dX11_paste_1 : decode cX11_paste 1 = .ok (.iconst 4, 1) := by decide +kernel
theorem dX11_paste_2 : decode cX11_paste 2 = .ok (.invokestatic 148, 3) := by decide +kernel
theorem dX11_paste_5 : decode cX11_paste 5 = .ok (.ifCond .eq 11, 3) := by decide +kernel
theorem dX11_paste_8 : decode cX11_paste 8 = .ok (.iload_n 3, 1) := by decide +kernel
theorem dX11_paste_9 : decode cX11_paste 9 = .ok (.iconst 4, 1) := by decide +kernel
theorem dX11_paste_10 : decode cX11_paste 10 = .ok (.invokestatic 148, 3) := by decide +kernel
theorem dX11_paste_13 : decode cX11_paste 13 = .ok (.ifCond .ne 6, 3) := by decide +kernel
theorem dX11_paste_16 : decode cX11_paste 16 = .ok (.bipush (-2), 2) := by decide +kernel
theorem dX11_paste_18 : decode cX11_paste 18 = .ok (.ireturn, 1) := by decide +kernel
theorem dX11_paste_19 : decode cX11_paste 19 = .ok (.aload_n 0, 1) := by decide +kernel
theorem dX11_paste_20 : decode cX11_paste 20 = .ok (.getfield 65, 3) := by decide +kernel
theorem dX11_paste_23 : decode cX11_paste 23 = .ok (.iload_n 1, 1) := by decide +kernel
theorem dX11_paste_24 : decode cX11_paste 24 = .ok (.invokevirtual 394, 3) := by decide +kernel
theorem dX11_paste_27 : decode cX11_paste 27 = .ok (.ifCond .eq 14, 3) := by decide +kernel
theorem dX11_paste_30 : decode cX11_paste 30 = .ok (.aload_n 0, 1) := by decide +kernel
theorem dX11_paste_31 : decode cX11_paste 31 = .ok (.getfield 65, 3) := by decide +kernel
theorem dX11_paste_34 : decode cX11_paste 34 = .ok (.iload_n 3, 1) := by decide +kernel
theorem dX11_paste_35 : decode cX11_paste 35 = .ok (.invokevirtual 394, 3) := by decide +kernel
theorem dX11_paste_38 : decode cX11_paste 38 = .ok (.ifCond .ne 6, 3) := by decide +kernel
theorem dX11_paste_41 : decode cX11_paste 41 = .ok (.bipush (-6), 2) := by decide +kernel
theorem dX11_paste_43 : decode cX11_paste 43 = .ok (.ireturn, 1) := by decide +kernel
theorem dX11_paste_44 : decode cX11_paste 44 = .ok (.aload_n 0, 1) := by decide +kernel
theorem dX11_paste_45 : decode cX11_paste 45 = .ok (.getfield 65, 3) := by decide +kernel
theorem dX11_paste_48 : decode cX11_paste 48 = .ok (.getfield 401, 3) := by decide +kernel
theorem dX11_paste_51 : decode cX11_paste 51 = .ok (.iload_n 1, 1) := by decide +kernel
theorem dX11_paste_52 : decode cX11_paste 52 = .ok (.iaload, 1) := by decide +kernel
theorem dX11_paste_53 : decode cX11_paste 53 = .ok (.aload_n 0, 1) := by decide +kernel
theorem dX11_paste_54 : decode cX11_paste 54 = .ok (.getfield 65, 3) := by decide +kernel
theorem dX11_paste_57 : decode cX11_paste 57 = .ok (.getfield 401, 3) := by decide +kernel
theorem dX11_paste_60 : decode cX11_paste 60 = .ok (.iload_n 3, 1) := by decide +kernel
theorem dX11_paste_61 : decode cX11_paste 61 = .ok (.iaload, 1) := by decide +kernel
theorem dX11_paste_62 : decode cX11_paste 62 = .ok (.if_icmp .eq 6, 3) := by decide +kernel
theorem dX11_paste_65 : decode cX11_paste 65 = .ok (.bipush (-8), 2) := by decide +kernel
theorem dX11_paste_67 : decode cX11_paste 67 = .ok (.ireturn, 1) := by decide +kernel
theorem dX11_paste_68 : decode cX11_paste 68 = .ok (.aload_n 0, 1) := by decide +kernel
theorem dX11_paste_69 : decode cX11_paste 69 = .ok (.getfield 65, 3) := by decide +kernel
theorem dX11_paste_72 : decode cX11_paste 72 = .ok (.iload_n 1, 1) := by decide +kernel
theorem dX11_paste_73 : decode cX11_paste 73 = .ok (.iload_n 2, 1) := by decide +kernel
theorem dX11_paste_74 : decode cX11_paste 74 = .ok (.iload 5, 2) := by decide +kernel
theorem dX11_paste_76 : decode cX11_paste 76 = .ok (.invokevirtual 404, 3) := by decide +kernel
theorem dX11_paste_79 : decode cX11_paste 79 = .ok (.ifCond .eq 18, 3) := by decide +kernel
theorem dX11_paste_82 : decode cX11_paste 82 = .ok (.aload_n 0, 1) := by decide +kernel
theorem dX11_paste_83 : decode cX11_paste 83 = .ok (.getfield 65, 3) := by decide +kernel
theorem dX11_paste_86 : decode cX11_paste 86 = .ok (.iload_n 3, 1) := by decide +kernel
theorem dX11_paste_87 : decode cX11_paste 87 = .ok (.iload 4, 2) := by decide +kernel
theorem dX11_paste_89 : decode cX11_paste 89 = .ok (.iload 5, 2) := by decide +kernel
theorem dX11_paste_91 : decode cX11_paste 91 = .ok (.invokevirtual 404, 3) := by decide +kernel
theorem dX11_paste_94 : decode cX11_paste 94 = .ok (.ifCond .ne 6, 3) := by decide +kernel
theorem dX11_paste_97 : decode cX11_paste 97 = .ok (.bipush (-7), 2) := by decide +kernel
theorem dX11_paste_99 : decode cX11_paste 99 = .ok (.ireturn, 1) := by decide +kernel
theorem dX11_paste_100 : decode cX11_paste 100 = .ok (.aload_n 0, 1) := by decide +kernel
theorem dX11_paste_101 : decode cX11_paste 101 = .ok (.getfield 65, 3) := by decide +kernel
theorem dX11_paste_104 : decode cX11_paste 104 = .ok (.iload_n 1, 1) := by decide +kernel
theorem dX11_paste_105 : decode cX11_paste 105 = .ok (.iload_n 2, 1) := by decide +kernel
theorem dX11_paste_106 : decode cX11_paste 106 = .ok (.iload_n 3, 1) := by decide +kernel
theorem dX11_paste_107 : decode cX11_paste 107 = .ok (.iload 4, 2) := by decide +kernel
theorem dX11_paste_109 : decode cX11_paste 109 = .ok (.iload 5, 2) := by decide +kernel
theorem dX11_paste_111 : decode cX11_paste 111 = .ok (.invokevirtual 407, 3) := by decide +kernel
theorem dX11_paste_114 : decode cX11_paste 114 = .ok (.iconst 0, 1) := by decide +kernel
theorem dX11_paste_115 : decode cX11_paste 115 = .ok (.ireturn, 1) := by decide +kernel
