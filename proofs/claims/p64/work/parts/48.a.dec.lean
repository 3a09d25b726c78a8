theorem dX12_number_0 : decode cX12_number 0 = .ok (.aload_n 0, 1) := by decide +kernel
theorem dX12_number_1 : decode cX12_number 1 = .ok (.getfield 159, 3) := by decide +kernel
theorem dX12_number_4 : decode cX12_number 4 = .ok (.ifCond .eq 5, 3) := by decide +kernel
theorem dX12_number_7 : decode cX12_number 7 = .ok (.iload_n 1, 1) := by decide +kernel
theorem dX12_number_8 : decode cX12_number 8 = .ok (.ireturn, 1) := by decide +kernel
theorem dX12_number_9 : decode cX12_number 9 = .ok (.aload_n 0, 1) := by decide +kernel
theorem dX12_number_10 : decode cX12_number 10 = .ok (.getfield 148, 3) := by decide +kernel
theorem dX12_number_13 : decode cX12_number 13 = .ok (.iconst 2, 1) := by decide +kernel
theorem dX12_number_14 : decode cX12_number 14 = .ok (.if_icmp .eq 10, 3) := by decide +kernel
theorem dX12_number_17 : decode cX12_number 17 = .ok (.aload_n 0, 1) := by decide +kernel
theorem dX12_number_18 : decode cX12_number 18 = .ok (.iconst 1, 1) := by decide +kernel
theorem dX12_number_19 : decode cX12_number 19 = .ok (.invokevirtual 175, 3) := by decide +kernel
theorem dX12_number_22 : decode cX12_number 22 = .ok (.iload_n 1, 1) := by decide +kernel
theorem dX12_number_23 : decode cX12_number 23 = .ok (.ireturn, 1) := by decide +kernel
theorem dX12_number_24 : decode cX12_number 24 = .ok (.aload_n 0, 1) := by decide +kernel
theorem dX12_number_25 : decode cX12_number 25 = .ok (.getfield 141, 3) := by decide +kernel
theorem dX12_number_28 : decode cX12_number 28 = .ok (.i2l, 1) := by decide +kernel
theorem dX12_number_29 : decode cX12_number 29 = .ok (.iload_n 1, 1) := by decide +kernel
theorem dX12_number_30 : decode cX12_number 30 = .ok (.i2l, 1) := by decide +kernel
theorem dX12_number_31 : decode cX12_number 31 = .ok (.iload_n 2, 1) := by decide +kernel
theorem dX12_number_32 : decode cX12_number 32 = .ok (.i2l, 1) := by decide +kernel
theorem dX12_number_33 : decode cX12_number 33 = .ok (.invokestatic 112, 3) := by decide +kernel
theorem dX12_number_36 : decode cX12_number 36 = .ok (.ifCond .ne 10, 3) := by decide +kernel
theorem dX12_number_39 : decode cX12_number 39 = .ok (.aload_n 0, 1) := by decide +kernel
theorem dX12_number_40 : decode cX12_number 40 = .ok (.iconst 2, 1) := by decide +kernel
theorem dX12_number_41 : decode cX12_number 41 = .ok (.invokevirtual 175, 3) := by decide +kernel
theorem dX12_number_44 : decode cX12_number 44 = .ok (.iload_n 1, 1) := by decide +kernel
theorem dX12_number_45 : decode cX12_number 45 = .ok (.ireturn, 1) := by decide +kernel
theorem dX12_number_46 : decode cX12_number 46 = .ok (.aload_n 0, 1) := by decide +kernel
theorem dX12_number_47 : decode cX12_number 47 = .ok (.getfield 141, 3) := by decide +kernel
theorem dX12_number_50 : decode cX12_number 50 = .ok (.istore_n 3, 1) := by decide +kernel
theorem dX12_number_51 : decode cX12_number 51 = .ok (.aload_n 0, 1) := by decide +kernel
theorem dX12_number_52 : decode cX12_number 52 = .ok (.invokevirtual 169, 3) := by decide +kernel
theorem dX12_number_55 : decode cX12_number 55 = .ok (.iload_n 3, 1) := by decide +kernel
theorem dX12_number_56 : decode cX12_number 56 = .ok (.ireturn, 1) := by decide +kernel
theorem dX12_number__0 : decode cX12_number_ 0 = .ok (.aload_n 0, 1) := by decide +kernel
theorem dX12_number__1 : decode cX12_number_ 1 = .ok (.lload_n 1, 1) := by decide +kernel
theorem dX12_number__2 : decode cX12_number_ 2 = .ok (.invokevirtual 178, 3) := by decide +kernel
theorem dX12_number__5 : decode cX12_number_ 5 = .ok (.aload_n 0, 1) := by decide +kernel
theorem dX12_number__6 : decode cX12_number_ 6 = .ok (.iload_n 3, 1) := by decide +kernel
theorem dX12_number__7 : decode cX12_number_ 7 = .ok (.iload 4, 2) := by decide +kernel
theorem dX12_number__9 : decode cX12_number_ 9 = .ok (.invokevirtual 182, 3) := by decide +kernel
theorem dX12_number__12 : decode cX12_number_ 12 = .ok (.ireturn, 1) := by decide +kernel
theorem dX12_ends_0 : decode cX12_ends 0 = .ok (.aload_n 0, 1) := by decide +kernel
theorem dX12_ends_1 : decode cX12_ends 1 = .ok (.getfield 148, 3) := by decide +kernel
theorem dX12_ends_4 : decode cX12_ends 4 = .ok (.iconst 3, 1) := by decide +kernel
theorem dX12_ends_5 : decode cX12_ends 5 = .ok (.if_icmp .eq 8, 3) := by decide +kernel
theorem dX12_ends_8 : decode cX12_ends 8 = .ok (.aload_n 0, 1) := by decide +kernel
theorem dX12_ends_9 : decode cX12_ends 9 = .ok (.iconst 1, 1) := by decide +kernel
theorem dX12_ends_10 : decode cX12_ends 10 = .ok (.invokevirtual 175, 3) := by decide +kernel
theorem dX12_ends_13 : decode cX12_ends 13 = .ok (.aload_n 0, 1) := by decide +kernel
theorem dX12_ends_14 : decode cX12_ends 14 = .ok (.getfield 159, 3) := by decide +kernel
theorem dX12_ends_17 : decode cX12_ends 17 = .ok (.ifCond .ne 7, 3) := by decide +kernel
theorem dX12_ends_20 : decode cX12_ends 20 = .ok (.aload_n 0, 1) := by decide +kernel
theorem dX12_ends_21 : decode cX12_ends 21 = .ok (.invokevirtual 169, 3) := by decide +kernel
theorem dX12_ends_24 : decode cX12_ends 24 = .ok (.return_, 1) := by decide +kernel
theorem dX12_begins_0 : decode cX12_begins 0 = .ok (.aload_n 0, 1) := by decide +kernel
theorem dX12_begins_1 : decode cX12_begins 1 = .ok (.iconst 0, 1) := by decide +kernel
theorem dX12_begins_2 : decode cX12_begins 2 = .ok (.putfield 159, 3) := by decide +kernel
theorem dX12_begins_5 : decode cX12_begins 5 = .ok (.aload_n 0, 1) := by decide +kernel
theorem dX12_begins_6 : decode cX12_begins 6 = .ok (.iconst (-1), 1) := by decide +kernel
theorem dX12_begins_7 : decode cX12_begins 7 = .ok (.putfield 162, 3) := by decide +kernel
theorem dX12_begins_10 : decode cX12_begins 10 = .ok (.aload_n 0, 1) := by decide +kernel
theorem dX12_begins_11 : decode cX12_begins 11 = .ok (.iconst 0, 1) := by decide +kernel
theorem dX12_begins_12 : decode cX12_begins 12 = .ok (.putfield 131, 3) := by decide +kernel
theorem dX12_begins_15 : decode cX12_begins 15 = .ok (.aload_n 0, 1) := by decide +kernel
theorem dX12_begins_16 : decode cX12_begins 16 = .ok (.invokevirtual 169, 3) := by decide +kernel
theorem dX12_begins_19 : decode cX12_begins 19 = .ok (.return_, 1) := by decide +kernel
theorem dX12_isOver_0 : decode cX12_isOver 0 = .ok (.aload_n 0, 1) := by decide +kernel
theorem dX12_isOver_1 : decode cX12_isOver 1 = .ok (.iconst 0, 1) := by decide +kernel
theorem dX12_isOver_2 : decode cX12_isOver 2 = .ok (.putfield 124, 3) := by decide +kernel
theorem dX12_isOver_5 : decode cX12_isOver 5 = .ok (.aload_n 0, 1) := by decide +kernel
theorem dX12_isOver_6 : decode cX12_isOver 6 = .ok (.aload_n 0, 1) := by decide +kernel
theorem dX12_isOver_7 : decode cX12_isOver 7 = .ok (.getfield 159, 3) := by decide +kernel
theorem dX12_isOver_10 : decode cX12_isOver 10 = .ok (.putfield 186, 3) := by decide +kernel
theorem dX12_isOver_13 : decode cX12_isOver 13 = .ok (.aload_n 0, 1) := by decide +kernel
theorem dX12_isOver_14 : decode cX12_isOver 14 = .ok (.aload_n 0, 1) := by decide +kernel
theorem dX12_isOver_15 : decode cX12_isOver 15 = .ok (.getfield 159, 3) := by decide +kernel
theorem dX12_isOver_18 : decode cX12_isOver 18 = .ok (.ifCond .ne 7, 3) := by decide +kernel
theorem dX12_isOver_21 : decode cX12_isOver 21 = .ok (.iconst (-1), 1) := by decide +kernel
theorem dX12_isOver_22 : decode cX12_isOver 22 = .ok (.goto 7, 3) := by decide +kernel
theorem dX12_isOver_25 : decode cX12_isOver 25 = .ok (.aload_n 0, 1) := by decide +kernel
theorem dX12_isOver_26 : decode cX12_isOver 26 = .ok (.getfield 162, 3) := by decide +kernel
theorem dX12_isOver_29 : decode cX12_isOver 29 = .ok (.putfield 27, 3) := by decide +kernel
theorem dX12_isOver_32 : decode cX12_isOver 32 = .ok (.return_, 1) := by decide +kernel
theorem dX12_fault_0 : decode cX12_fault 0 = .ok (.aload_n 0, 1) := by decide +kernel
theorem dX12_fault_1 : decode cX12_fault 1 = .ok (.iconst 0, 1) := by decide +kernel
theorem dX12_fault_2 : decode cX12_fault 2 = .ok (.putfield 107, 3) := by decide +kernel
theorem dX12_fault_5 : decode cX12_fault 5 = .ok (.iload_n 1, 1) := by decide +kernel
theorem dX12_fault_6 : decode cX12_fault 6 = .ok (.ifCond .ne 10, 3) := by decide +kernel
theorem dX12_fault_9 : decode cX12_fault 9 = .ok (.aload_n 0, 1) := by decide +kernel
theorem dX12_fault_10 : decode cX12_fault 10 = .ok (.getfield 186, 3) := by decide +kernel
theorem dX12_fault_13 : decode cX12_fault 13 = .ok (.goto 16, 3) := by decide +kernel
theorem dX12_fault_16 : decode cX12_fault 16 = .ok (.iload_n 1, 1) := by decide +kernel
theorem dX12_fault_17 : decode cX12_fault 17 = .ok (.iconst 1, 1) := by decide +kernel
theorem dX12_fault_18 : decode cX12_fault 18 = .ok (.if_icmp .ne 10, 3) := by decide +kernel
theorem dX12_fault_21 : decode cX12_fault 21 = .ok (.aload_n 0, 1) := by decide +kernel
theorem dX12_fault_22 : decode cX12_fault 22 = .ok (.getfield 27, 3) := by decide +kernel
theorem dX12_fault_25 : decode cX12_fault 25 = .ok (.goto 4, 3) := by decide +kernel
theorem dX12_fault_28 : decode cX12_fault 28 = .ok (.iconst (-1), 1) := by decide +kernel
theorem dX12_fault_29 : decode cX12_fault 29 = .ok (.ireturn, 1) := by decide +kernel
theorem dX12_hasRead_0 : decode cX12_hasRead 0 = .ok (.aload_n 0, 1) := by decide +kernel
theorem dX12_hasRead_1 : decode cX12_hasRead 1 = .ok (.getfield 34, 3) := by decide +kernel
theorem dX12_hasRead_4 : decode cX12_hasRead 4 = .ok (.bipush 20, 2) := by decide +kernel
theorem dX12_hasRead_6 : decode cX12_hasRead 6 = .ok (.iload_n 1, 1) := by decide +kernel
theorem dX12_hasRead_7 : decode cX12_hasRead 7 = .ok (.iadd, 1) := by decide +kernel
theorem dX12_hasRead_8 : decode cX12_hasRead 8 = .ok (.iaload, 1) := by decide +kernel
theorem dX12_hasRead_9 : decode cX12_hasRead 9 = .ok (.ireturn, 1) := by decide +kernel
theorem dX12_personHere_0 : decode cX12_personHere 0 = .ok (.aload_n 0, 1) := by decide +kernel
theorem dX12_personHere_1 : decode cX12_personHere 1 = .ok (.iconst 0, 1) := by decide +kernel
theorem dX12_personHere_2 : decode cX12_personHere 2 = .ok (.aload_n 0, 1) := by decide +kernel
theorem dX12_personHere_3 : decode cX12_personHere 3 = .ok (.iconst 3, 1) := by decide +kernel
theorem dX12_personHere_4 : decode cX12_personHere 4 = .ok (.invokevirtual 189, 3) := by decide +kernel
theorem dX12_personHere_7 : decode cX12_personHere 7 = .ok (.iconst 1, 1) := by decide +kernel
theorem dX12_personHere_8 : decode cX12_personHere 8 = .ok (.isub, 1) := by decide +kernel
theorem dX12_personHere_9 : decode cX12_personHere 9 = .ok (.invokevirtual 182, 3) := by decide +kernel
theorem dX12_personHere_12 : decode cX12_personHere 12 = .ok (.ireturn, 1) := by decide +kernel
theorem dX12_yearHere_0 : decode cX12_yearHere 0 = .ok (.aload_n 0, 1) := by decide +kernel
theorem dX12_yearHere_1 : decode cX12_yearHere 1 = .ok (.iconst 0, 1) := by decide +kernel
theorem dX12_yearHere_2 : decode cX12_yearHere 2 = .ok (.aload_n 0, 1) := by decide +kernel
theorem dX12_yearHere_3 : decode cX12_yearHere 3 = .ok (.iconst 0, 1) := by decide +kernel
theorem dX12_yearHere_4 : decode cX12_yearHere 4 = .ok (.invokevirtual 189, 3) := by decide +kernel
theorem dX12_yearHere_7 : decode cX12_yearHere 7 = .ok (.iconst 1, 1) := by decide +kernel
theorem dX12_yearHere_8 : decode cX12_yearHere 8 = .ok (.isub, 1) := by decide +kernel
theorem dX12_yearHere_9 : decode cX12_yearHere 9 = .ok (.invokevirtual 182, 3) := by decide +kernel
theorem dX12_yearHere_12 : decode cX12_yearHere 12 = .ok (.ireturn, 1) := by decide +kernel
theorem dX12_personLine_0 : decode cX12_personLine 0 = .ok (.iconst 5, 1) := by decide +kernel
theorem dX12_personLine_1 : decode cX12_personLine 1 = .ok (.bipush 40, 2) := by decide +kernel
theorem dX12_personLine_3 : decode cX12_personLine 3 = .ok (.aload_n 0, 1) := by decide +kernel
theorem dX12_personLine_4 : decode cX12_personLine 4 = .ok (.iconst 3, 1) := by decide +kernel
theorem dX12_personLine_5 : decode cX12_personLine 5 = .ok (.invokevirtual 189, 3) := by decide +kernel
theorem dX12_personLine_8 : decode cX12_personLine 8 = .ok (.iadd, 1) := by decide +kernel
theorem dX12_personLine_9 : decode cX12_personLine 9 = .ok (.imul, 1) := by decide +kernel
theorem dX12_personLine_10 : decode cX12_personLine 10 = .ok (.istore_n 1, 1) := by decide +kernel
theorem dX12_personLine_11 : decode cX12_personLine 11 = .ok (.aload_n 0, 1) := by decide +kernel
theorem dX12_personLine_12 : decode cX12_personLine 12 = .ok (.getfield 37, 3) := by decide +kernel
theorem dX12_personLine_15 : decode cX12_personLine 15 = .ok (.iload_n 1, 1) := by decide +kernel
theorem dX12_personLine_16 : decode cX12_personLine 16 = .ok (.aload_n 0, 1) := by decide +kernel
theorem dX12_personLine_17 : decode cX12_personLine 17 = .ok (.ldc2_w 193, 3) := by decide +kernel
theorem dX12_personLine_20 : decode cX12_personLine 20 = .ok (.iconst 0, 1) := by decide +kernel
theorem dX12_personLine_21 : decode cX12_personLine 21 = .ok (.bipush 15, 2) := by decide +kernel
theorem dX12_personLine_23 : decode cX12_personLine 23 = .ok (.invokevirtual 195, 3) := by decide +kernel
theorem dX12_personLine_26 : decode cX12_personLine 26 = .ok (.iastore, 1) := by decide +kernel
theorem dX12_personLine_27 : decode cX12_personLine 27 = .ok (.aload_n 0, 1) := by decide +kernel
theorem dX12_personLine_28 : decode cX12_personLine 28 = .ok (.getfield 37, 3) := by decide +kernel
theorem dX12_personLine_31 : decode cX12_personLine 31 = .ok (.iload_n 1, 1) := by decide +kernel
theorem dX12_personLine_32 : decode cX12_personLine 32 = .ok (.iconst 1, 1) := by decide +kernel
theorem dX12_personLine_33 : decode cX12_personLine 33 = .ok (.iadd, 1) := by decide +kernel
theorem dX12_personLine_34 : decode cX12_personLine 34 = .ok (.iconst 0, 1) := by decide +kernel
theorem dX12_personLine_35 : decode cX12_personLine 35 = .ok (.iastore, 1) := by decide +kernel
theorem dX12_personLine_36 : decode cX12_personLine 36 = .ok (.aload_n 0, 1) := by decide +kernel
theorem dX12_personLine_37 : decode cX12_personLine 37 = .ok (.getfield 37, 3) := by decide +kernel
theorem dX12_personLine_40 : decode cX12_personLine 40 = .ok (.iload_n 1, 1) := by decide +kernel
theorem dX12_personLine_41 : decode cX12_personLine 41 = .ok (.iconst 2, 1) := by decide +kernel
theorem dX12_personLine_42 : decode cX12_personLine 42 = .ok (.iadd, 1) := by decide +kernel
theorem dX12_personLine_43 : decode cX12_personLine 43 = .ok (.iconst 0, 1) := by decide +kernel
theorem dX12_personLine_44 : decode cX12_personLine 44 = .ok (.iastore, 1) := by decide +kernel
theorem dX12_personLine_45 : decode cX12_personLine 45 = .ok (.aload_n 0, 1) := by decide +kernel
theorem dX12_personLine_46 : decode cX12_personLine 46 = .ok (.getfield 37, 3) := by decide +kernel
theorem dX12_personLine_49 : decode cX12_personLine 49 = .ok (.iload_n 1, 1) := by decide +kernel
theorem dX12_personLine_50 : decode cX12_personLine 50 = .ok (.iconst 3, 1) := by decide +kernel
theorem dX12_personLine_51 : decode cX12_personLine 51 = .ok (.iadd, 1) := by decide +kernel
theorem dX12_personLine_52 : decode cX12_personLine 52 = .ok (.iconst (-1), 1) := by decide +kernel
theorem dX12_personLine_53 : decode cX12_personLine 53 = .ok (.iastore, 1) := by decide +kernel
theorem dX12_personLine_54 : decode cX12_personLine 54 = .ok (.aload_n 0, 1) := by decide +kernel
theorem dX12_personLine_55 : decode cX12_personLine 55 = .ok (.getfield 37, 3) := by decide +kernel
theorem dX12_personLine_58 : decode cX12_personLine 58 = .ok (.iload_n 1, 1) := by decide +kernel
theorem dX12_personLine_59 : decode cX12_personLine 59 = .ok (.iconst 4, 1) := by decide +kernel
theorem dX12_personLine_60 : decode cX12_personLine 60 = .ok (.iadd, 1) := by decide +kernel
theorem dX12_personLine_61 : decode cX12_personLine 61 = .ok (.iconst (-1), 1) := by decide +kernel
theorem dX12_personLine_62 : decode cX12_personLine 62 = .ok (.iastore, 1) := by decide +kernel
theorem dX12_personLine_63 : decode cX12_personLine 63 = .ok (.iconst 0, 1) := by decide +kernel
theorem dX12_personLine_64 : decode cX12_personLine 64 = .ok (.istore_n 2, 1) := by decide +kernel
theorem dX12_personLine_65 : decode cX12_personLine 65 = .ok (.aload_n 0, 1) := by decide +kernel
theorem dX12_personLine_66 : decode cX12_personLine 66 = .ok (.invokevirtual 198, 3) := by decide +kernel
theorem dX12_personLine_69 : decode cX12_personLine 69 = .ok (.ifCond .eq 115, 3) := by decide +kernel
theorem dX12_personLine_72 : decode cX12_personLine 72 = .ok (.aload_n 0, 1) := by decide +kernel
theorem dX12_personLine_73 : decode cX12_personLine 73 = .ok (.getfield 148, 3) := by decide +kernel
theorem dX12_personLine_76 : decode cX12_personLine 76 = .ok (.iconst 1, 1) := by decide +kernel
theorem dX12_personLine_77 : decode cX12_personLine 77 = .ok (.if_icmp .ne 107, 3) := by decide +kernel
theorem dX12_personLine_80 : decode cX12_personLine 80 = .ok (.aload_n 0, 1) := by decide +kernel
theorem dX12_personLine_81 : decode cX12_personLine 81 = .ok (.ldc2_w 202, 3) := by decide +kernel
theorem dX12_personLine_84 : decode cX12_personLine 84 = .ok (.invokevirtual 165, 3) := by decide +kernel
theorem dX12_personLine_87 : decode cX12_personLine 87 = .ok (.istore_n 3, 1) := by decide +kernel
theorem dX12_personLine_88 : decode cX12_personLine 88 = .ok (.aload_n 0, 1) := by decide +kernel
theorem dX12_personLine_89 : decode cX12_personLine 89 = .ok (.ldc2_w 204, 3) := by decide +kernel
theorem dX12_personLine_92 : decode cX12_personLine 92 = .ok (.invokevirtual 165, 3) := by decide +kernel
theorem dX12_personLine_95 : decode cX12_personLine 95 = .ok (.istore 4, 2) := by decide +kernel
theorem dX12_personLine_97 : decode cX12_personLine 97 = .ok (.iload_n 3, 1) := by decide +kernel
theorem dX12_personLine_98 : decode cX12_personLine 98 = .ok (.ifCond .ne 8, 3) := by decide +kernel
theorem dX12_personLine_101 : decode cX12_personLine 101 = .ok (.iload 4, 2) := by decide +kernel
theorem dX12_personLine_103 : decode cX12_personLine 103 = .ok (.ifCond .eq 28, 3) := by decide +kernel
theorem dX12_personLine_106 : decode cX12_personLine 106 = .ok (.iload_n 3, 1) := by decide +kernel
theorem dX12_personLine_107 : decode cX12_personLine 107 = .ok (.ifCond .eq 15, 3) := by decide +kernel
theorem dX12_personLine_110 : decode cX12_personLine 110 = .ok (.aload_n 0, 1) := by decide +kernel
theorem dX12_personLine_111 : decode cX12_personLine 111 = .ok (.getfield 37, 3) := by decide +kernel
theorem dX12_personLine_114 : decode cX12_personLine 114 = .ok (.iload_n 1, 1) := by decide +kernel
theorem dX12_personLine_115 : decode cX12_personLine 115 = .ok (.iconst 1, 1) := by decide +kernel
theorem dX12_personLine_116 : decode cX12_personLine 116 = .ok (.iadd, 1) := by decide +kernel
theorem dX12_personLine_117 : decode cX12_personLine 117 = .ok (.iaload, 1) := by decide +kernel
theorem dX12_personLine_118 : decode cX12_personLine 118 = .ok (.iconst 1, 1) := by decide +kernel
theorem dX12_personLine_119 : decode cX12_personLine 119 = .ok (.if_icmp .eq 12, 3) := by decide +kernel
theorem dX12_personLine_122 : decode cX12_personLine 122 = .ok (.iload 4, 2) := by decide +kernel
theorem dX12_personLine_124 : decode cX12_personLine 124 = .ok (.ifCond .eq 12, 3) := by decide +kernel
theorem dX12_personLine_127 : decode cX12_personLine 127 = .ok (.iload_n 2, 1) := by decide +kernel
theorem dX12_personLine_128 : decode cX12_personLine 128 = .ok (.ifCond .eq 8, 3) := by decide +kernel
theorem dX12_personLine_131 : decode cX12_personLine 131 = .ok (.aload_n 0, 1) := by decide +kernel
theorem dX12_personLine_132 : decode cX12_personLine 132 = .ok (.iconst 1, 1) := by decide +kernel
theorem dX12_personLine_133 : decode cX12_personLine 133 = .ok (.invokevirtual 175, 3) := by decide +kernel
theorem dX12_personLine_136 : decode cX12_personLine 136 = .ok (.aload_n 0, 1) := by decide +kernel
theorem dX12_personLine_137 : decode cX12_personLine 137 = .ok (.getfield 159, 3) := by decide +kernel
theorem dX12_personLine_140 : decode cX12_personLine 140 = .ok (.ifCond .eq 4, 3) := by decide +kernel
theorem dX12_personLine_143 : decode cX12_personLine 143 = .ok (.return_, 1) := by decide +kernel
theorem dX12_personLine_144 : decode cX12_personLine 144 = .ok (.aload_n 0, 1) := by decide +kernel
theorem dX12_personLine_145 : decode cX12_personLine 145 = .ok (.invokevirtual 169, 3) := by decide +kernel
theorem dX12_personLine_148 : decode cX12_personLine 148 = .ok (.iload_n 3, 1) := by decide +kernel
theorem dX12_personLine_149 : decode cX12_personLine 149 = .ok (.ifCond .eq 15, 3) := by decide +kernel
theorem dX12_personLine_152 : decode cX12_personLine 152 = .ok (.aload_n 0, 1) := by decide +kernel
theorem dX12_personLine_153 : decode cX12_personLine 153 = .ok (.getfield 37, 3) := by decide +kernel
theorem dX12_personLine_156 : decode cX12_personLine 156 = .ok (.iload_n 1, 1) := by decide +kernel
theorem dX12_personLine_157 : decode cX12_personLine 157 = .ok (.iconst 1, 1) := by decide +kernel
theorem dX12_personLine_158 : decode cX12_personLine 158 = .ok (.iadd, 1) := by decide +kernel
theorem dX12_personLine_159 : decode cX12_personLine 159 = .ok (.iconst 1, 1) := by decide +kernel
theorem dX12_personLine_160 : decode cX12_personLine 160 = .ok (.iastore, 1) := by decide +kernel
theorem dX12_personLine_161 : decode cX12_personLine 161 = .ok (.goto 20, 3) := by decide +kernel
theorem dX12_personLine_164 : decode cX12_personLine 164 = .ok (.aload_n 0, 1) := by decide +kernel
theorem dX12_personLine_165 : decode cX12_personLine 165 = .ok (.getfield 37, 3) := by decide +kernel
theorem dX12_personLine_168 : decode cX12_personLine 168 = .ok (.iload_n 1, 1) := by decide +kernel
theorem dX12_personLine_169 : decode cX12_personLine 169 = .ok (.iconst 2, 1) := by decide +kernel
theorem dX12_personLine_170 : decode cX12_personLine 170 = .ok (.iadd, 1) := by decide +kernel
theorem dX12_personLine_171 : decode cX12_personLine 171 = .ok (.aload_n 0, 1) := by decide +kernel
theorem dX12_personLine_172 : decode cX12_personLine 172 = .ok (.iconst 0, 1) := by decide +kernel
theorem dX12_personLine_173 : decode cX12_personLine 173 = .ok (.bipush 50, 2) := by decide +kernel
theorem dX12_personLine_175 : decode cX12_personLine 175 = .ok (.invokevirtual 182, 3) := by decide +kernel
theorem dX12_personLine_178 : decode cX12_personLine 178 = .ok (.iastore, 1) := by decide +kernel
theorem dX12_personLine_179 : decode cX12_personLine 179 = .ok (.iconst 1, 1) := by decide +kernel
theorem dX12_personLine_180 : decode cX12_personLine 180 = .ok (.istore_n 2, 1) := by decide +kernel
theorem dX12_personLine_181 : decode cX12_personLine 181 = .ok (.goto (-116), 3) := by decide +kernel
theorem dX12_personLine_184 : decode cX12_personLine 184 = .ok (.aload_n 0, 1) := by decide +kernel
theorem dX12_personLine_185 : decode cX12_personLine 185 = .ok (.getfield 34, 3) := by decide +kernel
theorem dX12_personLine_188 : decode cX12_personLine 188 = .ok (.bipush 23, 2) := by decide +kernel
theorem dX12_personLine_190 : decode cX12_personLine 190 = .ok (.dup2, 1) := by decide +kernel
theorem dX12_personLine_191 : decode cX12_personLine 191 = .ok (.iaload, 1) := by decide +kernel
theorem dX12_personLine_192 : decode cX12_personLine 192 = .ok (.iconst 1, 1) := by decide +kernel
theorem dX12_personLine_193 : decode cX12_personLine 193 = .ok (.iadd, 1) := by decide +kernel
theorem dX12_personLine_194 : decode cX12_personLine 194 = .ok (.iastore, 1) := by decide +kernel
theorem dX12_personLine_195 : decode cX12_personLine 195 = .ok (.return_, 1) := by decide +kernel
theorem dX12_pairOf_0 : decode cX12_pairOf 0 = .ok (.iconst 0, 1) := by decide +kernel
theorem dX12_pairOf_1 : decode cX12_pairOf 1 = .ok (.istore 4, 2) := by decide +kernel
theorem dX12_pairOf_3 : decode cX12_pairOf 3 = .ok (.iload 4, 2) := by decide +kernel
theorem dX12_pairOf_5 : decode cX12_pairOf 5 = .ok (.aload_n 0, 1) := by decide +kernel
theorem dX12_pairOf_6 : decode cX12_pairOf 6 = .ok (.getfield 34, 3) := by decide +kernel
theorem dX12_pairOf_9 : decode cX12_pairOf 9 = .ok (.iconst 5, 1) := by decide +kernel
theorem dX12_pairOf_10 : decode cX12_pairOf 10 = .ok (.iload_n 1, 1) := by decide +kernel
theorem dX12_pairOf_11 : decode cX12_pairOf 11 = .ok (.imul, 1) := by decide +kernel
theorem dX12_pairOf_12 : decode cX12_pairOf 12 = .ok (.iconst 4, 1) := by decide +kernel
theorem dX12_pairOf_13 : decode cX12_pairOf 13 = .ok (.iadd, 1) := by decide +kernel
theorem dX12_pairOf_14 : decode cX12_pairOf 14 = .ok (.iaload, 1) := by decide +kernel
theorem dX12_pairOf_15 : decode cX12_pairOf 15 = .ok (.if_icmp .ge 71, 3) := by decide +kernel
theorem dX12_pairOf_18 : decode cX12_pairOf 18 = .ok (.iconst 3, 1) := by decide +kernel
theorem dX12_pairOf_19 : decode cX12_pairOf 19 = .ok (.bipush 16, 2) := by decide +kernel
theorem dX12_pairOf_21 : decode cX12_pairOf 21 = .ok (.iload_n 1, 1) := by decide +kernel
theorem dX12_pairOf_22 : decode cX12_pairOf 22 = .ok (.imul, 1) := by decide +kernel
theorem dX12_pairOf_23 : decode cX12_pairOf 23 = .ok (.iload 4, 2) := by decide +kernel
theorem dX12_pairOf_25 : decode cX12_pairOf 25 = .ok (.iadd, 1) := by decide +kernel
theorem dX12_pairOf_26 : decode cX12_pairOf 26 = .ok (.imul, 1) := by decide +kernel
theorem dX12_pairOf_27 : decode cX12_pairOf 27 = .ok (.istore 5, 2) := by decide +kernel
theorem dX12_pairOf_29 : decode cX12_pairOf 29 = .ok (.aload_n 0, 1) := by decide +kernel
theorem dX12_pairOf_30 : decode cX12_pairOf 30 = .ok (.getfield 40, 3) := by decide +kernel
theorem dX12_pairOf_33 : decode cX12_pairOf 33 = .ok (.iload 5, 2) := by decide +kernel
theorem dX12_pairOf_35 : decode cX12_pairOf 35 = .ok (.iaload, 1) := by decide +kernel
theorem dX12_pairOf_36 : decode cX12_pairOf 36 = .ok (.iload_n 2, 1) := by decide +kernel
theorem dX12_pairOf_37 : decode cX12_pairOf 37 = .ok (.if_icmp .ne 16, 3) := by decide +kernel
theorem dX12_pairOf_40 : decode cX12_pairOf 40 = .ok (.aload_n 0, 1) := by decide +kernel
theorem dX12_pairOf_41 : decode cX12_pairOf 41 = .ok (.getfield 40, 3) := by decide +kernel
theorem dX12_pairOf_44 : decode cX12_pairOf 44 = .ok (.iload 5, 2) := by decide +kernel
theorem dX12_pairOf_46 : decode cX12_pairOf 46 = .ok (.iconst 1, 1) := by decide +kernel
theorem dX12_pairOf_47 : decode cX12_pairOf 47 = .ok (.iadd, 1) := by decide +kernel
theorem dX12_pairOf_48 : decode cX12_pairOf 48 = .ok (.iaload, 1) := by decide +kernel
theorem dX12_pairOf_49 : decode cX12_pairOf 49 = .ok (.iload_n 3, 1) := by decide +kernel
theorem dX12_pairOf_50 : decode cX12_pairOf 50 = .ok (.if_icmp .eq 27, 3) := by decide +kernel
theorem dX12_pairOf_53 : decode cX12_pairOf 53 = .ok (.aload_n 0, 1) := by decide +kernel
theorem dX12_pairOf_54 : decode cX12_pairOf 54 = .ok (.getfield 40, 3) := by decide +kernel
theorem dX12_pairOf_57 : decode cX12_pairOf 57 = .ok (.iload 5, 2) := by decide +kernel
theorem dX12_pairOf_59 : decode cX12_pairOf 59 = .ok (.iaload, 1) := by decide +kernel
theorem dX12_pairOf_60 : decode cX12_pairOf 60 = .ok (.iload_n 3, 1) := by decide +kernel
theorem dX12_pairOf_61 : decode cX12_pairOf 61 = .ok (.if_icmp .ne 19, 3) := by decide +kernel
theorem dX12_pairOf_64 : decode cX12_pairOf 64 = .ok (.aload_n 0, 1) := by decide +kernel
theorem dX12_pairOf_65 : decode cX12_pairOf 65 = .ok (.getfield 40, 3) := by decide +kernel
theorem dX12_pairOf_68 : decode cX12_pairOf 68 = .ok (.iload 5, 2) := by decide +kernel
theorem dX12_pairOf_70 : decode cX12_pairOf 70 = .ok (.iconst 1, 1) := by decide +kernel
theorem dX12_pairOf_71 : decode cX12_pairOf 71 = .ok (.iadd, 1) := by decide +kernel
theorem dX12_pairOf_72 : decode cX12_pairOf 72 = .ok (.iaload, 1) := by decide +kernel
theorem dX12_pairOf_73 : decode cX12_pairOf 73 = .ok (.iload_n 2, 1) := by decide +kernel
theorem dX12_pairOf_74 : decode cX12_pairOf 74 = .ok (.if_icmp .ne 6, 3) := by decide +kernel
theorem dX12_pairOf_77 : decode cX12_pairOf 77 = .ok (.iload 4, 2) := by decide +kernel
theorem dX12_pairOf_79 : decode cX12_pairOf 79 = .ok (.ireturn, 1) := by decide +kernel
theorem dX12_pairOf_80 : decode cX12_pairOf 80 = .ok (.iinc 4 1, 3) := by decide +kernel
theorem dX12_pairOf_83 : decode cX12_pairOf 83 = .ok (.goto (-80), 3) := by decide +kernel
theorem dX12_pairOf_86 : decode cX12_pairOf 86 = .ok (.iconst (-1), 1) := by decide +kernel
theorem dX12_pairOf_87 : decode cX12_pairOf 87 = .ok (.ireturn, 1) := by decide +kernel
theorem dX12_pairLine_0 : decode cX12_pairLine 0 = .ok (.aload_n 0, 1) := by decide +kernel
theorem dX12_pairLine_1 : decode cX12_pairLine 1 = .ok (.iconst 4, 1) := by decide +kernel
theorem dX12_pairLine_2 : decode cX12_pairLine 2 = .ok (.invokevirtual 189, 3) := by decide +kernel
theorem dX12_pairLine_5 : decode cX12_pairLine 5 = .ok (.istore_n 1, 1) := by decide +kernel
theorem dX12_pairLine_6 : decode cX12_pairLine 6 = .ok (.iconst 3, 1) := by decide +kernel
theorem dX12_pairLine_7 : decode cX12_pairLine 7 = .ok (.bipush 64, 2) := by decide +kernel
theorem dX12_pairLine_9 : decode cX12_pairLine 9 = .ok (.iload_n 1, 1) := by decide +kernel
theorem dX12_pairLine_10 : decode cX12_pairLine 10 = .ok (.iadd, 1) := by decide +kernel
theorem dX12_pairLine_11 : decode cX12_pairLine 11 = .ok (.imul, 1) := by decide +kernel
theorem dX12_pairLine_12 : decode cX12_pairLine 12 = .ok (.istore_n 2, 1) := by decide +kernel
theorem dX12_pairLine_13 : decode cX12_pairLine 13 = .ok (.aload_n 0, 1) := by decide +kernel
theorem dX12_pairLine_14 : decode cX12_pairLine 14 = .ok (.invokevirtual 206, 3) := by decide +kernel
theorem dX12_pairLine_17 : decode cX12_pairLine 17 = .ok (.istore_n 3, 1) := by decide +kernel
theorem dX12_pairLine_18 : decode cX12_pairLine 18 = .ok (.aload_n 0, 1) := by decide +kernel
theorem dX12_pairLine_19 : decode cX12_pairLine 19 = .ok (.getfield 159, 3) := by decide +kernel
theorem dX12_pairLine_22 : decode cX12_pairLine 22 = .ok (.ifCond .ne 50, 3) := by decide +kernel
theorem dX12_pairLine_25 : decode cX12_pairLine 25 = .ok (.aload_n 0, 1) := by decide +kernel
theorem dX12_pairLine_26 : decode cX12_pairLine 26 = .ok (.getfield 148, 3) := by decide +kernel
theorem dX12_pairLine_29 : decode cX12_pairLine 29 = .ok (.iconst 2, 1) := by decide +kernel
theorem dX12_pairLine_30 : decode cX12_pairLine 30 = .ok (.if_icmp .ne 42, 3) := by decide +kernel
theorem dX12_pairLine_33 : decode cX12_pairLine 33 = .ok (.aload_n 0, 1) := by decide +kernel
theorem dX12_pairLine_34 : decode cX12_pairLine 34 = .ok (.getfield 141, 3) := by decide +kernel
theorem dX12_pairLine_37 : decode cX12_pairLine 37 = .ok (.aload_n 0, 1) := by decide +kernel
theorem dX12_pairLine_38 : decode cX12_pairLine 38 = .ok (.iconst 3, 1) := by decide +kernel
theorem dX12_pairLine_39 : decode cX12_pairLine 39 = .ok (.invokevirtual 189, 3) := by decide +kernel
theorem dX12_pairLine_42 : decode cX12_pairLine 42 = .ok (.if_icmp .ge 30, 3) := by decide +kernel
theorem dX12_pairLine_45 : decode cX12_pairLine 45 = .ok (.aload_n 0, 1) := by decide +kernel
theorem dX12_pairLine_46 : decode cX12_pairLine 46 = .ok (.getfield 141, 3) := by decide +kernel
theorem dX12_pairLine_49 : decode cX12_pairLine 49 = .ok (.iload_n 3, 1) := by decide +kernel
theorem dX12_pairLine_50 : decode cX12_pairLine 50 = .ok (.if_icmp .eq 17, 3) := by decide +kernel
theorem dX12_pairLine_53 : decode cX12_pairLine 53 = .ok (.aload_n 0, 1) := by decide +kernel
theorem dX12_pairLine_54 : decode cX12_pairLine 54 = .ok (.iconst 4, 1) := by decide +kernel
theorem dX12_pairLine_55 : decode cX12_pairLine 55 = .ok (.iload_n 3, 1) := by decide +kernel
theorem dX12_pairLine_56 : decode cX12_pairLine 56 = .ok (.aload_n 0, 1) := by decide +kernel
theorem dX12_pairLine_57 : decode cX12_pairLine 57 = .ok (.getfield 141, 3) := by decide +kernel
theorem dX12_pairLine_60 : decode cX12_pairLine 60 = .ok (.invokevirtual 210, 3) := by decide +kernel
theorem dX12_pairLine_63 : decode cX12_pairLine 63 = .ok (.iconst (-1), 1) := by decide +kernel
theorem dX12_pairLine_64 : decode cX12_pairLine 64 = .ok (.if_icmp .eq 8, 3) := by decide +kernel
theorem dX12_pairLine_67 : decode cX12_pairLine 67 = .ok (.aload_n 0, 1) := by decide +kernel
theorem dX12_pairLine_68 : decode cX12_pairLine 68 = .ok (.iconst 2, 1) := by decide +kernel
theorem dX12_pairLine_69 : decode cX12_pairLine 69 = .ok (.invokevirtual 175, 3) := by decide +kernel
theorem dX12_pairLine_72 : decode cX12_pairLine 72 = .ok (.aload_n 0, 1) := by decide +kernel
theorem dX12_pairLine_73 : decode cX12_pairLine 73 = .ok (.invokevirtual 206, 3) := by decide +kernel
theorem dX12_pairLine_76 : decode cX12_pairLine 76 = .ok (.istore 4, 2) := by decide +kernel
theorem dX12_pairLine_78 : decode cX12_pairLine 78 = .ok (.aload_n 0, 1) := by decide +kernel
theorem dX12_pairLine_79 : decode cX12_pairLine 79 = .ok (.ldc2_w 214, 3) := by decide +kernel
theorem dX12_pairLine_82 : decode cX12_pairLine 82 = .ok (.iconst 0, 1) := by decide +kernel
theorem dX12_pairLine_83 : decode cX12_pairLine 83 = .ok (.bipush 15, 2) := by decide +kernel
theorem dX12_pairLine_85 : decode cX12_pairLine 85 = .ok (.invokevirtual 195, 3) := by decide +kernel
theorem dX12_pairLine_88 : decode cX12_pairLine 88 = .ok (.istore 5, 2) := by decide +kernel
theorem dX12_pairLine_90 : decode cX12_pairLine 90 = .ok (.aload_n 0, 1) := by decide +kernel
theorem dX12_pairLine_91 : decode cX12_pairLine 91 = .ok (.getfield 159, 3) := by decide +kernel
theorem dX12_pairLine_94 : decode cX12_pairLine 94 = .ok (.ifCond .eq 4, 3) := by decide +kernel
theorem dX12_pairLine_97 : decode cX12_pairLine 97 = .ok (.return_, 1) := by decide +kernel
theorem dX12_pairLine_98 : decode cX12_pairLine 98 = .ok (.aload_n 0, 1) := by decide +kernel
theorem dX12_pairLine_99 : decode cX12_pairLine 99 = .ok (.getfield 40, 3) := by decide +kernel
theorem dX12_pairLine_102 : decode cX12_pairLine 102 = .ok (.iload_n 2, 1) := by decide +kernel
theorem dX12_pairLine_103 : decode cX12_pairLine 103 = .ok (.iload_n 3, 1) := by decide +kernel
theorem dX12_pairLine_104 : decode cX12_pairLine 104 = .ok (.iastore, 1) := by decide +kernel
theorem dX12_pairLine_105 : decode cX12_pairLine 105 = .ok (.aload_n 0, 1) := by decide +kernel
theorem dX12_pairLine_106 : decode cX12_pairLine 106 = .ok (.getfield 40, 3) := by decide +kernel
theorem dX12_pairLine_109 : decode cX12_pairLine 109 = .ok (.iload_n 2, 1) := by decide +kernel
theorem dX12_pairLine_110 : decode cX12_pairLine 110 = .ok (.iconst 1, 1) := by decide +kernel
theorem dX12_pairLine_111 : decode cX12_pairLine 111 = .ok (.iadd, 1) := by decide +kernel
theorem dX12_pairLine_112 : decode cX12_pairLine 112 = .ok (.iload 4, 2) := by decide +kernel
theorem dX12_pairLine_114 : decode cX12_pairLine 114 = .ok (.iastore, 1) := by decide +kernel
theorem dX12_pairLine_115 : decode cX12_pairLine 115 = .ok (.aload_n 0, 1) := by decide +kernel
theorem dX12_pairLine_116 : decode cX12_pairLine 116 = .ok (.getfield 40, 3) := by decide +kernel
theorem dX12_pairLine_119 : decode cX12_pairLine 119 = .ok (.iload_n 2, 1) := by decide +kernel
theorem dX12_pairLine_120 : decode cX12_pairLine 120 = .ok (.iconst 2, 1) := by decide +kernel
theorem dX12_pairLine_121 : decode cX12_pairLine 121 = .ok (.iadd, 1) := by decide +kernel
theorem dX12_pairLine_122 : decode cX12_pairLine 122 = .ok (.iload 5, 2) := by decide +kernel
theorem dX12_pairLine_124 : decode cX12_pairLine 124 = .ok (.iastore, 1) := by decide +kernel
theorem dX12_pairLine_125 : decode cX12_pairLine 125 = .ok (.aload_n 0, 1) := by decide +kernel
theorem dX12_pairLine_126 : decode cX12_pairLine 126 = .ok (.getfield 43, 3) := by decide +kernel
theorem dX12_pairLine_129 : decode cX12_pairLine 129 = .ok (.iconst 2, 1) := by decide +kernel
theorem dX12_pairLine_130 : decode cX12_pairLine 130 = .ok (.bipush 64, 2) := by decide +kernel
theorem dX12_pairLine_132 : decode cX12_pairLine 132 = .ok (.iload_n 1, 1) := by decide +kernel
theorem dX12_pairLine_133 : decode cX12_pairLine 133 = .ok (.iadd, 1) := by decide +kernel
theorem dX12_pairLine_134 : decode cX12_pairLine 134 = .ok (.imul, 1) := by decide +kernel
theorem dX12_pairLine_135 : decode cX12_pairLine 135 = .ok (.lconst 0, 1) := by decide +kernel
theorem dX12_pairLine_136 : decode cX12_pairLine 136 = .ok (.lastore, 1) := by decide +kernel
theorem dX12_pairLine_137 : decode cX12_pairLine 137 = .ok (.aload_n 0, 1) := by decide +kernel
theorem dX12_pairLine_138 : decode cX12_pairLine 138 = .ok (.getfield 43, 3) := by decide +kernel
theorem dX12_pairLine_141 : decode cX12_pairLine 141 = .ok (.iconst 2, 1) := by decide +kernel
theorem dX12_pairLine_142 : decode cX12_pairLine 142 = .ok (.bipush 64, 2) := by decide +kernel
theorem dX12_pairLine_144 : decode cX12_pairLine 144 = .ok (.iload_n 1, 1) := by decide +kernel
theorem dX12_pairLine_145 : decode cX12_pairLine 145 = .ok (.iadd, 1) := by decide +kernel
theorem dX12_pairLine_146 : decode cX12_pairLine 146 = .ok (.imul, 1) := by decide +kernel
theorem dX12_pairLine_147 : decode cX12_pairLine 147 = .ok (.iconst 1, 1) := by decide +kernel
theorem dX12_pairLine_148 : decode cX12_pairLine 148 = .ok (.iadd, 1) := by decide +kernel
theorem dX12_pairLine_149 : decode cX12_pairLine 149 = .ok (.lconst 0, 1) := by decide +kernel
theorem dX12_pairLine_150 : decode cX12_pairLine 150 = .ok (.lastore, 1) := by decide +kernel
theorem dX12_pairLine_151 : decode cX12_pairLine 151 = .ok (.aload_n 0, 1) := by decide +kernel
theorem dX12_pairLine_152 : decode cX12_pairLine 152 = .ok (.getfield 34, 3) := by decide +kernel
theorem dX12_pairLine_155 : decode cX12_pairLine 155 = .ok (.bipush 24, 2) := by decide +kernel
theorem dX12_pairLine_157 : decode cX12_pairLine 157 = .ok (.dup2, 1) := by decide +kernel
theorem dX12_pairLine_158 : decode cX12_pairLine 158 = .ok (.iaload, 1) := by decide +kernel
theorem dX12_pairLine_159 : decode cX12_pairLine 159 = .ok (.iconst 1, 1) := by decide +kernel
theorem dX12_pairLine_160 : decode cX12_pairLine 160 = .ok (.iadd, 1) := by decide +kernel
theorem dX12_pairLine_161 : decode cX12_pairLine 161 = .ok (.iastore, 1) := by decide +kernel
theorem dX12_pairLine_162 : decode cX12_pairLine 162 = .ok (.return_, 1) := by decide +kernel
theorem dX12_lostLine_0 : decode cX12_lostLine 0 = .ok (.aload_n 0, 1) := by decide +kernel
theorem dX12_lostLine_1 : decode cX12_lostLine 1 = .ok (.invokevirtual 216, 3) := by decide +kernel
theorem dX12_lostLine_4 : decode cX12_lostLine 4 = .ok (.istore_n 1, 1) := by decide +kernel
theorem dX12_lostLine_5 : decode cX12_lostLine 5 = .ok (.aload_n 0, 1) := by decide +kernel
theorem dX12_lostLine_6 : decode cX12_lostLine 6 = .ok (.invokevirtual 206, 3) := by decide +kernel
theorem dX12_lostLine_9 : decode cX12_lostLine 9 = .ok (.istore_n 2, 1) := by decide +kernel
theorem dX12_lostLine_10 : decode cX12_lostLine 10 = .ok (.aload_n 0, 1) := by decide +kernel
theorem dX12_lostLine_11 : decode cX12_lostLine 11 = .ok (.getfield 159, 3) := by decide +kernel
theorem dX12_lostLine_14 : decode cX12_lostLine 14 = .ok (.ifCond .ne 42, 3) := by decide +kernel
theorem dX12_lostLine_17 : decode cX12_lostLine 17 = .ok (.aload_n 0, 1) := by decide +kernel
theorem dX12_lostLine_18 : decode cX12_lostLine 18 = .ok (.getfield 148, 3) := by decide +kernel
theorem dX12_lostLine_21 : decode cX12_lostLine 21 = .ok (.iconst 2, 1) := by decide +kernel
theorem dX12_lostLine_22 : decode cX12_lostLine 22 = .ok (.if_icmp .ne 34, 3) := by decide +kernel
theorem dX12_lostLine_25 : decode cX12_lostLine 25 = .ok (.aload_n 0, 1) := by decide +kernel
theorem dX12_lostLine_26 : decode cX12_lostLine 26 = .ok (.getfield 141, 3) := by decide +kernel
theorem dX12_lostLine_29 : decode cX12_lostLine 29 = .ok (.aload_n 0, 1) := by decide +kernel
theorem dX12_lostLine_30 : decode cX12_lostLine 30 = .ok (.iconst 3, 1) := by decide +kernel
theorem dX12_lostLine_31 : decode cX12_lostLine 31 = .ok (.invokevirtual 189, 3) := by decide +kernel
theorem dX12_lostLine_34 : decode cX12_lostLine 34 = .ok (.if_icmp .ge 22, 3) := by decide +kernel
theorem dX12_lostLine_37 : decode cX12_lostLine 37 = .ok (.aload_n 0, 1) := by decide +kernel
theorem dX12_lostLine_38 : decode cX12_lostLine 38 = .ok (.iconst 4, 1) := by decide +kernel
theorem dX12_lostLine_39 : decode cX12_lostLine 39 = .ok (.iload_n 2, 1) := by decide +kernel
theorem dX12_lostLine_40 : decode cX12_lostLine 40 = .ok (.aload_n 0, 1) := by decide +kernel
theorem dX12_lostLine_41 : decode cX12_lostLine 41 = .ok (.getfield 141, 3) := by decide +kernel
theorem dX12_lostLine_44 : decode cX12_lostLine 44 = .ok (.invokevirtual 210, 3) := by decide +kernel
theorem dX12_lostLine_47 : decode cX12_lostLine 47 = .ok (.iconst (-1), 1) := by decide +kernel
theorem dX12_lostLine_48 : decode cX12_lostLine 48 = .ok (.if_icmp .ne 8, 3) := by decide +kernel
theorem dX12_lostLine_51 : decode cX12_lostLine 51 = .ok (.aload_n 0, 1) := by decide +kernel
theorem dX12_lostLine_52 : decode cX12_lostLine 52 = .ok (.iconst 2, 1) := by decide +kernel
theorem dX12_lostLine_53 : decode cX12_lostLine 53 = .ok (.invokevirtual 175, 3) := by decide +kernel
theorem dX12_lostLine_56 : decode cX12_lostLine 56 = .ok (.aload_n 0, 1) := by decide +kernel
theorem dX12_lostLine_57 : decode cX12_lostLine 57 = .ok (.invokevirtual 206, 3) := by decide +kernel
theorem dX12_lostLine_60 : decode cX12_lostLine 60 = .ok (.istore_n 3, 1) := by decide +kernel
theorem dX12_lostLine_61 : decode cX12_lostLine 61 = .ok (.aload_n 0, 1) := by decide +kernel
theorem dX12_lostLine_62 : decode cX12_lostLine 62 = .ok (.getfield 159, 3) := by decide +kernel
theorem dX12_lostLine_65 : decode cX12_lostLine 65 = .ok (.ifCond .eq 4, 3) := by decide +kernel
theorem dX12_lostLine_68 : decode cX12_lostLine 68 = .ok (.return_, 1) := by decide +kernel
theorem dX12_lostLine_69 : decode cX12_lostLine 69 = .ok (.aload_n 0, 1) := by decide +kernel
theorem dX12_lostLine_70 : decode cX12_lostLine 70 = .ok (.iconst 4, 1) := by decide +kernel
theorem dX12_lostLine_71 : decode cX12_lostLine 71 = .ok (.iload_n 2, 1) := by decide +kernel
theorem dX12_lostLine_72 : decode cX12_lostLine 72 = .ok (.iload_n 3, 1) := by decide +kernel
theorem dX12_lostLine_73 : decode cX12_lostLine 73 = .ok (.invokevirtual 210, 3) := by decide +kernel
theorem dX12_lostLine_76 : decode cX12_lostLine 76 = .ok (.istore 4, 2) := by decide +kernel
theorem dX12_lostLine_78 : decode cX12_lostLine 78 = .ok (.aload_n 0, 1) := by decide +kernel
theorem dX12_lostLine_79 : decode cX12_lostLine 79 = .ok (.getfield 40, 3) := by decide +kernel
theorem dX12_lostLine_82 : decode cX12_lostLine 82 = .ok (.iconst 3, 1) := by decide +kernel
theorem dX12_lostLine_83 : decode cX12_lostLine 83 = .ok (.bipush 64, 2) := by decide +kernel
theorem dX12_lostLine_85 : decode cX12_lostLine 85 = .ok (.iload 4, 2) := by decide +kernel
theorem dX12_lostLine_87 : decode cX12_lostLine 87 = .ok (.iadd, 1) := by decide +kernel
theorem dX12_lostLine_88 : decode cX12_lostLine 88 = .ok (.imul, 1) := by decide +kernel
theorem dX12_lostLine_89 : decode cX12_lostLine 89 = .ok (.iaload, 1) := by decide +kernel
theorem dX12_lostLine_90 : decode cX12_lostLine 90 = .ok (.iload_n 2, 1) := by decide +kernel
theorem dX12_lostLine_91 : decode cX12_lostLine 91 = .ok (.if_icmp .ne 7, 3) := by decide +kernel
theorem dX12_lostLine_94 : decode cX12_lostLine 94 = .ok (.iconst 0, 1) := by decide +kernel
theorem dX12_lostLine_95 : decode cX12_lostLine 95 = .ok (.goto 4, 3) := by decide +kernel
theorem dX12_lostLine_98 : decode cX12_lostLine 98 = .ok (.iconst 1, 1) := by decide +kernel
theorem dX12_lostLine_99 : decode cX12_lostLine 99 = .ok (.istore 5, 2) := by decide +kernel
theorem dX12_lostLine_101 : decode cX12_lostLine 101 = .ok (.aload_n 0, 1) := by decide +kernel
theorem dX12_lostLine_102 : decode cX12_lostLine 102 = .ok (.getfield 43, 3) := by decide +kernel
theorem dX12_lostLine_105 : decode cX12_lostLine 105 = .ok (.iconst 2, 1) := by decide +kernel
theorem dX12_lostLine_106 : decode cX12_lostLine 106 = .ok (.bipush 64, 2) := by decide +kernel
theorem dX12_lostLine_108 : decode cX12_lostLine 108 = .ok (.iload 4, 2) := by decide +kernel
theorem dX12_lostLine_110 : decode cX12_lostLine 110 = .ok (.iadd, 1) := by decide +kernel
theorem dX12_lostLine_111 : decode cX12_lostLine 111 = .ok (.imul, 1) := by decide +kernel
theorem dX12_lostLine_112 : decode cX12_lostLine 112 = .ok (.iload 5, 2) := by decide +kernel
theorem dX12_lostLine_114 : decode cX12_lostLine 114 = .ok (.iadd, 1) := by decide +kernel
theorem dX12_lostLine_115 : decode cX12_lostLine 115 = .ok (.dup2, 1) := by decide +kernel
theorem dX12_lostLine_116 : decode cX12_lostLine 116 = .ok (.laload, 1) := by decide +kernel
theorem dX12_lostLine_117 : decode cX12_lostLine 117 = .ok (.lconst 1, 1) := by decide +kernel
theorem dX12_lostLine_118 : decode cX12_lostLine 118 = .ok (.iload_n 1, 1) := by decide +kernel
theorem dX12_lostLine_119 : decode cX12_lostLine 119 = .ok (.lshl, 1) := by decide +kernel
theorem dX12_lostLine_120 : decode cX12_lostLine 120 = .ok (.lor, 1) := by decide +kernel
theorem dX12_lostLine_121 : decode cX12_lostLine 121 = .ok (.lastore, 1) := by decide +kernel
theorem dX12_lostLine_122 : decode cX12_lostLine 122 = .ok (.return_, 1) := by decide +kernel
