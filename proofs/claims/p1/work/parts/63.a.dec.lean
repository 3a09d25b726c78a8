theorem dX12_isByte_0 : decode cX12_isByte 0 = .ok (.iload_n 1, 1) := by decide +kernel
theorem dX12_isByte_1 : decode cX12_isByte 1 = .ok (.aload_n 0, 1) := by decide +kernel
theorem dX12_isByte_2 : decode cX12_isByte 2 = .ok (.getfield 124, 3) := by decide +kernel
theorem dX12_isByte_5 : decode cX12_isByte 5 = .ok (.if_icmp .ge 27, 3) := by decide +kernel
theorem dX12_isByte_32 : decode cX12_isByte 32 = .ok (.iconst 0, 1) := by decide +kernel
theorem dX12_isByte_33 : decode cX12_isByte 33 = .ok (.ireturn, 1) := by decide +kernel
theorem dX12_next_0 : decode cX12_next 0 = .ok (.aload_n 0, 1) := by decide +kernel
theorem dX12_next_1 : decode cX12_next 1 = .ok (.aload_n 0, 1) := by decide +kernel
theorem dX12_next_2 : decode cX12_next 2 = .ok (.getfield 131, 3) := by decide +kernel
theorem dX12_next_5 : decode cX12_next 5 = .ok (.bipush 32, 2) := by decide +kernel
theorem dX12_next_7 : decode cX12_next 7 = .ok (.bipush 32, 2) := by decide +kernel
theorem dX12_next_9 : decode cX12_next 9 = .ok (.invokevirtual 134, 3) := by decide +kernel
theorem dX12_next_12 : decode cX12_next 12 = .ok (.ifCond .ne 18, 3) := by decide +kernel
theorem dX12_next_15 : decode cX12_next 15 = .ok (.aload_n 0, 1) := by decide +kernel
theorem dX12_next_16 : decode cX12_next 16 = .ok (.aload_n 0, 1) := by decide +kernel
theorem dX12_next_17 : decode cX12_next 17 = .ok (.getfield 131, 3) := by decide +kernel
theorem dX12_next_20 : decode cX12_next 20 = .ok (.bipush 10, 2) := by decide +kernel
theorem dX12_next_22 : decode cX12_next 22 = .ok (.bipush 10, 2) := by decide +kernel
theorem dX12_next_24 : decode cX12_next 24 = .ok (.invokevirtual 134, 3) := by decide +kernel
theorem dX12_next_27 : decode cX12_next 27 = .ok (.ifCond .eq 16, 3) := by decide +kernel
theorem dX12_next_43 : decode cX12_next 43 = .ok (.aload_n 0, 1) := by decide +kernel
theorem dX12_next_44 : decode cX12_next 44 = .ok (.aload_n 0, 1) := by decide +kernel
theorem dX12_next_45 : decode cX12_next 45 = .ok (.getfield 131, 3) := by decide +kernel
theorem dX12_next_48 : decode cX12_next 48 = .ok (.putfield 138, 3) := by decide +kernel
theorem dX12_next_51 : decode cX12_next 51 = .ok (.aload_n 0, 1) := by decide +kernel
theorem dX12_next_52 : decode cX12_next 52 = .ok (.iconst 0, 1) := by decide +kernel
theorem dX12_next_53 : decode cX12_next 53 = .ok (.putfield 141, 3) := by decide +kernel
theorem dX12_next_56 : decode cX12_next 56 = .ok (.aload_n 0, 1) := by decide +kernel
theorem dX12_next_57 : decode cX12_next 57 = .ok (.lconst 0, 1) := by decide +kernel
theorem dX12_next_58 : decode cX12_next 58 = .ok (.putfield 144, 3) := by decide +kernel
theorem dX12_next_61 : decode cX12_next 61 = .ok (.aload_n 0, 1) := by decide +kernel
theorem dX12_next_62 : decode cX12_next 62 = .ok (.getfield 131, 3) := by decide +kernel
theorem dX12_next_65 : decode cX12_next 65 = .ok (.aload_n 0, 1) := by decide +kernel
theorem dX12_next_66 : decode cX12_next 66 = .ok (.getfield 124, 3) := by decide +kernel
theorem dX12_next_69 : decode cX12_next 69 = .ok (.if_icmp .ne 11, 3) := by decide +kernel
theorem dX12_next_72 : decode cX12_next 72 = .ok (.aload_n 0, 1) := by decide +kernel
theorem dX12_next_73 : decode cX12_next 73 = .ok (.iconst 0, 1) := by decide +kernel
theorem dX12_next_74 : decode cX12_next 74 = .ok (.putfield 148, 3) := by decide +kernel
theorem dX12_next_77 : decode cX12_next 77 = .ok (.goto 230, 3) := by decide +kernel
theorem dX12_next_307 : decode cX12_next 307 = .ok (.return_, 1) := by decide +kernel
theorem dX12_isGood_0 : decode cX12_isGood 0 = .ok (.aload_n 0, 1) := by decide +kernel
theorem dX12_isGood_1 : decode cX12_isGood 1 = .ok (.getfield 159, 3) := by decide +kernel
theorem dX12_isGood_4 : decode cX12_isGood 4 = .ok (.ifCond .ne 7, 3) := by decide +kernel
theorem dX12_isGood_7 : decode cX12_isGood 7 = .ok (.iconst 1, 1) := by decide +kernel
theorem dX12_isGood_8 : decode cX12_isGood 8 = .ok (.goto 4, 3) := by decide +kernel
theorem dX12_isGood_12 : decode cX12_isGood 12 = .ok (.ireturn, 1) := by decide +kernel
theorem dX12_begins_0 : decode cX12_begins 0 = .ok (.aload_n 0, 1) := by decide +kernel
theorem dX12_begins_1 : decode cX12_begins 1 = .ok (.iconst 0, 1) := by decide +kernel
theorem dX12_begins_2 : decode cX12_begins 2 = .ok (.putfield 159, 3) := by decide +kernel
theorem dX12_begins_5 : decode cX12_begins 5 = .ok (.aload_n 0, 1) := by decide +kernel
theorem dX12_begins_6 : decode cX12_begins 6 = .ok (.iconst (-1), 1) := by decide +kernel
theorem dX12_begins_7 : decode cX12_begins 7 = .ok (.putfield 162, 3) := by decide +kernel
theorem dX12_begins_10 : decode cX12_begins 10 = .ok (.aload_n 0, 1) := by decide +kernel
theorem dX12_begins_11 : decode cX12_begins 11 = .ok (.iconst 0, 1) := by decide +kernel
theorem dX12_begins_12 : decode cX12_begins 12 = .ok (.putfield 131, 3) := by decide +kernel
theorem dX12_begins_15 : decode cX12_begins 15 = .ok (.aload_n 0, 1) := by decide +kernel
theorem dX12_begins_16 : decode cX12_begins 16 = .ok (.invokevirtual 169, 3) := by decide +kernel
theorem dX12_begins_19 : decode cX12_begins 19 = .ok (.return_, 1) := by decide +kernel
theorem dX12_isOver_0 : decode cX12_isOver 0 = .ok (.aload_n 0, 1) := by decide +kernel
theorem dX12_isOver_1 : decode cX12_isOver 1 = .ok (.iconst 0, 1) := by decide +kernel
theorem dX12_isOver_2 : decode cX12_isOver 2 = .ok (.putfield 124, 3) := by decide +kernel
theorem dX12_isOver_5 : decode cX12_isOver 5 = .ok (.aload_n 0, 1) := by decide +kernel
theorem dX12_isOver_6 : decode cX12_isOver 6 = .ok (.aload_n 0, 1) := by decide +kernel
theorem dX12_isOver_7 : decode cX12_isOver 7 = .ok (.getfield 159, 3) := by decide +kernel
theorem dX12_isOver_10 : decode cX12_isOver 10 = .ok (.putfield 186, 3) := by decide +kernel
theorem dX12_isOver_13 : decode cX12_isOver 13 = .ok (.aload_n 0, 1) := by decide +kernel
theorem dX12_isOver_14 : decode cX12_isOver 14 = .ok (.aload_n 0, 1) := by decide +kernel
theorem dX12_isOver_15 : decode cX12_isOver 15 = .ok (.getfield 159, 3) := by decide +kernel
theorem dX12_isOver_18 : decode cX12_isOver 18 = .ok (.ifCond .ne 7, 3) := by decide +kernel
theorem dX12_isOver_21 : decode cX12_isOver 21 = .ok (.iconst (-1), 1) := by decide +kernel
theorem dX12_isOver_22 : decode cX12_isOver 22 = .ok (.goto 7, 3) := by decide +kernel
theorem dX12_isOver_29 : decode cX12_isOver 29 = .ok (.putfield 27, 3) := by decide +kernel
theorem dX12_isOver_32 : decode cX12_isOver 32 = .ok (.return_, 1) := by decide +kernel
theorem dX12_clears_0 : decode cX12_clears 0 = .ok (.aload_n 0, 1) := by decide +kernel
theorem dX12_clears_1 : decode cX12_clears 1 = .ok (.getfield 31, 3) := by decide +kernel
theorem dX12_clears_4 : decode cX12_clears 4 = .ok (.iconst 4, 1) := by decide +kernel
theorem dX12_clears_5 : decode cX12_clears 5 = .ok (.iconst 0, 1) := by decide +kernel
theorem dX12_clears_6 : decode cX12_clears 6 = .ok (.iastore, 1) := by decide +kernel
theorem dX12_clears_7 : decode cX12_clears 7 = .ok (.aload_n 0, 1) := by decide +kernel
theorem dX12_clears_8 : decode cX12_clears 8 = .ok (.getfield 46, 3) := by decide +kernel
theorem dX12_clears_11 : decode cX12_clears 11 = .ok (.iconst 4, 1) := by decide +kernel
theorem dX12_clears_12 : decode cX12_clears 12 = .ok (.lconst 0, 1) := by decide +kernel
theorem dX12_clears_13 : decode cX12_clears 13 = .ok (.lastore, 1) := by decide +kernel
theorem dX12_clears_14 : decode cX12_clears 14 = .ok (.iconst 0, 1) := by decide +kernel
theorem dX12_clears_15 : decode cX12_clears 15 = .ok (.istore_n 1, 1) := by decide +kernel
theorem dX12_clears_16 : decode cX12_clears 16 = .ok (.iload_n 1, 1) := by decide +kernel
theorem dX12_clears_17 : decode cX12_clears 17 = .ok (.iconst 5, 1) := by decide +kernel
theorem dX12_clears_18 : decode cX12_clears 18 = .ok (.if_icmp .ge 19, 3) := by decide +kernel
theorem dX12_clears_21 : decode cX12_clears 21 = .ok (.aload_n 0, 1) := by decide +kernel
theorem dX12_clears_22 : decode cX12_clears 22 = .ok (.getfield 34, 3) := by decide +kernel
theorem dX12_clears_25 : decode cX12_clears 25 = .ok (.bipush 20, 2) := by decide +kernel
theorem dX12_clears_27 : decode cX12_clears 27 = .ok (.iload_n 1, 1) := by decide +kernel
theorem dX12_clears_28 : decode cX12_clears 28 = .ok (.iadd, 1) := by decide +kernel
theorem dX12_clears_29 : decode cX12_clears 29 = .ok (.iconst 0, 1) := by decide +kernel
theorem dX12_clears_30 : decode cX12_clears 30 = .ok (.iastore, 1) := by decide +kernel
theorem dX12_clears_31 : decode cX12_clears 31 = .ok (.iinc 1 1, 3) := by decide +kernel
theorem dX12_clears_34 : decode cX12_clears 34 = .ok (.goto (-18), 3) := by decide +kernel
theorem dX12_clears_37 : decode cX12_clears 37 = .ok (.return_, 1) := by decide +kernel
theorem dX12_land_0 : decode cX12_land 0 = .ok (.aload_n 0, 1) := by decide +kernel
theorem dX12_land_1 : decode cX12_land 1 = .ok (.iconst 0, 1) := by decide +kernel
theorem dX12_land_2 : decode cX12_land 2 = .ok (.putfield 107, 3) := by decide +kernel
theorem dX12_land_5 : decode cX12_land 5 = .ok (.aload_n 0, 1) := by decide +kernel
theorem dX12_land_6 : decode cX12_land 6 = .ok (.invokevirtual 240, 3) := by decide +kernel
theorem dX12_land_9 : decode cX12_land 9 = .ok (.aload_n 0, 1) := by decide +kernel
theorem dX12_land_10 : decode cX12_land 10 = .ok (.invokevirtual 243, 3) := by decide +kernel
theorem dX12_land_13 : decode cX12_land 13 = .ok (.aload_n 0, 1) := by decide +kernel
theorem dX12_land_14 : decode cX12_land 14 = .ok (.invokevirtual 198, 3) := by decide +kernel
theorem dX12_land_17 : decode cX12_land 17 = .ok (.ifCond .eq 108, 3) := by decide +kernel
theorem dX12_land_20 : decode cX12_land 20 = .ok (.aload_n 0, 1) := by decide +kernel
theorem dX12_land_21 : decode cX12_land 21 = .ok (.getfield 148, 3) := by decide +kernel
theorem dX12_land_24 : decode cX12_land 24 = .ok (.ifCond .eq 101, 3) := by decide +kernel
theorem dX12_land_125 : decode cX12_land 125 = .ok (.aload_n 0, 1) := by decide +kernel
theorem dX12_land_126 : decode cX12_land 126 = .ok (.invokevirtual 260, 3) := by decide +kernel
theorem dX12_land_129 : decode cX12_land 129 = .ok (.aload_n 0, 1) := by decide +kernel
theorem dX12_land_130 : decode cX12_land 130 = .ok (.getfield 159, 3) := by decide +kernel
theorem dX12_land_133 : decode cX12_land 133 = .ok (.ifCond .eq 6, 3) := by decide +kernel
theorem dX12_land_139 : decode cX12_land 139 = .ok (.aload_n 0, 1) := by decide +kernel
theorem dX12_land_140 : decode cX12_land 140 = .ok (.iconst 4, 1) := by decide +kernel
theorem dX12_land_141 : decode cX12_land 141 = .ok (.iconst 0, 1) := by decide +kernel
theorem dX12_land_142 : decode cX12_land 142 = .ok (.invokevirtual 263, 3) := by decide +kernel
theorem dX12_land_145 : decode cX12_land 145 = .ok (.aload_n 0, 1) := by decide +kernel
theorem dX12_land_146 : decode cX12_land 146 = .ok (.getfield 31, 3) := by decide +kernel
theorem dX12_land_149 : decode cX12_land 149 = .ok (.iconst 0, 1) := by decide +kernel
theorem dX12_land_150 : decode cX12_land 150 = .ok (.iaload, 1) := by decide +kernel
theorem dX12_land_151 : decode cX12_land 151 = .ok (.ireturn, 1) := by decide +kernel
theorem dX12_copyRow_0 : decode cX12_copyRow 0 = .ok (.iconst 0, 1) := by decide +kernel
theorem dX12_copyRow_1 : decode cX12_copyRow 1 = .ok (.istore 4, 2) := by decide +kernel
theorem dX12_copyRow_3 : decode cX12_copyRow 3 = .ok (.iload 4, 2) := by decide +kernel
theorem dX12_copyRow_5 : decode cX12_copyRow 5 = .ok (.iload_n 1, 1) := by decide +kernel
theorem dX12_copyRow_6 : decode cX12_copyRow 6 = .ok (.if_icmp .ge 25, 3) := by decide +kernel
theorem dX12_copyRow_9 : decode cX12_copyRow 9 = .ok (.aload_n 0, 1) := by decide +kernel
theorem dX12_copyRow_10 : decode cX12_copyRow 10 = .ok (.iload_n 1, 1) := by decide +kernel
theorem dX12_copyRow_11 : decode cX12_copyRow 11 = .ok (.iload_n 3, 1) := by decide +kernel
theorem dX12_copyRow_12 : decode cX12_copyRow 12 = .ok (.imul, 1) := by decide +kernel
theorem dX12_copyRow_13 : decode cX12_copyRow 13 = .ok (.iload 4, 2) := by decide +kernel
theorem dX12_copyRow_15 : decode cX12_copyRow 15 = .ok (.iadd, 1) := by decide +kernel
theorem dX12_copyRow_16 : decode cX12_copyRow 16 = .ok (.aload_n 0, 1) := by decide +kernel
theorem dX12_copyRow_17 : decode cX12_copyRow 17 = .ok (.iload_n 1, 1) := by decide +kernel
theorem dX12_copyRow_18 : decode cX12_copyRow 18 = .ok (.iload_n 2, 1) := by decide +kernel
theorem dX12_copyRow_19 : decode cX12_copyRow 19 = .ok (.imul, 1) := by decide +kernel
theorem dX12_copyRow_20 : decode cX12_copyRow 20 = .ok (.iload 4, 2) := by decide +kernel
theorem dX12_copyRow_22 : decode cX12_copyRow 22 = .ok (.iadd, 1) := by decide +kernel
theorem dX12_copyRow_23 : decode cX12_copyRow 23 = .ok (.iaload, 1) := by decide +kernel
theorem dX12_copyRow_24 : decode cX12_copyRow 24 = .ok (.iastore, 1) := by decide +kernel
theorem dX12_copyRow_25 : decode cX12_copyRow 25 = .ok (.iinc 4 1, 3) := by decide +kernel
theorem dX12_copyRow_28 : decode cX12_copyRow 28 = .ok (.goto (-25), 3) := by decide +kernel
theorem dX12_copyRow_31 : decode cX12_copyRow 31 = .ok (.return_, 1) := by decide +kernel
theorem dX12_copyLand_0 : decode cX12_copyLand 0 = .ok (.aload_n 0, 1) := by decide +kernel
theorem dX12_copyLand_1 : decode cX12_copyLand 1 = .ok (.getfield 31, 3) := by decide +kernel
theorem dX12_copyLand_4 : decode cX12_copyLand 4 = .ok (.iconst 1, 1) := by decide +kernel
theorem dX12_copyLand_5 : decode cX12_copyLand 5 = .ok (.iload_n 1, 1) := by decide +kernel
theorem dX12_copyLand_6 : decode cX12_copyLand 6 = .ok (.iload_n 2, 1) := by decide +kernel
theorem dX12_copyLand_7 : decode cX12_copyLand 7 = .ok (.invokestatic 267, 3) := by decide +kernel
theorem dX12_copyLand_10 : decode cX12_copyLand 10 = .ok (.aload_n 0, 1) := by decide +kernel
theorem dX12_copyLand_11 : decode cX12_copyLand 11 = .ok (.getfield 34, 3) := by decide +kernel
theorem dX12_copyLand_14 : decode cX12_copyLand 14 = .ok (.iconst 5, 1) := by decide +kernel
theorem dX12_copyLand_15 : decode cX12_copyLand 15 = .ok (.iload_n 1, 1) := by decide +kernel
theorem dX12_copyLand_16 : decode cX12_copyLand 16 = .ok (.iload_n 2, 1) := by decide +kernel
theorem dX12_copyLand_17 : decode cX12_copyLand 17 = .ok (.invokestatic 267, 3) := by decide +kernel
theorem dX12_copyLand_20 : decode cX12_copyLand 20 = .ok (.aload_n 0, 1) := by decide +kernel
theorem dX12_copyLand_21 : decode cX12_copyLand 21 = .ok (.getfield 37, 3) := by decide +kernel
theorem dX12_copyLand_24 : decode cX12_copyLand 24 = .ok (.bipush 50, 2) := by decide +kernel
theorem dX12_copyLand_26 : decode cX12_copyLand 26 = .ok (.iload_n 1, 1) := by decide +kernel
theorem dX12_copyLand_27 : decode cX12_copyLand 27 = .ok (.iload_n 2, 1) := by decide +kernel
theorem dX12_copyLand_28 : decode cX12_copyLand 28 = .ok (.invokestatic 267, 3) := by decide +kernel
theorem dX12_copyLand_31 : decode cX12_copyLand 31 = .ok (.aload_n 0, 1) := by decide +kernel
theorem dX12_copyLand_32 : decode cX12_copyLand 32 = .ok (.getfield 40, 3) := by decide +kernel
theorem dX12_copyLand_35 : decode cX12_copyLand 35 = .ok (.bipush 48, 2) := by decide +kernel
theorem dX12_copyLand_37 : decode cX12_copyLand 37 = .ok (.iload_n 1, 1) := by decide +kernel
theorem dX12_copyLand_38 : decode cX12_copyLand 38 = .ok (.iload_n 2, 1) := by decide +kernel
theorem dX12_copyLand_39 : decode cX12_copyLand 39 = .ok (.invokestatic 267, 3) := by decide +kernel
theorem dX12_copyLand_42 : decode cX12_copyLand 42 = .ok (.iconst 0, 1) := by decide +kernel
theorem dX12_copyLand_43 : decode cX12_copyLand 43 = .ok (.istore_n 3, 1) := by decide +kernel
theorem dX12_copyLand_44 : decode cX12_copyLand 44 = .ok (.iload_n 3, 1) := by decide +kernel
theorem dX12_copyLand_45 : decode cX12_copyLand 45 = .ok (.bipush 32, 2) := by decide +kernel
theorem dX12_copyLand_47 : decode cX12_copyLand 47 = .ok (.if_icmp .ge 31, 3) := by decide +kernel
theorem dX12_copyLand_50 : decode cX12_copyLand 50 = .ok (.aload_n 0, 1) := by decide +kernel
theorem dX12_copyLand_51 : decode cX12_copyLand 51 = .ok (.getfield 43, 3) := by decide +kernel
theorem dX12_copyLand_54 : decode cX12_copyLand 54 = .ok (.bipush 32, 2) := by decide +kernel
theorem dX12_copyLand_56 : decode cX12_copyLand 56 = .ok (.iload_n 2, 1) := by decide +kernel
theorem dX12_copyLand_57 : decode cX12_copyLand 57 = .ok (.imul, 1) := by decide +kernel
theorem dX12_copyLand_58 : decode cX12_copyLand 58 = .ok (.iload_n 3, 1) := by decide +kernel
theorem dX12_copyLand_59 : decode cX12_copyLand 59 = .ok (.iadd, 1) := by decide +kernel
theorem dX12_copyLand_60 : decode cX12_copyLand 60 = .ok (.aload_n 0, 1) := by decide +kernel
theorem dX12_copyLand_61 : decode cX12_copyLand 61 = .ok (.getfield 43, 3) := by decide +kernel
theorem dX12_copyLand_64 : decode cX12_copyLand 64 = .ok (.bipush 32, 2) := by decide +kernel
theorem dX12_copyLand_66 : decode cX12_copyLand 66 = .ok (.iload_n 1, 1) := by decide +kernel
theorem dX12_copyLand_67 : decode cX12_copyLand 67 = .ok (.imul, 1) := by decide +kernel
theorem dX12_copyLand_68 : decode cX12_copyLand 68 = .ok (.iload_n 3, 1) := by decide +kernel
theorem dX12_copyLand_69 : decode cX12_copyLand 69 = .ok (.iadd, 1) := by decide +kernel
theorem dX12_copyLand_70 : decode cX12_copyLand 70 = .ok (.laload, 1) := by decide +kernel
theorem dX12_copyLand_71 : decode cX12_copyLand 71 = .ok (.lastore, 1) := by decide +kernel
theorem dX12_copyLand_72 : decode cX12_copyLand 72 = .ok (.iinc 3 1, 3) := by decide +kernel
theorem dX12_copyLand_75 : decode cX12_copyLand 75 = .ok (.goto (-31), 3) := by decide +kernel
theorem dX12_copyLand_78 : decode cX12_copyLand 78 = .ok (.aload_n 0, 1) := by decide +kernel
theorem dX12_copyLand_79 : decode cX12_copyLand 79 = .ok (.getfield 46, 3) := by decide +kernel
theorem dX12_copyLand_82 : decode cX12_copyLand 82 = .ok (.iload_n 2, 1) := by decide +kernel
theorem dX12_copyLand_83 : decode cX12_copyLand 83 = .ok (.aload_n 0, 1) := by decide +kernel
theorem dX12_copyLand_84 : decode cX12_copyLand 84 = .ok (.getfield 46, 3) := by decide +kernel
theorem dX12_copyLand_87 : decode cX12_copyLand 87 = .ok (.iload_n 1, 1) := by decide +kernel
theorem dX12_copyLand_88 : decode cX12_copyLand 88 = .ok (.laload, 1) := by decide +kernel
theorem dX12_copyLand_89 : decode cX12_copyLand 89 = .ok (.lastore, 1) := by decide +kernel
theorem dX12_copyLand_90 : decode cX12_copyLand 90 = .ok (.return_, 1) := by decide +kernel
theorem dX12_keep_0 : decode cX12_keep 0 = .ok (.aload_n 0, 1) := by decide +kernel
theorem dX12_keep_1 : decode cX12_keep 1 = .ok (.iconst 0, 1) := by decide +kernel
theorem dX12_keep_2 : decode cX12_keep 2 = .ok (.putfield 107, 3) := by decide +kernel
theorem dX12_keep_5 : decode cX12_keep 5 = .ok (.iload_n 1, 1) := by decide +kernel
theorem dX12_keep_6 : decode cX12_keep 6 = .ok (.i2l, 1) := by decide +kernel
theorem dX12_keep_7 : decode cX12_keep 7 = .ok (.lconst 0, 1) := by decide +kernel
theorem dX12_keep_8 : decode cX12_keep 8 = .ok (.ldc2_w 284, 3) := by decide +kernel
theorem dX12_keep_11 : decode cX12_keep 11 = .ok (.invokestatic 112, 3) := by decide +kernel
theorem dX12_keep_14 : decode cX12_keep 14 = .ok (.ifCond .ne 6, 3) := by decide +kernel
theorem dX12_keep_17 : decode cX12_keep 17 = .ok (.bipush (-2), 2) := by decide +kernel
theorem dX12_keep_19 : decode cX12_keep 19 = .ok (.ireturn, 1) := by decide +kernel
theorem dX12_keep_20 : decode cX12_keep 20 = .ok (.aload_n 0, 1) := by decide +kernel
theorem dX12_keep_21 : decode cX12_keep 21 = .ok (.iconst 0, 1) := by decide +kernel
theorem dX12_keep_22 : decode cX12_keep 22 = .ok (.iconst 1, 1) := by decide +kernel
theorem dX12_keep_23 : decode cX12_keep 23 = .ok (.iload_n 1, 1) := by decide +kernel
theorem dX12_keep_24 : decode cX12_keep 24 = .ok (.iadd, 1) := by decide +kernel
theorem dX12_keep_25 : decode cX12_keep 25 = .ok (.invokevirtual 263, 3) := by decide +kernel
theorem dX12_keep_28 : decode cX12_keep 28 = .ok (.aload_n 0, 1) := by decide +kernel
theorem dX12_keep_29 : decode cX12_keep 29 = .ok (.getfield 49, 3) := by decide +kernel
theorem dX12_keep_32 : decode cX12_keep 32 = .ok (.iload_n 1, 1) := by decide +kernel
theorem dX12_keep_33 : decode cX12_keep 33 = .ok (.iconst 1, 1) := by decide +kernel
theorem dX12_keep_34 : decode cX12_keep 34 = .ok (.bastore, 1) := by decide +kernel
theorem dX12_keep_35 : decode cX12_keep 35 = .ok (.iconst 0, 1) := by decide +kernel
theorem dX12_keep_36 : decode cX12_keep 36 = .ok (.ireturn, 1) := by decide +kernel
