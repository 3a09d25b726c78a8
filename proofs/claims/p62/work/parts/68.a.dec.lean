theorem dX12_clears_0 : decode cX12_clears 0 = .ok (.aload_n 0, 1) := by decide +kernel
theorem dX12_clears_1 : decode cX12_clears 1 = .ok (.getfield 31, 3) := by decide +kernel
theorem dX12_clears_4 : decode cX12_clears 4 = .ok (.iconst 4, 1) := by decide +kernel
theorem dX12_clears_5 : decode cX12_clears 5 = .ok (.iconst 0, 1) := by decide +kernel
theorem dX12_clears_6 : decode cX12_clears 6 = .ok (.iastore, 1) := by decide +kernel
theorem dX12_clears_7 : decode cX12_clears 7 = .ok (.aload_n 0, 1) := by decide +kernel
theorem dX12_clears_8 : decode cX12_clears 8 = .ok (.getfield 46, 3) := by decide +kernel
theorem dX12_clears_11 : decode cX12_clears 11 = .ok (.iconst 4, 1) := by decide +kernel
theorem dX12_clears_12 : decode cX12_clears 12 = .ok (.lconst 0, 1) := by decide +kernel
theorem dX12_clears_13 : decode cX12_clears 13 = .ok (.lastore, 1) := by decide +kernel
theorem dX12_clears_14 : decode cX12_clears 14 = .ok (.iconst 0, 1) := by decide +kernel
theorem dX12_clears_15 : decode cX12_clears 15 = .ok (.istore_n 1, 1) := by decide +kernel
theorem dX12_clears_16 : decode cX12_clears 16 = .ok (.iload_n 1, 1) := by decide +kernel
theorem dX12_clears_17 : decode cX12_clears 17 = .ok (.iconst 5, 1) := by decide +kernel
theorem dX12_clears_18 : decode cX12_clears 18 = .ok (.if_icmp .ge 19, 3) := by decide +kernel
theorem dX12_clears_21 : decode cX12_clears 21 = .ok (.aload_n 0, 1) := by decide +kernel
theorem dX12_clears_22 : decode cX12_clears 22 = .ok (.getfield 34, 3) := by decide +kernel
theorem dX12_clears_25 : decode cX12_clears 25 = .ok (.bipush 20, 2) := by decide +kernel
theorem dX12_clears_27 : decode cX12_clears 27 = .ok (.iload_n 1, 1) := by decide +kernel
theorem dX12_clears_28 : decode cX12_clears 28 = .ok (.iadd, 1) := by decide +kernel
theorem dX12_clears_29 : decode cX12_clears 29 = .ok (.iconst 0, 1) := by decide +kernel
theorem dX12_clears_30 : decode cX12_clears 30 = .ok (.iastore, 1) := by decide +kernel
theorem dX12_clears_31 : decode cX12_clears 31 = .ok (.iinc 1 1, 3) := by decide +kernel
theorem dX12_clears_34 : decode cX12_clears 34 = .ok (.goto (-18), 3) := by decide +kernel
theorem dX12_clears_37 : decode cX12_clears 37 = .ok (.return_, 1) := by decide +kernel
theorem dX12_copyRow_0 : decode cX12_copyRow 0 = .ok (.iconst 0, 1) := by decide +kernel
theorem dX12_copyRow_1 : decode cX12_copyRow 1 = .ok (.istore 4, 2) := by decide +kernel
theorem dX12_copyRow_3 : decode cX12_copyRow 3 = .ok (.iload 4, 2) := by decide +kernel
theorem dX12_copyRow_5 : decode cX12_copyRow 5 = .ok (.iload_n 1, 1) := by decide +kernel
theorem dX12_copyRow_6 : decode cX12_copyRow 6 = .ok (.if_icmp .ge 25, 3) := by decide +kernel
theorem dX12_copyRow_9 : decode cX12_copyRow 9 = .ok (.aload_n 0, 1) := by decide +kernel
theorem dX12_copyRow_10 : decode cX12_copyRow 10 = .ok (.iload_n 1, 1) := by decide +kernel
theorem dX12_copyRow_11 : decode cX12_copyRow 11 = .ok (.iload_n 3, 1) := by decide +kernel
theorem dX12_copyRow_12 : decode cX12_copyRow 12 = .ok (.imul, 1) := by decide +kernel
theorem dX12_copyRow_13 : decode cX12_copyRow 13 = .ok (.iload 4, 2) := by decide +kernel
theorem dX12_copyRow_15 : decode cX12_copyRow 15 = .ok (.iadd, 1) := by decide +kernel
theorem dX12_copyRow_16 : decode cX12_copyRow 16 = .ok (.aload_n 0, 1) := by decide +kernel
theorem dX12_copyRow_17 : decode cX12_copyRow 17 = .ok (.iload_n 1, 1) := by decide +kernel
theorem dX12_copyRow_18 : decode cX12_copyRow 18 = .ok (.iload_n 2, 1) := by decide +kernel
theorem dX12_copyRow_19 : decode cX12_copyRow 19 = .ok (.imul, 1) := by decide +kernel
theorem dX12_copyRow_20 : decode cX12_copyRow 20 = .ok (.iload 4, 2) := by decide +kernel
theorem dX12_copyRow_22 : decode cX12_copyRow 22 = .ok (.iadd, 1) := by decide +kernel
theorem dX12_copyRow_23 : decode cX12_copyRow 23 = .ok (.iaload, 1) := by decide +kernel
theorem dX12_copyRow_24 : decode cX12_copyRow 24 = .ok (.iastore, 1) := by decide +kernel
theorem dX12_copyRow_25 : decode cX12_copyRow 25 = .ok (.iinc 4 1, 3) := by decide +kernel
theorem dX12_copyRow_28 : decode cX12_copyRow 28 = .ok (.goto (-25), 3) := by decide +kernel
theorem dX12_copyRow_31 : decode cX12_copyRow 31 = .ok (.return_, 1) := by decide +kernel
theorem dX12_copyLand_0 : decode cX12_copyLand 0 = .ok (.aload_n 0, 1) := by decide +kernel
theorem dX12_copyLand_1 : decode cX12_copyLand 1 = .ok (.getfield 31, 3) := by decide +kernel
theorem dX12_copyLand_4 : decode cX12_copyLand 4 = .ok (.iconst 1, 1) := by decide +kernel
theorem dX12_copyLand_5 : decode cX12_copyLand 5 = .ok (.iload_n 1, 1) := by decide +kernel
theorem dX12_copyLand_6 : decode cX12_copyLand 6 = .ok (.iload_n 2, 1) := by decide +kernel
theorem dX12_copyLand_7 : decode cX12_copyLand 7 = .ok (.invokestatic 267, 3) := by decide +kernel
theorem dX12_copyLand_10 : decode cX12_copyLand 10 = .ok (.aload_n 0, 1) := by decide +kernel
theorem dX12_copyLand_11 : decode cX12_copyLand 11 = .ok (.getfield 34, 3) := by decide +kernel
theorem dX12_copyLand_14 : decode cX12_copyLand 14 = .ok (.iconst 5, 1) := by decide +kernel
theorem dX12_copyLand_15 : decode cX12_copyLand 15 = .ok (.iload_n 1, 1) := by decide +kernel
theorem dX12_copyLand_16 : decode cX12_copyLand 16 = .ok (.iload_n 2, 1) := by decide +kernel
theorem dX12_copyLand_17 : decode cX12_copyLand 17 = .ok (.invokestatic 267, 3) := by decide +kernel
theorem dX12_copyLand_20 : decode cX12_copyLand 20 = .ok (.aload_n 0, 1) := by decide +kernel
theorem dX12_copyLand_21 : decode cX12_copyLand 21 = .ok (.getfield 37, 3) := by decide +kernel
theorem dX12_copyLand_24 : decode cX12_copyLand 24 = .ok (.bipush 50, 2) := by decide +kernel
theorem dX12_copyLand_26 : decode cX12_copyLand 26 = .ok (.iload_n 1, 1) := by decide +kernel
theorem dX12_copyLand_27 : decode cX12_copyLand 27 = .ok (.iload_n 2, 1) := by decide +kernel
theorem dX12_copyLand_28 : decode cX12_copyLand 28 = .ok (.invokestatic 267, 3) := by decide +kernel
theorem dX12_copyLand_31 : decode cX12_copyLand 31 = .ok (.aload_n 0, 1) := by decide +kernel
theorem dX12_copyLand_32 : decode cX12_copyLand 32 = .ok (.getfield 40, 3) := by decide +kernel
theorem dX12_copyLand_35 : decode cX12_copyLand 35 = .ok (.bipush 48, 2) := by decide +kernel
theorem dX12_copyLand_37 : decode cX12_copyLand 37 = .ok (.iload_n 1, 1) := by decide +kernel
theorem dX12_copyLand_38 : decode cX12_copyLand 38 = .ok (.iload_n 2, 1) := by decide +kernel
theorem dX12_copyLand_39 : decode cX12_copyLand 39 = .ok (.invokestatic 267, 3) := by decide +kernel
theorem dX12_copyLand_42 : decode cX12_copyLand 42 = .ok (.iconst 0, 1) := by decide +kernel
theorem dX12_copyLand_43 : decode cX12_copyLand 43 = .ok (.istore_n 3, 1) := by decide +kernel
theorem dX12_copyLand_44 : decode cX12_copyLand 44 = .ok (.iload_n 3, 1) := by decide +kernel
theorem dX12_copyLand_45 : decode cX12_copyLand 45 = .ok (.bipush 32, 2) := by decide +kernel
theorem dX12_copyLand_47 : decode cX12_copyLand 47 = .ok (.if_icmp .ge 31, 3) := by decide +kernel
theorem dX12_copyLand_50 : decode cX12_copyLand 50 = .ok (.aload_n 0, 1) := by decide +kernel
theorem dX12_copyLand_51 : decode cX12_copyLand 51 = .ok (.getfield 43, 3) := by decide +kernel
theorem dX12_copyLand_54 : decode cX12_copyLand 54 = .ok (.bipush 32, 2) := by decide +kernel
theorem dX12_copyLand_56 : decode cX12_copyLand 56 = .ok (.iload_n 2, 1) := by decide +kernel
theorem dX12_copyLand_57 : decode cX12_copyLand 57 = .ok (.imul, 1) := by decide +kernel
theorem dX12_copyLand_58 : decode cX12_copyLand 58 = .ok (.iload_n 3, 1) := by decide +kernel
theorem dX12_copyLand_59 : decode cX12_copyLand 59 = .ok (.iadd, 1) := by decide +kernel
theorem dX12_copyLand_60 : decode cX12_copyLand 60 = .ok (.aload_n 0, 1) := by decide +kernel
theorem dX12_copyLand_61 : decode cX12_copyLand 61 = .ok (.getfield 43, 3) := by decide +kernel
theorem dX12_copyLand_64 : decode cX12_copyLand 64 = .ok (.bipush 32, 2) := by decide +kernel
theorem dX12_copyLand_66 : decode cX12_copyLand 66 = .ok (.iload_n 1, 1) := by decide +kernel
theorem dX12_copyLand_67 : decode cX12_copyLand 67 = .ok (.imul, 1) := by decide +kernel
theorem dX12_copyLand_68 : decode cX12_copyLand 68 = .ok (.iload_n 3, 1) := by decide +kernel
theorem dX12_copyLand_69 : decode cX12_copyLand 69 = .ok (.iadd, 1) := by decide +kernel
theorem dX12_copyLand_70 : decode cX12_copyLand 70 = .ok (.laload, 1) := by decide +kernel
theorem dX12_copyLand_71 : decode cX12_copyLand 71 = .ok (.lastore, 1) := by decide +kernel
theorem dX12_copyLand_72 : decode cX12_copyLand 72 = .ok (.iinc 3 1, 3) := by decide +kernel
theorem dX12_copyLand_75 : decode cX12_copyLand 75 = .ok (.goto (-31), 3) := by decide +kernel
theorem dX12_copyLand_78 : decode cX12_copyLand 78 = .ok (.aload_n 0, 1) := by decide +kernel
theorem dX12_copyLand_79 : decode cX12_copyLand 79 = .ok (.getfield 46, 3) := by decide +kernel
theorem dX12_copyLand_82 : decode cX12_copyLand 82 = .ok (.iload_n 2, 1) := by decide +kernel
theorem dX12_copyLand_83 : decode cX12_copyLand 83 = .ok (.aload_n 0, 1) := by decide +kernel
theorem dX12_copyLand_84 : decode cX12_copyLand 84 = .ok (.getfield 46, 3) := by decide +kernel
theorem dX12_copyLand_87 : decode cX12_copyLand 87 = .ok (.iload_n 1, 1) := by decide +kernel
theorem dX12_copyLand_88 : decode cX12_copyLand 88 = .ok (.laload, 1) := by decide +kernel
theorem dX12_copyLand_89 : decode cX12_copyLand 89 = .ok (.lastore, 1) := by decide +kernel
theorem dX12_copyLand_90 : decode cX12_copyLand 90 = .ok (.return_, 1) := by decide +kernel
