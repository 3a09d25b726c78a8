theorem dX12_begun_0 : decode cX12_begun 0 = .ok (.aload_n 0, 1) := by decide +kernel
theorem dX12_begun_1 : decode cX12_begun 1 = .ok (.iconst 0, 1) := by decide +kernel
theorem dX12_begun_2 : decode cX12_begun 2 = .ok (.putfield 107, 3) := by decide +kernel
theorem dX12_begun_5 : decode cX12_begun 5 = .ok (.aload_n 0, 1) := by decide +kernel
theorem dX12_begun_6 : decode cX12_begun 6 = .ok (.iload_n 1, 1) := by decide +kernel
theorem dX12_begun_7 : decode cX12_begun 7 = .ok (.iload_n 2, 1) := by decide +kernel
theorem dX12_begun_8 : decode cX12_begun 8 = .ok (.invokevirtual 522, 3) := by decide +kernel
theorem dX12_begun_11 : decode cX12_begun 11 = .ok (.istore_n 3, 1) := by decide +kernel
theorem dX12_begun_12 : decode cX12_begun 12 = .ok (.iload_n 3, 1) := by decide +kernel
theorem dX12_begun_13 : decode cX12_begun 13 = .ok (.ifCond .eq 5, 3) := by decide +kernel
theorem dX12_begun_16 : decode cX12_begun 16 = .ok (.iload_n 3, 1) := by decide +kernel
theorem dX12_begun_17 : decode cX12_begun 17 = .ok (.ireturn, 1) := by decide +kernel
theorem dX12_begun_18 : decode cX12_begun 18 = .ok (.iconst 0, 1) := by decide +kernel
theorem dX12_begun_19 : decode cX12_begun 19 = .ok (.istore 4, 2) := by decide +kernel
theorem dX12_begun_21 : decode cX12_begun 21 = .ok (.iconst 0, 1) := by decide +kernel
theorem dX12_begun_22 : decode cX12_begun 22 = .ok (.istore 5, 2) := by decide +kernel
theorem dX12_begun_24 : decode cX12_begun 24 = .ok (.iload 5, 2) := by decide +kernel
theorem dX12_begun_26 : decode cX12_begun 26 = .ok (.bipush 16, 2) := by decide +kernel
theorem dX12_begun_28 : decode cX12_begun 28 = .ok (.if_icmp .ge 50, 3) := by decide +kernel
theorem dX12_begun_31 : decode cX12_begun 31 = .ok (.aload_n 0, 1) := by decide +kernel
theorem dX12_begun_32 : decode cX12_begun 32 = .ok (.iload_n 2, 1) := by decide +kernel
theorem dX12_begun_33 : decode cX12_begun 33 = .ok (.aload_n 0, 1) := by decide +kernel
theorem dX12_begun_34 : decode cX12_begun 34 = .ok (.iload_n 2, 1) := by decide +kernel
theorem dX12_begun_35 : decode cX12_begun 35 = .ok (.iconst 0, 1) := by decide +kernel
theorem dX12_begun_36 : decode cX12_begun 36 = .ok (.invokevirtual 409, 3) := by decide +kernel
theorem dX12_begun_39 : decode cX12_begun 39 = .ok (.aload_n 0, 1) := by decide +kernel
theorem dX12_begun_40 : decode cX12_begun 40 = .ok (.iload_n 2, 1) := by decide +kernel
theorem dX12_begun_41 : decode cX12_begun 41 = .ok (.iconst 1, 1) := by decide +kernel
theorem dX12_begun_42 : decode cX12_begun 42 = .ok (.invokevirtual 409, 3) := by decide +kernel
theorem dX12_begun_45 : decode cX12_begun 45 = .ok (.iload 5, 2) := by decide +kernel
theorem dX12_begun_47 : decode cX12_begun 47 = .ok (.invokevirtual 515, 3) := by decide +kernel
theorem dX12_begun_50 : decode cX12_begun 50 = .ok (.iload 4, 2) := by decide +kernel
theorem dX12_begun_52 : decode cX12_begun 52 = .ok (.aload_n 0, 1) := by decide +kernel
theorem dX12_begun_53 : decode cX12_begun 53 = .ok (.iload_n 1, 1) := by decide +kernel
theorem dX12_begun_54 : decode cX12_begun 54 = .ok (.invokevirtual 519, 3) := by decide +kernel
theorem dX12_begun_57 : decode cX12_begun 57 = .ok (.iconst (-1), 1) := by decide +kernel
theorem dX12_begun_58 : decode cX12_begun 58 = .ok (.if_icmp .ne 10, 3) := by decide +kernel
theorem dX12_begun_61 : decode cX12_begun 61 = .ok (.iconst 1, 1) := by decide +kernel
theorem dX12_begun_62 : decode cX12_begun 62 = .ok (.iload 5, 2) := by decide +kernel
theorem dX12_begun_64 : decode cX12_begun 64 = .ok (.ishl, 1) := by decide +kernel
theorem dX12_begun_65 : decode cX12_begun 65 = .ok (.goto 4, 3) := by decide +kernel
theorem dX12_begun_68 : decode cX12_begun 68 = .ok (.iconst 0, 1) := by decide +kernel
theorem dX12_begun_69 : decode cX12_begun 69 = .ok (.ior, 1) := by decide +kernel
theorem dX12_begun_70 : decode cX12_begun 70 = .ok (.istore 4, 2) := by decide +kernel
theorem dX12_begun_72 : decode cX12_begun 72 = .ok (.iinc 5 1, 3) := by decide +kernel
theorem dX12_begun_75 : decode cX12_begun 75 = .ok (.goto (-51), 3) := by decide +kernel
theorem dX12_begun_78 : decode cX12_begun 78 = .ok (.iload 4, 2) := by decide +kernel
theorem dX12_begun_80 : decode cX12_begun 80 = .ok (.ireturn, 1) := by decide +kernel
theorem dX12_odd_0 : decode cX12_odd 0 = .ok (.aload_n 0, 1) := by decide +kernel
theorem dX12_odd_1 : decode cX12_odd 1 = .ok (.iconst 0, 1) := by decide +kernel
theorem dX12_odd_2 : decode cX12_odd 2 = .ok (.putfield 107, 3) := by decide +kernel
theorem dX12_odd_5 : decode cX12_odd 5 = .ok (.aload_n 0, 1) := by decide +kernel
theorem dX12_odd_6 : decode cX12_odd 6 = .ok (.iload_n 1, 1) := by decide +kernel
theorem dX12_odd_7 : decode cX12_odd 7 = .ok (.iload_n 2, 1) := by decide +kernel
theorem dX12_odd_8 : decode cX12_odd 8 = .ok (.invokevirtual 522, 3) := by decide +kernel
theorem dX12_odd_11 : decode cX12_odd 11 = .ok (.istore_n 3, 1) := by decide +kernel
theorem dX12_odd_12 : decode cX12_odd 12 = .ok (.iload_n 3, 1) := by decide +kernel
theorem dX12_odd_13 : decode cX12_odd 13 = .ok (.ifCond .eq 5, 3) := by decide +kernel
theorem dX12_odd_16 : decode cX12_odd 16 = .ok (.iload_n 3, 1) := by decide +kernel
theorem dX12_odd_17 : decode cX12_odd 17 = .ok (.ireturn, 1) := by decide +kernel
theorem dX12_odd_18 : decode cX12_odd 18 = .ok (.aload_n 0, 1) := by decide +kernel
theorem dX12_odd_19 : decode cX12_odd 19 = .ok (.iload_n 2, 1) := by decide +kernel
theorem dX12_odd_20 : decode cX12_odd 20 = .ok (.aload_n 0, 1) := by decide +kernel
theorem dX12_odd_21 : decode cX12_odd 21 = .ok (.iload_n 2, 1) := by decide +kernel
theorem dX12_odd_22 : decode cX12_odd 22 = .ok (.iconst 0, 1) := by decide +kernel
theorem dX12_odd_23 : decode cX12_odd 23 = .ok (.invokevirtual 409, 3) := by decide +kernel
theorem dX12_odd_26 : decode cX12_odd 26 = .ok (.aload_n 0, 1) := by decide +kernel
theorem dX12_odd_27 : decode cX12_odd 27 = .ok (.iload_n 2, 1) := by decide +kernel
theorem dX12_odd_28 : decode cX12_odd 28 = .ok (.iconst 1, 1) := by decide +kernel
theorem dX12_odd_29 : decode cX12_odd 29 = .ok (.invokevirtual 409, 3) := by decide +kernel
theorem dX12_odd_32 : decode cX12_odd 32 = .ok (.aload_n 0, 1) := by decide +kernel
theorem dX12_odd_33 : decode cX12_odd 33 = .ok (.getfield 40, 3) := by decide +kernel
theorem dX12_odd_36 : decode cX12_odd 36 = .ok (.iconst 3, 1) := by decide +kernel
theorem dX12_odd_37 : decode cX12_odd 37 = .ok (.iload_n 2, 1) := by decide +kernel
theorem dX12_odd_38 : decode cX12_odd 38 = .ok (.imul, 1) := by decide +kernel
theorem dX12_odd_39 : decode cX12_odd 39 = .ok (.iconst 2, 1) := by decide +kernel
theorem dX12_odd_40 : decode cX12_odd 40 = .ok (.iadd, 1) := by decide +kernel
theorem dX12_odd_41 : decode cX12_odd 41 = .ok (.iaload, 1) := by decide +kernel
theorem dX12_odd_42 : decode cX12_odd 42 = .ok (.invokevirtual 515, 3) := by decide +kernel
theorem dX12_odd_45 : decode cX12_odd 45 = .ok (.aload_n 0, 1) := by decide +kernel
theorem dX12_odd_46 : decode cX12_odd 46 = .ok (.iload_n 1, 1) := by decide +kernel
theorem dX12_odd_47 : decode cX12_odd 47 = .ok (.invokevirtual 519, 3) := by decide +kernel
theorem dX12_odd_50 : decode cX12_odd 50 = .ok (.ireturn, 1) := by decide +kernel
