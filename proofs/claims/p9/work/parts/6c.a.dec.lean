theorem dX12_listOf_0 : decode cX12_listOf 0 = .ok (.iconst 0, 1) := by decide +kernel
theorem dX12_listOf_1 : decode cX12_listOf 1 = .ok (.istore_n 3, 1) := by decide +kernel
theorem dX12_listOf_2 : decode cX12_listOf 2 = .ok (.iconst 0, 1) := by decide +kernel
theorem dX12_listOf_3 : decode cX12_listOf 3 = .ok (.istore 4, 2) := by decide +kernel
theorem dX12_listOf_5 : decode cX12_listOf 5 = .ok (.iload 4, 2) := by decide +kernel
theorem dX12_listOf_7 : decode cX12_listOf 7 = .ok (.aload_n 0, 1) := by decide +kernel
theorem dX12_listOf_8 : decode cX12_listOf 8 = .ok (.getfield 34, 3) := by decide +kernel
theorem dX12_listOf_11 : decode cX12_listOf 11 = .ok (.iconst 4, 1) := by decide +kernel
theorem dX12_listOf_12 : decode cX12_listOf 12 = .ok (.iaload, 1) := by decide +kernel
theorem dX12_listOf_13 : decode cX12_listOf 13 = .ok (.if_icmp .ge 56, 3) := by decide +kernel
theorem dX12_listOf_16 : decode cX12_listOf 16 = .ok (.iconst 0, 1) := by decide +kernel
theorem dX12_listOf_17 : decode cX12_listOf 17 = .ok (.istore 5, 2) := by decide +kernel
theorem dX12_listOf_19 : decode cX12_listOf 19 = .ok (.iload 5, 2) := by decide +kernel
theorem dX12_listOf_21 : decode cX12_listOf 21 = .ok (.iconst 2, 1) := by decide +kernel
theorem dX12_listOf_22 : decode cX12_listOf 22 = .ok (.if_icmp .ge 41, 3) := by decide +kernel
theorem dX12_listOf_25 : decode cX12_listOf 25 = .ok (.iload_n 3, 1) := by decide +kernel
theorem dX12_listOf_26 : decode cX12_listOf 26 = .ok (.aload_n 0, 1) := by decide +kernel
theorem dX12_listOf_27 : decode cX12_listOf 27 = .ok (.iload 4, 2) := by decide +kernel
theorem dX12_listOf_29 : decode cX12_listOf 29 = .ok (.iload 5, 2) := by decide +kernel
theorem dX12_listOf_31 : decode cX12_listOf 31 = .ok (.invokevirtual 321, 3) := by decide +kernel
theorem dX12_listOf_34 : decode cX12_listOf 34 = .ok (.iload_n 1, 1) := by decide +kernel
theorem dX12_listOf_35 : decode cX12_listOf 35 = .ok (.if_icmp .ne 19, 3) := by decide +kernel
theorem dX12_listOf_38 : decode cX12_listOf 38 = .ok (.aload_n 0, 1) := by decide +kernel
theorem dX12_listOf_39 : decode cX12_listOf 39 = .ok (.iload 4, 2) := by decide +kernel
theorem dX12_listOf_41 : decode cX12_listOf 41 = .ok (.iload 5, 2) := by decide +kernel
theorem dX12_listOf_43 : decode cX12_listOf 43 = .ok (.iload_n 2, 1) := by decide +kernel
theorem dX12_listOf_44 : decode cX12_listOf 44 = .ok (.invokevirtual 349, 3) := by decide +kernel
theorem dX12_listOf_47 : decode cX12_listOf 47 = .ok (.ifCond .le 7, 3) := by decide +kernel
theorem dX12_listOf_50 : decode cX12_listOf 50 = .ok (.iconst 1, 1) := by decide +kernel
theorem dX12_listOf_51 : decode cX12_listOf 51 = .ok (.goto 4, 3) := by decide +kernel
theorem dX12_listOf_54 : decode cX12_listOf 54 = .ok (.iconst 0, 1) := by decide +kernel
theorem dX12_listOf_55 : decode cX12_listOf 55 = .ok (.iadd, 1) := by decide +kernel
theorem dX12_listOf_56 : decode cX12_listOf 56 = .ok (.istore_n 3, 1) := by decide +kernel
theorem dX12_listOf_57 : decode cX12_listOf 57 = .ok (.iinc 5 1, 3) := by decide +kernel
theorem dX12_listOf_60 : decode cX12_listOf 60 = .ok (.goto (-41), 3) := by decide +kernel
theorem dX12_listOf_63 : decode cX12_listOf 63 = .ok (.iinc 4 1, 3) := by decide +kernel
theorem dX12_listOf_66 : decode cX12_listOf 66 = .ok (.goto (-61), 3) := by decide +kernel
theorem dX12_listOf_69 : decode cX12_listOf 69 = .ok (.iload_n 3, 1) := by decide +kernel
theorem dX12_listOf_70 : decode cX12_listOf 70 = .ok (.ireturn, 1) := by decide +kernel
theorem dX12_list_0 : decode cX12_list 0 = .ok (.aload_n 0, 1) := by decide +kernel
theorem dX12_list_1 : decode cX12_list 1 = .ok (.iconst 0, 1) := by decide +kernel
theorem dX12_list_2 : decode cX12_list 2 = .ok (.putfield 107, 3) := by decide +kernel
theorem dX12_list_5 : decode cX12_list 5 = .ok (.aload_n 0, 1) := by decide +kernel
theorem dX12_list_6 : decode cX12_list 6 = .ok (.iload_n 1, 1) := by decide +kernel
theorem dX12_list_7 : decode cX12_list 7 = .ok (.invokevirtual 276, 3) := by decide +kernel
theorem dX12_list_10 : decode cX12_list 10 = .ok (.ifCond .eq 12, 3) := by decide +kernel
theorem dX12_list_13 : decode cX12_list 13 = .ok (.aload_n 0, 1) := by decide +kernel
theorem dX12_list_14 : decode cX12_list 14 = .ok (.iload_n 2, 1) := by decide +kernel
theorem dX12_list_15 : decode cX12_list 15 = .ok (.i2l, 1) := by decide +kernel
theorem dX12_list_16 : decode cX12_list 16 = .ok (.invokevirtual 343, 3) := by decide +kernel
theorem dX12_list_19 : decode cX12_list 19 = .ok (.ifCond .ne 6, 3) := by decide +kernel
theorem dX12_list_22 : decode cX12_list 22 = .ok (.bipush (-2), 2) := by decide +kernel
theorem dX12_list_24 : decode cX12_list 24 = .ok (.ireturn, 1) := by decide +kernel
theorem dX12_list_25 : decode cX12_list 25 = .ok (.aload_n 0, 1) := by decide +kernel
theorem dX12_list_26 : decode cX12_list 26 = .ok (.invokevirtual 346, 3) := by decide +kernel
theorem dX12_list_29 : decode cX12_list 29 = .ok (.aload_n 0, 1) := by decide +kernel
theorem dX12_list_30 : decode cX12_list 30 = .ok (.iload_n 1, 1) := by decide +kernel
theorem dX12_list_31 : decode cX12_list 31 = .ok (.iload_n 2, 1) := by decide +kernel
theorem dX12_list_32 : decode cX12_list 32 = .ok (.invokevirtual 358, 3) := by decide +kernel
theorem dX12_list_35 : decode cX12_list 35 = .ok (.ireturn, 1) := by decide +kernel
theorem dX12_whoseOf_0 : decode cX12_whoseOf 0 = .ok (.iconst 0, 1) := by decide +kernel
theorem dX12_whoseOf_1 : decode cX12_whoseOf 1 = .ok (.istore_n 3, 1) := by decide +kernel
theorem dX12_whoseOf_2 : decode cX12_whoseOf 2 = .ok (.iconst 0, 1) := by decide +kernel
theorem dX12_whoseOf_3 : decode cX12_whoseOf 3 = .ok (.istore 4, 2) := by decide +kernel
theorem dX12_whoseOf_5 : decode cX12_whoseOf 5 = .ok (.iload 4, 2) := by decide +kernel
theorem dX12_whoseOf_7 : decode cX12_whoseOf 7 = .ok (.aload_n 0, 1) := by decide +kernel
theorem dX12_whoseOf_8 : decode cX12_whoseOf 8 = .ok (.getfield 34, 3) := by decide +kernel
theorem dX12_whoseOf_11 : decode cX12_whoseOf 11 = .ok (.iconst 4, 1) := by decide +kernel
theorem dX12_whoseOf_12 : decode cX12_whoseOf 12 = .ok (.iaload, 1) := by decide +kernel
theorem dX12_whoseOf_13 : decode cX12_whoseOf 13 = .ok (.if_icmp .ge 67, 3) := by decide +kernel
theorem dX12_whoseOf_16 : decode cX12_whoseOf 16 = .ok (.iconst 0, 1) := by decide +kernel
theorem dX12_whoseOf_17 : decode cX12_whoseOf 17 = .ok (.istore 5, 2) := by decide +kernel
theorem dX12_whoseOf_19 : decode cX12_whoseOf 19 = .ok (.iload 5, 2) := by decide +kernel
theorem dX12_whoseOf_21 : decode cX12_whoseOf 21 = .ok (.iconst 2, 1) := by decide +kernel
theorem dX12_whoseOf_22 : decode cX12_whoseOf 22 = .ok (.if_icmp .ge 52, 3) := by decide +kernel
theorem dX12_whoseOf_25 : decode cX12_whoseOf 25 = .ok (.iload_n 3, 1) := by decide +kernel
theorem dX12_whoseOf_26 : decode cX12_whoseOf 26 = .ok (.aload_n 0, 1) := by decide +kernel
theorem dX12_whoseOf_27 : decode cX12_whoseOf 27 = .ok (.iload 4, 2) := by decide +kernel
theorem dX12_whoseOf_29 : decode cX12_whoseOf 29 = .ok (.iload 5, 2) := by decide +kernel
theorem dX12_whoseOf_31 : decode cX12_whoseOf 31 = .ok (.invokevirtual 321, 3) := by decide +kernel
theorem dX12_whoseOf_34 : decode cX12_whoseOf 34 = .ok (.iload_n 1, 1) := by decide +kernel
theorem dX12_whoseOf_35 : decode cX12_whoseOf 35 = .ok (.if_icmp .ne 30, 3) := by decide +kernel
theorem dX12_whoseOf_38 : decode cX12_whoseOf 38 = .ok (.aload_n 0, 1) := by decide +kernel
theorem dX12_whoseOf_39 : decode cX12_whoseOf 39 = .ok (.iload 4, 2) := by decide +kernel
theorem dX12_whoseOf_41 : decode cX12_whoseOf 41 = .ok (.iload 5, 2) := by decide +kernel
theorem dX12_whoseOf_43 : decode cX12_whoseOf 43 = .ok (.iload_n 2, 1) := by decide +kernel
theorem dX12_whoseOf_44 : decode cX12_whoseOf 44 = .ok (.invokevirtual 352, 3) := by decide +kernel
theorem dX12_whoseOf_47 : decode cX12_whoseOf 47 = .ok (.ifCond .eq 18, 3) := by decide +kernel
theorem dX12_whoseOf_50 : decode cX12_whoseOf 50 = .ok (.iconst 1, 1) := by decide +kernel
theorem dX12_whoseOf_51 : decode cX12_whoseOf 51 = .ok (.aload_n 0, 1) := by decide +kernel
theorem dX12_whoseOf_52 : decode cX12_whoseOf 52 = .ok (.iload 4, 2) := by decide +kernel
theorem dX12_whoseOf_54 : decode cX12_whoseOf 54 = .ok (.iconst 1, 1) := by decide +kernel
theorem dX12_whoseOf_55 : decode cX12_whoseOf 55 = .ok (.iload 5, 2) := by decide +kernel
theorem dX12_whoseOf_57 : decode cX12_whoseOf 57 = .ok (.isub, 1) := by decide +kernel
theorem dX12_whoseOf_58 : decode cX12_whoseOf 58 = .ok (.invokevirtual 321, 3) := by decide +kernel
theorem dX12_whoseOf_61 : decode cX12_whoseOf 61 = .ok (.ishl, 1) := by decide +kernel
theorem dX12_whoseOf_62 : decode cX12_whoseOf 62 = .ok (.goto 4, 3) := by decide +kernel
theorem dX12_whoseOf_65 : decode cX12_whoseOf 65 = .ok (.iconst 0, 1) := by decide +kernel
theorem dX12_whoseOf_66 : decode cX12_whoseOf 66 = .ok (.ior, 1) := by decide +kernel
theorem dX12_whoseOf_67 : decode cX12_whoseOf 67 = .ok (.istore_n 3, 1) := by decide +kernel
theorem dX12_whoseOf_68 : decode cX12_whoseOf 68 = .ok (.iinc 5 1, 3) := by decide +kernel
theorem dX12_whoseOf_71 : decode cX12_whoseOf 71 = .ok (.goto (-52), 3) := by decide +kernel
theorem dX12_whoseOf_74 : decode cX12_whoseOf 74 = .ok (.iinc 4 1, 3) := by decide +kernel
theorem dX12_whoseOf_77 : decode cX12_whoseOf 77 = .ok (.goto (-72), 3) := by decide +kernel
theorem dX12_whoseOf_80 : decode cX12_whoseOf 80 = .ok (.iload_n 3, 1) := by decide +kernel
theorem dX12_whoseOf_81 : decode cX12_whoseOf 81 = .ok (.ireturn, 1) := by decide +kernel
theorem dX12_sizeOf_0 : decode cX12_sizeOf 0 = .ok (.iconst 0, 1) := by decide +kernel
theorem dX12_sizeOf_1 : decode cX12_sizeOf 1 = .ok (.istore_n 1, 1) := by decide +kernel
theorem dX12_sizeOf_2 : decode cX12_sizeOf 2 = .ok (.iload_n 0, 1) := by decide +kernel
theorem dX12_sizeOf_3 : decode cX12_sizeOf 3 = .ok (.istore_n 2, 1) := by decide +kernel
theorem dX12_sizeOf_4 : decode cX12_sizeOf 4 = .ok (.iload_n 2, 1) := by decide +kernel
theorem dX12_sizeOf_5 : decode cX12_sizeOf 5 = .ok (.ifCond .eq 15, 3) := by decide +kernel
theorem dX12_sizeOf_8 : decode cX12_sizeOf 8 = .ok (.iinc 1 1, 3) := by decide +kernel
theorem dX12_sizeOf_11 : decode cX12_sizeOf 11 = .ok (.iload_n 2, 1) := by decide +kernel
theorem dX12_sizeOf_12 : decode cX12_sizeOf 12 = .ok (.iload_n 2, 1) := by decide +kernel
theorem dX12_sizeOf_13 : decode cX12_sizeOf 13 = .ok (.iconst 1, 1) := by decide +kernel
theorem dX12_sizeOf_14 : decode cX12_sizeOf 14 = .ok (.isub, 1) := by decide +kernel
theorem dX12_sizeOf_15 : decode cX12_sizeOf 15 = .ok (.iand, 1) := by decide +kernel
theorem dX12_sizeOf_16 : decode cX12_sizeOf 16 = .ok (.istore_n 2, 1) := by decide +kernel
theorem dX12_sizeOf_17 : decode cX12_sizeOf 17 = .ok (.goto (-13), 3) := by decide +kernel
theorem dX12_sizeOf_20 : decode cX12_sizeOf 20 = .ok (.iload_n 1, 1) := by decide +kernel
theorem dX12_sizeOf_21 : decode cX12_sizeOf 21 = .ok (.ireturn, 1) := by decide +kernel
theorem dX12_mantel_0 : decode cX12_mantel 0 = .ok (.aload_n 0, 1) := by decide +kernel
theorem dX12_mantel_1 : decode cX12_mantel 1 = .ok (.iconst 0, 1) := by decide +kernel
theorem dX12_mantel_2 : decode cX12_mantel 2 = .ok (.putfield 107, 3) := by decide +kernel
theorem dX12_mantel_5 : decode cX12_mantel 5 = .ok (.aload_n 0, 1) := by decide +kernel
theorem dX12_mantel_6 : decode cX12_mantel 6 = .ok (.iload_n 1, 1) := by decide +kernel
theorem dX12_mantel_7 : decode cX12_mantel 7 = .ok (.invokevirtual 276, 3) := by decide +kernel
theorem dX12_mantel_10 : decode cX12_mantel 10 = .ok (.ifCond .eq 12, 3) := by decide +kernel
theorem dX12_mantel_13 : decode cX12_mantel 13 = .ok (.aload_n 0, 1) := by decide +kernel
theorem dX12_mantel_14 : decode cX12_mantel 14 = .ok (.iload_n 2, 1) := by decide +kernel
theorem dX12_mantel_15 : decode cX12_mantel 15 = .ok (.i2l, 1) := by decide +kernel
theorem dX12_mantel_16 : decode cX12_mantel 16 = .ok (.invokevirtual 343, 3) := by decide +kernel
theorem dX12_mantel_19 : decode cX12_mantel 19 = .ok (.ifCond .ne 6, 3) := by decide +kernel
theorem dX12_mantel_22 : decode cX12_mantel 22 = .ok (.bipush (-2), 2) := by decide +kernel
theorem dX12_mantel_24 : decode cX12_mantel 24 = .ok (.ireturn, 1) := by decide +kernel
theorem dX12_mantel_25 : decode cX12_mantel 25 = .ok (.aload_n 0, 1) := by decide +kernel
theorem dX12_mantel_26 : decode cX12_mantel 26 = .ok (.invokevirtual 346, 3) := by decide +kernel
theorem dX12_mantel_29 : decode cX12_mantel 29 = .ok (.aload_n 0, 1) := by decide +kernel
theorem dX12_mantel_30 : decode cX12_mantel 30 = .ok (.iload_n 1, 1) := by decide +kernel
theorem dX12_mantel_31 : decode cX12_mantel 31 = .ok (.iload_n 2, 1) := by decide +kernel
theorem dX12_mantel_32 : decode cX12_mantel 32 = .ok (.invokevirtual 361, 3) := by decide +kernel
theorem dX12_mantel_35 : decode cX12_mantel 35 = .ok (.invokestatic 364, 3) := by decide +kernel
theorem dX12_mantel_38 : decode cX12_mantel 38 = .ok (.ireturn, 1) := by decide +kernel
theorem dX12_whose_0 : decode cX12_whose 0 = .ok (.aload_n 0, 1) := by decide +kernel
theorem dX12_whose_1 : decode cX12_whose 1 = .ok (.iconst 0, 1) := by decide +kernel
theorem dX12_whose_2 : decode cX12_whose 2 = .ok (.putfield 107, 3) := by decide +kernel
theorem dX12_whose_5 : decode cX12_whose 5 = .ok (.aload_n 0, 1) := by decide +kernel
theorem dX12_whose_6 : decode cX12_whose 6 = .ok (.iload_n 1, 1) := by decide +kernel
theorem dX12_whose_7 : decode cX12_whose 7 = .ok (.invokevirtual 276, 3) := by decide +kernel
theorem dX12_whose_10 : decode cX12_whose 10 = .ok (.ifCond .eq 12, 3) := by decide +kernel
theorem dX12_whose_13 : decode cX12_whose 13 = .ok (.aload_n 0, 1) := by decide +kernel
theorem dX12_whose_14 : decode cX12_whose 14 = .ok (.iload_n 2, 1) := by decide +kernel
theorem dX12_whose_15 : decode cX12_whose 15 = .ok (.i2l, 1) := by decide +kernel
theorem dX12_whose_16 : decode cX12_whose 16 = .ok (.invokevirtual 343, 3) := by decide +kernel
theorem dX12_whose_19 : decode cX12_whose 19 = .ok (.ifCond .ne 6, 3) := by decide +kernel
theorem dX12_whose_22 : decode cX12_whose 22 = .ok (.bipush (-2), 2) := by decide +kernel
theorem dX12_whose_24 : decode cX12_whose 24 = .ok (.ireturn, 1) := by decide +kernel
theorem dX12_whose_25 : decode cX12_whose 25 = .ok (.aload_n 0, 1) := by decide +kernel
theorem dX12_whose_26 : decode cX12_whose 26 = .ok (.invokevirtual 346, 3) := by decide +kernel
theorem dX12_whose_29 : decode cX12_whose 29 = .ok (.aload_n 0, 1) := by decide +kernel
theorem dX12_whose_30 : decode cX12_whose 30 = .ok (.iload_n 1, 1) := by decide +kernel
theorem dX12_whose_31 : decode cX12_whose 31 = .ok (.iload_n 2, 1) := by decide +kernel
theorem dX12_whose_32 : decode cX12_whose 32 = .ok (.invokevirtual 361, 3) := by decide +kernel
theorem dX12_whose_35 : decode cX12_whose 35 = .ok (.ireturn, 1) := by decide +kernel
