theorem dX12_laysFits_0 : decode cX12_laysFits 0 = .ok (.aload_n 0, 1) := by decide +kernel
theorem dX12_laysFits_1 : decode cX12_laysFits 1 = .ok (.iconst 0, 1) := by decide +kernel
theorem dX12_laysFits_2 : decode cX12_laysFits 2 = .ok (.putfield 506, 3) := by decide +kernel
theorem dX12_laysFits_5 : decode cX12_laysFits 5 = .ok (.aload_n 0, 1) := by decide +kernel
theorem dX12_laysFits_6 : decode cX12_laysFits 6 = .ok (.lconst 0, 1) := by decide +kernel
theorem dX12_laysFits_7 : decode cX12_laysFits 7 = .ok (.putfield 509, 3) := by decide +kernel
theorem dX12_laysFits_10 : decode cX12_laysFits 10 = .ok (.aload_n 0, 1) := by decide +kernel
theorem dX12_laysFits_11 : decode cX12_laysFits 11 = .ok (.lconst 0, 1) := by decide +kernel
theorem dX12_laysFits_12 : decode cX12_laysFits 12 = .ok (.putfield 512, 3) := by decide +kernel
theorem dX12_laysFits_15 : decode cX12_laysFits 15 = .ok (.iconst 0, 1) := by decide +kernel
theorem dX12_laysFits_16 : decode cX12_laysFits 16 = .ok (.istore_n 3, 1) := by decide +kernel
theorem dX12_laysFits_17 : decode cX12_laysFits 17 = .ok (.iload_n 3, 1) := by decide +kernel
theorem dX12_laysFits_18 : decode cX12_laysFits 18 = .ok (.bipush 32, 2) := by decide +kernel
theorem dX12_laysFits_20 : decode cX12_laysFits 20 = .ok (.if_icmp .ge 90, 3) := by decide +kernel
theorem dX12_laysFits_23 : decode cX12_laysFits 23 = .ok (.iconst 0, 1) := by decide +kernel
theorem dX12_laysFits_24 : decode cX12_laysFits 24 = .ok (.istore 4, 2) := by decide +kernel
theorem dX12_laysFits_26 : decode cX12_laysFits 26 = .ok (.iload 4, 2) := by decide +kernel
theorem dX12_laysFits_28 : decode cX12_laysFits 28 = .ok (.bipush 32, 2) := by decide +kernel
theorem dX12_laysFits_30 : decode cX12_laysFits 30 = .ok (.if_icmp .ge 74, 3) := by decide +kernel
theorem dX12_laysFits_33 : decode cX12_laysFits 33 = .ok (.aload_n 0, 1) := by decide +kernel
theorem dX12_laysFits_34 : decode cX12_laysFits 34 = .ok (.iload_n 2, 1) := by decide +kernel
theorem dX12_laysFits_35 : decode cX12_laysFits 35 = .ok (.iload_n 3, 1) := by decide +kernel
theorem dX12_laysFits_36 : decode cX12_laysFits 36 = .ok (.iload 4, 2) := by decide +kernel
theorem dX12_laysFits_38 : decode cX12_laysFits 38 = .ok (.aload_n 0, 1) := by decide +kernel
theorem dX12_laysFits_39 : decode cX12_laysFits 39 = .ok (.getfield 40, 3) := by decide +kernel
theorem dX12_laysFits_42 : decode cX12_laysFits 42 = .ok (.iconst 3, 1) := by decide +kernel
theorem dX12_laysFits_43 : decode cX12_laysFits 43 = .ok (.iload_n 2, 1) := by decide +kernel
theorem dX12_laysFits_44 : decode cX12_laysFits 44 = .ok (.imul, 1) := by decide +kernel
theorem dX12_laysFits_45 : decode cX12_laysFits 45 = .ok (.iconst 2, 1) := by decide +kernel
theorem dX12_laysFits_46 : decode cX12_laysFits 46 = .ok (.iadd, 1) := by decide +kernel
theorem dX12_laysFits_47 : decode cX12_laysFits 47 = .ok (.iaload, 1) := by decide +kernel
theorem dX12_laysFits_48 : decode cX12_laysFits 48 = .ok (.invokevirtual 515, 3) := by decide +kernel
theorem dX12_laysFits_51 : decode cX12_laysFits 51 = .ok (.aload_n 0, 1) := by decide +kernel
theorem dX12_laysFits_52 : decode cX12_laysFits 52 = .ok (.iload_n 1, 1) := by decide +kernel
theorem dX12_laysFits_53 : decode cX12_laysFits 53 = .ok (.invokevirtual 519, 3) := by decide +kernel
theorem dX12_laysFits_56 : decode cX12_laysFits 56 = .ok (.iconst (-1), 1) := by decide +kernel
theorem dX12_laysFits_57 : decode cX12_laysFits 57 = .ok (.if_icmp .eq 6, 3) := by decide +kernel
theorem dX12_laysFits_60 : decode cX12_laysFits 60 = .ok (.goto 38, 3) := by decide +kernel
theorem dX12_laysFits_63 : decode cX12_laysFits 63 = .ok (.aload_n 0, 1) := by decide +kernel
theorem dX12_laysFits_64 : decode cX12_laysFits 64 = .ok (.dup, 1) := by decide +kernel
theorem dX12_laysFits_65 : decode cX12_laysFits 65 = .ok (.getfield 506, 3) := by decide +kernel
theorem dX12_laysFits_68 : decode cX12_laysFits 68 = .ok (.iconst 1, 1) := by decide +kernel
theorem dX12_laysFits_69 : decode cX12_laysFits 69 = .ok (.iadd, 1) := by decide +kernel
theorem dX12_laysFits_70 : decode cX12_laysFits 70 = .ok (.putfield 506, 3) := by decide +kernel
theorem dX12_laysFits_73 : decode cX12_laysFits 73 = .ok (.aload_n 0, 1) := by decide +kernel
theorem dX12_laysFits_74 : decode cX12_laysFits 74 = .ok (.dup, 1) := by decide +kernel
theorem dX12_laysFits_75 : decode cX12_laysFits 75 = .ok (.getfield 509, 3) := by decide +kernel
theorem dX12_laysFits_78 : decode cX12_laysFits 78 = .ok (.lconst 1, 1) := by decide +kernel
theorem dX12_laysFits_79 : decode cX12_laysFits 79 = .ok (.iload_n 3, 1) := by decide +kernel
theorem dX12_laysFits_80 : decode cX12_laysFits 80 = .ok (.lshl, 1) := by decide +kernel
theorem dX12_laysFits_81 : decode cX12_laysFits 81 = .ok (.lor, 1) := by decide +kernel
theorem dX12_laysFits_82 : decode cX12_laysFits 82 = .ok (.putfield 509, 3) := by decide +kernel
theorem dX12_laysFits_85 : decode cX12_laysFits 85 = .ok (.aload_n 0, 1) := by decide +kernel
theorem dX12_laysFits_86 : decode cX12_laysFits 86 = .ok (.dup, 1) := by decide +kernel
theorem dX12_laysFits_87 : decode cX12_laysFits 87 = .ok (.getfield 512, 3) := by decide +kernel
theorem dX12_laysFits_90 : decode cX12_laysFits 90 = .ok (.lconst 1, 1) := by decide +kernel
theorem dX12_laysFits_91 : decode cX12_laysFits 91 = .ok (.iload 4, 2) := by decide +kernel
theorem dX12_laysFits_93 : decode cX12_laysFits 93 = .ok (.lshl, 1) := by decide +kernel
theorem dX12_laysFits_94 : decode cX12_laysFits 94 = .ok (.lor, 1) := by decide +kernel
theorem dX12_laysFits_95 : decode cX12_laysFits 95 = .ok (.putfield 512, 3) := by decide +kernel
theorem dX12_laysFits_98 : decode cX12_laysFits 98 = .ok (.iinc 4 1, 3) := by decide +kernel
theorem dX12_laysFits_101 : decode cX12_laysFits 101 = .ok (.goto (-75), 3) := by decide +kernel
theorem dX12_laysFits_104 : decode cX12_laysFits 104 = .ok (.iinc 3 1, 3) := by decide +kernel
theorem dX12_laysFits_107 : decode cX12_laysFits 107 = .ok (.goto (-90), 3) := by decide +kernel
theorem dX12_laysFits_110 : decode cX12_laysFits 110 = .ok (.return_, 1) := by decide +kernel
theorem dX12_fits_0 : decode cX12_fits 0 = .ok (.aload_n 0, 1) := by decide +kernel
theorem dX12_fits_1 : decode cX12_fits 1 = .ok (.iconst 0, 1) := by decide +kernel
theorem dX12_fits_2 : decode cX12_fits 2 = .ok (.putfield 107, 3) := by decide +kernel
theorem dX12_fits_5 : decode cX12_fits 5 = .ok (.aload_n 0, 1) := by decide +kernel
theorem dX12_fits_6 : decode cX12_fits 6 = .ok (.iload_n 1, 1) := by decide +kernel
theorem dX12_fits_7 : decode cX12_fits 7 = .ok (.iload_n 2, 1) := by decide +kernel
theorem dX12_fits_8 : decode cX12_fits 8 = .ok (.invokevirtual 522, 3) := by decide +kernel
theorem dX12_fits_11 : decode cX12_fits 11 = .ok (.istore_n 3, 1) := by decide +kernel
theorem dX12_fits_12 : decode cX12_fits 12 = .ok (.iload_n 3, 1) := by decide +kernel
theorem dX12_fits_13 : decode cX12_fits 13 = .ok (.ifCond .eq 5, 3) := by decide +kernel
theorem dX12_fits_16 : decode cX12_fits 16 = .ok (.iload_n 3, 1) := by decide +kernel
theorem dX12_fits_17 : decode cX12_fits 17 = .ok (.ireturn, 1) := by decide +kernel
theorem dX12_fits_18 : decode cX12_fits 18 = .ok (.aload_n 0, 1) := by decide +kernel
theorem dX12_fits_19 : decode cX12_fits 19 = .ok (.iload_n 1, 1) := by decide +kernel
theorem dX12_fits_20 : decode cX12_fits 20 = .ok (.iload_n 2, 1) := by decide +kernel
theorem dX12_fits_21 : decode cX12_fits 21 = .ok (.invokevirtual 525, 3) := by decide +kernel
theorem dX12_fits_24 : decode cX12_fits 24 = .ok (.aload_n 0, 1) := by decide +kernel
theorem dX12_fits_25 : decode cX12_fits 25 = .ok (.getfield 506, 3) := by decide +kernel
theorem dX12_fits_28 : decode cX12_fits 28 = .ok (.ireturn, 1) := by decide +kernel
theorem dX12_which_0 : decode cX12_which 0 = .ok (.aload_n 0, 1) := by decide +kernel
theorem dX12_which_1 : decode cX12_which 1 = .ok (.iconst 0, 1) := by decide +kernel
theorem dX12_which_2 : decode cX12_which 2 = .ok (.putfield 107, 3) := by decide +kernel
theorem dX12_which_5 : decode cX12_which 5 = .ok (.iload_n 3, 1) := by decide +kernel
theorem dX12_which_6 : decode cX12_which 6 = .ok (.invokestatic 340, 3) := by decide +kernel
theorem dX12_which_9 : decode cX12_which 9 = .ok (.ifCond .eq 12, 3) := by decide +kernel
theorem dX12_which_12 : decode cX12_which 12 = .ok (.aload_n 0, 1) := by decide +kernel
theorem dX12_which_13 : decode cX12_which 13 = .ok (.iload_n 1, 1) := by decide +kernel
theorem dX12_which_14 : decode cX12_which 14 = .ok (.iload_n 2, 1) := by decide +kernel
theorem dX12_which_15 : decode cX12_which 15 = .ok (.invokevirtual 522, 3) := by decide +kernel
theorem dX12_which_18 : decode cX12_which 18 = .ok (.goto 5, 3) := by decide +kernel
theorem dX12_which_21 : decode cX12_which 21 = .ok (.bipush (-2), 2) := by decide +kernel
theorem dX12_which_23 : decode cX12_which 23 = .ok (.istore 4, 2) := by decide +kernel
theorem dX12_which_25 : decode cX12_which 25 = .ok (.iload 4, 2) := by decide +kernel
theorem dX12_which_27 : decode cX12_which 27 = .ok (.ifCond .eq 7, 3) := by decide +kernel
theorem dX12_which_30 : decode cX12_which 30 = .ok (.iload 4, 2) := by decide +kernel
theorem dX12_which_32 : decode cX12_which 32 = .ok (.i2l, 1) := by decide +kernel
theorem dX12_which_33 : decode cX12_which 33 = .ok (.lreturn, 1) := by decide +kernel
theorem dX12_which_34 : decode cX12_which 34 = .ok (.aload_n 0, 1) := by decide +kernel
theorem dX12_which_35 : decode cX12_which 35 = .ok (.iload_n 1, 1) := by decide +kernel
theorem dX12_which_36 : decode cX12_which 36 = .ok (.iload_n 2, 1) := by decide +kernel
theorem dX12_which_37 : decode cX12_which 37 = .ok (.invokevirtual 525, 3) := by decide +kernel
theorem dX12_which_40 : decode cX12_which 40 = .ok (.iload_n 3, 1) := by decide +kernel
theorem dX12_which_41 : decode cX12_which 41 = .ok (.ifCond .ne 10, 3) := by decide +kernel
theorem dX12_which_44 : decode cX12_which 44 = .ok (.aload_n 0, 1) := by decide +kernel
theorem dX12_which_45 : decode cX12_which 45 = .ok (.getfield 509, 3) := by decide +kernel
theorem dX12_which_48 : decode cX12_which 48 = .ok (.goto 7, 3) := by decide +kernel
theorem dX12_which_51 : decode cX12_which 51 = .ok (.aload_n 0, 1) := by decide +kernel
theorem dX12_which_52 : decode cX12_which 52 = .ok (.getfield 512, 3) := by decide +kernel
theorem dX12_which_55 : decode cX12_which 55 = .ok (.lreturn, 1) := by decide +kernel
