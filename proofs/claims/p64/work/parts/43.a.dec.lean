theorem dX11_fits_0 : decode cX11_fits 0 = .ok (.aload_n 0, 1) := by decide +kernel
theorem dX11_fits_1 : decode cX11_fits 1 = .ok (.iload_n 1, 1) := by decide +kernel
theorem dX11_fits_2 : decode cX11_fits 2 = .ok (.iload_n 2, 1) := by decide +kernel
theorem dX11_fits_3 : decode cX11_fits 3 = .ok (.invokevirtual 325, 3) := by decide +kernel
theorem dX11_fits_6 : decode cX11_fits 6 = .ok (.istore_n 3, 1) := by decide +kernel
theorem dX11_fits_7 : decode cX11_fits 7 = .ok (.iload_n 3, 1) := by decide +kernel
theorem dX11_fits_8 : decode cX11_fits 8 = .ok (.ifCond .eq 5, 3) := by decide +kernel
theorem dX11_fits_11 : decode cX11_fits 11 = .ok (.iload_n 3, 1) := by decide +kernel
theorem dX11_fits_12 : decode cX11_fits 12 = .ok (.ireturn, 1) := by decide +kernel
theorem dX11_fits_13 : decode cX11_fits 13 = .ok (.aload_n 0, 1) := by decide +kernel
theorem dX11_fits_14 : decode cX11_fits 14 = .ok (.getfield 37, 3) := by decide +kernel
theorem dX11_fits_17 : decode cX11_fits 17 = .ok (.aload_n 0, 1) := by decide +kernel
theorem dX11_fits_18 : decode cX11_fits 18 = .ok (.getfield 19, 3) := by decide +kernel
theorem dX11_fits_21 : decode cX11_fits 21 = .ok (.iload_n 2, 1) := by decide +kernel
theorem dX11_fits_22 : decode cX11_fits 22 = .ok (.invokevirtual 328, 3) := by decide +kernel
theorem dX11_fits_25 : decode cX11_fits 25 = .ok (.iconst 0, 1) := by decide +kernel
theorem dX11_fits_26 : decode cX11_fits 26 = .ok (.istore 4, 2) := by decide +kernel
theorem dX11_fits_28 : decode cX11_fits 28 = .ok (.iconst 0, 1) := by decide +kernel
theorem dX11_fits_29 : decode cX11_fits 29 = .ok (.istore 5, 2) := by decide +kernel
theorem dX11_fits_31 : decode cX11_fits 31 = .ok (.iload 5, 2) := by decide +kernel
theorem dX11_fits_33 : decode cX11_fits 33 = .ok (.bipush 32, 2) := by decide +kernel
theorem dX11_fits_35 : decode cX11_fits 35 = .ok (.if_icmp .ge 46, 3) := by decide +kernel
theorem dX11_fits_38 : decode cX11_fits 38 = .ok (.iconst 0, 1) := by decide +kernel
theorem dX11_fits_39 : decode cX11_fits 39 = .ok (.istore 6, 2) := by decide +kernel
theorem dX11_fits_41 : decode cX11_fits 41 = .ok (.iload 6, 2) := by decide +kernel
theorem dX11_fits_43 : decode cX11_fits 43 = .ok (.bipush 32, 2) := by decide +kernel
theorem dX11_fits_45 : decode cX11_fits 45 = .ok (.if_icmp .ge 30, 3) := by decide +kernel
theorem dX11_fits_48 : decode cX11_fits 48 = .ok (.aload_n 0, 1) := by decide +kernel
theorem dX11_fits_49 : decode cX11_fits 49 = .ok (.getfield 72, 3) := by decide +kernel
theorem dX11_fits_52 : decode cX11_fits 52 = .ok (.aload_n 0, 1) := by decide +kernel
theorem dX11_fits_53 : decode cX11_fits 53 = .ok (.getfield 37, 3) := by decide +kernel
theorem dX11_fits_56 : decode cX11_fits 56 = .ok (.iload 5, 2) := by decide +kernel
theorem dX11_fits_58 : decode cX11_fits 58 = .ok (.iload 6, 2) := by decide +kernel
theorem dX11_fits_60 : decode cX11_fits 60 = .ok (.invokevirtual 332, 3) := by decide +kernel
theorem dX11_fits_63 : decode cX11_fits 63 = .ok (.ifCond .eq 6, 3) := by decide +kernel
theorem dX11_fits_66 : decode cX11_fits 66 = .ok (.iinc 4 1, 3) := by decide +kernel
theorem dX11_fits_69 : decode cX11_fits 69 = .ok (.iinc 6 1, 3) := by decide +kernel
theorem dX11_fits_72 : decode cX11_fits 72 = .ok (.goto (-31), 3) := by decide +kernel
theorem dX11_fits_75 : decode cX11_fits 75 = .ok (.iinc 5 1, 3) := by decide +kernel
theorem dX11_fits_78 : decode cX11_fits 78 = .ok (.goto (-47), 3) := by decide +kernel
theorem dX11_fits_81 : decode cX11_fits 81 = .ok (.iload 4, 2) := by decide +kernel
theorem dX11_fits_83 : decode cX11_fits 83 = .ok (.ireturn, 1) := by decide +kernel
theorem dX11_which_0 : decode cX11_which 0 = .ok (.iload_n 3, 1) := by decide +kernel
theorem dX11_which_1 : decode cX11_which 1 = .ok (.invokestatic 152, 3) := by decide +kernel
theorem dX11_which_4 : decode cX11_which 4 = .ok (.ifCond .ne 7, 3) := by decide +kernel
theorem dX11_which_7 : decode cX11_which 7 = .ok (.ldc2_w 275, 3) := by decide +kernel
theorem dX11_which_10 : decode cX11_which 10 = .ok (.lreturn, 1) := by decide +kernel
theorem dX11_which_11 : decode cX11_which 11 = .ok (.aload_n 0, 1) := by decide +kernel
theorem dX11_which_12 : decode cX11_which 12 = .ok (.iload_n 1, 1) := by decide +kernel
theorem dX11_which_13 : decode cX11_which 13 = .ok (.iload_n 2, 1) := by decide +kernel
theorem dX11_which_14 : decode cX11_which 14 = .ok (.invokevirtual 325, 3) := by decide +kernel
theorem dX11_which_17 : decode cX11_which 17 = .ok (.istore 4, 2) := by decide +kernel
theorem dX11_which_19 : decode cX11_which 19 = .ok (.iload 4, 2) := by decide +kernel
theorem dX11_which_21 : decode cX11_which 21 = .ok (.ifCond .eq 7, 3) := by decide +kernel
theorem dX11_which_24 : decode cX11_which 24 = .ok (.iload 4, 2) := by decide +kernel
theorem dX11_which_26 : decode cX11_which 26 = .ok (.i2l, 1) := by decide +kernel
theorem dX11_which_27 : decode cX11_which 27 = .ok (.lreturn, 1) := by decide +kernel
theorem dX11_which_28 : decode cX11_which 28 = .ok (.aload_n 0, 1) := by decide +kernel
theorem dX11_which_29 : decode cX11_which 29 = .ok (.getfield 37, 3) := by decide +kernel
theorem dX11_which_32 : decode cX11_which 32 = .ok (.aload_n 0, 1) := by decide +kernel
theorem dX11_which_33 : decode cX11_which 33 = .ok (.getfield 19, 3) := by decide +kernel
theorem dX11_which_36 : decode cX11_which 36 = .ok (.iload_n 2, 1) := by decide +kernel
theorem dX11_which_37 : decode cX11_which 37 = .ok (.invokevirtual 328, 3) := by decide +kernel
theorem dX11_which_40 : decode cX11_which 40 = .ok (.lconst 0, 1) := by decide +kernel
theorem dX11_which_41 : decode cX11_which 41 = .ok (.lstore 5, 2) := by decide +kernel
theorem dX11_which_43 : decode cX11_which 43 = .ok (.iconst 0, 1) := by decide +kernel
theorem dX11_which_44 : decode cX11_which 44 = .ok (.istore 7, 2) := by decide +kernel
theorem dX11_which_46 : decode cX11_which 46 = .ok (.iload 7, 2) := by decide +kernel
theorem dX11_which_48 : decode cX11_which 48 = .ok (.bipush 32, 2) := by decide +kernel
theorem dX11_which_50 : decode cX11_which 50 = .ok (.if_icmp .ge 75, 3) := by decide +kernel
theorem dX11_which_53 : decode cX11_which 53 = .ok (.iconst 0, 1) := by decide +kernel
theorem dX11_which_54 : decode cX11_which 54 = .ok (.istore 8, 2) := by decide +kernel
theorem dX11_which_56 : decode cX11_which 56 = .ok (.iload 8, 2) := by decide +kernel
theorem dX11_which_58 : decode cX11_which 58 = .ok (.bipush 32, 2) := by decide +kernel
theorem dX11_which_60 : decode cX11_which 60 = .ok (.if_icmp .ge 59, 3) := by decide +kernel
theorem dX11_which_63 : decode cX11_which 63 = .ok (.iload_n 3, 1) := by decide +kernel
theorem dX11_which_64 : decode cX11_which 64 = .ok (.ifCond .ne 8, 3) := by decide +kernel
theorem dX11_which_67 : decode cX11_which 67 = .ok (.iload 7, 2) := by decide +kernel
theorem dX11_which_69 : decode cX11_which 69 = .ok (.goto 5, 3) := by decide +kernel
theorem dX11_which_72 : decode cX11_which 72 = .ok (.iload 8, 2) := by decide +kernel
theorem dX11_which_74 : decode cX11_which 74 = .ok (.istore 9, 2) := by decide +kernel
theorem dX11_which_76 : decode cX11_which 76 = .ok (.lload 5, 2) := by decide +kernel
theorem dX11_which_78 : decode cX11_which 78 = .ok (.iload 9, 2) := by decide +kernel
theorem dX11_which_80 : decode cX11_which 80 = .ok (.invokestatic 167, 3) := by decide +kernel
theorem dX11_which_83 : decode cX11_which 83 = .ok (.ifCond .ne 30, 3) := by decide +kernel
theorem dX11_which_86 : decode cX11_which 86 = .ok (.aload_n 0, 1) := by decide +kernel
theorem dX11_which_87 : decode cX11_which 87 = .ok (.getfield 72, 3) := by decide +kernel
theorem dX11_which_90 : decode cX11_which 90 = .ok (.aload_n 0, 1) := by decide +kernel
theorem dX11_which_91 : decode cX11_which 91 = .ok (.getfield 37, 3) := by decide +kernel
theorem dX11_which_94 : decode cX11_which 94 = .ok (.iload 7, 2) := by decide +kernel
theorem dX11_which_96 : decode cX11_which 96 = .ok (.iload 8, 2) := by decide +kernel
theorem dX11_which_98 : decode cX11_which 98 = .ok (.invokevirtual 332, 3) := by decide +kernel
theorem dX11_which_101 : decode cX11_which 101 = .ok (.ifCond .eq 12, 3) := by decide +kernel
theorem dX11_which_104 : decode cX11_which 104 = .ok (.lload 5, 2) := by decide +kernel
theorem dX11_which_106 : decode cX11_which 106 = .ok (.lconst 1, 1) := by decide +kernel
theorem dX11_which_107 : decode cX11_which 107 = .ok (.iload 9, 2) := by decide +kernel
theorem dX11_which_109 : decode cX11_which 109 = .ok (.lshl, 1) := by decide +kernel
theorem dX11_which_110 : decode cX11_which 110 = .ok (.lor, 1) := by decide +kernel
theorem dX11_which_111 : decode cX11_which 111 = .ok (.lstore 5, 2) := by decide +kernel
theorem dX11_which_113 : decode cX11_which 113 = .ok (.iinc 8 1, 3) := by decide +kernel
theorem dX11_which_116 : decode cX11_which 116 = .ok (.goto (-60), 3) := by decide +kernel
theorem dX11_which_119 : decode cX11_which 119 = .ok (.iinc 7 1, 3) := by decide +kernel
theorem dX11_which_122 : decode cX11_which 122 = .ok (.goto (-76), 3) := by decide +kernel
theorem dX11_which_125 : decode cX11_which 125 = .ok (.lload 5, 2) := by decide +kernel
theorem dX11_which_127 : decode cX11_which 127 = .ok (.lreturn, 1) := by decide +kernel
theorem dX11_begun_0 : decode cX11_begun 0 = .ok (.aload_n 0, 1) := by decide +kernel
theorem dX11_begun_1 : decode cX11_begun 1 = .ok (.iload_n 1, 1) := by decide +kernel
theorem dX11_begun_2 : decode cX11_begun 2 = .ok (.iload_n 2, 1) := by decide +kernel
theorem dX11_begun_3 : decode cX11_begun 3 = .ok (.invokevirtual 325, 3) := by decide +kernel
theorem dX11_begun_6 : decode cX11_begun 6 = .ok (.istore_n 3, 1) := by decide +kernel
theorem dX11_begun_7 : decode cX11_begun 7 = .ok (.iload_n 3, 1) := by decide +kernel
theorem dX11_begun_8 : decode cX11_begun 8 = .ok (.ifCond .eq 5, 3) := by decide +kernel
theorem dX11_begun_11 : decode cX11_begun 11 = .ok (.iload_n 3, 1) := by decide +kernel
theorem dX11_begun_12 : decode cX11_begun 12 = .ok (.ireturn, 1) := by decide +kernel
theorem dX11_begun_13 : decode cX11_begun 13 = .ok (.aload_n 0, 1) := by decide +kernel
theorem dX11_begun_14 : decode cX11_begun 14 = .ok (.getfield 37, 3) := by decide +kernel
theorem dX11_begun_17 : decode cX11_begun 17 = .ok (.aload_n 0, 1) := by decide +kernel
theorem dX11_begun_18 : decode cX11_begun 18 = .ok (.getfield 19, 3) := by decide +kernel
theorem dX11_begun_21 : decode cX11_begun 21 = .ok (.iload_n 2, 1) := by decide +kernel
theorem dX11_begun_22 : decode cX11_begun 22 = .ok (.invokevirtual 328, 3) := by decide +kernel
theorem dX11_begun_25 : decode cX11_begun 25 = .ok (.iconst 0, 1) := by decide +kernel
theorem dX11_begun_26 : decode cX11_begun 26 = .ok (.istore 4, 2) := by decide +kernel
theorem dX11_begun_28 : decode cX11_begun 28 = .ok (.iconst 0, 1) := by decide +kernel
theorem dX11_begun_29 : decode cX11_begun 29 = .ok (.istore 5, 2) := by decide +kernel
theorem dX11_begun_31 : decode cX11_begun 31 = .ok (.iload 5, 2) := by decide +kernel
theorem dX11_begun_33 : decode cX11_begun 33 = .ok (.bipush 16, 2) := by decide +kernel
theorem dX11_begun_35 : decode cX11_begun 35 = .ok (.if_icmp .ge 59, 3) := by decide +kernel
theorem dX11_begun_38 : decode cX11_begun 38 = .ok (.aload_n 0, 1) := by decide +kernel
theorem dX11_begun_39 : decode cX11_begun 39 = .ok (.getfield 37, 3) := by decide +kernel
theorem dX11_begun_42 : decode cX11_begun 42 = .ok (.iload 5, 2) := by decide +kernel
theorem dX11_begun_44 : decode cX11_begun 44 = .ok (.putfield 336, 3) := by decide +kernel
theorem dX11_begun_47 : decode cX11_begun 47 = .ok (.aload_n 0, 1) := by decide +kernel
theorem dX11_begun_48 : decode cX11_begun 48 = .ok (.getfield 72, 3) := by decide +kernel
theorem dX11_begun_51 : decode cX11_begun 51 = .ok (.aload_n 0, 1) := by decide +kernel
theorem dX11_begun_52 : decode cX11_begun 52 = .ok (.getfield 37, 3) := by decide +kernel
theorem dX11_begun_55 : decode cX11_begun 55 = .ok (.aload_n 0, 1) := by decide +kernel
theorem dX11_begun_56 : decode cX11_begun 56 = .ok (.getfield 37, 3) := by decide +kernel
theorem dX11_begun_59 : decode cX11_begun 59 = .ok (.getfield 338, 3) := by decide +kernel
theorem dX11_begun_62 : decode cX11_begun 62 = .ok (.iconst 0, 1) := by decide +kernel
theorem dX11_begun_63 : decode cX11_begun 63 = .ok (.iaload, 1) := by decide +kernel
theorem dX11_begun_64 : decode cX11_begun 64 = .ok (.aload_n 0, 1) := by decide +kernel
theorem dX11_begun_65 : decode cX11_begun 65 = .ok (.getfield 37, 3) := by decide +kernel
theorem dX11_begun_68 : decode cX11_begun 68 = .ok (.getfield 338, 3) := by decide +kernel
theorem dX11_begun_71 : decode cX11_begun 71 = .ok (.iconst 1, 1) := by decide +kernel
theorem dX11_begun_72 : decode cX11_begun 72 = .ok (.iaload, 1) := by decide +kernel
theorem dX11_begun_73 : decode cX11_begun 73 = .ok (.invokevirtual 332, 3) := by decide +kernel
theorem dX11_begun_76 : decode cX11_begun 76 = .ok (.ifCond .eq 12, 3) := by decide +kernel
theorem dX11_begun_79 : decode cX11_begun 79 = .ok (.iload 4, 2) := by decide +kernel
theorem dX11_begun_81 : decode cX11_begun 81 = .ok (.iconst 1, 1) := by decide +kernel
theorem dX11_begun_82 : decode cX11_begun 82 = .ok (.iload 5, 2) := by decide +kernel
theorem dX11_begun_84 : decode cX11_begun 84 = .ok (.ishl, 1) := by decide +kernel
theorem dX11_begun_85 : decode cX11_begun 85 = .ok (.ior, 1) := by decide +kernel
theorem dX11_begun_86 : decode cX11_begun 86 = .ok (.istore 4, 2) := by decide +kernel
theorem dX11_begun_88 : decode cX11_begun 88 = .ok (.iinc 5 1, 3) := by decide +kernel
theorem dX11_begun_91 : decode cX11_begun 91 = .ok (.goto (-60), 3) := by decide +kernel
theorem dX11_begun_94 : decode cX11_begun 94 = .ok (.iload 4, 2) := by decide +kernel
theorem dX11_begun_96 : decode cX11_begun 96 = .ok (.ireturn, 1) := by decide +kernel
