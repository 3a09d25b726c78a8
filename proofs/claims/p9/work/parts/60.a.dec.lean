theorem dX11_write_0 : decode cX11_write 0 = .ok (.iload_n 1, 1) := by decide +kernel
theorem dX11_write_1 : decode cX11_write 1 = .ok (.iconst 4, 1) := by decide +kernel
theorem dX11_write_2 : decode cX11_write 2 = .ok (.invokestatic 148, 3) := by decide +kernel
theorem dX11_write_5 : decode cX11_write 5 = .ok (.ifCond .ne 6, 3) := by decide +kernel
theorem dX11_write_8 : decode cX11_write 8 = .ok (.bipush (-2), 2) := by decide +kernel
theorem dX11_write_10 : decode cX11_write 10 = .ok (.ireturn, 1) := by decide +kernel
theorem dX11_write_11 : decode cX11_write 11 = .ok (.aload_n 0, 1) := by decide +kernel
theorem dX11_write_12 : decode cX11_write 12 = .ok (.getfield 65, 3) := by decide +kernel
theorem dX11_write_15 : decode cX11_write 15 = .ok (.iload_n 1, 1) := by decide +kernel
theorem dX11_write_16 : decode cX11_write 16 = .ok (.invokevirtual 394, 3) := by decide +kernel
theorem dX11_write_19 : decode cX11_write 19 = .ok (.ifCond .ne 6, 3) := by decide +kernel
theorem dX11_write_22 : decode cX11_write 22 = .ok (.bipush (-6), 2) := by decide +kernel
theorem dX11_write_24 : decode cX11_write 24 = .ok (.ireturn, 1) := by decide +kernel
theorem dX11_write_25 : decode cX11_write 25 = .ok (.iload_n 2, 1) := by decide +kernel
theorem dX11_write_26 : decode cX11_write 26 = .ok (.aload_n 0, 1) := by decide +kernel
theorem dX11_write_27 : decode cX11_write 27 = .ok (.getfield 65, 3) := by decide +kernel
theorem dX11_write_30 : decode cX11_write 30 = .ok (.getfield 339, 3) := by decide +kernel
theorem dX11_write_33 : decode cX11_write 33 = .ok (.iload_n 1, 1) := by decide +kernel
theorem dX11_write_34 : decode cX11_write 34 = .ok (.iaload, 1) := by decide +kernel
theorem dX11_write_35 : decode cX11_write 35 = .ok (.invokestatic 148, 3) := by decide +kernel
theorem dX11_write_38 : decode cX11_write 38 = .ok (.ifCond .ne 6, 3) := by decide +kernel
theorem dX11_write_41 : decode cX11_write 41 = .ok (.bipush (-7), 2) := by decide +kernel
theorem dX11_write_43 : decode cX11_write 43 = .ok (.ireturn, 1) := by decide +kernel
theorem dX11_write_44 : decode cX11_write 44 = .ok (.aload_n 0, 1) := by decide +kernel
theorem dX11_write_45 : decode cX11_write 45 = .ok (.getfield 65, 3) := by decide +kernel
theorem dX11_write_48 : decode cX11_write 48 = .ok (.iload_n 1, 1) := by decide +kernel
theorem dX11_write_49 : decode cX11_write 49 = .ok (.iload_n 2, 1) := by decide +kernel
theorem dX11_write_50 : decode cX11_write 50 = .ok (.lload_n 3, 1) := by decide +kernel
theorem dX11_write_51 : decode cX11_write 51 = .ok (.invokevirtual 397, 3) := by decide +kernel
theorem dX11_write_54 : decode cX11_write 54 = .ok (.iconst 0, 1) := by decide +kernel
theorem dX11_write_55 : decode cX11_write 55 = .ok (.ireturn, 1) := by decide +kernel
theorem dX11_paste_0 : decode cX11_paste 0 = .ok (.iload_n 1, 1) := by decide +kernel
theorem dX11_paste_1 : decode cX11_paste 1 = .ok (.iconst 4, 1) := by decide +kernel
theorem dX11_paste_2 : decode cX11_paste 2 = .ok (.invokestatic 148, 3) := by decide +kernel
theorem dX11_paste_5 : decode cX11_paste 5 = .ok (.ifCond .eq 11, 3) := by decide +kernel
theorem dX11_paste_8 : decode cX11_paste 8 = .ok (.iload_n 3, 1) := by decide +kernel
theorem dX11_paste_9 : decode cX11_paste 9 = .ok (.iconst 4, 1) := by decide +kernel
theorem dX11_paste_10 : decode cX11_paste 10 = .ok (.invokestatic 148, 3) := by decide +kernel
theorem dX11_paste_13 : decode cX11_paste 13 = .ok (.ifCond .ne 6, 3) := by decide +kernel
theorem dX11_paste_16 : decode cX11_paste 16 = .ok (.bipush (-2), 2) := by decide +kernel
theorem dX11_paste_18 : decode cX11_paste 18 = .ok (.ireturn, 1) := by decide +kernel
theorem dX11_paste_19 : decode cX11_paste 19 = .ok (.aload_n 0, 1) := by decide +kernel
theorem dX11_paste_20 : decode cX11_paste 20 = .ok (.getfield 65, 3) := by decide +kernel
theorem dX11_paste_23 : decode cX11_paste 23 = .ok (.iload_n 1, 1) := by decide +kernel
theorem dX11_paste_24 : decode cX11_paste 24 = .ok (.invokevirtual 394, 3) := by decide +kernel
theorem dX11_paste_27 : decode cX11_paste 27 = .ok (.ifCond .eq 14, 3) := by decide +kernel
theorem dX11_paste_30 : decode cX11_paste 30 = .ok (.aload_n 0, 1) := by decide +kernel
theorem dX11_paste_31 : decode cX11_paste 31 = .ok (.getfield 65, 3) := by decide +kernel
theorem dX11_paste_34 : decode cX11_paste 34 = .ok (.iload_n 3, 1) := by decide +kernel
theorem dX11_paste_35 : decode cX11_paste 35 = .ok (.invokevirtual 394, 3) := by decide +kernel
theorem dX11_paste_38 : decode cX11_paste 38 = .ok (.ifCond .ne 6, 3) := by decide +kernel
theorem dX11_paste_41 : decode cX11_paste 41 = .ok (.bipush (-6), 2) := by decide +kernel
theorem dX11_paste_43 : decode cX11_paste 43 = .ok (.ireturn, 1) := by decide +kernel
theorem dX11_paste_44 : decode cX11_paste 44 = .ok (.aload_n 0, 1) := by decide +kernel
theorem dX11_paste_45 : decode cX11_paste 45 = .ok (.getfield 65, 3) := by decide +kernel
theorem dX11_paste_48 : decode cX11_paste 48 = .ok (.getfield 401, 3) := by decide +kernel
theorem dX11_paste_51 : decode cX11_paste 51 = .ok (.iload_n 1, 1) := by decide +kernel
theorem dX11_paste_52 : decode cX11_paste 52 = .ok (.iaload, 1) := by decide +kernel
theorem dX11_paste_53 : decode cX11_paste 53 = .ok (.aload_n 0, 1) := by decide +kernel
theorem dX11_paste_54 : decode cX11_paste 54 = .ok (.getfield 65, 3) := by decide +kernel
theorem dX11_paste_57 : decode cX11_paste 57 = .ok (.getfield 401, 3) := by decide +kernel
theorem dX11_paste_60 : decode cX11_paste 60 = .ok (.iload_n 3, 1) := by decide +kernel
theorem dX11_paste_61 : decode cX11_paste 61 = .ok (.iaload, 1) := by decide +kernel
theorem dX11_paste_62 : decode cX11_paste 62 = .ok (.if_icmp .eq 6, 3) := by decide +kernel
theorem dX11_paste_65 : decode cX11_paste 65 = .ok (.bipush (-8), 2) := by decide +kernel
theorem dX11_paste_67 : decode cX11_paste 67 = .ok (.ireturn, 1) := by decide +kernel
theorem dX11_paste_68 : decode cX11_paste 68 = .ok (.aload_n 0, 1) := by decide +kernel
theorem dX11_paste_69 : decode cX11_paste 69 = .ok (.getfield 65, 3) := by decide +kernel
theorem dX11_paste_72 : decode cX11_paste 72 = .ok (.iload_n 1, 1) := by decide +kernel
theorem dX11_paste_73 : decode cX11_paste 73 = .ok (.iload_n 2, 1) := by decide +kernel
theorem dX11_paste_74 : decode cX11_paste 74 = .ok (.iload 5, 2) := by decide +kernel
theorem dX11_paste_76 : decode cX11_paste 76 = .ok (.invokevirtual 404, 3) := by decide +kernel
theorem dX11_paste_79 : decode cX11_paste 79 = .ok (.ifCond .eq 18, 3) := by decide +kernel
theorem dX11_paste_82 : decode cX11_paste 82 = .ok (.aload_n 0, 1) := by decide +kernel
theorem dX11_paste_83 : decode cX11_paste 83 = .ok (.getfield 65, 3) := by decide +kernel
theorem dX11_paste_86 : decode cX11_paste 86 = .ok (.iload_n 3, 1) := by decide +kernel
theorem dX11_paste_87 : decode cX11_paste 87 = .ok (.iload 4, 2) := by decide +kernel
theorem dX11_paste_89 : decode cX11_paste 89 = .ok (.iload 5, 2) := by decide +kernel
theorem dX11_paste_91 : decode cX11_paste 91 = .ok (.invokevirtual 404, 3) := by decide +kernel
theorem dX11_paste_94 : decode cX11_paste 94 = .ok (.ifCond .ne 6, 3) := by decide +kernel
theorem dX11_paste_97 : decode cX11_paste 97 = .ok (.bipush (-7), 2) := by decide +kernel
theorem dX11_paste_99 : decode cX11_paste 99 = .ok (.ireturn, 1) := by decide +kernel
theorem dX11_paste_100 : decode cX11_paste 100 = .ok (.aload_n 0, 1) := by decide +kernel
theorem dX11_paste_101 : decode cX11_paste 101 = .ok (.getfield 65, 3) := by decide +kernel
theorem dX11_paste_104 : decode cX11_paste 104 = .ok (.iload_n 1, 1) := by decide +kernel
theorem dX11_paste_105 : decode cX11_paste 105 = .ok (.iload_n 2, 1) := by decide +kernel
theorem dX11_paste_106 : decode cX11_paste 106 = .ok (.iload_n 3, 1) := by decide +kernel
theorem dX11_paste_107 : decode cX11_paste 107 = .ok (.iload 4, 2) := by decide +kernel
theorem dX11_paste_109 : decode cX11_paste 109 = .ok (.iload 5, 2) := by decide +kernel
theorem dX11_paste_111 : decode cX11_paste 111 = .ok (.invokevirtual 407, 3) := by decide +kernel
theorem dX11_paste_114 : decode cX11_paste 114 = .ok (.iconst 0, 1) := by decide +kernel
theorem dX11_paste_115 : decode cX11_paste 115 = .ok (.ireturn, 1) := by decide +kernel
