theorem dX11_mantel_0 : decode cX11_mantel 0 = .ok (.aload_n 0, 1) := by decide +kernel
theorem dX11_mantel_1 : decode cX11_mantel 1 = .ok (.getfield 19, 3) := by decide +kernel
theorem dX11_mantel_4 : decode cX11_mantel 4 = .ok (.iload_n 1, 1) := by decide +kernel
theorem dX11_mantel_5 : decode cX11_mantel 5 = .ok (.invokevirtual 115, 3) := by decide +kernel
theorem dX11_mantel_8 : decode cX11_mantel 8 = .ok (.ifCond .eq 14, 3) := by decide +kernel
theorem dX11_mantel_11 : decode cX11_mantel 11 = .ok (.aload_n 0, 1) := by decide +kernel
theorem dX11_mantel_12 : decode cX11_mantel 12 = .ok (.getfield 19, 3) := by decide +kernel
theorem dX11_mantel_15 : decode cX11_mantel 15 = .ok (.iload_n 2, 1) := by decide +kernel
theorem dX11_mantel_16 : decode cX11_mantel 16 = .ok (.invokevirtual 184, 3) := by decide +kernel
theorem dX11_mantel_19 : decode cX11_mantel 19 = .ok (.ifCond .ne 6, 3) := by decide +kernel
theorem dX11_mantel_22 : decode cX11_mantel 22 = .ok (.bipush (-2), 2) := by decide +kernel
theorem dX11_mantel_24 : decode cX11_mantel 24 = .ok (.ireturn, 1) := by decide +kernel
theorem dX11_mantel_25 : decode cX11_mantel 25 = .ok (.aload_n 0, 1) := by decide +kernel
theorem dX11_mantel_26 : decode cX11_mantel 26 = .ok (.iload_n 1, 1) := by decide +kernel
theorem dX11_mantel_27 : decode cX11_mantel 27 = .ok (.iload_n 2, 1) := by decide +kernel
theorem dX11_mantel_28 : decode cX11_mantel 28 = .ok (.invokevirtual 201, 3) := by decide +kernel
theorem dX11_mantel_31 : decode cX11_mantel 31 = .ok (.invokestatic 204, 3) := by decide +kernel
theorem dX11_mantel_34 : decode cX11_mantel 34 = .ok (.ireturn, 1) := by decide +kernel
theorem dX11_whose_0 : decode cX11_whose 0 = .ok (.aload_n 0, 1) := by decide +kernel
theorem dX11_whose_1 : decode cX11_whose 1 = .ok (.getfield 19, 3) := by decide +kernel
theorem dX11_whose_4 : decode cX11_whose 4 = .ok (.iload_n 1, 1) := by decide +kernel
theorem dX11_whose_5 : decode cX11_whose 5 = .ok (.invokevirtual 115, 3) := by decide +kernel
theorem dX11_whose_8 : decode cX11_whose 8 = .ok (.ifCond .eq 14, 3) := by decide +kernel
theorem dX11_whose_11 : decode cX11_whose 11 = .ok (.aload_n 0, 1) := by decide +kernel
theorem dX11_whose_12 : decode cX11_whose 12 = .ok (.getfield 19, 3) := by decide +kernel
theorem dX11_whose_15 : decode cX11_whose 15 = .ok (.iload_n 2, 1) := by decide +kernel
theorem dX11_whose_16 : decode cX11_whose 16 = .ok (.invokevirtual 184, 3) := by decide +kernel
theorem dX11_whose_19 : decode cX11_whose 19 = .ok (.ifCond .ne 6, 3) := by decide +kernel
theorem dX11_whose_22 : decode cX11_whose 22 = .ok (.bipush (-2), 2) := by decide +kernel
theorem dX11_whose_24 : decode cX11_whose 24 = .ok (.ireturn, 1) := by decide +kernel
theorem dX11_whose_25 : decode cX11_whose 25 = .ok (.aload_n 0, 1) := by decide +kernel
theorem dX11_whose_26 : decode cX11_whose 26 = .ok (.iload_n 1, 1) := by decide +kernel
theorem dX11_whose_27 : decode cX11_whose 27 = .ok (.iload_n 2, 1) := by decide +kernel
theorem dX11_whose_28 : decode cX11_whose 28 = .ok (.invokevirtual 201, 3) := by decide +kernel
theorem dX11_whose_31 : decode cX11_whose 31 = .ok (.ireturn, 1) := by decide +kernel
theorem dX11_hurts_0 : decode cX11_hurts 0 = .ok (.aload_n 0, 1) := by decide +kernel
theorem dX11_hurts_1 : decode cX11_hurts 1 = .ok (.getfield 19, 3) := by decide +kernel
theorem dX11_hurts_4 : decode cX11_hurts 4 = .ok (.iload_n 1, 1) := by decide +kernel
theorem dX11_hurts_5 : decode cX11_hurts 5 = .ok (.invokevirtual 115, 3) := by decide +kernel
theorem dX11_hurts_8 : decode cX11_hurts 8 = .ok (.ifCond .eq 11, 3) := by decide +kernel
theorem dX11_hurts_11 : decode cX11_hurts 11 = .ok (.iload_n 2, 1) := by decide +kernel
theorem dX11_hurts_12 : decode cX11_hurts 12 = .ok (.iconst 2, 1) := by decide +kernel
theorem dX11_hurts_13 : decode cX11_hurts 13 = .ok (.invokestatic 148, 3) := by decide +kernel
theorem dX11_hurts_16 : decode cX11_hurts 16 = .ok (.ifCond .ne 6, 3) := by decide +kernel
theorem dX11_hurts_19 : decode cX11_hurts 19 = .ok (.bipush (-2), 2) := by decide +kernel
theorem dX11_hurts_21 : decode cX11_hurts 21 = .ok (.ireturn, 1) := by decide +kernel
theorem dX11_hurts_22 : decode cX11_hurts 22 = .ok (.aload_n 0, 1) := by decide +kernel
theorem dX11_hurts_23 : decode cX11_hurts 23 = .ok (.invokevirtual 159, 3) := by decide +kernel
theorem dX11_hurts_26 : decode cX11_hurts 26 = .ok (.astore_n 3, 1) := by decide +kernel
theorem dX11_hurts_27 : decode cX11_hurts 27 = .ok (.iconst 0, 1) := by decide +kernel
theorem dX11_hurts_28 : decode cX11_hurts 28 = .ok (.istore 4, 2) := by decide +kernel
theorem dX11_hurts_30 : decode cX11_hurts 30 = .ok (.iconst 0, 1) := by decide +kernel
theorem dX11_hurts_31 : decode cX11_hurts 31 = .ok (.istore 5, 2) := by decide +kernel
theorem dX11_hurts_33 : decode cX11_hurts 33 = .ok (.iload 5, 2) := by decide +kernel
theorem dX11_hurts_35 : decode cX11_hurts 35 = .ok (.iconst 2, 1) := by decide +kernel
theorem dX11_hurts_36 : decode cX11_hurts 36 = .ok (.aload_n 0, 1) := by decide +kernel
theorem dX11_hurts_37 : decode cX11_hurts 37 = .ok (.getfield 19, 3) := by decide +kernel
theorem dX11_hurts_40 : decode cX11_hurts 40 = .ok (.getfield 194, 3) := by decide +kernel
theorem dX11_hurts_43 : decode cX11_hurts 43 = .ok (.imul, 1) := by decide +kernel
theorem dX11_hurts_44 : decode cX11_hurts 44 = .ok (.if_icmp .ge 73, 3) := by decide +kernel
theorem dX11_hurts_47 : decode cX11_hurts 47 = .ok (.aload_n 0, 1) := by decide +kernel
theorem dX11_hurts_48 : decode cX11_hurts 48 = .ok (.getfield 19, 3) := by decide +kernel
theorem dX11_hurts_51 : decode cX11_hurts 51 = .ok (.getfield 138, 3) := by decide +kernel
theorem dX11_hurts_54 : decode cX11_hurts 54 = .ok (.iload 5, 2) := by decide +kernel
theorem dX11_hurts_56 : decode cX11_hurts 56 = .ok (.iaload, 1) := by decide +kernel
theorem dX11_hurts_57 : decode cX11_hurts 57 = .ok (.iload_n 1, 1) := by decide +kernel
theorem dX11_hurts_58 : decode cX11_hurts 58 = .ok (.if_icmp .ne 53, 3) := by decide +kernel
theorem dX11_hurts_61 : decode cX11_hurts 61 = .ok (.aload_n 3, 1) := by decide +kernel
theorem dX11_hurts_62 : decode cX11_hurts 62 = .ok (.iload 5, 2) := by decide +kernel
theorem dX11_hurts_64 : decode cX11_hurts 64 = .ok (.invokevirtual 197, 3) := by decide +kernel
theorem dX11_hurts_67 : decode cX11_hurts 67 = .ok (.lstore 6, 2) := by decide +kernel
theorem dX11_hurts_69 : decode cX11_hurts 69 = .ok (.aload_n 3, 1) := by decide +kernel
theorem dX11_hurts_70 : decode cX11_hurts 70 = .ok (.getfield 174, 3) := by decide +kernel
theorem dX11_hurts_73 : decode cX11_hurts 73 = .ok (.iload 5, 2) := by decide +kernel
theorem dX11_hurts_75 : decode cX11_hurts 75 = .ok (.laload, 1) := by decide +kernel
theorem dX11_hurts_76 : decode cX11_hurts 76 = .ok (.lstore 8, 2) := by decide +kernel
theorem dX11_hurts_78 : decode cX11_hurts 78 = .ok (.iload 4, 2) := by decide +kernel
theorem dX11_hurts_80 : decode cX11_hurts 80 = .ok (.iload_n 2, 1) := by decide +kernel
theorem dX11_hurts_81 : decode cX11_hurts 81 = .ok (.ifCond .ne 15, 3) := by decide +kernel
theorem dX11_hurts_84 : decode cX11_hurts 84 = .ok (.lload 6, 2) := by decide +kernel
theorem dX11_hurts_86 : decode cX11_hurts 86 = .ok (.lload 8, 2) := by decide +kernel
theorem dX11_hurts_88 : decode cX11_hurts 88 = .ok (.ldc2_w 210, 3) := by decide +kernel
theorem dX11_hurts_91 : decode cX11_hurts 91 = .ok (.lxor, 1) := by decide +kernel
theorem dX11_hurts_92 : decode cX11_hurts 92 = .ok (.land, 1) := by decide +kernel
theorem dX11_hurts_93 : decode cX11_hurts 93 = .ok (.goto 12, 3) := by decide +kernel
theorem dX11_hurts_96 : decode cX11_hurts 96 = .ok (.lload 8, 2) := by decide +kernel
theorem dX11_hurts_98 : decode cX11_hurts 98 = .ok (.lload 6, 2) := by decide +kernel
theorem dX11_hurts_100 : decode cX11_hurts 100 = .ok (.ldc2_w 210, 3) := by decide +kernel
theorem dX11_hurts_103 : decode cX11_hurts 103 = .ok (.lxor, 1) := by decide +kernel
theorem dX11_hurts_104 : decode cX11_hurts 104 = .ok (.land, 1) := by decide +kernel
theorem dX11_hurts_105 : decode cX11_hurts 105 = .ok (.invokestatic 212, 3) := by decide +kernel
theorem dX11_hurts_108 : decode cX11_hurts 108 = .ok (.iadd, 1) := by decide +kernel
theorem dX11_hurts_109 : decode cX11_hurts 109 = .ok (.istore 4, 2) := by decide +kernel
theorem dX11_hurts_111 : decode cX11_hurts 111 = .ok (.iinc 5 1, 3) := by decide +kernel
theorem dX11_hurts_114 : decode cX11_hurts 114 = .ok (.goto (-81), 3) := by decide +kernel
theorem dX11_hurts_117 : decode cX11_hurts 117 = .ok (.iload 4, 2) := by decide +kernel
theorem dX11_hurts_119 : decode cX11_hurts 119 = .ok (.ireturn, 1) := by decide +kernel
