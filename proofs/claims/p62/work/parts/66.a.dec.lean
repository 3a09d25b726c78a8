theorem dX12_lostLine_0 : decode cX12_lostLine 0 = .ok (.aload_n 0, 1) := by decide +kernel
theorem dX12_lostLine_1 : decode cX12_lostLine 1 = .ok (.invokevirtual 216, 3) := by decide +kernel
theorem dX12_lostLine_4 : decode cX12_lostLine 4 = .ok (.istore_n 1, 1) := by decide +kernel
theorem dX12_lostLine_5 : decode cX12_lostLine 5 = .ok (.aload_n 0, 1) := by decide +kernel
theorem dX12_lostLine_6 : decode cX12_lostLine 6 = .ok (.invokevirtual 206, 3) := by decide +kernel
theorem dX12_lostLine_9 : decode cX12_lostLine 9 = .ok (.istore_n 2, 1) := by decide +kernel
theorem dX12_lostLine_10 : decode cX12_lostLine 10 = .ok (.aload_n 0, 1) := by decide +kernel
theorem dX12_lostLine_11 : decode cX12_lostLine 11 = .ok (.getfield 159, 3) := by decide +kernel
theorem dX12_lostLine_14 : decode cX12_lostLine 14 = .ok (.ifCond .ne 42, 3) := by decide +kernel
theorem dX12_lostLine_17 : decode cX12_lostLine 17 = .ok (.aload_n 0, 1) := by decide +kernel
theorem dX12_lostLine_18 : decode cX12_lostLine 18 = .ok (.getfield 148, 3) := by decide +kernel
theorem dX12_lostLine_21 : decode cX12_lostLine 21 = .ok (.iconst 2, 1) := by decide +kernel
theorem dX12_lostLine_22 : decode cX12_lostLine 22 = .ok (.if_icmp .ne 34, 3) := by decide +kernel
theorem dX12_lostLine_25 : decode cX12_lostLine 25 = .ok (.aload_n 0, 1) := by decide +kernel
theorem dX12_lostLine_26 : decode cX12_lostLine 26 = .ok (.getfield 141, 3) := by decide +kernel
theorem dX12_lostLine_29 : decode cX12_lostLine 29 = .ok (.aload_n 0, 1) := by decide +kernel
theorem dX12_lostLine_30 : decode cX12_lostLine 30 = .ok (.iconst 3, 1) := by decide +kernel
theorem dX12_lostLine_31 : decode cX12_lostLine 31 = .ok (.invokevirtual 189, 3) := by decide +kernel
theorem dX12_lostLine_34 : decode cX12_lostLine 34 = .ok (.if_icmp .ge 22, 3) := by decide +kernel
theorem dX12_lostLine_37 : decode cX12_lostLine 37 = .ok (.aload_n 0, 1) := by decide +kernel
theorem dX12_lostLine_38 : decode cX12_lostLine 38 = .ok (.iconst 4, 1) := by decide +kernel
theorem dX12_lostLine_39 : decode cX12_lostLine 39 = .ok (.iload_n 2, 1) := by decide +kernel
theorem dX12_lostLine_40 : decode cX12_lostLine 40 = .ok (.aload_n 0, 1) := by decide +kernel
theorem dX12_lostLine_41 : decode cX12_lostLine 41 = .ok (.getfield 141, 3) := by decide +kernel
theorem dX12_lostLine_44 : decode cX12_lostLine 44 = .ok (.invokevirtual 210, 3) := by decide +kernel
theorem dX12_lostLine_47 : decode cX12_lostLine 47 = .ok (.iconst (-1), 1) := by decide +kernel
theorem dX12_lostLine_48 : decode cX12_lostLine 48 = .ok (.if_icmp .ne 8, 3) := by decide +kernel
theorem dX12_lostLine_51 : decode cX12_lostLine 51 = .ok (.aload_n 0, 1) := by decide +kernel
theorem dX12_lostLine_52 : decode cX12_lostLine 52 = .ok (.iconst 2, 1) := by decide +kernel
theorem dX12_lostLine_53 : decode cX12_lostLine 53 = .ok (.invokevirtual 175, 3) := by decide +kernel
theorem dX12_lostLine_56 : decode cX12_lostLine 56 = .ok (.aload_n 0, 1) := by decide +kernel
theorem dX12_lostLine_57 : decode cX12_lostLine 57 = .ok (.invokevirtual 206, 3) := by decide +kernel
theorem dX12_lostLine_60 : decode cX12_lostLine 60 = .ok (.istore_n 3, 1) := by decide +kernel
theorem dX12_lostLine_61 : decode cX12_lostLine 61 = .ok (.aload_n 0, 1) := by decide +kernel
theorem dX12_lostLine_62 : decode cX12_lostLine 62 = .ok (.getfield 159, 3) := by decide +kernel
theorem dX12_lostLine_65 : decode cX12_lostLine 65 = .ok (.ifCond .eq 4, 3) := by decide +kernel
theorem dX12_lostLine_68 : decode cX12_lostLine 68 = .ok (.return_, 1) := by decide +kernel
theorem dX12_lostLine_69 : decode cX12_lostLine 69 = .ok (.aload_n 0, 1) := by decide +kernel
theorem dX12_lostLine_70 : decode cX12_lostLine 70 = .ok (.iconst 4, 1) := by decide +kernel
theorem dX12_lostLine_71 : decode cX12_lostLine 71 = .ok (.iload_n 2, 1) := by decide +kernel
theorem dX12_lostLine_72 : decode cX12_lostLine 72 = .ok (.iload_n 3, 1) := by decide +kernel
theorem dX12_lostLine_73 : decode cX12_lostLine 73 = .ok (.invokevirtual 210, 3) := by decide +kernel
theorem dX12_lostLine_76 : decode cX12_lostLine 76 = .ok (.istore 4, 2) := by decide +kernel
theorem dX12_lostLine_78 : decode cX12_lostLine 78 = .ok (.aload_n 0, 1) := by decide +kernel
theorem dX12_lostLine_79 : decode cX12_lostLine 79 = .ok (.getfield 40, 3) := by decide +kernel
theorem dX12_lostLine_82 : decode cX12_lostLine 82 = .ok (.iconst 3, 1) := by decide +kernel
theorem dX12_lostLine_83 : decode cX12_lostLine 83 = .ok (.bipush 64, 2) := by decide +kernel
theorem dX12_lostLine_85 : decode cX12_lostLine 85 = .ok (.iload 4, 2) := by decide +kernel
theorem dX12_lostLine_87 : decode cX12_lostLine 87 = .ok (.iadd, 1) := by decide +kernel
theorem dX12_lostLine_88 : decode cX12_lostLine 88 = .ok (.imul, 1) := by decide +kernel
theorem dX12_lostLine_89 : decode cX12_lostLine 89 = .ok (.iaload, 1) := by decide +kernel
theorem dX12_lostLine_90 : decode cX12_lostLine 90 = .ok (.iload_n 2, 1) := by decide +kernel
theorem dX12_lostLine_91 : decode cX12_lostLine 91 = .ok (.if_icmp .ne 7, 3) := by decide +kernel
theorem dX12_lostLine_94 : decode cX12_lostLine 94 = .ok (.iconst 0, 1) := by decide +kernel
theorem dX12_lostLine_95 : decode cX12_lostLine 95 = .ok (.goto 4, 3) := by decide +kernel
theorem dX12_lostLine_98 : decode cX12_lostLine 98 = .ok (.iconst 1, 1) := by decide +kernel
theorem dX12_lostLine_99 : decode cX12_lostLine 99 = .ok (.istore 5, 2) := by decide +kernel
theorem dX12_lostLine_101 : decode cX12_lostLine 101 = .ok (.aload_n 0, 1) := by decide +kernel
theorem dX12_lostLine_102 : decode cX12_lostLine 102 = .ok (.getfield 43, 3) := by decide +kernel
theorem dX12_lostLine_105 : decode cX12_lostLine 105 = .ok (.iconst 2, 1) := by decide +kernel
theorem dX12_lostLine_106 : decode cX12_lostLine 106 = .ok (.bipush 64, 2) := by decide +kernel
theorem dX12_lostLine_108 : decode cX12_lostLine 108 = .ok (.iload 4, 2) := by decide +kernel
theorem dX12_lostLine_110 : decode cX12_lostLine 110 = .ok (.iadd, 1) := by decide +kernel
theorem dX12_lostLine_111 : decode cX12_lostLine 111 = .ok (.imul, 1) := by decide +kernel
theorem dX12_lostLine_112 : decode cX12_lostLine 112 = .ok (.iload 5, 2) := by decide +kernel
theorem dX12_lostLine_114 : decode cX12_lostLine 114 = .ok (.iadd, 1) := by decide +kernel
theorem dX12_lostLine_115 : decode cX12_lostLine 115 = .ok (.dup2, 1) := by decide +kernel
theorem dX12_lostLine_116 : decode cX12_lostLine 116 = .ok (.laload, 1) := by decide +kernel
theorem dX12_lostLine_117 : decode cX12_lostLine 117 = .ok (.lconst 1, 1) := by decide +kernel
theorem dX12_lostLine_118 : decode cX12_lostLine 118 = .ok (.iload_n 1, 1) := by decide +kernel
theorem dX12_lostLine_119 : decode cX12_lostLine 119 = .ok (.lshl, 1) := by decide +kernel
theorem dX12_lostLine_120 : decode cX12_lostLine 120 = .ok (.lor, 1) := by decide +kernel
theorem dX12_lostLine_121 : decode cX12_lostLine 121 = .ok (.lastore, 1) := by decide +kernel
theorem dX12_lostLine_122 : decode cX12_lostLine 122 = .ok (.return_, 1) := by decide +kernel
