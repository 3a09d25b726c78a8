theorem dX12_quitOf_0 : decode cX12_quitOf 0 = .ok (.aload_n 0, 1) := by decide +kernel
theorem dX12_quitOf_1 : decode cX12_quitOf 1 = .ok (.getfield 40, 3) := by decide +kernel
theorem dX12_quitOf_4 : decode cX12_quitOf 4 = .ok (.iconst 3, 1) := by decide +kernel
theorem dX12_quitOf_5 : decode cX12_quitOf 5 = .ok (.iload_n 1, 1) := by decide +kernel
theorem dX12_quitOf_6 : decode cX12_quitOf 6 = .ok (.imul, 1) := by decide +kernel
theorem dX12_quitOf_7 : decode cX12_quitOf 7 = .ok (.iconst 2, 1) := by decide +kernel
theorem dX12_quitOf_8 : decode cX12_quitOf 8 = .ok (.iadd, 1) := by decide +kernel
theorem dX12_quitOf_9 : decode cX12_quitOf 9 = .ok (.iaload, 1) := by decide +kernel
theorem dX12_quitOf_10 : decode cX12_quitOf 10 = .ok (.istore 4, 2) := by decide +kernel
theorem dX12_quitOf_12 : decode cX12_quitOf 12 = .ok (.iconst 0, 1) := by decide +kernel
theorem dX12_quitOf_13 : decode cX12_quitOf 13 = .ok (.istore 5, 2) := by decide +kernel
theorem dX12_quitOf_15 : decode cX12_quitOf 15 = .ok (.iconst 0, 1) := by decide +kernel
theorem dX12_quitOf_16 : decode cX12_quitOf 16 = .ok (.istore 6, 2) := by decide +kernel
theorem dX12_quitOf_18 : decode cX12_quitOf 18 = .ok (.iload 6, 2) := by decide +kernel
theorem dX12_quitOf_20 : decode cX12_quitOf 20 = .ok (.aload_n 0, 1) := by decide +kernel
theorem dX12_quitOf_21 : decode cX12_quitOf 21 = .ok (.getfield 34, 3) := by decide +kernel
theorem dX12_quitOf_24 : decode cX12_quitOf 24 = .ok (.iconst 0, 1) := by decide +kernel
theorem dX12_quitOf_25 : decode cX12_quitOf 25 = .ok (.iaload, 1) := by decide +kernel
theorem dX12_quitOf_26 : decode cX12_quitOf 26 = .ok (.if_icmp .ge 69, 3) := by decide +kernel
theorem dX12_quitOf_29 : decode cX12_quitOf 29 = .ok (.aload_n 0, 1) := by decide +kernel
theorem dX12_quitOf_30 : decode cX12_quitOf 30 = .ok (.iload_n 1, 1) := by decide +kernel
theorem dX12_quitOf_31 : decode cX12_quitOf 31 = .ok (.iload 6, 2) := by decide +kernel
theorem dX12_quitOf_33 : decode cX12_quitOf 33 = .ok (.invokevirtual 330, 3) := by decide +kernel
theorem dX12_quitOf_36 : decode cX12_quitOf 36 = .ok (.iload 6, 2) := by decide +kernel
theorem dX12_quitOf_38 : decode cX12_quitOf 38 = .ok (.iload_n 3, 1) := by decide +kernel
theorem dX12_quitOf_39 : decode cX12_quitOf 39 = .ok (.if_icmp .lt 10, 3) := by decide +kernel
theorem dX12_quitOf_42 : decode cX12_quitOf 42 = .ok (.aload_n 0, 1) := by decide +kernel
theorem dX12_quitOf_43 : decode cX12_quitOf 43 = .ok (.getfield 56, 3) := by decide +kernel
theorem dX12_quitOf_46 : decode cX12_quitOf 46 = .ok (.iload_n 2, 1) := by decide +kernel
theorem dX12_quitOf_47 : decode cX12_quitOf 47 = .ok (.iconst 0, 1) := by decide +kernel
theorem dX12_quitOf_48 : decode cX12_quitOf 48 = .ok (.bastore, 1) := by decide +kernel
theorem dX12_quitOf_49 : decode cX12_quitOf 49 = .ok (.aload_n 0, 1) := by decide +kernel
theorem dX12_quitOf_50 : decode cX12_quitOf 50 = .ok (.iload 4, 2) := by decide +kernel
theorem dX12_quitOf_52 : decode cX12_quitOf 52 = .ok (.invokevirtual 333, 3) := by decide +kernel
theorem dX12_quitOf_55 : decode cX12_quitOf 55 = .ok (.istore 4, 2) := by decide +kernel
theorem dX12_quitOf_57 : decode cX12_quitOf 57 = .ok (.iload 5, 2) := by decide +kernel
theorem dX12_quitOf_59 : decode cX12_quitOf 59 = .ok (.aload_n 0, 1) := by decide +kernel
theorem dX12_quitOf_60 : decode cX12_quitOf 60 = .ok (.getfield 62, 3) := by decide +kernel
theorem dX12_quitOf_63 : decode cX12_quitOf 63 = .ok (.iconst 1, 1) := by decide +kernel
theorem dX12_quitOf_64 : decode cX12_quitOf 64 = .ok (.iload_n 2, 1) := by decide +kernel
theorem dX12_quitOf_65 : decode cX12_quitOf 65 = .ok (.isub, 1) := by decide +kernel
theorem dX12_quitOf_66 : decode cX12_quitOf 66 = .ok (.iaload, 1) := by decide +kernel
theorem dX12_quitOf_67 : decode cX12_quitOf 67 = .ok (.ifCond .le 18, 3) := by decide +kernel
theorem dX12_quitOf_70 : decode cX12_quitOf 70 = .ok (.aload_n 0, 1) := by decide +kernel
theorem dX12_quitOf_71 : decode cX12_quitOf 71 = .ok (.getfield 65, 3) := by decide +kernel
theorem dX12_quitOf_74 : decode cX12_quitOf 74 = .ok (.iconst 1, 1) := by decide +kernel
theorem dX12_quitOf_75 : decode cX12_quitOf 75 = .ok (.iload_n 2, 1) := by decide +kernel
theorem dX12_quitOf_76 : decode cX12_quitOf 76 = .ok (.isub, 1) := by decide +kernel
theorem dX12_quitOf_77 : decode cX12_quitOf 77 = .ok (.baload, 1) := by decide +kernel
theorem dX12_quitOf_78 : decode cX12_quitOf 78 = .ok (.ifCond .ne 7, 3) := by decide +kernel
theorem dX12_quitOf_81 : decode cX12_quitOf 81 = .ok (.iconst 1, 1) := by decide +kernel
theorem dX12_quitOf_82 : decode cX12_quitOf 82 = .ok (.goto 4, 3) := by decide +kernel
theorem dX12_quitOf_85 : decode cX12_quitOf 85 = .ok (.iconst 0, 1) := by decide +kernel
theorem dX12_quitOf_86 : decode cX12_quitOf 86 = .ok (.iadd, 1) := by decide +kernel
theorem dX12_quitOf_87 : decode cX12_quitOf 87 = .ok (.istore 5, 2) := by decide +kernel
theorem dX12_quitOf_89 : decode cX12_quitOf 89 = .ok (.iinc 6 1, 3) := by decide +kernel
theorem dX12_quitOf_92 : decode cX12_quitOf 92 = .ok (.goto (-74), 3) := by decide +kernel
theorem dX12_quitOf_95 : decode cX12_quitOf 95 = .ok (.iload 5, 2) := by decide +kernel
theorem dX12_quitOf_97 : decode cX12_quitOf 97 = .ok (.ireturn, 1) := by decide +kernel
theorem dX12_quit_0 : decode cX12_quit 0 = .ok (.aload_n 0, 1) := by decide +kernel
theorem dX12_quit_1 : decode cX12_quit 1 = .ok (.iconst 0, 1) := by decide +kernel
theorem dX12_quit_2 : decode cX12_quit 2 = .ok (.putfield 107, 3) := by decide +kernel
theorem dX12_quit_5 : decode cX12_quit 5 = .ok (.aload_n 0, 1) := by decide +kernel
theorem dX12_quit_6 : decode cX12_quit 6 = .ok (.iload_n 1, 1) := by decide +kernel
theorem dX12_quit_7 : decode cX12_quit 7 = .ok (.invokevirtual 281, 3) := by decide +kernel
theorem dX12_quit_10 : decode cX12_quit 10 = .ok (.ifCond .eq 29, 3) := by decide +kernel
theorem dX12_quit_13 : decode cX12_quit 13 = .ok (.iload_n 2, 1) := by decide +kernel
theorem dX12_quit_14 : decode cX12_quit 14 = .ok (.invokestatic 340, 3) := by decide +kernel
theorem dX12_quit_17 : decode cX12_quit 17 = .ok (.ifCond .eq 22, 3) := by decide +kernel
theorem dX12_quit_20 : decode cX12_quit 20 = .ok (.aload_n 0, 1) := by decide +kernel
theorem dX12_quit_21 : decode cX12_quit 21 = .ok (.iload_n 3, 1) := by decide +kernel
theorem dX12_quit_22 : decode cX12_quit 22 = .ok (.i2l, 1) := by decide +kernel
theorem dX12_quit_23 : decode cX12_quit 23 = .ok (.invokevirtual 343, 3) := by decide +kernel
theorem dX12_quit_26 : decode cX12_quit 26 = .ok (.ifCond .eq 13, 3) := by decide +kernel
theorem dX12_quit_29 : decode cX12_quit 29 = .ok (.aload_n 0, 1) := by decide +kernel
theorem dX12_quit_30 : decode cX12_quit 30 = .ok (.iload_n 1, 1) := by decide +kernel
theorem dX12_quit_31 : decode cX12_quit 31 = .ok (.iload_n 2, 1) := by decide +kernel
theorem dX12_quit_32 : decode cX12_quit 32 = .ok (.iload_n 3, 1) := by decide +kernel
theorem dX12_quit_33 : decode cX12_quit 33 = .ok (.invokevirtual 494, 3) := by decide +kernel
theorem dX12_quit_36 : decode cX12_quit 36 = .ok (.goto 5, 3) := by decide +kernel
theorem dX12_quit_39 : decode cX12_quit 39 = .ok (.bipush (-2), 2) := by decide +kernel
theorem dX12_quit_41 : decode cX12_quit 41 = .ok (.ireturn, 1) := by decide +kernel
theorem dX12_when_0 : decode cX12_when 0 = .ok (.aload_n 0, 1) := by decide +kernel
theorem dX12_when_1 : decode cX12_when 1 = .ok (.iconst 0, 1) := by decide +kernel
theorem dX12_when_2 : decode cX12_when 2 = .ok (.putfield 107, 3) := by decide +kernel
theorem dX12_when_5 : decode cX12_when 5 = .ok (.aload_n 0, 1) := by decide +kernel
theorem dX12_when_6 : decode cX12_when 6 = .ok (.iload_n 1, 1) := by decide +kernel
theorem dX12_when_7 : decode cX12_when 7 = .ok (.invokevirtual 281, 3) := by decide +kernel
theorem dX12_when_10 : decode cX12_when 10 = .ok (.ifCond .eq 10, 3) := by decide +kernel
theorem dX12_when_13 : decode cX12_when 13 = .ok (.iload_n 2, 1) := by decide +kernel
theorem dX12_when_14 : decode cX12_when 14 = .ok (.invokestatic 340, 3) := by decide +kernel
theorem dX12_when_17 : decode cX12_when 17 = .ok (.ifCond .ne 6, 3) := by decide +kernel
theorem dX12_when_20 : decode cX12_when 20 = .ok (.bipush (-2), 2) := by decide +kernel
theorem dX12_when_22 : decode cX12_when 22 = .ok (.ireturn, 1) := by decide +kernel
theorem dX12_when_23 : decode cX12_when 23 = .ok (.iconst 0, 1) := by decide +kernel
theorem dX12_when_24 : decode cX12_when 24 = .ok (.istore_n 3, 1) := by decide +kernel
theorem dX12_when_25 : decode cX12_when 25 = .ok (.iconst 1, 1) := by decide +kernel
theorem dX12_when_26 : decode cX12_when 26 = .ok (.istore 4, 2) := by decide +kernel
theorem dX12_when_28 : decode cX12_when 28 = .ok (.iload 4, 2) := by decide +kernel
theorem dX12_when_30 : decode cX12_when 30 = .ok (.aload_n 0, 1) := by decide +kernel
theorem dX12_when_31 : decode cX12_when 31 = .ok (.getfield 34, 3) := by decide +kernel
theorem dX12_when_34 : decode cX12_when 34 = .ok (.iconst 0, 1) := by decide +kernel
theorem dX12_when_35 : decode cX12_when 35 = .ok (.iaload, 1) := by decide +kernel
theorem dX12_when_36 : decode cX12_when 36 = .ok (.if_icmp .ge 30, 3) := by decide +kernel
theorem dX12_when_39 : decode cX12_when 39 = .ok (.aload_n 0, 1) := by decide +kernel
theorem dX12_when_40 : decode cX12_when 40 = .ok (.iload_n 1, 1) := by decide +kernel
theorem dX12_when_41 : decode cX12_when 41 = .ok (.iload_n 2, 1) := by decide +kernel
theorem dX12_when_42 : decode cX12_when 42 = .ok (.iload 4, 2) := by decide +kernel
theorem dX12_when_44 : decode cX12_when 44 = .ok (.invokevirtual 494, 3) := by decide +kernel
theorem dX12_when_47 : decode cX12_when 47 = .ok (.aload_n 0, 1) := by decide +kernel
theorem dX12_when_48 : decode cX12_when 48 = .ok (.iload_n 1, 1) := by decide +kernel
theorem dX12_when_49 : decode cX12_when 49 = .ok (.iload_n 2, 1) := by decide +kernel
theorem dX12_when_50 : decode cX12_when 50 = .ok (.iload_n 3, 1) := by decide +kernel
theorem dX12_when_51 : decode cX12_when 51 = .ok (.invokevirtual 494, 3) := by decide +kernel
theorem dX12_when_54 : decode cX12_when 54 = .ok (.if_icmp .ge 6, 3) := by decide +kernel
theorem dX12_when_57 : decode cX12_when 57 = .ok (.iload 4, 2) := by decide +kernel
theorem dX12_when_59 : decode cX12_when 59 = .ok (.istore_n 3, 1) := by decide +kernel
theorem dX12_when_60 : decode cX12_when 60 = .ok (.iinc 4 1, 3) := by decide +kernel
theorem dX12_when_63 : decode cX12_when 63 = .ok (.goto (-35), 3) := by decide +kernel
theorem dX12_when_66 : decode cX12_when 66 = .ok (.iload_n 3, 1) := by decide +kernel
theorem dX12_when_67 : decode cX12_when 67 = .ok (.ireturn, 1) := by decide +kernel
