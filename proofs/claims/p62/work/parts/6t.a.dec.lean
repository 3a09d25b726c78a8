theorem dX12_behindLost_0 : decode cX12_behindLost 0 = .ok (.aload_n 0, 1) := by decide +kernel
theorem dX12_behindLost_1 : decode cX12_behindLost 1 = .ok (.iload_n 1, 1) := by decide +kernel
theorem dX12_behindLost_2 : decode cX12_behindLost 2 = .ok (.invokevirtual 412, 3) := by decide +kernel
theorem dX12_behindLost_5 : decode cX12_behindLost 5 = .ok (.aload_n 0, 1) := by decide +kernel
theorem dX12_behindLost_6 : decode cX12_behindLost 6 = .ok (.getfield 89, 3) := by decide +kernel
theorem dX12_behindLost_9 : decode cX12_behindLost 9 = .ok (.aload_n 0, 1) := by decide +kernel
theorem dX12_behindLost_10 : decode cX12_behindLost 10 = .ok (.getfield 385, 3) := by decide +kernel
theorem dX12_behindLost_13 : decode cX12_behindLost 13 = .ok (.iload_n 3, 1) := by decide +kernel
theorem dX12_behindLost_14 : decode cX12_behindLost 14 = .ok (.iadd, 1) := by decide +kernel
theorem dX12_behindLost_15 : decode cX12_behindLost 15 = .ok (.iaload, 1) := by decide +kernel
theorem dX12_behindLost_16 : decode cX12_behindLost 16 = .ok (.istore 4, 2) := by decide +kernel
theorem dX12_behindLost_18 : decode cX12_behindLost 18 = .ok (.aload_n 0, 1) := by decide +kernel
theorem dX12_behindLost_19 : decode cX12_behindLost 19 = .ok (.getfield 59, 3) := by decide +kernel
theorem dX12_behindLost_22 : decode cX12_behindLost 22 = .ok (.iload_n 2, 1) := by decide +kernel
theorem dX12_behindLost_23 : decode cX12_behindLost 23 = .ok (.iconst 0, 1) := by decide +kernel
theorem dX12_behindLost_24 : decode cX12_behindLost 24 = .ok (.bastore, 1) := by decide +kernel
theorem dX12_behindLost_25 : decode cX12_behindLost 25 = .ok (.aload_n 0, 1) := by decide +kernel
theorem dX12_behindLost_26 : decode cX12_behindLost 26 = .ok (.iload 4, 2) := by decide +kernel
theorem dX12_behindLost_28 : decode cX12_behindLost 28 = .ok (.invokevirtual 333, 3) := by decide +kernel
theorem dX12_behindLost_31 : decode cX12_behindLost 31 = .ok (.istore 5, 2) := by decide +kernel
theorem dX12_behindLost_33 : decode cX12_behindLost 33 = .ok (.aload_n 0, 1) := by decide +kernel
theorem dX12_behindLost_34 : decode cX12_behindLost 34 = .ok (.getfield 59, 3) := by decide +kernel
theorem dX12_behindLost_37 : decode cX12_behindLost 37 = .ok (.iload_n 2, 1) := by decide +kernel
theorem dX12_behindLost_38 : decode cX12_behindLost 38 = .ok (.iconst 1, 1) := by decide +kernel
theorem dX12_behindLost_39 : decode cX12_behindLost 39 = .ok (.bastore, 1) := by decide +kernel
theorem dX12_behindLost_40 : decode cX12_behindLost 40 = .ok (.iload 5, 2) := by decide +kernel
theorem dX12_behindLost_42 : decode cX12_behindLost 42 = .ok (.ireturn, 1) := by decide +kernel
theorem dX12_lost_0 : decode cX12_lost 0 = .ok (.aload_n 0, 1) := by decide +kernel
theorem dX12_lost_1 : decode cX12_lost 1 = .ok (.iconst 0, 1) := by decide +kernel
theorem dX12_lost_2 : decode cX12_lost 2 = .ok (.putfield 107, 3) := by decide +kernel
theorem dX12_lost_5 : decode cX12_lost 5 = .ok (.aload_n 0, 1) := by decide +kernel
theorem dX12_lost_6 : decode cX12_lost 6 = .ok (.iload_n 1, 1) := by decide +kernel
theorem dX12_lost_7 : decode cX12_lost 7 = .ok (.invokevirtual 281, 3) := by decide +kernel
theorem dX12_lost_10 : decode cX12_lost 10 = .ok (.ifCond .eq 19, 3) := by decide +kernel
theorem dX12_lost_13 : decode cX12_lost 13 = .ok (.iload_n 2, 1) := by decide +kernel
theorem dX12_lost_14 : decode cX12_lost 14 = .ok (.invokestatic 340, 3) := by decide +kernel
theorem dX12_lost_17 : decode cX12_lost 17 = .ok (.ifCond .eq 12, 3) := by decide +kernel
theorem dX12_lost_20 : decode cX12_lost 20 = .ok (.aload_n 0, 1) := by decide +kernel
theorem dX12_lost_21 : decode cX12_lost 21 = .ok (.iload_n 1, 1) := by decide +kernel
theorem dX12_lost_22 : decode cX12_lost 22 = .ok (.iload_n 3, 1) := by decide +kernel
theorem dX12_lost_23 : decode cX12_lost 23 = .ok (.invokevirtual 418, 3) := by decide +kernel
theorem dX12_lost_26 : decode cX12_lost 26 = .ok (.ifCond .ne 6, 3) := by decide +kernel
theorem dX12_lost_29 : decode cX12_lost 29 = .ok (.bipush (-2), 2) := by decide +kernel
theorem dX12_lost_31 : decode cX12_lost 31 = .ok (.ireturn, 1) := by decide +kernel
theorem dX12_lost_32 : decode cX12_lost 32 = .ok (.aload_n 0, 1) := by decide +kernel
theorem dX12_lost_33 : decode cX12_lost 33 = .ok (.aload_n 0, 1) := by decide +kernel
theorem dX12_lost_34 : decode cX12_lost 34 = .ok (.iload_n 1, 1) := by decide +kernel
theorem dX12_lost_35 : decode cX12_lost 35 = .ok (.iconst 0, 1) := by decide +kernel
theorem dX12_lost_36 : decode cX12_lost 36 = .ok (.invokevirtual 409, 3) := by decide +kernel
theorem dX12_lost_39 : decode cX12_lost 39 = .ok (.aload_n 0, 1) := by decide +kernel
theorem dX12_lost_40 : decode cX12_lost 40 = .ok (.iload_n 1, 1) := by decide +kernel
theorem dX12_lost_41 : decode cX12_lost 41 = .ok (.iconst 1, 1) := by decide +kernel
theorem dX12_lost_42 : decode cX12_lost 42 = .ok (.invokevirtual 409, 3) := by decide +kernel
theorem dX12_lost_45 : decode cX12_lost 45 = .ok (.aload_n 0, 1) := by decide +kernel
theorem dX12_lost_46 : decode cX12_lost 46 = .ok (.iload_n 1, 1) := by decide +kernel
theorem dX12_lost_47 : decode cX12_lost 47 = .ok (.iload_n 2, 1) := by decide +kernel
theorem dX12_lost_48 : decode cX12_lost 48 = .ok (.iload_n 3, 1) := by decide +kernel
theorem dX12_lost_49 : decode cX12_lost 49 = .ok (.invokevirtual 421, 3) := by decide +kernel
theorem dX12_lost_52 : decode cX12_lost 52 = .ok (.invokevirtual 415, 3) := by decide +kernel
theorem dX12_lost_55 : decode cX12_lost 55 = .ok (.ireturn, 1) := by decide +kernel
theorem dX12_back_0 : decode cX12_back 0 = .ok (.aload_n 0, 1) := by decide +kernel
theorem dX12_back_1 : decode cX12_back 1 = .ok (.iconst 0, 1) := by decide +kernel
theorem dX12_back_2 : decode cX12_back 2 = .ok (.putfield 107, 3) := by decide +kernel
theorem dX12_back_5 : decode cX12_back 5 = .ok (.aload_n 0, 1) := by decide +kernel
theorem dX12_back_6 : decode cX12_back 6 = .ok (.iload_n 1, 1) := by decide +kernel
theorem dX12_back_7 : decode cX12_back 7 = .ok (.invokevirtual 281, 3) := by decide +kernel
theorem dX12_back_10 : decode cX12_back 10 = .ok (.ifCond .eq 10, 3) := by decide +kernel
theorem dX12_back_13 : decode cX12_back 13 = .ok (.iload_n 2, 1) := by decide +kernel
theorem dX12_back_14 : decode cX12_back 14 = .ok (.invokestatic 340, 3) := by decide +kernel
theorem dX12_back_17 : decode cX12_back 17 = .ok (.ifCond .ne 6, 3) := by decide +kernel
theorem dX12_back_20 : decode cX12_back 20 = .ok (.bipush (-2), 2) := by decide +kernel
theorem dX12_back_22 : decode cX12_back 22 = .ok (.ireturn, 1) := by decide +kernel
theorem dX12_back_23 : decode cX12_back 23 = .ok (.aload_n 0, 1) := by decide +kernel
theorem dX12_back_24 : decode cX12_back 24 = .ok (.iload_n 1, 1) := by decide +kernel
theorem dX12_back_25 : decode cX12_back 25 = .ok (.invokevirtual 412, 3) := by decide +kernel
theorem dX12_back_28 : decode cX12_back 28 = .ok (.aload_n 0, 1) := by decide +kernel
theorem dX12_back_29 : decode cX12_back 29 = .ok (.getfield 388, 3) := by decide +kernel
theorem dX12_back_32 : decode cX12_back 32 = .ok (.istore_n 3, 1) := by decide +kernel
theorem dX12_back_33 : decode cX12_back 33 = .ok (.aload_n 0, 1) := by decide +kernel
theorem dX12_back_34 : decode cX12_back 34 = .ok (.getfield 89, 3) := by decide +kernel
theorem dX12_back_37 : decode cX12_back 37 = .ok (.aload_n 0, 1) := by decide +kernel
theorem dX12_back_38 : decode cX12_back 38 = .ok (.getfield 385, 3) := by decide +kernel
theorem dX12_back_41 : decode cX12_back 41 = .ok (.iaload, 1) := by decide +kernel
theorem dX12_back_42 : decode cX12_back 42 = .ok (.istore 4, 2) := by decide +kernel
theorem dX12_back_44 : decode cX12_back 44 = .ok (.iconst 0, 1) := by decide +kernel
theorem dX12_back_45 : decode cX12_back 45 = .ok (.istore 5, 2) := by decide +kernel
theorem dX12_back_47 : decode cX12_back 47 = .ok (.iconst 0, 1) := by decide +kernel
theorem dX12_back_48 : decode cX12_back 48 = .ok (.istore 6, 2) := by decide +kernel
theorem dX12_back_50 : decode cX12_back 50 = .ok (.iload 6, 2) := by decide +kernel
theorem dX12_back_52 : decode cX12_back 52 = .ok (.iload_n 3, 1) := by decide +kernel
theorem dX12_back_53 : decode cX12_back 53 = .ok (.if_icmp .ge 99, 3) := by decide +kernel
theorem dX12_back_56 : decode cX12_back 56 = .ok (.aload_n 0, 1) := by decide +kernel
theorem dX12_back_57 : decode cX12_back 57 = .ok (.aload_n 0, 1) := by decide +kernel
theorem dX12_back_58 : decode cX12_back 58 = .ok (.iload_n 1, 1) := by decide +kernel
theorem dX12_back_59 : decode cX12_back 59 = .ok (.iconst 0, 1) := by decide +kernel
theorem dX12_back_60 : decode cX12_back 60 = .ok (.invokevirtual 409, 3) := by decide +kernel
theorem dX12_back_63 : decode cX12_back 63 = .ok (.aload_n 0, 1) := by decide +kernel
theorem dX12_back_64 : decode cX12_back 64 = .ok (.iload_n 1, 1) := by decide +kernel
theorem dX12_back_65 : decode cX12_back 65 = .ok (.iconst 1, 1) := by decide +kernel
theorem dX12_back_66 : decode cX12_back 66 = .ok (.invokevirtual 409, 3) := by decide +kernel
theorem dX12_back_69 : decode cX12_back 69 = .ok (.aload_n 0, 1) := by decide +kernel
theorem dX12_back_70 : decode cX12_back 70 = .ok (.iload_n 1, 1) := by decide +kernel
theorem dX12_back_71 : decode cX12_back 71 = .ok (.iload_n 2, 1) := by decide +kernel
theorem dX12_back_72 : decode cX12_back 72 = .ok (.iload 6, 2) := by decide +kernel
theorem dX12_back_74 : decode cX12_back 74 = .ok (.invokevirtual 421, 3) := by decide +kernel
theorem dX12_back_77 : decode cX12_back 77 = .ok (.invokevirtual 400, 3) := by decide +kernel
theorem dX12_back_80 : decode cX12_back 80 = .ok (.iconst 0, 1) := by decide +kernel
theorem dX12_back_81 : decode cX12_back 81 = .ok (.istore 7, 2) := by decide +kernel
theorem dX12_back_83 : decode cX12_back 83 = .ok (.iconst 0, 1) := by decide +kernel
theorem dX12_back_84 : decode cX12_back 84 = .ok (.istore 8, 2) := by decide +kernel
theorem dX12_back_86 : decode cX12_back 86 = .ok (.iload 8, 2) := by decide +kernel
theorem dX12_back_88 : decode cX12_back 88 = .ok (.aload_n 0, 1) := by decide +kernel
theorem dX12_back_89 : decode cX12_back 89 = .ok (.getfield 388, 3) := by decide +kernel
theorem dX12_back_92 : decode cX12_back 92 = .ok (.if_icmp .ge 36, 3) := by decide +kernel
theorem dX12_back_95 : decode cX12_back 95 = .ok (.iload 7, 2) := by decide +kernel
theorem dX12_back_97 : decode cX12_back 97 = .ok (.aload_n 0, 1) := by decide +kernel
theorem dX12_back_98 : decode cX12_back 98 = .ok (.getfield 89, 3) := by decide +kernel
theorem dX12_back_101 : decode cX12_back 101 = .ok (.aload_n 0, 1) := by decide +kernel
theorem dX12_back_102 : decode cX12_back 102 = .ok (.getfield 385, 3) := by decide +kernel
theorem dX12_back_105 : decode cX12_back 105 = .ok (.iload 8, 2) := by decide +kernel
theorem dX12_back_107 : decode cX12_back 107 = .ok (.iadd, 1) := by decide +kernel
theorem dX12_back_108 : decode cX12_back 108 = .ok (.iaload, 1) := by decide +kernel
theorem dX12_back_109 : decode cX12_back 109 = .ok (.iload 4, 2) := by decide +kernel
theorem dX12_back_111 : decode cX12_back 111 = .ok (.if_icmp .ne 7, 3) := by decide +kernel
theorem dX12_back_114 : decode cX12_back 114 = .ok (.iconst 1, 1) := by decide +kernel
theorem dX12_back_115 : decode cX12_back 115 = .ok (.goto 4, 3) := by decide +kernel
theorem dX12_back_118 : decode cX12_back 118 = .ok (.iconst 0, 1) := by decide +kernel
theorem dX12_back_119 : decode cX12_back 119 = .ok (.ior, 1) := by decide +kernel
theorem dX12_back_120 : decode cX12_back 120 = .ok (.istore 7, 2) := by decide +kernel
theorem dX12_back_122 : decode cX12_back 122 = .ok (.iinc 8 1, 3) := by decide +kernel
theorem dX12_back_125 : decode cX12_back 125 = .ok (.goto (-39), 3) := by decide +kernel
theorem dX12_back_128 : decode cX12_back 128 = .ok (.iload 5, 2) := by decide +kernel
theorem dX12_back_130 : decode cX12_back 130 = .ok (.iload 7, 2) := by decide +kernel
theorem dX12_back_132 : decode cX12_back 132 = .ok (.ifCond .eq 10, 3) := by decide +kernel
theorem dX12_back_135 : decode cX12_back 135 = .ok (.iconst 1, 1) := by decide +kernel
theorem dX12_back_136 : decode cX12_back 136 = .ok (.iload 6, 2) := by decide +kernel
theorem dX12_back_138 : decode cX12_back 138 = .ok (.ishl, 1) := by decide +kernel
theorem dX12_back_139 : decode cX12_back 139 = .ok (.goto 4, 3) := by decide +kernel
theorem dX12_back_142 : decode cX12_back 142 = .ok (.iconst 0, 1) := by decide +kernel
theorem dX12_back_143 : decode cX12_back 143 = .ok (.ior, 1) := by decide +kernel
theorem dX12_back_144 : decode cX12_back 144 = .ok (.istore 5, 2) := by decide +kernel
theorem dX12_back_146 : decode cX12_back 146 = .ok (.iinc 6 1, 3) := by decide +kernel
theorem dX12_back_149 : decode cX12_back 149 = .ok (.goto (-99), 3) := by decide +kernel
theorem dX12_back_152 : decode cX12_back 152 = .ok (.iload 5, 2) := by decide +kernel
theorem dX12_back_154 : decode cX12_back 154 = .ok (.ireturn, 1) := by decide +kernel
