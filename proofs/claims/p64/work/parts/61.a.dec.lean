theorem dX12_back_0 : decode cX12_back 0 = .ok (.aload_n 0, 1) := by decide +kernel
theorem dX12_back_1 : decode cX12_back 1 = .ok (.iconst 0, 1) := by decide +kernel
theorem dX12_back_2 : decode cX12_back 2 = .ok (.putfield 107, 3) := by decide +kernel
theorem dX12_back_5 : decode cX12_back 5 = .ok (.aload_n 0, 1) := by decide +kernel
theorem dX12_back_6 : decode cX12_back 6 = .ok (.iload_n 1, 1) := by decide +kernel
theorem dX12_back_7 : decode cX12_back 7 = .ok (.invokevirtual 281, 3) := by decide +kernel
theorem dX12_back_10 : decode cX12_back 10 = .ok (.ifCond .eq 10, 3) := by decide +kernel
theorem dX12_back_13 : decode cX12_back 13 = .ok (.iload_n 2, 1) := by decide +kernel
theorem dX12_back_14 : decode cX12_back 14 = .ok (.invokestatic 340, 3) := by decide +kernel
theorem dX12_back_17 : decode cX12_back 17 = .ok (.ifCond .ne 6, 3) := by decide +kernel
theorem dX12_back_20 : decode cX12_back 20 = .ok (.bipush (-2), 2) := by decide +kernel
theorem dX12_back_22 : decode cX12_back 22 = .ok (.ireturn, 1) := by decide +kernel
theorem dX12_back_23 : decode cX12_back 23 = .ok (.aload_n 0, 1) := by decide +kernel
theorem dX12_back_24 : decode cX12_back 24 = .ok (.iload_n 1, 1) := by decide +kernel
theorem dX12_back_25 : decode cX12_back 25 = .ok (.invokevirtual 412, 3) := by decide +kernel
theorem dX12_back_28 : decode cX12_back 28 = .ok (.aload_n 0, 1) := by decide +kernel
theorem dX12_back_29 : decode cX12_back 29 = .ok (.getfield 388, 3) := by decide +kernel
theorem dX12_back_32 : decode cX12_back 32 = .ok (.istore_n 3, 1) := by decide +kernel
theorem dX12_back_33 : decode cX12_back 33 = .ok (.aload_n 0, 1) := by decide +kernel
theorem dX12_back_34 : decode cX12_back 34 = .ok (.getfield 89, 3) := by decide +kernel
theorem dX12_back_37 : decode cX12_back 37 = .ok (.aload_n 0, 1) := by decide +kernel
theorem dX12_back_38 : decode cX12_back 38 = .ok (.getfield 385, 3) := by decide +kernel
theorem dX12_back_41 : decode cX12_back 41 = .ok (.iaload, 1) := by decide +kernel
theorem dX12_back_42 : decode cX12_back 42 = .ok (.istore 4, 2) := by decide +kernel
theorem dX12_back_44 : decode cX12_back 44 = .ok (.iconst 0, 1) := by decide +kernel
theorem dX12_back_45 : decode cX12_back 45 = .ok (.istore 5, 2) := by decide +kernel
theorem dX12_back_47 : decode cX12_back 47 = .ok (.iconst 0, 1) := by decide +kernel
theorem dX12_back_48 : decode cX12_back 48 = .ok (.istore 6, 2) := by decide +kernel
theorem dX12_back_50 : decode cX12_back 50 = .ok (.iload 6, 2) := by decide +kernel
theorem dX12_back_52 : decode cX12_back 52 = .ok (.iload_n 3, 1) := by decide +kernel
theorem dX12_back_53 : decode cX12_back 53 = .ok (.if_icmp .ge 99, 3) := by decide +kernel
theorem dX12_back_56 : decode cX12_back 56 = .ok (.aload_n 0, 1) := by decide +kernel
theorem dX12_back_57 : decode cX12_back 57 = .ok (.aload_n 0, 1) := by decide +kernel
theorem dX12_back_58 : decode cX12_back 58 = .ok (.iload_n 1, 1) := by decide +kernel
theorem dX12_back_59 : decode cX12_back 59 = .ok (.iconst 0, 1) := by decide +kernel
theorem dX12_back_60 : decode cX12_back 60 = .ok (.invokevirtual 409, 3) := by decide +kernel
theorem dX12_back_63 : decode cX12_back 63 = .ok (.aload_n 0, 1) := by decide +kernel
theorem dX12_back_64 : decode cX12_back 64 = .ok (.iload_n 1, 1) := by decide +kernel
theorem dX12_back_65 : decode cX12_back 65 = .ok (.iconst 1, 1) := by decide +kernel
theorem dX12_back_66 : decode cX12_back 66 = .ok (.invokevirtual 409, 3) := by decide +kernel
theorem dX12_back_69 : decode cX12_back 69 = .ok (.aload_n 0, 1) := by decide +kernel
theorem dX12_back_70 : decode cX12_back 70 = .ok (.iload_n 1, 1) := by decide +kernel
theorem dX12_back_71 : decode cX12_back 71 = .ok (.iload_n 2, 1) := by decide +kernel
theorem dX12_back_72 : decode cX12_back 72 = .ok (.iload 6, 2) := by decide +kernel
theorem dX12_back_74 : decode cX12_back 74 = .ok (.invokevirtual 421, 3) := by decide +kernel
theorem dX12_back_77 : decode cX12_back 77 = .ok (.invokevirtual 400, 3) := by decide +kernel
theorem dX12_back_80 : decode cX12_back 80 = .ok (.iconst 0, 1) := by decide +kernel
theorem dX12_back_81 : decode cX12_back 81 = .ok (.istore 7, 2) := by decide +kernel
theorem dX12_back_83 : decode cX12_back 83 = .ok (.iconst 0, 1) := by decide +kernel
theorem dX12_back_84 : decode cX12_back 84 = .ok (.istore 8, 2) := by decide +kernel
theorem dX12_back_86 : decode cX12_back 86 = .ok (.iload 8, 2) := by decide +kernel
theorem dX12_back_88 : decode cX12_back 88 = .ok (.aload_n 0, 1) := by decide +kernel
theorem dX12_back_89 : decode cX12_back 89 = .ok (.getfield 388, 3) := by decide +kernel
theorem dX12_back_92 : decode cX12_back 92 = .ok (.if_icmp .ge 36, 3) := by decide +kernel
theorem dX12_back_95 : decode cX12_back 95 = .ok (.iload 7, 2) := by decide +kernel
theorem dX12_back_97 : decode cX12_back 97 = .ok (.aload_n 0, 1) := by decide +kernel
theorem dX12_back_98 : decode cX12_back 98 = .ok (.getfield 89, 3) := by decide +kernel
theorem dX12_back_101 : decode cX12_back 101 = .ok (.aload_n 0, 1) := by decide +kernel
theorem dX12_back_102 : decode cX12_back 102 = .ok (.getfield 385, 3) := by decide +kernel
theorem dX12_back_105 : decode cX12_back 105 = .ok (.iload 8, 2) := by decide +kernel
theorem dX12_back_107 : decode cX12_back 107 = .ok (.iadd, 1) := by decide +kernel
theorem dX12_back_108 : decode cX12_back 108 = .ok (.iaload, 1) := by decide +kernel
theorem dX12_back_109 : decode cX12_back 109 = .ok (.iload 4, 2) := by decide +kernel
theorem dX12_back_111 : decode cX12_back 111 = .ok (.if_icmp .ne 7, 3) := by decide +kernel
theorem dX12_back_114 : decode cX12_back 114 = .ok (.iconst 1, 1) := by decide +kernel
theorem dX12_back_115 : decode cX12_back 115 = .ok (.goto 4, 3) := by decide +kernel
theorem dX12_back_118 : decode cX12_back 118 = .ok (.iconst 0, 1) := by decide +kernel
theorem dX12_back_119 : decode cX12_back 119 = .ok (.ior, 1) := by decide +kernel
theorem dX12_back_120 : decode cX12_back 120 = .ok (.istore 7, 2) := by decide +kernel
theorem dX12_back_122 : decode cX12_back 122 = .ok (.iinc 8 1, 3) := by decide +kernel
theorem dX12_back_125 : decode cX12_back 125 = .ok (.goto (-39), 3) := by decide +kernel
theorem dX12_back_128 : decode cX12_back 128 = .ok (.iload 5, 2) := by decide +kernel
theorem dX12_back_130 : decode cX12_back 130 = .ok (.iload 7, 2) := by decide +kernel
theorem dX12_back_132 : decode cX12_back 132 = .ok (.ifCond .eq 10, 3) := by decide +kernel
theorem dX12_back_135 : decode cX12_back 135 = .ok (.iconst 1, 1) := by decide +kernel
theorem dX12_back_136 : decode cX12_back 136 = .ok (.iload 6, 2) := by decide +kernel
theorem dX12_back_138 : decode cX12_back 138 = .ok (.ishl, 1) := by decide +kernel
theorem dX12_back_139 : decode cX12_back 139 = .ok (.goto 4, 3) := by decide +kernel
theorem dX12_back_142 : decode cX12_back 142 = .ok (.iconst 0, 1) := by decide +kernel
theorem dX12_back_143 : decode cX12_back 143 = .ok (.ior, 1) := by decide +kernel
theorem dX12_back_144 : decode cX12_back 144 = .ok (.istore 5, 2) := by decide +kernel
theorem dX12_back_146 : decode cX12_back 146 = .ok (.iinc 6 1, 3) := by decide +kernel
theorem dX12_back_149 : decode cX12_back 149 = .ok (.goto (-99), 3) := by decide +kernel
theorem dX12_back_152 : decode cX12_back 152 = .ok (.iload 5, 2) := by decide +kernel
theorem dX12_back_154 : decode cX12_back 154 = .ok (.ireturn, 1) := by decide +kernel
theorem dX12_dies_0 : decode cX12_dies 0 = .ok (.aload_n 0, 1) := by decide +kernel
theorem dX12_dies_1 : decode cX12_dies 1 = .ok (.getfield 83, 3) := by decide +kernel
theorem dX12_dies_4 : decode cX12_dies 4 = .ok (.bipush 16, 2) := by decide +kernel
theorem dX12_dies_6 : decode cX12_dies 6 = .ok (.iload_n 2, 1) := by decide +kernel
theorem dX12_dies_7 : decode cX12_dies 7 = .ok (.imul, 1) := by decide +kernel
theorem dX12_dies_8 : decode cX12_dies 8 = .ok (.iload_n 1, 1) := by decide +kernel
theorem dX12_dies_9 : decode cX12_dies 9 = .ok (.iadd, 1) := by decide +kernel
theorem dX12_dies_10 : decode cX12_dies 10 = .ok (.iaload, 1) := by decide +kernel
theorem dX12_dies_11 : decode cX12_dies 11 = .ok (.istore 4, 2) := by decide +kernel
theorem dX12_dies_13 : decode cX12_dies 13 = .ok (.aload_n 0, 1) := by decide +kernel
theorem dX12_dies_14 : decode cX12_dies 14 = .ok (.iload_n 1, 1) := by decide +kernel
theorem dX12_dies_15 : decode cX12_dies 15 = .ok (.iconst 0, 1) := by decide +kernel
theorem dX12_dies_16 : decode cX12_dies 16 = .ok (.invokevirtual 409, 3) := by decide +kernel
theorem dX12_dies_19 : decode cX12_dies 19 = .ok (.istore 5, 2) := by decide +kernel
theorem dX12_dies_21 : decode cX12_dies 21 = .ok (.aload_n 0, 1) := by decide +kernel
theorem dX12_dies_22 : decode cX12_dies 22 = .ok (.iload_n 1, 1) := by decide +kernel
theorem dX12_dies_23 : decode cX12_dies 23 = .ok (.iconst 1, 1) := by decide +kernel
theorem dX12_dies_24 : decode cX12_dies 24 = .ok (.invokevirtual 409, 3) := by decide +kernel
theorem dX12_dies_27 : decode cX12_dies 27 = .ok (.istore 6, 2) := by decide +kernel
theorem dX12_dies_29 : decode cX12_dies 29 = .ok (.iload_n 3, 1) := by decide +kernel
theorem dX12_dies_30 : decode cX12_dies 30 = .ok (.ifCond .eq 33, 3) := by decide +kernel
theorem dX12_dies_33 : decode cX12_dies 33 = .ok (.aload_n 0, 1) := by decide +kernel
theorem dX12_dies_34 : decode cX12_dies 34 = .ok (.iload 5, 2) := by decide +kernel
theorem dX12_dies_36 : decode cX12_dies 36 = .ok (.iload 6, 2) := by decide +kernel
theorem dX12_dies_38 : decode cX12_dies 38 = .ok (.invokevirtual 382, 3) := by decide +kernel
theorem dX12_dies_41 : decode cX12_dies 41 = .ok (.aload_n 0, 1) := by decide +kernel
theorem dX12_dies_42 : decode cX12_dies 42 = .ok (.getfield 59, 3) := by decide +kernel
theorem dX12_dies_45 : decode cX12_dies 45 = .ok (.iconst 0, 1) := by decide +kernel
theorem dX12_dies_46 : decode cX12_dies 46 = .ok (.iconst 0, 1) := by decide +kernel
theorem dX12_dies_47 : decode cX12_dies 47 = .ok (.bastore, 1) := by decide +kernel
theorem dX12_dies_48 : decode cX12_dies 48 = .ok (.aload_n 0, 1) := by decide +kernel
theorem dX12_dies_49 : decode cX12_dies 49 = .ok (.getfield 59, 3) := by decide +kernel
theorem dX12_dies_52 : decode cX12_dies 52 = .ok (.iconst 1, 1) := by decide +kernel
theorem dX12_dies_53 : decode cX12_dies 53 = .ok (.iconst 0, 1) := by decide +kernel
theorem dX12_dies_54 : decode cX12_dies 54 = .ok (.bastore, 1) := by decide +kernel
theorem dX12_dies_55 : decode cX12_dies 55 = .ok (.aload_n 0, 1) := by decide +kernel
theorem dX12_dies_56 : decode cX12_dies 56 = .ok (.iload 4, 2) := by decide +kernel
theorem dX12_dies_58 : decode cX12_dies 58 = .ok (.invokevirtual 333, 3) := by decide +kernel
theorem dX12_dies_61 : decode cX12_dies 61 = .ok (.istore 4, 2) := by decide +kernel
theorem dX12_dies_63 : decode cX12_dies 63 = .ok (.aload_n 0, 1) := by decide +kernel
theorem dX12_dies_64 : decode cX12_dies 64 = .ok (.iload 5, 2) := by decide +kernel
theorem dX12_dies_66 : decode cX12_dies 66 = .ok (.iload 6, 2) := by decide +kernel
theorem dX12_dies_68 : decode cX12_dies 68 = .ok (.iload 4, 2) := by decide +kernel
theorem dX12_dies_70 : decode cX12_dies 70 = .ok (.invokevirtual 415, 3) := by decide +kernel
theorem dX12_dies_73 : decode cX12_dies 73 = .ok (.ifCond .ne 7, 3) := by decide +kernel
theorem dX12_dies_76 : decode cX12_dies 76 = .ok (.iconst 1, 1) := by decide +kernel
theorem dX12_dies_77 : decode cX12_dies 77 = .ok (.goto 4, 3) := by decide +kernel
theorem dX12_dies_80 : decode cX12_dies 80 = .ok (.iconst 0, 1) := by decide +kernel
theorem dX12_dies_81 : decode cX12_dies 81 = .ok (.ireturn, 1) := by decide +kernel
theorem dX12_struck_0 : decode cX12_struck 0 = .ok (.iconst 0, 1) := by decide +kernel
theorem dX12_struck_1 : decode cX12_struck 1 = .ok (.istore_n 3, 1) := by decide +kernel
theorem dX12_struck_2 : decode cX12_struck 2 = .ok (.iconst 0, 1) := by decide +kernel
theorem dX12_struck_3 : decode cX12_struck 3 = .ok (.istore 4, 2) := by decide +kernel
theorem dX12_struck_5 : decode cX12_struck 5 = .ok (.iload 4, 2) := by decide +kernel
theorem dX12_struck_7 : decode cX12_struck 7 = .ok (.aload_n 0, 1) := by decide +kernel
theorem dX12_struck_8 : decode cX12_struck 8 = .ok (.getfield 34, 3) := by decide +kernel
theorem dX12_struck_11 : decode cX12_struck 11 = .ok (.iconst 4, 1) := by decide +kernel
theorem dX12_struck_12 : decode cX12_struck 12 = .ok (.iaload, 1) := by decide +kernel
theorem dX12_struck_13 : decode cX12_struck 13 = .ok (.if_icmp .ge 41, 3) := by decide +kernel
theorem dX12_struck_16 : decode cX12_struck 16 = .ok (.iload_n 3, 1) := by decide +kernel
theorem dX12_struck_17 : decode cX12_struck 17 = .ok (.aload_n 0, 1) := by decide +kernel
theorem dX12_struck_18 : decode cX12_struck 18 = .ok (.iload 4, 2) := by decide +kernel
theorem dX12_struck_20 : decode cX12_struck 20 = .ok (.iload_n 1, 1) := by decide +kernel
theorem dX12_struck_21 : decode cX12_struck 21 = .ok (.iconst 0, 1) := by decide +kernel
theorem dX12_struck_22 : decode cX12_struck 22 = .ok (.invokevirtual 424, 3) := by decide +kernel
theorem dX12_struck_25 : decode cX12_struck 25 = .ok (.iload_n 2, 1) := by decide +kernel
theorem dX12_struck_26 : decode cX12_struck 26 = .ok (.if_icmp .eq 19, 3) := by decide +kernel
theorem dX12_struck_29 : decode cX12_struck 29 = .ok (.aload_n 0, 1) := by decide +kernel
theorem dX12_struck_30 : decode cX12_struck 30 = .ok (.iload 4, 2) := by decide +kernel
theorem dX12_struck_32 : decode cX12_struck 32 = .ok (.iload_n 1, 1) := by decide +kernel
theorem dX12_struck_33 : decode cX12_struck 33 = .ok (.iconst 1, 1) := by decide +kernel
theorem dX12_struck_34 : decode cX12_struck 34 = .ok (.invokevirtual 424, 3) := by decide +kernel
theorem dX12_struck_37 : decode cX12_struck 37 = .ok (.iload_n 2, 1) := by decide +kernel
theorem dX12_struck_38 : decode cX12_struck 38 = .ok (.if_icmp .ne 7, 3) := by decide +kernel
theorem dX12_struck_41 : decode cX12_struck 41 = .ok (.iconst 1, 1) := by decide +kernel
theorem dX12_struck_42 : decode cX12_struck 42 = .ok (.goto 4, 3) := by decide +kernel
theorem dX12_struck_45 : decode cX12_struck 45 = .ok (.iconst 0, 1) := by decide +kernel
theorem dX12_struck_46 : decode cX12_struck 46 = .ok (.iadd, 1) := by decide +kernel
theorem dX12_struck_47 : decode cX12_struck 47 = .ok (.istore_n 3, 1) := by decide +kernel
theorem dX12_struck_48 : decode cX12_struck 48 = .ok (.iinc 4 1, 3) := by decide +kernel
theorem dX12_struck_51 : decode cX12_struck 51 = .ok (.goto (-46), 3) := by decide +kernel
theorem dX12_struck_54 : decode cX12_struck 54 = .ok (.iload_n 3, 1) := by decide +kernel
theorem dX12_struck_55 : decode cX12_struck 55 = .ok (.ireturn, 1) := by decide +kernel
theorem dX12_strike_0 : decode cX12_strike 0 = .ok (.aload_n 0, 1) := by decide +kernel
theorem dX12_strike_1 : decode cX12_strike 1 = .ok (.iconst 0, 1) := by decide +kernel
theorem dX12_strike_2 : decode cX12_strike 2 = .ok (.putfield 107, 3) := by decide +kernel
theorem dX12_strike_5 : decode cX12_strike 5 = .ok (.aload_n 0, 1) := by decide +kernel
theorem dX12_strike_6 : decode cX12_strike 6 = .ok (.iload_n 1, 1) := by decide +kernel
theorem dX12_strike_7 : decode cX12_strike 7 = .ok (.i2l, 1) := by decide +kernel
theorem dX12_strike_8 : decode cX12_strike 8 = .ok (.invokevirtual 343, 3) := by decide +kernel
theorem dX12_strike_11 : decode cX12_strike 11 = .ok (.ifCond .ne 6, 3) := by decide +kernel
theorem dX12_strike_14 : decode cX12_strike 14 = .ok (.bipush (-2), 2) := by decide +kernel
theorem dX12_strike_16 : decode cX12_strike 16 = .ok (.ireturn, 1) := by decide +kernel
theorem dX12_strike_17 : decode cX12_strike 17 = .ok (.aload_n 0, 1) := by decide +kernel
theorem dX12_strike_18 : decode cX12_strike 18 = .ok (.invokevirtual 346, 3) := by decide +kernel
theorem dX12_strike_21 : decode cX12_strike 21 = .ok (.aload_n 0, 1) := by decide +kernel
theorem dX12_strike_22 : decode cX12_strike 22 = .ok (.iload_n 1, 1) := by decide +kernel
theorem dX12_strike_23 : decode cX12_strike 23 = .ok (.iconst 1, 1) := by decide +kernel
theorem dX12_strike_24 : decode cX12_strike 24 = .ok (.invokevirtual 428, 3) := by decide +kernel
theorem dX12_strike_27 : decode cX12_strike 27 = .ok (.ireturn, 1) := by decide +kernel
theorem dX12_saves_0 : decode cX12_saves 0 = .ok (.aload_n 0, 1) := by decide +kernel
theorem dX12_saves_1 : decode cX12_saves 1 = .ok (.iconst 0, 1) := by decide +kernel
theorem dX12_saves_2 : decode cX12_saves 2 = .ok (.putfield 107, 3) := by decide +kernel
theorem dX12_saves_5 : decode cX12_saves 5 = .ok (.aload_n 0, 1) := by decide +kernel
theorem dX12_saves_6 : decode cX12_saves 6 = .ok (.iload_n 1, 1) := by decide +kernel
theorem dX12_saves_7 : decode cX12_saves 7 = .ok (.i2l, 1) := by decide +kernel
theorem dX12_saves_8 : decode cX12_saves 8 = .ok (.invokevirtual 343, 3) := by decide +kernel
theorem dX12_saves_11 : decode cX12_saves 11 = .ok (.ifCond .ne 6, 3) := by decide +kernel
theorem dX12_saves_14 : decode cX12_saves 14 = .ok (.bipush (-2), 2) := by decide +kernel
theorem dX12_saves_16 : decode cX12_saves 16 = .ok (.ireturn, 1) := by decide +kernel
theorem dX12_saves_17 : decode cX12_saves 17 = .ok (.aload_n 0, 1) := by decide +kernel
theorem dX12_saves_18 : decode cX12_saves 18 = .ok (.invokevirtual 346, 3) := by decide +kernel
theorem dX12_saves_21 : decode cX12_saves 21 = .ok (.aload_n 0, 1) := by decide +kernel
theorem dX12_saves_22 : decode cX12_saves 22 = .ok (.iload_n 1, 1) := by decide +kernel
theorem dX12_saves_23 : decode cX12_saves 23 = .ok (.iconst 0, 1) := by decide +kernel
theorem dX12_saves_24 : decode cX12_saves 24 = .ok (.invokevirtual 428, 3) := by decide +kernel
theorem dX12_saves_27 : decode cX12_saves 27 = .ok (.ireturn, 1) := by decide +kernel
theorem dX12_mildest_0 : decode cX12_mildest 0 = .ok (.aload_n 0, 1) := by decide +kernel
theorem dX12_mildest_1 : decode cX12_mildest 1 = .ok (.iconst 0, 1) := by decide +kernel
theorem dX12_mildest_2 : decode cX12_mildest 2 = .ok (.putfield 107, 3) := by decide +kernel
theorem dX12_mildest_5 : decode cX12_mildest 5 = .ok (.aload_n 0, 1) := by decide +kernel
theorem dX12_mildest_6 : decode cX12_mildest 6 = .ok (.invokevirtual 373, 3) := by decide +kernel
theorem dX12_mildest_9 : decode cX12_mildest 9 = .ok (.ifCond .ne 6, 3) := by decide +kernel
theorem dX12_mildest_12 : decode cX12_mildest 12 = .ok (.bipush (-2), 2) := by decide +kernel
theorem dX12_mildest_14 : decode cX12_mildest 14 = .ok (.ireturn, 1) := by decide +kernel
theorem dX12_mildest_15 : decode cX12_mildest 15 = .ok (.aload_n 0, 1) := by decide +kernel
theorem dX12_mildest_16 : decode cX12_mildest 16 = .ok (.invokevirtual 346, 3) := by decide +kernel
theorem dX12_mildest_19 : decode cX12_mildest 19 = .ok (.iconst 0, 1) := by decide +kernel
theorem dX12_mildest_20 : decode cX12_mildest 20 = .ok (.istore_n 1, 1) := by decide +kernel
theorem dX12_mildest_21 : decode cX12_mildest 21 = .ok (.iconst 1, 1) := by decide +kernel
theorem dX12_mildest_22 : decode cX12_mildest 22 = .ok (.istore_n 2, 1) := by decide +kernel
theorem dX12_mildest_23 : decode cX12_mildest 23 = .ok (.iload_n 2, 1) := by decide +kernel
theorem dX12_mildest_24 : decode cX12_mildest 24 = .ok (.aload_n 0, 1) := by decide +kernel
theorem dX12_mildest_25 : decode cX12_mildest 25 = .ok (.getfield 34, 3) := by decide +kernel
theorem dX12_mildest_28 : decode cX12_mildest 28 = .ok (.iconst 0, 1) := by decide +kernel
theorem dX12_mildest_29 : decode cX12_mildest 29 = .ok (.iaload, 1) := by decide +kernel
theorem dX12_mildest_30 : decode cX12_mildest 30 = .ok (.if_icmp .ge 26, 3) := by decide +kernel
theorem dX12_mildest_33 : decode cX12_mildest 33 = .ok (.aload_n 0, 1) := by decide +kernel
theorem dX12_mildest_34 : decode cX12_mildest 34 = .ok (.iload_n 2, 1) := by decide +kernel
theorem dX12_mildest_35 : decode cX12_mildest 35 = .ok (.iconst 1, 1) := by decide +kernel
theorem dX12_mildest_36 : decode cX12_mildest 36 = .ok (.invokevirtual 428, 3) := by decide +kernel
theorem dX12_mildest_39 : decode cX12_mildest 39 = .ok (.aload_n 0, 1) := by decide +kernel
theorem dX12_mildest_40 : decode cX12_mildest 40 = .ok (.iload_n 1, 1) := by decide +kernel
theorem dX12_mildest_41 : decode cX12_mildest 41 = .ok (.iconst 1, 1) := by decide +kernel
theorem dX12_mildest_42 : decode cX12_mildest 42 = .ok (.invokevirtual 428, 3) := by decide +kernel
theorem dX12_mildest_45 : decode cX12_mildest 45 = .ok (.if_icmp .ge 5, 3) := by decide +kernel
theorem dX12_mildest_48 : decode cX12_mildest 48 = .ok (.iload_n 2, 1) := by decide +kernel
theorem dX12_mildest_49 : decode cX12_mildest 49 = .ok (.istore_n 1, 1) := by decide +kernel
theorem dX12_mildest_50 : decode cX12_mildest 50 = .ok (.iinc 2 1, 3) := by decide +kernel
theorem dX12_mildest_53 : decode cX12_mildest 53 = .ok (.goto (-30), 3) := by decide +kernel
theorem dX12_mildest_56 : decode cX12_mildest 56 = .ok (.iload_n 1, 1) := by decide +kernel
theorem dX12_mildest_57 : decode cX12_mildest 57 = .ok (.ireturn, 1) := by decide +kernel
theorem dX12_by_0 : decode cX12_by 0 = .ok (.aload_n 0, 1) := by decide +kernel
theorem dX12_by_1 : decode cX12_by 1 = .ok (.iload 4, 2) := by decide +kernel
theorem dX12_by_3 : decode cX12_by 3 = .ok (.putfield 312, 3) := by decide +kernel
theorem dX12_by_6 : decode cX12_by 6 = .ok (.aload_n 0, 1) := by decide +kernel
theorem dX12_by_7 : decode cX12_by 7 = .ok (.iload_n 3, 1) := by decide +kernel
theorem dX12_by_8 : decode cX12_by 8 = .ok (.invokevirtual 333, 3) := by decide +kernel
theorem dX12_by_11 : decode cX12_by 11 = .ok (.istore 6, 2) := by decide +kernel
theorem dX12_by_13 : decode cX12_by 13 = .ok (.iload 5, 2) := by decide +kernel
theorem dX12_by_15 : decode cX12_by 15 = .ok (.ifCond .eq 19, 3) := by decide +kernel
theorem dX12_by_18 : decode cX12_by 18 = .ok (.iload_n 2, 1) := by decide +kernel
theorem dX12_by_19 : decode cX12_by 19 = .ok (.iconst 1, 1) := by decide +kernel
theorem dX12_by_20 : decode cX12_by 20 = .ok (.if_icmp .ne 14, 3) := by decide +kernel
theorem dX12_by_23 : decode cX12_by 23 = .ok (.aload_n 0, 1) := by decide +kernel
theorem dX12_by_24 : decode cX12_by 24 = .ok (.invokevirtual 394, 3) := by decide +kernel
theorem dX12_by_27 : decode cX12_by 27 = .ok (.iconst 2, 1) := by decide +kernel
theorem dX12_by_28 : decode cX12_by 28 = .ok (.if_icmp .ge 6, 3) := by decide +kernel
theorem dX12_by_31 : decode cX12_by 31 = .ok (.ldc 158, 2) := by decide +kernel
theorem dX12_by_33 : decode cX12_by 33 = .ok (.ireturn, 1) := by decide +kernel
theorem dX12_by_34 : decode cX12_by 34 = .ok (.aload_n 0, 1) := by decide +kernel
theorem dX12_by_35 : decode cX12_by 35 = .ok (.getfield 98, 3) := by decide +kernel
theorem dX12_by_38 : decode cX12_by 38 = .ok (.bipush 16, 2) := by decide +kernel
theorem dX12_by_40 : decode cX12_by 40 = .ok (.iload_n 2, 1) := by decide +kernel
theorem dX12_by_41 : decode cX12_by 41 = .ok (.iconst 1, 1) := by decide +kernel
theorem dX12_by_42 : decode cX12_by 42 = .ok (.isub, 1) := by decide +kernel
theorem dX12_by_43 : decode cX12_by 43 = .ok (.imul, 1) := by decide +kernel
theorem dX12_by_44 : decode cX12_by 44 = .ok (.iload 6, 2) := by decide +kernel
theorem dX12_by_46 : decode cX12_by 46 = .ok (.iadd, 1) := by decide +kernel
theorem dX12_by_47 : decode cX12_by 47 = .ok (.iaload, 1) := by decide +kernel
theorem dX12_by_48 : decode cX12_by 48 = .ok (.istore 7, 2) := by decide +kernel
theorem dX12_by_50 : decode cX12_by 50 = .ok (.iload 7, 2) := by decide +kernel
theorem dX12_by_52 : decode cX12_by 52 = .ok (.ldc 158, 2) := by decide +kernel
theorem dX12_by_54 : decode cX12_by 54 = .ok (.if_icmp .lt 8, 3) := by decide +kernel
theorem dX12_by_57 : decode cX12_by 57 = .ok (.ldc 158, 2) := by decide +kernel
theorem dX12_by_59 : decode cX12_by 59 = .ok (.goto 13, 3) := by decide +kernel
theorem dX12_by_62 : decode cX12_by 62 = .ok (.iload 7, 2) := by decide +kernel
theorem dX12_by_64 : decode cX12_by 64 = .ok (.aload_n 0, 1) := by decide +kernel
theorem dX12_by_65 : decode cX12_by 65 = .ok (.iload_n 1, 1) := by decide +kernel
theorem dX12_by_66 : decode cX12_by 66 = .ok (.iload 5, 2) := by decide +kernel
theorem dX12_by_68 : decode cX12_by 68 = .ok (.invokevirtual 474, 3) := by decide +kernel
theorem dX12_by_71 : decode cX12_by 71 = .ok (.iadd, 1) := by decide +kernel
theorem dX12_by_72 : decode cX12_by 72 = .ok (.ireturn, 1) := by decide +kernel
