theorem dX5_mindful_0 : decode cX5_mindful 0 = .ok (.iload_n 3, 1) := by decide +kernel
theorem dX5_mindful_1 : decode cX5_mindful 1 = .ok (.istore 4, 2) := by decide +kernel
theorem dX5_mindful_3 : decode cX5_mindful 3 = .ok (.iconst 0, 1) := by decide +kernel
theorem dX5_mindful_4 : decode cX5_mindful 4 = .ok (.istore 5, 2) := by decide +kernel
theorem dX5_mindful_6 : decode cX5_mindful 6 = .ok (.iload 5, 2) := by decide +kernel
theorem dX5_mindful_8 : decode cX5_mindful 8 = .ok (.iconst 2, 1) := by decide +kernel
theorem dX5_mindful_9 : decode cX5_mindful 9 = .ok (.if_icmp .ge 63, 3) := by decide +kernel
theorem dX5_mindful_12 : decode cX5_mindful 12 = .ok (.iload_n 3, 1) := by decide +kernel
theorem dX5_mindful_13 : decode cX5_mindful 13 = .ok (.iload 5, 2) := by decide +kernel
theorem dX5_mindful_15 : decode cX5_mindful 15 = .ok (.ishr, 1) := by decide +kernel
theorem dX5_mindful_16 : decode cX5_mindful 16 = .ok (.iconst 1, 1) := by decide +kernel
theorem dX5_mindful_17 : decode cX5_mindful 17 = .ok (.iand, 1) := by decide +kernel
theorem dX5_mindful_18 : decode cX5_mindful 18 = .ok (.iconst 1, 1) := by decide +kernel
theorem dX5_mindful_19 : decode cX5_mindful 19 = .ok (.if_icmp .ne 47, 3) := by decide +kernel
theorem dX5_mindful_22 : decode cX5_mindful 22 = .ok (.aload_n 0, 1) := by decide +kernel
theorem dX5_mindful_23 : decode cX5_mindful 23 = .ok (.invokevirtual 100, 3) := by decide +kernel
theorem dX5_mindful_26 : decode cX5_mindful 26 = .ok (.aload_n 1, 1) := by decide +kernel
theorem dX5_mindful_27 : decode cX5_mindful 27 = .ok (.getfield 104, 3) := by decide +kernel
theorem dX5_mindful_30 : decode cX5_mindful 30 = .ok (.aload_n 1, 1) := by decide +kernel
theorem dX5_mindful_31 : decode cX5_mindful 31 = .ok (.getfield 44, 3) := by decide +kernel
theorem dX5_mindful_34 : decode cX5_mindful 34 = .ok (.iconst 2, 1) := by decide +kernel
theorem dX5_mindful_35 : decode cX5_mindful 35 = .ok (.iload_n 2, 1) := by decide +kernel
theorem dX5_mindful_36 : decode cX5_mindful 36 = .ok (.imul, 1) := by decide +kernel
theorem dX5_mindful_37 : decode cX5_mindful 37 = .ok (.iload 5, 2) := by decide +kernel
theorem dX5_mindful_39 : decode cX5_mindful 39 = .ok (.iadd, 1) := by decide +kernel
theorem dX5_mindful_40 : decode cX5_mindful 40 = .ok (.iaload, 1) := by decide +kernel
theorem dX5_mindful_41 : decode cX5_mindful 41 = .ok (.iaload, 1) := by decide +kernel
theorem dX5_mindful_42 : decode cX5_mindful 42 = .ok (.if_icmp .ge 24, 3) := by decide +kernel
theorem dX5_mindful_45 : decode cX5_mindful 45 = .ok (.iload 4, 2) := by decide +kernel
theorem dX5_mindful_47 : decode cX5_mindful 47 = .ok (.iconst 1, 1) := by decide +kernel
theorem dX5_mindful_48 : decode cX5_mindful 48 = .ok (.iload 5, 2) := by decide +kernel
theorem dX5_mindful_50 : decode cX5_mindful 50 = .ok (.ishl, 1) := by decide +kernel
theorem dX5_mindful_51 : decode cX5_mindful 51 = .ok (.iconst (-1), 1) := by decide +kernel
theorem dX5_mindful_52 : decode cX5_mindful 52 = .ok (.ixor, 1) := by decide +kernel
theorem dX5_mindful_53 : decode cX5_mindful 53 = .ok (.iand, 1) := by decide +kernel
theorem dX5_mindful_54 : decode cX5_mindful 54 = .ok (.istore 4, 2) := by decide +kernel
theorem dX5_mindful_56 : decode cX5_mindful 56 = .ok (.aload_n 0, 1) := by decide +kernel
theorem dX5_mindful_57 : decode cX5_mindful 57 = .ok (.dup, 1) := by decide +kernel
theorem dX5_mindful_58 : decode cX5_mindful 58 = .ok (.getfield 33, 3) := by decide +kernel
theorem dX5_mindful_61 : decode cX5_mindful 61 = .ok (.iconst 1, 1) := by decide +kernel
theorem dX5_mindful_62 : decode cX5_mindful 62 = .ok (.iadd, 1) := by decide +kernel
theorem dX5_mindful_63 : decode cX5_mindful 63 = .ok (.putfield 33, 3) := by decide +kernel
theorem dX5_mindful_66 : decode cX5_mindful 66 = .ok (.iinc 5 1, 3) := by decide +kernel
theorem dX5_mindful_69 : decode cX5_mindful 69 = .ok (.goto (-63), 3) := by decide +kernel
theorem dX5_mindful_72 : decode cX5_mindful 72 = .ok (.iload 4, 2) := by decide +kernel
theorem dX5_mindful_74 : decode cX5_mindful 74 = .ok (.ireturn, 1) := by decide +kernel
theorem dX5_nextDraw_0 : decode cX5_nextDraw 0 = .ok (.aload_n 0, 1) := by decide +kernel
theorem dX5_nextDraw_1 : decode cX5_nextDraw 1 = .ok (.ldc2_w 107, 3) := by decide +kernel
theorem dX5_nextDraw_4 : decode cX5_nextDraw 4 = .ok (.aload_n 0, 1) := by decide +kernel
theorem dX5_nextDraw_5 : decode cX5_nextDraw 5 = .ok (.getfield 25, 3) := by decide +kernel
theorem dX5_nextDraw_8 : decode cX5_nextDraw 8 = .ok (.lmul, 1) := by decide +kernel
theorem dX5_nextDraw_9 : decode cX5_nextDraw 9 = .ok (.ldc2_w 109, 3) := by decide +kernel
theorem dX5_nextDraw_12 : decode cX5_nextDraw 12 = .ok (.ladd, 1) := by decide +kernel
theorem dX5_nextDraw_13 : decode cX5_nextDraw 13 = .ok (.ldc2_w 111, 3) := by decide +kernel
theorem dX5_nextDraw_16 : decode cX5_nextDraw 16 = .ok (.lrem, 1) := by decide +kernel
theorem dX5_nextDraw_17 : decode cX5_nextDraw 17 = .ok (.putfield 25, 3) := by decide +kernel
theorem dX5_nextDraw_20 : decode cX5_nextDraw 20 = .ok (.aload_n 0, 1) := by decide +kernel
theorem dX5_nextDraw_21 : decode cX5_nextDraw 21 = .ok (.getfield 25, 3) := by decide +kernel
theorem dX5_nextDraw_24 : decode cX5_nextDraw 24 = .ok (.ldc2_w 113, 3) := by decide +kernel
theorem dX5_nextDraw_27 : decode cX5_nextDraw 27 = .ok (.ldiv, 1) := by decide +kernel
theorem dX5_nextDraw_28 : decode cX5_nextDraw 28 = .ok (.ldc2_w 115, 3) := by decide +kernel
theorem dX5_nextDraw_31 : decode cX5_nextDraw 31 = .ok (.lrem, 1) := by decide +kernel
theorem dX5_nextDraw_32 : decode cX5_nextDraw 32 = .ok (.l2i, 1) := by decide +kernel
theorem dX5_nextDraw_33 : decode cX5_nextDraw 33 = .ok (.ireturn, 1) := by decide +kernel
theorem dX6_readRow_0 : decode cX6_readRow 0 = .ok (.aload_n 0, 1) := by decide +kernel
theorem dX6_readRow_1 : decode cX6_readRow 1 = .ok (.lconst 0, 1) := by decide +kernel
theorem dX6_readRow_2 : decode cX6_readRow 2 = .ok (.putfield 9, 3) := by decide +kernel
theorem dX6_readRow_5 : decode cX6_readRow 5 = .ok (.aload_n 0, 1) := by decide +kernel
theorem dX6_readRow_6 : decode cX6_readRow 6 = .ok (.lconst 0, 1) := by decide +kernel
theorem dX6_readRow_7 : decode cX6_readRow 7 = .ok (.putfield 15, 3) := by decide +kernel
theorem dX6_readRow_10 : decode cX6_readRow 10 = .ok (.aload_n 0, 1) := by decide +kernel
theorem dX6_readRow_11 : decode cX6_readRow 11 = .ok (.lconst 0, 1) := by decide +kernel
theorem dX6_readRow_12 : decode cX6_readRow 12 = .ok (.putfield 18, 3) := by decide +kernel
theorem dX6_readRow_15 : decode cX6_readRow 15 = .ok (.aload_n 0, 1) := by decide +kernel
theorem dX6_readRow_16 : decode cX6_readRow 16 = .ok (.iconst 0, 1) := by decide +kernel
theorem dX6_readRow_17 : decode cX6_readRow 17 = .ok (.putfield 21, 3) := by decide +kernel
theorem dX6_readRow_20 : decode cX6_readRow 20 = .ok (.aload_n 1, 1) := by decide +kernel
theorem dX6_readRow_21 : decode cX6_readRow 21 = .ok (.getfield 25, 3) := by decide +kernel
theorem dX6_readRow_24 : decode cX6_readRow 24 = .ok (.iload_n 2, 1) := by decide +kernel
theorem dX6_readRow_25 : decode cX6_readRow 25 = .ok (.iaload, 1) := by decide +kernel
theorem dX6_readRow_26 : decode cX6_readRow 26 = .ok (.iconst 3, 1) := by decide +kernel
theorem dX6_readRow_27 : decode cX6_readRow 27 = .ok (.irem, 1) := by decide +kernel
theorem dX6_readRow_28 : decode cX6_readRow 28 = .ok (.ifCond .eq 5, 3) := by decide +kernel
theorem dX6_readRow_31 : decode cX6_readRow 31 = .ok (.iconst 0, 1) := by decide +kernel
theorem dX6_readRow_32 : decode cX6_readRow 32 = .ok (.ireturn, 1) := by decide +kernel
theorem dX6_readRow_33 : decode cX6_readRow 33 = .ok (.iconst 0, 1) := by decide +kernel
theorem dX6_readRow_34 : decode cX6_readRow 34 = .ok (.istore 4, 2) := by decide +kernel
theorem dX6_readRow_36 : decode cX6_readRow 36 = .ok (.iload 4, 2) := by decide +kernel
theorem dX6_readRow_38 : decode cX6_readRow 38 = .ok (.aload_n 1, 1) := by decide +kernel
theorem dX6_readRow_39 : decode cX6_readRow 39 = .ok (.getfield 25, 3) := by decide +kernel
theorem dX6_readRow_42 : decode cX6_readRow 42 = .ok (.iload_n 2, 1) := by decide +kernel
theorem dX6_readRow_43 : decode cX6_readRow 43 = .ok (.iaload, 1) := by decide +kernel
theorem dX6_readRow_44 : decode cX6_readRow 44 = .ok (.if_icmp .ge 96, 3) := by decide +kernel
theorem dX6_readRow_47 : decode cX6_readRow 47 = .ok (.aload_n 1, 1) := by decide +kernel
theorem dX6_readRow_48 : decode cX6_readRow 48 = .ok (.iload_n 2, 1) := by decide +kernel
theorem dX6_readRow_49 : decode cX6_readRow 49 = .ok (.iload 4, 2) := by decide +kernel
theorem dX6_readRow_51 : decode cX6_readRow 51 = .ok (.invokevirtual 31, 3) := by decide +kernel
theorem dX6_readRow_54 : decode cX6_readRow 54 = .ok (.lstore 5, 2) := by decide +kernel
theorem dX6_readRow_56 : decode cX6_readRow 56 = .ok (.aload_n 1, 1) := by decide +kernel
theorem dX6_readRow_57 : decode cX6_readRow 57 = .ok (.iload_n 2, 1) := by decide +kernel
theorem dX6_readRow_58 : decode cX6_readRow 58 = .ok (.iload 4, 2) := by decide +kernel
theorem dX6_readRow_60 : decode cX6_readRow 60 = .ok (.iconst 1, 1) := by decide +kernel
theorem dX6_readRow_61 : decode cX6_readRow 61 = .ok (.iadd, 1) := by decide +kernel
theorem dX6_readRow_62 : decode cX6_readRow 62 = .ok (.invokevirtual 31, 3) := by decide +kernel
theorem dX6_readRow_65 : decode cX6_readRow 65 = .ok (.lstore 7, 2) := by decide +kernel
theorem dX6_readRow_67 : decode cX6_readRow 67 = .ok (.aload_n 1, 1) := by decide +kernel
theorem dX6_readRow_68 : decode cX6_readRow 68 = .ok (.iload_n 2, 1) := by decide +kernel
theorem dX6_readRow_69 : decode cX6_readRow 69 = .ok (.iload 4, 2) := by decide +kernel
theorem dX6_readRow_71 : decode cX6_readRow 71 = .ok (.iconst 2, 1) := by decide +kernel
theorem dX6_readRow_72 : decode cX6_readRow 72 = .ok (.iadd, 1) := by decide +kernel
theorem dX6_readRow_73 : decode cX6_readRow 73 = .ok (.invokevirtual 31, 3) := by decide +kernel
theorem dX6_readRow_76 : decode cX6_readRow 76 = .ok (.lstore 9, 2) := by decide +kernel
theorem dX6_readRow_78 : decode cX6_readRow 78 = .ok (.lload 5, 2) := by decide +kernel
theorem dX6_readRow_80 : decode cX6_readRow 80 = .ok (.lconst 0, 1) := by decide +kernel
theorem dX6_readRow_81 : decode cX6_readRow 81 = .ok (.lcmp, 1) := by decide +kernel
theorem dX6_readRow_82 : decode cX6_readRow 82 = .ok (.ifCond .lt 39, 3) := by decide +kernel
theorem dX6_readRow_85 : decode cX6_readRow 85 = .ok (.lload 5, 2) := by decide +kernel
theorem dX6_readRow_87 : decode cX6_readRow 87 = .ok (.iload_n 3, 1) := by decide +kernel
theorem dX6_readRow_88 : decode cX6_readRow 88 = .ok (.i2l, 1) := by decide +kernel
theorem dX6_readRow_89 : decode cX6_readRow 89 = .ok (.lcmp, 1) := by decide +kernel
theorem dX6_readRow_90 : decode cX6_readRow 90 = .ok (.ifCond .ge 31, 3) := by decide +kernel
theorem dX6_readRow_93 : decode cX6_readRow 93 = .ok (.lload 7, 2) := by decide +kernel
theorem dX6_readRow_95 : decode cX6_readRow 95 = .ok (.lconst 0, 1) := by decide +kernel
theorem dX6_readRow_96 : decode cX6_readRow 96 = .ok (.lcmp, 1) := by decide +kernel
theorem dX6_readRow_97 : decode cX6_readRow 97 = .ok (.ifCond .lt 24, 3) := by decide +kernel
theorem dX6_readRow_100 : decode cX6_readRow 100 = .ok (.lload 7, 2) := by decide +kernel
theorem dX6_readRow_102 : decode cX6_readRow 102 = .ok (.lconst 1, 1) := by decide +kernel
theorem dX6_readRow_103 : decode cX6_readRow 103 = .ok (.lcmp, 1) := by decide +kernel
theorem dX6_readRow_104 : decode cX6_readRow 104 = .ok (.ifCond .gt 17, 3) := by decide +kernel
theorem dX6_readRow_107 : decode cX6_readRow 107 = .ok (.lload 9, 2) := by decide +kernel
theorem dX6_readRow_109 : decode cX6_readRow 109 = .ok (.lconst 0, 1) := by decide +kernel
theorem dX6_readRow_110 : decode cX6_readRow 110 = .ok (.lcmp, 1) := by decide +kernel
theorem dX6_readRow_111 : decode cX6_readRow 111 = .ok (.ifCond .lt 10, 3) := by decide +kernel
theorem dX6_readRow_114 : decode cX6_readRow 114 = .ok (.lload 9, 2) := by decide +kernel
theorem dX6_readRow_116 : decode cX6_readRow 116 = .ok (.lconst 1, 1) := by decide +kernel
theorem dX6_readRow_117 : decode cX6_readRow 117 = .ok (.lcmp, 1) := by decide +kernel
theorem dX6_readRow_118 : decode cX6_readRow 118 = .ok (.ifCond .le 5, 3) := by decide +kernel
theorem dX6_readRow_121 : decode cX6_readRow 121 = .ok (.iconst 0, 1) := by decide +kernel
theorem dX6_readRow_122 : decode cX6_readRow 122 = .ok (.ireturn, 1) := by decide +kernel
theorem dX6_readRow_123 : decode cX6_readRow 123 = .ok (.aload_n 0, 1) := by decide +kernel
theorem dX6_readRow_124 : decode cX6_readRow 124 = .ok (.lload 5, 2) := by decide +kernel
theorem dX6_readRow_126 : decode cX6_readRow 126 = .ok (.l2i, 1) := by decide +kernel
theorem dX6_readRow_127 : decode cX6_readRow 127 = .ok (.lload 7, 2) := by decide +kernel
theorem dX6_readRow_129 : decode cX6_readRow 129 = .ok (.lload 9, 2) := by decide +kernel
theorem dX6_readRow_131 : decode cX6_readRow 131 = .ok (.invokevirtual 35, 3) := by decide +kernel
theorem dX6_readRow_134 : decode cX6_readRow 134 = .ok (.iinc 4 3, 3) := by decide +kernel
theorem dX6_readRow_137 : decode cX6_readRow 137 = .ok (.goto (-101), 3) := by decide +kernel
theorem dX6_readRow_140 : decode cX6_readRow 140 = .ok (.iconst 1, 1) := by decide +kernel
theorem dX6_readRow_141 : decode cX6_readRow 141 = .ok (.ireturn, 1) := by decide +kernel
theorem dX6_mayCome_0 : decode cX6_mayCome 0 = .ok (.aload_n 0, 1) := by decide +kernel
theorem dX6_mayCome_1 : decode cX6_mayCome 1 = .ok (.getfield 21, 3) := by decide +kernel
theorem dX6_mayCome_4 : decode cX6_mayCome 4 = .ok (.ifCond .eq 5, 3) := by decide +kernel
theorem dX6_mayCome_7 : decode cX6_mayCome 7 = .ok (.iconst 0, 1) := by decide +kernel
theorem dX6_mayCome_8 : decode cX6_mayCome 8 = .ok (.ireturn, 1) := by decide +kernel
theorem dX6_mayCome_9 : decode cX6_mayCome 9 = .ok (.aload_n 1, 1) := by decide +kernel
theorem dX6_mayCome_10 : decode cX6_mayCome 10 = .ok (.getfield 39, 3) := by decide +kernel
theorem dX6_mayCome_13 : decode cX6_mayCome 13 = .ok (.iconst 0, 1) := by decide +kernel
theorem dX6_mayCome_14 : decode cX6_mayCome 14 = .ok (.iload_n 2, 1) := by decide +kernel
theorem dX6_mayCome_15 : decode cX6_mayCome 15 = .ok (.iastore, 1) := by decide +kernel
theorem dX6_mayCome_16 : decode cX6_mayCome 16 = .ok (.aload_n 1, 1) := by decide +kernel
theorem dX6_mayCome_17 : decode cX6_mayCome 17 = .ok (.getfield 39, 3) := by decide +kernel
theorem dX6_mayCome_20 : decode cX6_mayCome 20 = .ok (.iconst 1, 1) := by decide +kernel
theorem dX6_mayCome_21 : decode cX6_mayCome 21 = .ok (.iload_n 3, 1) := by decide +kernel
theorem dX6_mayCome_22 : decode cX6_mayCome 22 = .ok (.iastore, 1) := by decide +kernel
theorem dX6_mayCome_23 : decode cX6_mayCome 23 = .ok (.aload_n 1, 1) := by decide +kernel
theorem dX6_mayCome_24 : decode cX6_mayCome 24 = .ok (.aload_n 0, 1) := by decide +kernel
theorem dX6_mayCome_25 : decode cX6_mayCome 25 = .ok (.getfield 9, 3) := by decide +kernel
theorem dX6_mayCome_28 : decode cX6_mayCome 28 = .ok (.invokestatic 44, 3) := by decide +kernel
theorem dX6_mayCome_31 : decode cX6_mayCome 31 = .ok (.iconst 1, 1) := by decide +kernel
theorem dX6_mayCome_32 : decode cX6_mayCome 32 = .ok (.iadd, 1) := by decide +kernel
theorem dX6_mayCome_33 : decode cX6_mayCome 33 = .ok (.putfield 48, 3) := by decide +kernel
theorem dX6_mayCome_36 : decode cX6_mayCome 36 = .ok (.aload_n 1, 1) := by decide +kernel
theorem dX6_mayCome_37 : decode cX6_mayCome 37 = .ok (.aload_n 0, 1) := by decide +kernel
theorem dX6_mayCome_38 : decode cX6_mayCome 38 = .ok (.getfield 9, 3) := by decide +kernel
theorem dX6_mayCome_41 : decode cX6_mayCome 41 = .ok (.aload_n 0, 1) := by decide +kernel
theorem dX6_mayCome_42 : decode cX6_mayCome 42 = .ok (.getfield 15, 3) := by decide +kernel
theorem dX6_mayCome_45 : decode cX6_mayCome 45 = .ok (.aload_n 0, 1) := by decide +kernel
theorem dX6_mayCome_46 : decode cX6_mayCome 46 = .ok (.getfield 18, 3) := by decide +kernel
theorem dX6_mayCome_49 : decode cX6_mayCome 49 = .ok (.invokevirtual 51, 3) := by decide +kernel
theorem dX6_mayCome_52 : decode cX6_mayCome 52 = .ok (.ireturn, 1) := by decide +kernel
theorem dX6_note_0 : decode cX6_note 0 = .ok (.aload_n 0, 1) := by decide +kernel
theorem dX6_note_1 : decode cX6_note 1 = .ok (.getfield 9, 3) := by decide +kernel
theorem dX6_note_4 : decode cX6_note 4 = .ok (.iload_n 1, 1) := by decide +kernel
theorem dX6_note_5 : decode cX6_note 5 = .ok (.invokestatic 55, 3) := by decide +kernel
theorem dX6_note_8 : decode cX6_note 8 = .ok (.ifCond .eq 47, 3) := by decide +kernel
theorem dX6_note_11 : decode cX6_note 11 = .ok (.aload_n 0, 1) := by decide +kernel
theorem dX6_note_12 : decode cX6_note 12 = .ok (.aload_n 0, 1) := by decide +kernel
theorem dX6_note_13 : decode cX6_note 13 = .ok (.getfield 21, 3) := by decide +kernel
theorem dX6_note_16 : decode cX6_note 16 = .ok (.ifCond .ne 30, 3) := by decide +kernel
theorem dX6_note_19 : decode cX6_note 19 = .ok (.aload_n 0, 1) := by decide +kernel
theorem dX6_note_20 : decode cX6_note 20 = .ok (.getfield 15, 3) := by decide +kernel
theorem dX6_note_23 : decode cX6_note 23 = .ok (.iload_n 1, 1) := by decide +kernel
theorem dX6_note_24 : decode cX6_note 24 = .ok (.lshr, 1) := by decide +kernel
theorem dX6_note_25 : decode cX6_note 25 = .ok (.lconst 1, 1) := by decide +kernel
theorem dX6_note_26 : decode cX6_note 26 = .ok (.land, 1) := by decide +kernel
theorem dX6_note_27 : decode cX6_note 27 = .ok (.lload_n 2, 1) := by decide +kernel
theorem dX6_note_28 : decode cX6_note 28 = .ok (.lcmp, 1) := by decide +kernel
theorem dX6_note_29 : decode cX6_note 29 = .ok (.ifCond .ne 17, 3) := by decide +kernel
theorem dX6_note_32 : decode cX6_note 32 = .ok (.aload_n 0, 1) := by decide +kernel
theorem dX6_note_33 : decode cX6_note 33 = .ok (.getfield 18, 3) := by decide +kernel
theorem dX6_note_36 : decode cX6_note 36 = .ok (.iload_n 1, 1) := by decide +kernel
theorem dX6_note_37 : decode cX6_note 37 = .ok (.lshr, 1) := by decide +kernel
theorem dX6_note_38 : decode cX6_note 38 = .ok (.lconst 1, 1) := by decide +kernel
theorem dX6_note_39 : decode cX6_note 39 = .ok (.land, 1) := by decide +kernel
theorem dX6_note_40 : decode cX6_note 40 = .ok (.lload 4, 2) := by decide +kernel
theorem dX6_note_42 : decode cX6_note 42 = .ok (.lcmp, 1) := by decide +kernel
theorem dX6_note_43 : decode cX6_note 43 = .ok (.ifCond .eq 7, 3) := by decide +kernel
theorem dX6_note_46 : decode cX6_note 46 = .ok (.iconst 1, 1) := by decide +kernel
theorem dX6_note_47 : decode cX6_note 47 = .ok (.goto 4, 3) := by decide +kernel
theorem dX6_note_50 : decode cX6_note 50 = .ok (.iconst 0, 1) := by decide +kernel
theorem dX6_note_51 : decode cX6_note 51 = .ok (.putfield 21, 3) := by decide +kernel
theorem dX6_note_54 : decode cX6_note 54 = .ok (.return_, 1) := by decide +kernel
theorem dX6_note_55 : decode cX6_note 55 = .ok (.aload_n 0, 1) := by decide +kernel
theorem dX6_note_56 : decode cX6_note 56 = .ok (.dup, 1) := by decide +kernel
theorem dX6_note_57 : decode cX6_note 57 = .ok (.getfield 9, 3) := by decide +kernel
theorem dX6_note_60 : decode cX6_note 60 = .ok (.lconst 1, 1) := by decide +kernel
theorem dX6_note_61 : decode cX6_note 61 = .ok (.iload_n 1, 1) := by decide +kernel
theorem dX6_note_62 : decode cX6_note 62 = .ok (.lshl, 1) := by decide +kernel
theorem dX6_note_63 : decode cX6_note 63 = .ok (.lor, 1) := by decide +kernel
theorem dX6_note_64 : decode cX6_note 64 = .ok (.putfield 9, 3) := by decide +kernel
theorem dX6_note_67 : decode cX6_note 67 = .ok (.aload_n 0, 1) := by decide +kernel
theorem dX6_note_68 : decode cX6_note 68 = .ok (.dup, 1) := by decide +kernel
theorem dX6_note_69 : decode cX6_note 69 = .ok (.getfield 15, 3) := by decide +kernel
theorem dX6_note_72 : decode cX6_note 72 = .ok (.lload_n 2, 1) := by decide +kernel
theorem dX6_note_73 : decode cX6_note 73 = .ok (.iload_n 1, 1) := by decide +kernel
theorem dX6_note_74 : decode cX6_note 74 = .ok (.lshl, 1) := by decide +kernel
theorem dX6_note_75 : decode cX6_note 75 = .ok (.lor, 1) := by decide +kernel
theorem dX6_note_76 : decode cX6_note 76 = .ok (.putfield 15, 3) := by decide +kernel
theorem dX6_note_79 : decode cX6_note 79 = .ok (.aload_n 0, 1) := by decide +kernel
theorem dX6_note_80 : decode cX6_note 80 = .ok (.dup, 1) := by decide +kernel
theorem dX6_note_81 : decode cX6_note 81 = .ok (.getfield 18, 3) := by decide +kernel
theorem dX6_note_84 : decode cX6_note 84 = .ok (.lload 4, 2) := by decide +kernel
theorem dX6_note_86 : decode cX6_note 86 = .ok (.iload_n 1, 1) := by decide +kernel
theorem dX6_note_87 : decode cX6_note 87 = .ok (.lshl, 1) := by decide +kernel
theorem dX6_note_88 : decode cX6_note 88 = .ok (.lor, 1) := by decide +kernel
theorem dX6_note_89 : decode cX6_note 89 = .ok (.putfield 18, 3) := by decide +kernel
theorem dX6_note_92 : decode cX6_note 92 = .ok (.return_, 1) := by decide +kernel
theorem dX7_has_0 : decode cX7_has 0 = .ok (.aload_n 0, 1) := by decide +kernel
theorem dX7_has_1 : decode cX7_has 1 = .ok (.getfield 15, 3) := by decide +kernel
theorem dX7_has_4 : decode cX7_has 4 = .ok (.iload_n 1, 1) := by decide +kernel
theorem dX7_has_5 : decode cX7_has 5 = .ok (.iaload, 1) := by decide +kernel
theorem dX7_has_6 : decode cX7_has 6 = .ok (.iconst (-1), 1) := by decide +kernel
theorem dX7_has_7 : decode cX7_has 7 = .ok (.if_icmp .eq 7, 3) := by decide +kernel
theorem dX7_has_10 : decode cX7_has 10 = .ok (.iconst 1, 1) := by decide +kernel
theorem dX7_has_11 : decode cX7_has 11 = .ok (.goto 4, 3) := by decide +kernel
theorem dX7_has_14 : decode cX7_has 14 = .ok (.iconst 0, 1) := by decide +kernel
theorem dX7_has_15 : decode cX7_has 15 = .ok (.ireturn, 1) := by decide +kernel
theorem dX7_filled_0 : decode cX7_filled 0 = .ok (.iconst 0, 1) := by decide +kernel
theorem dX7_filled_1 : decode cX7_filled 1 = .ok (.istore_n 1, 1) := by decide +kernel
theorem dX7_filled_2 : decode cX7_filled 2 = .ok (.iconst 0, 1) := by decide +kernel
theorem dX7_filled_3 : decode cX7_filled 3 = .ok (.istore_n 2, 1) := by decide +kernel
theorem dX7_filled_4 : decode cX7_filled 4 = .ok (.iload_n 2, 1) := by decide +kernel
theorem dX7_filled_5 : decode cX7_filled 5 = .ok (.iconst 4, 1) := by decide +kernel
theorem dX7_filled_6 : decode cX7_filled 6 = .ok (.if_icmp .ge 25, 3) := by decide +kernel
theorem dX7_filled_9 : decode cX7_filled 9 = .ok (.iload_n 1, 1) := by decide +kernel
theorem dX7_filled_10 : decode cX7_filled 10 = .ok (.aload_n 0, 1) := by decide +kernel
theorem dX7_filled_11 : decode cX7_filled 11 = .ok (.iload_n 2, 1) := by decide +kernel
theorem dX7_filled_12 : decode cX7_filled 12 = .ok (.invokevirtual 22, 3) := by decide +kernel
theorem dX7_filled_15 : decode cX7_filled 15 = .ok (.ifCond .eq 7, 3) := by decide +kernel
theorem dX7_filled_18 : decode cX7_filled 18 = .ok (.iconst 1, 1) := by decide +kernel
theorem dX7_filled_19 : decode cX7_filled 19 = .ok (.goto 4, 3) := by decide +kernel
theorem dX7_filled_22 : decode cX7_filled 22 = .ok (.iconst 0, 1) := by decide +kernel
theorem dX7_filled_23 : decode cX7_filled 23 = .ok (.iadd, 1) := by decide +kernel
theorem dX7_filled_24 : decode cX7_filled 24 = .ok (.istore_n 1, 1) := by decide +kernel
theorem dX7_filled_25 : decode cX7_filled 25 = .ok (.iinc 2 1, 3) := by decide +kernel
theorem dX7_filled_28 : decode cX7_filled 28 = .ok (.goto (-24), 3) := by decide +kernel
theorem dX7_filled_31 : decode cX7_filled 31 = .ok (.iload_n 1, 1) := by decide +kernel
theorem dX7_filled_32 : decode cX7_filled 32 = .ok (.ireturn, 1) := by decide +kernel
theorem dX7_lay_0 : decode cX7_lay 0 = .ok (.aload_n 0, 1) := by decide +kernel
theorem dX7_lay_1 : decode cX7_lay 1 = .ok (.getfield 11, 3) := by decide +kernel
theorem dX7_lay_4 : decode cX7_lay 4 = .ok (.iload_n 1, 1) := by decide +kernel
theorem dX7_lay_5 : decode cX7_lay 5 = .ok (.iload_n 2, 1) := by decide +kernel
theorem dX7_lay_6 : decode cX7_lay 6 = .ok (.iastore, 1) := by decide +kernel
theorem dX7_lay_7 : decode cX7_lay 7 = .ok (.aload_n 0, 1) := by decide +kernel
theorem dX7_lay_8 : decode cX7_lay 8 = .ok (.getfield 15, 3) := by decide +kernel
theorem dX7_lay_11 : decode cX7_lay 11 = .ok (.iload_n 1, 1) := by decide +kernel
theorem dX7_lay_12 : decode cX7_lay 12 = .ok (.iload_n 3, 1) := by decide +kernel
theorem dX7_lay_13 : decode cX7_lay 13 = .ok (.iastore, 1) := by decide +kernel
theorem dX7_lay_14 : decode cX7_lay 14 = .ok (.iconst 0, 1) := by decide +kernel
theorem dX7_lay_15 : decode cX7_lay 15 = .ok (.istore 4, 2) := by decide +kernel
theorem dX7_lay_17 : decode cX7_lay 17 = .ok (.iload 4, 2) := by decide +kernel
theorem dX7_lay_19 : decode cX7_lay 19 = .ok (.iload_n 3, 1) := by decide +kernel
theorem dX7_lay_20 : decode cX7_lay 20 = .ok (.if_icmp .ge 22, 3) := by decide +kernel
theorem dX7_lay_23 : decode cX7_lay 23 = .ok (.aload_n 0, 1) := by decide +kernel
theorem dX7_lay_24 : decode cX7_lay 24 = .ok (.getfield 18, 3) := by decide +kernel
theorem dX7_lay_27 : decode cX7_lay 27 = .ok (.iload_n 1, 1) := by decide +kernel
theorem dX7_lay_28 : decode cX7_lay 28 = .ok (.bipush 60, 2) := by decide +kernel
theorem dX7_lay_30 : decode cX7_lay 30 = .ok (.imul, 1) := by decide +kernel
theorem dX7_lay_31 : decode cX7_lay 31 = .ok (.iload 4, 2) := by decide +kernel
theorem dX7_lay_33 : decode cX7_lay 33 = .ok (.iadd, 1) := by decide +kernel
theorem dX7_lay_34 : decode cX7_lay 34 = .ok (.lconst 0, 1) := by decide +kernel
theorem dX7_lay_35 : decode cX7_lay 35 = .ok (.lastore, 1) := by decide +kernel
theorem dX7_lay_36 : decode cX7_lay 36 = .ok (.iinc 4 1, 3) := by decide +kernel
theorem dX7_lay_39 : decode cX7_lay 39 = .ok (.goto (-22), 3) := by decide +kernel
theorem dX7_lay_42 : decode cX7_lay 42 = .ok (.return_, 1) := by decide +kernel
theorem dX7_numberAt_0 : decode cX7_numberAt 0 = .ok (.aload_n 0, 1) := by decide +kernel
theorem dX7_numberAt_1 : decode cX7_numberAt 1 = .ok (.getfield 18, 3) := by decide +kernel
theorem dX7_numberAt_4 : decode cX7_numberAt 4 = .ok (.iload_n 1, 1) := by decide +kernel
theorem dX7_numberAt_5 : decode cX7_numberAt 5 = .ok (.bipush 60, 2) := by decide +kernel
theorem dX7_numberAt_7 : decode cX7_numberAt 7 = .ok (.imul, 1) := by decide +kernel
theorem dX7_numberAt_8 : decode cX7_numberAt 8 = .ok (.iload_n 2, 1) := by decide +kernel
theorem dX7_numberAt_9 : decode cX7_numberAt 9 = .ok (.iadd, 1) := by decide +kernel
theorem dX7_numberAt_10 : decode cX7_numberAt 10 = .ok (.laload, 1) := by decide +kernel
theorem dX7_numberAt_11 : decode cX7_numberAt 11 = .ok (.lreturn, 1) := by decide +kernel
theorem dX7_put_0 : decode cX7_put 0 = .ok (.bipush 64, 2) := by decide +kernel
theorem dX7_put_2 : decode cX7_put 2 = .ok (.bipush 8, 2) := by decide +kernel
theorem dX7_put_4 : decode cX7_put 4 = .ok (.aload_n 0, 1) := by decide +kernel
theorem dX7_put_5 : decode cX7_put 5 = .ok (.getfield 11, 3) := by decide +kernel
theorem dX7_put_8 : decode cX7_put 8 = .ok (.iload_n 1, 1) := by decide +kernel
theorem dX7_put_9 : decode cX7_put 9 = .ok (.iaload, 1) := by decide +kernel
theorem dX7_put_10 : decode cX7_put 10 = .ok (.ishl, 1) := by decide +kernel
theorem dX7_put_11 : decode cX7_put 11 = .ok (.isub, 1) := by decide +kernel
theorem dX7_put_12 : decode cX7_put 12 = .ok (.istore 5, 2) := by decide +kernel
theorem dX7_put_14 : decode cX7_put 14 = .ok (.aload_n 0, 1) := by decide +kernel
theorem dX7_put_15 : decode cX7_put 15 = .ok (.getfield 18, 3) := by decide +kernel
theorem dX7_put_18 : decode cX7_put 18 = .ok (.iload_n 1, 1) := by decide +kernel
theorem dX7_put_19 : decode cX7_put 19 = .ok (.bipush 60, 2) := by decide +kernel
theorem dX7_put_21 : decode cX7_put 21 = .ok (.imul, 1) := by decide +kernel
theorem dX7_put_22 : decode cX7_put 22 = .ok (.iload_n 2, 1) := by decide +kernel
theorem dX7_put_23 : decode cX7_put 23 = .ok (.iadd, 1) := by decide +kernel
theorem dX7_put_24 : decode cX7_put 24 = .ok (.lload_n 3, 1) := by decide +kernel
theorem dX7_put_25 : decode cX7_put 25 = .ok (.iload 5, 2) := by decide +kernel
theorem dX7_put_27 : decode cX7_put 27 = .ok (.lshl, 1) := by decide +kernel
theorem dX7_put_28 : decode cX7_put 28 = .ok (.iload 5, 2) := by decide +kernel
theorem dX7_put_30 : decode cX7_put 30 = .ok (.lshr, 1) := by decide +kernel
theorem dX7_put_31 : decode cX7_put 31 = .ok (.lastore, 1) := by decide +kernel
theorem dX7_put_32 : decode cX7_put 32 = .ok (.return_, 1) := by decide +kernel
theorem dX7_holds_0 : decode cX7_holds 0 = .ok (.iload_n 2, 1) := by decide +kernel
theorem dX7_holds_1 : decode cX7_holds 1 = .ok (.ifCond .lt 33, 3) := by decide +kernel
theorem dX7_holds_4 : decode cX7_holds 4 = .ok (.iload_n 3, 1) := by decide +kernel
theorem dX7_holds_5 : decode cX7_holds 5 = .ok (.ifCond .lt 29, 3) := by decide +kernel
theorem dX7_holds_8 : decode cX7_holds 8 = .ok (.iload_n 2, 1) := by decide +kernel
theorem dX7_holds_9 : decode cX7_holds 9 = .ok (.aload_n 0, 1) := by decide +kernel
theorem dX7_holds_10 : decode cX7_holds 10 = .ok (.getfield 15, 3) := by decide +kernel
theorem dX7_holds_13 : decode cX7_holds 13 = .ok (.iload_n 1, 1) := by decide +kernel
theorem dX7_holds_14 : decode cX7_holds 14 = .ok (.iaload, 1) := by decide +kernel
theorem dX7_holds_15 : decode cX7_holds 15 = .ok (.if_icmp .gt 19, 3) := by decide +kernel
theorem dX7_holds_18 : decode cX7_holds 18 = .ok (.iload_n 3, 1) := by decide +kernel
theorem dX7_holds_19 : decode cX7_holds 19 = .ok (.aload_n 0, 1) := by decide +kernel
theorem dX7_holds_20 : decode cX7_holds 20 = .ok (.getfield 15, 3) := by decide +kernel
theorem dX7_holds_23 : decode cX7_holds 23 = .ok (.iload_n 1, 1) := by decide +kernel
theorem dX7_holds_24 : decode cX7_holds 24 = .ok (.iaload, 1) := by decide +kernel
theorem dX7_holds_25 : decode cX7_holds 25 = .ok (.iload_n 2, 1) := by decide +kernel
theorem dX7_holds_26 : decode cX7_holds 26 = .ok (.isub, 1) := by decide +kernel
theorem dX7_holds_27 : decode cX7_holds 27 = .ok (.if_icmp .gt 7, 3) := by decide +kernel
theorem dX7_holds_30 : decode cX7_holds 30 = .ok (.iconst 1, 1) := by decide +kernel
theorem dX7_holds_31 : decode cX7_holds 31 = .ok (.goto 4, 3) := by decide +kernel
theorem dX7_holds_34 : decode cX7_holds 34 = .ok (.iconst 0, 1) := by decide +kernel
theorem dX7_holds_35 : decode cX7_holds 35 = .ok (.ireturn, 1) := by decide +kernel
theorem dX7_copy_0 : decode cX7_copy 0 = .ok (.aload_n 0, 1) := by decide +kernel
theorem dX7_copy_1 : decode cX7_copy 1 = .ok (.getfield 18, 3) := by decide +kernel
theorem dX7_copy_4 : decode cX7_copy 4 = .ok (.iload_n 1, 1) := by decide +kernel
theorem dX7_copy_5 : decode cX7_copy 5 = .ok (.bipush 60, 2) := by decide +kernel
theorem dX7_copy_7 : decode cX7_copy 7 = .ok (.imul, 1) := by decide +kernel
theorem dX7_copy_8 : decode cX7_copy 8 = .ok (.iload_n 2, 1) := by decide +kernel
theorem dX7_copy_9 : decode cX7_copy 9 = .ok (.iadd, 1) := by decide +kernel
theorem dX7_copy_10 : decode cX7_copy 10 = .ok (.aload_n 0, 1) := by decide +kernel
theorem dX7_copy_11 : decode cX7_copy 11 = .ok (.getfield 18, 3) := by decide +kernel
theorem dX7_copy_14 : decode cX7_copy 14 = .ok (.iload_n 3, 1) := by decide +kernel
theorem dX7_copy_15 : decode cX7_copy 15 = .ok (.bipush 60, 2) := by decide +kernel
theorem dX7_copy_17 : decode cX7_copy 17 = .ok (.imul, 1) := by decide +kernel
theorem dX7_copy_18 : decode cX7_copy 18 = .ok (.iload 4, 2) := by decide +kernel
theorem dX7_copy_20 : decode cX7_copy 20 = .ok (.iadd, 1) := by decide +kernel
theorem dX7_copy_21 : decode cX7_copy 21 = .ok (.iload 5, 2) := by decide +kernel
theorem dX7_copy_23 : decode cX7_copy 23 = .ok (.invokestatic 26, 3) := by decide +kernel
theorem dX7_copy_26 : decode cX7_copy 26 = .ok (.return_, 1) := by decide +kernel
theorem dX9_planEnd_0 : decode cX9_planEnd 0 = .ok (.aload_n 0, 1) := by decide +kernel
theorem dX9_planEnd_1 : decode cX9_planEnd 1 = .ok (.aload_n 1, 1) := by decide +kernel
theorem dX9_planEnd_2 : decode cX9_planEnd 2 = .ok (.iload_n 2, 1) := by decide +kernel
theorem dX9_planEnd_3 : decode cX9_planEnd 3 = .ok (.iload_n 3, 1) := by decide +kernel
theorem dX9_planEnd_4 : decode cX9_planEnd 4 = .ok (.iload 4, 2) := by decide +kernel
theorem dX9_planEnd_6 : decode cX9_planEnd 6 = .ok (.invokevirtual 15, 3) := by decide +kernel
theorem dX9_planEnd_9 : decode cX9_planEnd 9 = .ok (.aload_n 0, 1) := by decide +kernel
theorem dX9_planEnd_10 : decode cX9_planEnd 10 = .ok (.iconst 1, 1) := by decide +kernel
theorem dX9_planEnd_11 : decode cX9_planEnd 11 = .ok (.putfield 19, 3) := by decide +kernel
theorem dX9_planEnd_14 : decode cX9_planEnd 14 = .ok (.iconst 0, 1) := by decide +kernel
theorem dX9_planEnd_15 : decode cX9_planEnd 15 = .ok (.istore 6, 2) := by decide +kernel
theorem dX9_planEnd_17 : decode cX9_planEnd 17 = .ok (.iload 6, 2) := by decide +kernel
theorem dX9_planEnd_19 : decode cX9_planEnd 19 = .ok (.bipush 16, 2) := by decide +kernel
theorem dX9_planEnd_21 : decode cX9_planEnd 21 = .ok (.if_icmp .ge 75, 3) := by decide +kernel
theorem dX9_planEnd_24 : decode cX9_planEnd 24 = .ok (.aload 5, 2) := by decide +kernel
theorem dX9_planEnd_26 : decode cX9_planEnd 26 = .ok (.aload_n 0, 1) := by decide +kernel
theorem dX9_planEnd_27 : decode cX9_planEnd 27 = .ok (.getfield 23, 3) := by decide +kernel
theorem dX9_planEnd_30 : decode cX9_planEnd 30 = .ok (.ifCond .ne 7, 3) := by decide +kernel
theorem dX9_planEnd_33 : decode cX9_planEnd 33 = .ok (.iconst 0, 1) := by decide +kernel
theorem dX9_planEnd_34 : decode cX9_planEnd 34 = .ok (.goto 7, 3) := by decide +kernel
theorem dX9_planEnd_37 : decode cX9_planEnd 37 = .ok (.aload_n 0, 1) := by decide +kernel
theorem dX9_planEnd_38 : decode cX9_planEnd 38 = .ok (.getfield 27, 3) := by decide +kernel
theorem dX9_planEnd_41 : decode cX9_planEnd 41 = .ok (.aload_n 0, 1) := by decide +kernel
theorem dX9_planEnd_42 : decode cX9_planEnd 42 = .ok (.getfield 23, 3) := by decide +kernel
theorem dX9_planEnd_45 : decode cX9_planEnd 45 = .ok (.ifCond .ne 10, 3) := by decide +kernel
theorem dX9_planEnd_48 : decode cX9_planEnd 48 = .ok (.aload_n 0, 1) := by decide +kernel
theorem dX9_planEnd_49 : decode cX9_planEnd 49 = .ok (.getfield 27, 3) := by decide +kernel
theorem dX9_planEnd_52 : decode cX9_planEnd 52 = .ok (.goto 4, 3) := by decide +kernel
theorem dX9_planEnd_55 : decode cX9_planEnd 55 = .ok (.iconst 0, 1) := by decide +kernel
theorem dX9_planEnd_56 : decode cX9_planEnd 56 = .ok (.iload 6, 2) := by decide +kernel
theorem dX9_planEnd_58 : decode cX9_planEnd 58 = .ok (.invokevirtual 30, 3) := by decide +kernel
theorem dX9_planEnd_61 : decode cX9_planEnd 61 = .ok (.aload_n 0, 1) := by decide +kernel
theorem dX9_planEnd_62 : decode cX9_planEnd 62 = .ok (.getfield 9, 3) := by decide +kernel
theorem dX9_planEnd_65 : decode cX9_planEnd 65 = .ok (.bipush 16, 2) := by decide +kernel
theorem dX9_planEnd_67 : decode cX9_planEnd 67 = .ok (.aload_n 0, 1) := by decide +kernel
theorem dX9_planEnd_68 : decode cX9_planEnd 68 = .ok (.getfield 36, 3) := by decide +kernel
theorem dX9_planEnd_71 : decode cX9_planEnd 71 = .ok (.imul, 1) := by decide +kernel
theorem dX9_planEnd_72 : decode cX9_planEnd 72 = .ok (.iload 6, 2) := by decide +kernel
theorem dX9_planEnd_74 : decode cX9_planEnd 74 = .ok (.iadd, 1) := by decide +kernel
theorem dX9_planEnd_75 : decode cX9_planEnd 75 = .ok (.aload 5, 2) := by decide +kernel
theorem dX9_planEnd_77 : decode cX9_planEnd 77 = .ok (.invokevirtual 39, 3) := by decide +kernel
theorem dX9_planEnd_80 : decode cX9_planEnd 80 = .ok (.ifCond .ne 7, 3) := by decide +kernel
theorem dX9_planEnd_83 : decode cX9_planEnd 83 = .ok (.iconst 0, 1) := by decide +kernel
theorem dX9_planEnd_84 : decode cX9_planEnd 84 = .ok (.goto 5, 3) := by decide +kernel
theorem dX9_planEnd_87 : decode cX9_planEnd 87 = .ok (.ldc 43, 2) := by decide +kernel
theorem dX9_planEnd_89 : decode cX9_planEnd 89 = .ok (.iastore, 1) := by decide +kernel
theorem dX9_planEnd_90 : decode cX9_planEnd 90 = .ok (.iinc 6 1, 3) := by decide +kernel
theorem dX9_planEnd_93 : decode cX9_planEnd 93 = .ok (.goto (-76), 3) := by decide +kernel
theorem dX9_planEnd_96 : decode cX9_planEnd 96 = .ok (.aload_n 0, 1) := by decide +kernel
theorem dX9_planEnd_97 : decode cX9_planEnd 97 = .ok (.invokevirtual 44, 3) := by decide +kernel
theorem dX9_planEnd_100 : decode cX9_planEnd 100 = .ok (.return_, 1) := by decide +kernel
theorem dX9_planKeep_0 : decode cX9_planKeep 0 = .ok (.aload_n 0, 1) := by decide +kernel
theorem dX9_planKeep_1 : decode cX9_planKeep 1 = .ok (.aload_n 1, 1) := by decide +kernel
theorem dX9_planKeep_2 : decode cX9_planKeep 2 = .ok (.iload_n 2, 1) := by decide +kernel
theorem dX9_planKeep_3 : decode cX9_planKeep 3 = .ok (.iload_n 3, 1) := by decide +kernel
theorem dX9_planKeep_4 : decode cX9_planKeep 4 = .ok (.iload 4, 2) := by decide +kernel
theorem dX9_planKeep_6 : decode cX9_planKeep 6 = .ok (.invokevirtual 15, 3) := by decide +kernel
theorem dX9_planKeep_9 : decode cX9_planKeep 9 = .ok (.aload_n 0, 1) := by decide +kernel
theorem dX9_planKeep_10 : decode cX9_planKeep 10 = .ok (.iconst 0, 1) := by decide +kernel
theorem dX9_planKeep_11 : decode cX9_planKeep 11 = .ok (.putfield 19, 3) := by decide +kernel
theorem dX9_planKeep_14 : decode cX9_planKeep 14 = .ok (.aload_n 0, 1) := by decide +kernel
theorem dX9_planKeep_15 : decode cX9_planKeep 15 = .ok (.getfield 9, 3) := by decide +kernel
theorem dX9_planKeep_18 : decode cX9_planKeep 18 = .ok (.iconst 0, 1) := by decide +kernel
theorem dX9_planKeep_19 : decode cX9_planKeep 19 = .ok (.invokestatic 47, 3) := by decide +kernel
theorem dX9_planKeep_22 : decode cX9_planKeep 22 = .ok (.aload_n 0, 1) := by decide +kernel
theorem dX9_planKeep_23 : decode cX9_planKeep 23 = .ok (.invokevirtual 44, 3) := by decide +kernel
theorem dX9_planKeep_26 : decode cX9_planKeep 26 = .ok (.return_, 1) := by decide +kernel
theorem dX9_least_0 : decode cX9_least 0 = .ok (.aload_n 0, 1) := by decide +kernel
theorem dX9_least_1 : decode cX9_least 1 = .ok (.getfield 9, 3) := by decide +kernel
theorem dX9_least_4 : decode cX9_least 4 = .ok (.aload_n 0, 1) := by decide +kernel
theorem dX9_least_5 : decode cX9_least 5 = .ok (.getfield 53, 3) := by decide +kernel
theorem dX9_least_8 : decode cX9_least 8 = .ok (.iaload, 1) := by decide +kernel
theorem dX9_least_9 : decode cX9_least 9 = .ok (.istore_n 1, 1) := by decide +kernel
theorem dX9_least_10 : decode cX9_least 10 = .ok (.iload_n 1, 1) := by decide +kernel
theorem dX9_least_11 : decode cX9_least 11 = .ok (.ldc 43, 2) := by decide +kernel
theorem dX9_least_13 : decode cX9_least 13 = .ok (.if_icmp .lt 7, 3) := by decide +kernel
theorem dX9_least_16 : decode cX9_least 16 = .ok (.iconst (-1), 1) := by decide +kernel
theorem dX9_least_17 : decode cX9_least 17 = .ok (.goto 4, 3) := by decide +kernel
theorem dX9_least_20 : decode cX9_least 20 = .ok (.iload_n 1, 1) := by decide +kernel
theorem dX9_least_21 : decode cX9_least 21 = .ok (.ireturn, 1) := by decide +kernel
theorem dX9_choiceIn_0 : decode cX9_choiceIn 0 = .ok (.aload_n 0, 1) := by decide +kernel
theorem dX9_choiceIn_1 : decode cX9_choiceIn 1 = .ok (.invokevirtual 56, 3) := by decide +kernel
theorem dX9_choiceIn_4 : decode cX9_choiceIn 4 = .ok (.iconst (-1), 1) := by decide +kernel
theorem dX9_choiceIn_5 : decode cX9_choiceIn 5 = .ok (.if_icmp .ne 5, 3) := by decide +kernel
theorem dX9_choiceIn_8 : decode cX9_choiceIn 8 = .ok (.iconst (-1), 1) := by decide +kernel
theorem dX9_choiceIn_9 : decode cX9_choiceIn 9 = .ok (.ireturn, 1) := by decide +kernel
theorem dX9_choiceIn_10 : decode cX9_choiceIn 10 = .ok (.aload_n 0, 1) := by decide +kernel
theorem dX9_choiceIn_11 : decode cX9_choiceIn 11 = .ok (.getfield 53, 3) := by decide +kernel
theorem dX9_choiceIn_14 : decode cX9_choiceIn 14 = .ok (.istore_n 2, 1) := by decide +kernel
theorem dX9_choiceIn_15 : decode cX9_choiceIn 15 = .ok (.iconst 0, 1) := by decide +kernel
theorem dX9_choiceIn_16 : decode cX9_choiceIn 16 = .ok (.istore_n 3, 1) := by decide +kernel
theorem dX9_choiceIn_17 : decode cX9_choiceIn 17 = .ok (.iload_n 3, 1) := by decide +kernel
theorem dX9_choiceIn_18 : decode cX9_choiceIn 18 = .ok (.iload_n 1, 1) := by decide +kernel
theorem dX9_choiceIn_19 : decode cX9_choiceIn 19 = .ok (.if_icmp .ge 21, 3) := by decide +kernel
theorem dX9_choiceIn_22 : decode cX9_choiceIn 22 = .ok (.aload_n 0, 1) := by decide +kernel
theorem dX9_choiceIn_23 : decode cX9_choiceIn 23 = .ok (.iload_n 2, 1) := by decide +kernel
theorem dX9_choiceIn_24 : decode cX9_choiceIn 24 = .ok (.aload_n 0, 1) := by decide +kernel
theorem dX9_choiceIn_25 : decode cX9_choiceIn 25 = .ok (.iload_n 3, 1) := by decide +kernel
theorem dX9_choiceIn_26 : decode cX9_choiceIn 26 = .ok (.iload_n 2, 1) := by decide +kernel
theorem dX9_choiceIn_27 : decode cX9_choiceIn 27 = .ok (.invokevirtual 59, 3) := by decide +kernel
theorem dX9_choiceIn_30 : decode cX9_choiceIn 30 = .ok (.invokevirtual 63, 3) := by decide +kernel
theorem dX9_choiceIn_33 : decode cX9_choiceIn 33 = .ok (.istore_n 2, 1) := by decide +kernel
theorem dX9_choiceIn_34 : decode cX9_choiceIn 34 = .ok (.iinc 3 1, 3) := by decide +kernel
theorem dX9_choiceIn_37 : decode cX9_choiceIn 37 = .ok (.goto (-20), 3) := by decide +kernel
theorem dX9_choiceIn_40 : decode cX9_choiceIn 40 = .ok (.aload_n 0, 1) := by decide +kernel
theorem dX9_choiceIn_41 : decode cX9_choiceIn 41 = .ok (.iload_n 1, 1) := by decide +kernel
theorem dX9_choiceIn_42 : decode cX9_choiceIn 42 = .ok (.iload_n 2, 1) := by decide +kernel
theorem dX9_choiceIn_43 : decode cX9_choiceIn 43 = .ok (.invokevirtual 59, 3) := by decide +kernel
theorem dX9_choiceIn_46 : decode cX9_choiceIn 46 = .ok (.ireturn, 1) := by decide +kernel
theorem dX9_take_0 : decode cX9_take 0 = .ok (.aload_n 0, 1) := by decide +kernel
theorem dX9_take_1 : decode cX9_take 1 = .ok (.iload_n 3, 1) := by decide +kernel
theorem dX9_take_2 : decode cX9_take 2 = .ok (.putfield 23, 3) := by decide +kernel
theorem dX9_take_5 : decode cX9_take 5 = .ok (.aload_n 0, 1) := by decide +kernel
theorem dX9_take_6 : decode cX9_take 6 = .ok (.aload_n 1, 1) := by decide +kernel
theorem dX9_take_7 : decode cX9_take 7 = .ok (.iload_n 2, 1) := by decide +kernel
theorem dX9_take_8 : decode cX9_take 8 = .ok (.iconst 1, 1) := by decide +kernel
theorem dX9_take_9 : decode cX9_take 9 = .ok (.iload_n 3, 1) := by decide +kernel
theorem dX9_take_10 : decode cX9_take 10 = .ok (.isub, 1) := by decide +kernel
theorem dX9_take_11 : decode cX9_take 11 = .ok (.invokevirtual 66, 3) := by decide +kernel
theorem dX9_take_14 : decode cX9_take 14 = .ok (.putfield 27, 3) := by decide +kernel
theorem dX9_take_17 : decode cX9_take 17 = .ok (.aload_n 0, 1) := by decide +kernel
theorem dX9_take_18 : decode cX9_take 18 = .ok (.aload_n 1, 1) := by decide +kernel
theorem dX9_take_19 : decode cX9_take 19 = .ok (.getfield 71, 3) := by decide +kernel
theorem dX9_take_22 : decode cX9_take 22 = .ok (.iload_n 2, 1) := by decide +kernel
theorem dX9_take_23 : decode cX9_take 23 = .ok (.iaload, 1) := by decide +kernel
theorem dX9_take_24 : decode cX9_take 24 = .ok (.putfield 53, 3) := by decide +kernel
theorem dX9_take_27 : decode cX9_take 27 = .ok (.aload_n 0, 1) := by decide +kernel
theorem dX9_take_28 : decode cX9_take 28 = .ok (.iload 4, 2) := by decide +kernel
theorem dX9_take_30 : decode cX9_take 30 = .ok (.putfield 36, 3) := by decide +kernel
theorem dX9_take_33 : decode cX9_take 33 = .ok (.aload_n 0, 1) := by decide +kernel
theorem dX9_take_34 : decode cX9_take 34 = .ok (.aload_n 1, 1) := by decide +kernel
theorem dX9_take_35 : decode cX9_take 35 = .ok (.getfield 73, 3) := by decide +kernel
theorem dX9_take_38 : decode cX9_take 38 = .ok (.putfield 76, 3) := by decide +kernel
theorem dX9_take_41 : decode cX9_take 41 = .ok (.aload_n 0, 1) := by decide +kernel
theorem dX9_take_42 : decode cX9_take 42 = .ok (.aload_n 1, 1) := by decide +kernel
theorem dX9_take_43 : decode cX9_take 43 = .ok (.getfield 77, 3) := by decide +kernel
theorem dX9_take_46 : decode cX9_take 46 = .ok (.putfield 80, 3) := by decide +kernel
theorem dX9_take_49 : decode cX9_take 49 = .ok (.return_, 1) := by decide +kernel
theorem dX9_goBack_0 : decode cX9_goBack 0 = .ok (.aload_n 0, 1) := by decide +kernel
theorem dX9_goBack_1 : decode cX9_goBack 1 = .ok (.getfield 36, 3) := by decide +kernel
theorem dX9_goBack_4 : decode cX9_goBack 4 = .ok (.iconst 1, 1) := by decide +kernel
theorem dX9_goBack_5 : decode cX9_goBack 5 = .ok (.isub, 1) := by decide +kernel
theorem dX9_goBack_6 : decode cX9_goBack 6 = .ok (.istore_n 1, 1) := by decide +kernel
theorem dX9_goBack_7 : decode cX9_goBack 7 = .ok (.iload_n 1, 1) := by decide +kernel
theorem dX9_goBack_8 : decode cX9_goBack 8 = .ok (.ifCond .lt 51, 3) := by decide +kernel
theorem dX9_goBack_11 : decode cX9_goBack 11 = .ok (.iconst 0, 1) := by decide +kernel
theorem dX9_goBack_12 : decode cX9_goBack 12 = .ok (.istore_n 2, 1) := by decide +kernel
theorem dX9_goBack_13 : decode cX9_goBack 13 = .ok (.iload_n 2, 1) := by decide +kernel
theorem dX9_goBack_14 : decode cX9_goBack 14 = .ok (.bipush 16, 2) := by decide +kernel
theorem dX9_goBack_16 : decode cX9_goBack 16 = .ok (.if_icmp .ge 37, 3) := by decide +kernel
theorem dX9_goBack_19 : decode cX9_goBack 19 = .ok (.aload_n 0, 1) := by decide +kernel
theorem dX9_goBack_20 : decode cX9_goBack 20 = .ok (.getfield 9, 3) := by decide +kernel
theorem dX9_goBack_23 : decode cX9_goBack 23 = .ok (.bipush 16, 2) := by decide +kernel
theorem dX9_goBack_25 : decode cX9_goBack 25 = .ok (.iload_n 1, 1) := by decide +kernel
theorem dX9_goBack_26 : decode cX9_goBack 26 = .ok (.imul, 1) := by decide +kernel
theorem dX9_goBack_27 : decode cX9_goBack 27 = .ok (.iload_n 2, 1) := by decide +kernel
theorem dX9_goBack_28 : decode cX9_goBack 28 = .ok (.iadd, 1) := by decide +kernel
theorem dX9_goBack_29 : decode cX9_goBack 29 = .ok (.aload_n 0, 1) := by decide +kernel
theorem dX9_goBack_30 : decode cX9_goBack 30 = .ok (.iload_n 1, 1) := by decide +kernel
theorem dX9_goBack_31 : decode cX9_goBack 31 = .ok (.iload_n 2, 1) := by decide +kernel
theorem dX9_goBack_32 : decode cX9_goBack 32 = .ok (.iconst 0, 1) := by decide +kernel
theorem dX9_goBack_33 : decode cX9_goBack 33 = .ok (.invokevirtual 81, 3) := by decide +kernel
theorem dX9_goBack_36 : decode cX9_goBack 36 = .ok (.aload_n 0, 1) := by decide +kernel
theorem dX9_goBack_37 : decode cX9_goBack 37 = .ok (.iload_n 1, 1) := by decide +kernel
theorem dX9_goBack_38 : decode cX9_goBack 38 = .ok (.iload_n 2, 1) := by decide +kernel
theorem dX9_goBack_39 : decode cX9_goBack 39 = .ok (.iconst 1, 1) := by decide +kernel
theorem dX9_goBack_40 : decode cX9_goBack 40 = .ok (.invokevirtual 81, 3) := by decide +kernel
theorem dX9_goBack_43 : decode cX9_goBack 43 = .ok (.invokestatic 85, 3) := by decide +kernel
theorem dX9_goBack_46 : decode cX9_goBack 46 = .ok (.iastore, 1) := by decide +kernel
theorem dX9_goBack_47 : decode cX9_goBack 47 = .ok (.iinc 2 1, 3) := by decide +kernel
theorem dX9_goBack_50 : decode cX9_goBack 50 = .ok (.goto (-37), 3) := by decide +kernel
theorem dX9_goBack_53 : decode cX9_goBack 53 = .ok (.iinc 1 (-1), 3) := by decide +kernel
theorem dX9_goBack_56 : decode cX9_goBack 56 = .ok (.goto (-49), 3) := by decide +kernel
theorem dX9_goBack_59 : decode cX9_goBack 59 = .ok (.return_, 1) := by decide +kernel
theorem dX9_choiceFrom_0 : decode cX9_choiceFrom 0 = .ok (.aload_n 0, 1) := by decide +kernel
theorem dX9_choiceFrom_1 : decode cX9_choiceFrom 1 = .ok (.iload_n 1, 1) := by decide +kernel
theorem dX9_choiceFrom_2 : decode cX9_choiceFrom 2 = .ok (.iload_n 2, 1) := by decide +kernel
theorem dX9_choiceFrom_3 : decode cX9_choiceFrom 3 = .ok (.iconst 0, 1) := by decide +kernel
theorem dX9_choiceFrom_4 : decode cX9_choiceFrom 4 = .ok (.invokevirtual 81, 3) := by decide +kernel
theorem dX9_choiceFrom_7 : decode cX9_choiceFrom 7 = .ok (.aload_n 0, 1) := by decide +kernel
theorem dX9_choiceFrom_8 : decode cX9_choiceFrom 8 = .ok (.iload_n 1, 1) := by decide +kernel
theorem dX9_choiceFrom_9 : decode cX9_choiceFrom 9 = .ok (.iload_n 2, 1) := by decide +kernel
theorem dX9_choiceFrom_10 : decode cX9_choiceFrom 10 = .ok (.iconst 1, 1) := by decide +kernel
theorem dX9_choiceFrom_11 : decode cX9_choiceFrom 11 = .ok (.invokevirtual 81, 3) := by decide +kernel
theorem dX9_choiceFrom_14 : decode cX9_choiceFrom 14 = .ok (.if_icmp .gt 7, 3) := by decide +kernel
theorem dX9_choiceFrom_17 : decode cX9_choiceFrom 17 = .ok (.iconst 0, 1) := by decide +kernel
theorem dX9_choiceFrom_18 : decode cX9_choiceFrom 18 = .ok (.goto 4, 3) := by decide +kernel
theorem dX9_choiceFrom_21 : decode cX9_choiceFrom 21 = .ok (.iconst 1, 1) := by decide +kernel
theorem dX9_choiceFrom_22 : decode cX9_choiceFrom 22 = .ok (.ireturn, 1) := by decide +kernel
theorem dX9_worthOf_0 : decode cX9_worthOf 0 = .ok (.aload_n 0, 1) := by decide +kernel
theorem dX9_worthOf_1 : decode cX9_worthOf 1 = .ok (.iload_n 2, 1) := by decide +kernel
theorem dX9_worthOf_2 : decode cX9_worthOf 2 = .ok (.iload_n 3, 1) := by decide +kernel
theorem dX9_worthOf_3 : decode cX9_worthOf 3 = .ok (.invokevirtual 90, 3) := by decide +kernel
theorem dX9_worthOf_6 : decode cX9_worthOf 6 = .ok (.istore 4, 2) := by decide +kernel
theorem dX9_worthOf_8 : decode cX9_worthOf 8 = .ok (.aload_n 0, 1) := by decide +kernel
theorem dX9_worthOf_9 : decode cX9_worthOf 9 = .ok (.getfield 19, 3) := by decide +kernel
theorem dX9_worthOf_12 : decode cX9_worthOf 12 = .ok (.ifCond .ne 22, 3) := by decide +kernel
theorem dX9_worthOf_15 : decode cX9_worthOf 15 = .ok (.iload_n 1, 1) := by decide +kernel
theorem dX9_worthOf_16 : decode cX9_worthOf 16 = .ok (.aload_n 0, 1) := by decide +kernel
theorem dX9_worthOf_17 : decode cX9_worthOf 17 = .ok (.getfield 36, 3) := by decide +kernel
theorem dX9_worthOf_20 : decode cX9_worthOf 20 = .ok (.iconst 1, 1) := by decide +kernel
theorem dX9_worthOf_21 : decode cX9_worthOf 21 = .ok (.isub, 1) := by decide +kernel
theorem dX9_worthOf_22 : decode cX9_worthOf 22 = .ok (.if_icmp .ne 12, 3) := by decide +kernel
theorem dX9_worthOf_25 : decode cX9_worthOf 25 = .ok (.iload 4, 2) := by decide +kernel
theorem dX9_worthOf_27 : decode cX9_worthOf 27 = .ok (.iconst 3, 1) := by decide +kernel
theorem dX9_worthOf_28 : decode cX9_worthOf 28 = .ok (.if_icmp .eq 6, 3) := by decide +kernel
theorem dX9_worthOf_31 : decode cX9_worthOf 31 = .ok (.ldc 43, 2) := by decide +kernel
theorem dX9_worthOf_33 : decode cX9_worthOf 33 = .ok (.ireturn, 1) := by decide +kernel
theorem dX9_worthOf_34 : decode cX9_worthOf 34 = .ok (.aload_n 0, 1) := by decide +kernel
theorem dX9_worthOf_35 : decode cX9_worthOf 35 = .ok (.getfield 9, 3) := by decide +kernel
theorem dX9_worthOf_38 : decode cX9_worthOf 38 = .ok (.bipush 16, 2) := by decide +kernel
theorem dX9_worthOf_40 : decode cX9_worthOf 40 = .ok (.iload_n 1, 1) := by decide +kernel
theorem dX9_worthOf_41 : decode cX9_worthOf 41 = .ok (.iconst 1, 1) := by decide +kernel
theorem dX9_worthOf_42 : decode cX9_worthOf 42 = .ok (.iadd, 1) := by decide +kernel
theorem dX9_worthOf_43 : decode cX9_worthOf 43 = .ok (.imul, 1) := by decide +kernel
theorem dX9_worthOf_44 : decode cX9_worthOf 44 = .ok (.aload_n 0, 1) := by decide +kernel
theorem dX9_worthOf_45 : decode cX9_worthOf 45 = .ok (.iload_n 2, 1) := by decide +kernel
theorem dX9_worthOf_46 : decode cX9_worthOf 46 = .ok (.iload_n 3, 1) := by decide +kernel
theorem dX9_worthOf_47 : decode cX9_worthOf 47 = .ok (.invokevirtual 63, 3) := by decide +kernel
theorem dX9_worthOf_50 : decode cX9_worthOf 50 = .ok (.iadd, 1) := by decide +kernel
theorem dX9_worthOf_51 : decode cX9_worthOf 51 = .ok (.iaload, 1) := by decide +kernel
theorem dX9_worthOf_52 : decode cX9_worthOf 52 = .ok (.istore 5, 2) := by decide +kernel
theorem dX9_worthOf_54 : decode cX9_worthOf 54 = .ok (.aload_n 0, 1) := by decide +kernel
theorem dX9_worthOf_55 : decode cX9_worthOf 55 = .ok (.getfield 19, 3) := by decide +kernel
theorem dX9_worthOf_58 : decode cX9_worthOf 58 = .ok (.ifCond .eq 12, 3) := by decide +kernel
theorem dX9_worthOf_61 : decode cX9_worthOf 61 = .ok (.aload_n 0, 1) := by decide +kernel
theorem dX9_worthOf_62 : decode cX9_worthOf 62 = .ok (.iload 4, 2) := by decide +kernel
theorem dX9_worthOf_64 : decode cX9_worthOf 64 = .ok (.invokevirtual 93, 3) := by decide +kernel
theorem dX9_worthOf_67 : decode cX9_worthOf 67 = .ok (.goto 4, 3) := by decide +kernel
theorem dX9_worthOf_70 : decode cX9_worthOf 70 = .ok (.iload_n 3, 1) := by decide +kernel
theorem dX9_worthOf_71 : decode cX9_worthOf 71 = .ok (.istore 6, 2) := by decide +kernel
theorem dX9_worthOf_73 : decode cX9_worthOf 73 = .ok (.ldc 43, 2) := by decide +kernel
theorem dX9_worthOf_75 : decode cX9_worthOf 75 = .ok (.iload 5, 2) := by decide +kernel
theorem dX9_worthOf_77 : decode cX9_worthOf 77 = .ok (.iload 6, 2) := by decide +kernel
theorem dX9_worthOf_79 : decode cX9_worthOf 79 = .ok (.iadd, 1) := by decide +kernel
theorem dX9_worthOf_80 : decode cX9_worthOf 80 = .ok (.invokestatic 85, 3) := by decide +kernel
theorem dX9_worthOf_83 : decode cX9_worthOf 83 = .ok (.ireturn, 1) := by decide +kernel
theorem dX9_priceOf_0 : decode cX9_priceOf 0 = .ok (.aload_n 0, 1) := by decide +kernel
theorem dX9_priceOf_1 : decode cX9_priceOf 1 = .ok (.getfield 76, 3) := by decide +kernel
theorem dX9_priceOf_4 : decode cX9_priceOf 4 = .ok (.iload_n 1, 1) := by decide +kernel
theorem dX9_priceOf_5 : decode cX9_priceOf 5 = .ok (.invokestatic 97, 3) := by decide +kernel
theorem dX9_priceOf_8 : decode cX9_priceOf 8 = .ok (.imul, 1) := by decide +kernel
theorem dX9_priceOf_9 : decode cX9_priceOf 9 = .ok (.aload_n 0, 1) := by decide +kernel
theorem dX9_priceOf_10 : decode cX9_priceOf 10 = .ok (.getfield 80, 3) := by decide +kernel
theorem dX9_priceOf_13 : decode cX9_priceOf 13 = .ok (.iload_n 1, 1) := by decide +kernel
theorem dX9_priceOf_14 : decode cX9_priceOf 14 = .ok (.iload_n 1, 1) := by decide +kernel
theorem dX9_priceOf_15 : decode cX9_priceOf 15 = .ok (.invokestatic 102, 3) := by decide +kernel
theorem dX9_priceOf_18 : decode cX9_priceOf 18 = .ok (.iconst (-1), 1) := by decide +kernel
theorem dX9_priceOf_19 : decode cX9_priceOf 19 = .ok (.ixor, 1) := by decide +kernel
theorem dX9_priceOf_20 : decode cX9_priceOf 20 = .ok (.iand, 1) := by decide +kernel
theorem dX9_priceOf_21 : decode cX9_priceOf 21 = .ok (.invokestatic 97, 3) := by decide +kernel
theorem dX9_priceOf_24 : decode cX9_priceOf 24 = .ok (.imul, 1) := by decide +kernel
theorem dX9_priceOf_25 : decode cX9_priceOf 25 = .ok (.iadd, 1) := by decide +kernel
theorem dX9_priceOf_26 : decode cX9_priceOf 26 = .ok (.ireturn, 1) := by decide +kernel
theorem dX9_next_0 : decode cX9_next 0 = .ok (.iload_n 1, 1) := by decide +kernel
theorem dX9_next_1 : decode cX9_next 1 = .ok (.aload_n 0, 1) := by decide +kernel
theorem dX9_next_2 : decode cX9_next 2 = .ok (.iload_n 1, 1) := by decide +kernel
theorem dX9_next_3 : decode cX9_next 3 = .ok (.iload_n 2, 1) := by decide +kernel
theorem dX9_next_4 : decode cX9_next 4 = .ok (.invokevirtual 90, 3) := by decide +kernel
theorem dX9_next_7 : decode cX9_next 7 = .ok (.invokestatic 102, 3) := by decide +kernel
theorem dX9_next_10 : decode cX9_next 10 = .ok (.invokestatic 116, 3) := by decide +kernel
theorem dX9_next_13 : decode cX9_next 13 = .ok (.ireturn, 1) := by decide +kernel
