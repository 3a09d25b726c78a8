theorem dX2_sidesOf_0 : decode cX2_sidesOf 0 = .ok (.lload_n 0, 1) := by decide +kernel
theorem dX2_sidesOf_1 : decode cX2_sidesOf 1 = .ok (.iload 4, 2) := by decide +kernel
theorem dX2_sidesOf_3 : decode cX2_sidesOf 3 = .ok (.lshr, 1) := by decide +kernel
theorem dX2_sidesOf_4 : decode cX2_sidesOf 4 = .ok (.lconst 1, 1) := by decide +kernel
theorem dX2_sidesOf_5 : decode cX2_sidesOf 5 = .ok (.land, 1) := by decide +kernel
theorem dX2_sidesOf_6 : decode cX2_sidesOf 6 = .ok (.l2i, 1) := by decide +kernel
theorem dX2_sidesOf_7 : decode cX2_sidesOf 7 = .ok (.lload_n 2, 1) := by decide +kernel
theorem dX2_sidesOf_8 : decode cX2_sidesOf 8 = .ok (.iload 4, 2) := by decide +kernel
theorem dX2_sidesOf_10 : decode cX2_sidesOf 10 = .ok (.lshr, 1) := by decide +kernel
theorem dX2_sidesOf_11 : decode cX2_sidesOf 11 = .ok (.lconst 1, 1) := by decide +kernel
theorem dX2_sidesOf_12 : decode cX2_sidesOf 12 = .ok (.land, 1) := by decide +kernel
theorem dX2_sidesOf_13 : decode cX2_sidesOf 13 = .ok (.l2i, 1) := by decide +kernel
theorem dX2_sidesOf_14 : decode cX2_sidesOf 14 = .ok (.iconst 1, 1) := by decide +kernel
theorem dX2_sidesOf_15 : decode cX2_sidesOf 15 = .ok (.ishl, 1) := by decide +kernel
theorem dX2_sidesOf_16 : decode cX2_sidesOf 16 = .ok (.ior, 1) := by decide +kernel
theorem dX2_sidesOf_17 : decode cX2_sidesOf 17 = .ok (.ireturn, 1) := by decide +kernel
theorem dX2_note_0 : decode cX2_note 0 = .ok (.aload_n 0, 1) := by decide +kernel
theorem dX2_note_1 : decode cX2_note 1 = .ok (.iconst 0, 1) := by decide +kernel
theorem dX2_note_2 : decode cX2_note 2 = .ok (.dup2, 1) := by decide +kernel
theorem dX2_note_3 : decode cX2_note 3 = .ok (.laload, 1) := by decide +kernel
theorem dX2_note_4 : decode cX2_note 4 = .ok (.iload_n 2, 1) := by decide +kernel
theorem dX2_note_5 : decode cX2_note 5 = .ok (.iconst 1, 1) := by decide +kernel
theorem dX2_note_6 : decode cX2_note 6 = .ok (.iand, 1) := by decide +kernel
theorem dX2_note_7 : decode cX2_note 7 = .ok (.i2l, 1) := by decide +kernel
theorem dX2_note_8 : decode cX2_note 8 = .ok (.iload_n 1, 1) := by decide +kernel
theorem dX2_note_9 : decode cX2_note 9 = .ok (.lshl, 1) := by decide +kernel
theorem dX2_note_10 : decode cX2_note 10 = .ok (.lor, 1) := by decide +kernel
theorem dX2_note_11 : decode cX2_note 11 = .ok (.lastore, 1) := by decide +kernel
theorem dX2_note_12 : decode cX2_note 12 = .ok (.aload_n 0, 1) := by decide +kernel
theorem dX2_note_13 : decode cX2_note 13 = .ok (.iconst 1, 1) := by decide +kernel
theorem dX2_note_14 : decode cX2_note 14 = .ok (.dup2, 1) := by decide +kernel
theorem dX2_note_15 : decode cX2_note 15 = .ok (.laload, 1) := by decide +kernel
theorem dX2_note_16 : decode cX2_note 16 = .ok (.iload_n 2, 1) := by decide +kernel
theorem dX2_note_17 : decode cX2_note 17 = .ok (.iconst 1, 1) := by decide +kernel
theorem dX2_note_18 : decode cX2_note 18 = .ok (.ishr, 1) := by decide +kernel
theorem dX2_note_19 : decode cX2_note 19 = .ok (.i2l, 1) := by decide +kernel
theorem dX2_note_20 : decode cX2_note 20 = .ok (.iload_n 1, 1) := by decide +kernel
theorem dX2_note_21 : decode cX2_note 21 = .ok (.lshl, 1) := by decide +kernel
theorem dX2_note_22 : decode cX2_note 22 = .ok (.lor, 1) := by decide +kernel
theorem dX2_note_23 : decode cX2_note 23 = .ok (.lastore, 1) := by decide +kernel
theorem dX2_note_24 : decode cX2_note 24 = .ok (.return_, 1) := by decide +kernel
theorem dX4_clear_0 : decode cX4_clear 0 = .ok (.aload_n 0, 1) := by decide +kernel
theorem dX4_clear_1 : decode cX4_clear 1 = .ok (.iconst 0, 1) := by decide +kernel
theorem dX4_clear_2 : decode cX4_clear 2 = .ok (.putfield 37, 3) := by decide +kernel
theorem dX4_clear_5 : decode cX4_clear 5 = .ok (.aload_n 0, 1) := by decide +kernel
theorem dX4_clear_6 : decode cX4_clear 6 = .ok (.iconst 0, 1) := by decide +kernel
theorem dX4_clear_7 : decode cX4_clear 7 = .ok (.putfield 41, 3) := by decide +kernel
theorem dX4_clear_10 : decode cX4_clear 10 = .ok (.aload_n 0, 1) := by decide +kernel
theorem dX4_clear_11 : decode cX4_clear 11 = .ok (.iconst 0, 1) := by decide +kernel
theorem dX4_clear_12 : decode cX4_clear 12 = .ok (.putfield 44, 3) := by decide +kernel
theorem dX4_clear_15 : decode cX4_clear 15 = .ok (.aload_n 0, 1) := by decide +kernel
theorem dX4_clear_16 : decode cX4_clear 16 = .ok (.iconst 0, 1) := by decide +kernel
theorem dX4_clear_17 : decode cX4_clear 17 = .ok (.putfield 47, 3) := by decide +kernel
theorem dX4_clear_20 : decode cX4_clear 20 = .ok (.aload_n 0, 1) := by decide +kernel
theorem dX4_clear_21 : decode cX4_clear 21 = .ok (.iconst 0, 1) := by decide +kernel
theorem dX4_clear_22 : decode cX4_clear 22 = .ok (.putfield 50, 3) := by decide +kernel
theorem dX4_clear_25 : decode cX4_clear 25 = .ok (.aload_n 0, 1) := by decide +kernel
theorem dX4_clear_26 : decode cX4_clear 26 = .ok (.iconst 0, 1) := by decide +kernel
theorem dX4_clear_27 : decode cX4_clear 27 = .ok (.putfield 53, 3) := by decide +kernel
theorem dX4_clear_30 : decode cX4_clear 30 = .ok (.aload_n 0, 1) := by decide +kernel
theorem dX4_clear_31 : decode cX4_clear 31 = .ok (.lconst 0, 1) := by decide +kernel
theorem dX4_clear_32 : decode cX4_clear 32 = .ok (.putfield 56, 3) := by decide +kernel
theorem dX4_clear_35 : decode cX4_clear 35 = .ok (.aload_n 0, 1) := by decide +kernel
theorem dX4_clear_36 : decode cX4_clear 36 = .ok (.getfield 33, 3) := by decide +kernel
theorem dX4_clear_39 : decode cX4_clear 39 = .ok (.lconst 0, 1) := by decide +kernel
theorem dX4_clear_40 : decode cX4_clear 40 = .ok (.invokestatic 60, 3) := by decide +kernel
theorem dX4_clear_43 : decode cX4_clear 43 = .ok (.return_, 1) := by decide +kernel
theorem dX4_copyFrom_0 : decode cX4_copyFrom 0 = .ok (.aload_n 0, 1) := by decide +kernel
theorem dX4_copyFrom_1 : decode cX4_copyFrom 1 = .ok (.aload_n 1, 1) := by decide +kernel
theorem dX4_copyFrom_2 : decode cX4_copyFrom 2 = .ok (.getfield 37, 3) := by decide +kernel
theorem dX4_copyFrom_5 : decode cX4_copyFrom 5 = .ok (.putfield 37, 3) := by decide +kernel
theorem dX4_copyFrom_8 : decode cX4_copyFrom 8 = .ok (.aload_n 0, 1) := by decide +kernel
theorem dX4_copyFrom_9 : decode cX4_copyFrom 9 = .ok (.aload_n 1, 1) := by decide +kernel
theorem dX4_copyFrom_10 : decode cX4_copyFrom 10 = .ok (.getfield 41, 3) := by decide +kernel
theorem dX4_copyFrom_13 : decode cX4_copyFrom 13 = .ok (.putfield 41, 3) := by decide +kernel
theorem dX4_copyFrom_16 : decode cX4_copyFrom 16 = .ok (.aload_n 0, 1) := by decide +kernel
theorem dX4_copyFrom_17 : decode cX4_copyFrom 17 = .ok (.aload_n 1, 1) := by decide +kernel
theorem dX4_copyFrom_18 : decode cX4_copyFrom 18 = .ok (.getfield 44, 3) := by decide +kernel
theorem dX4_copyFrom_21 : decode cX4_copyFrom 21 = .ok (.putfield 44, 3) := by decide +kernel
theorem dX4_copyFrom_24 : decode cX4_copyFrom 24 = .ok (.aload_n 0, 1) := by decide +kernel
theorem dX4_copyFrom_25 : decode cX4_copyFrom 25 = .ok (.aload_n 1, 1) := by decide +kernel
theorem dX4_copyFrom_26 : decode cX4_copyFrom 26 = .ok (.getfield 47, 3) := by decide +kernel
theorem dX4_copyFrom_29 : decode cX4_copyFrom 29 = .ok (.putfield 47, 3) := by decide +kernel
theorem dX4_copyFrom_32 : decode cX4_copyFrom 32 = .ok (.aload_n 0, 1) := by decide +kernel
theorem dX4_copyFrom_33 : decode cX4_copyFrom 33 = .ok (.aload_n 1, 1) := by decide +kernel
theorem dX4_copyFrom_34 : decode cX4_copyFrom 34 = .ok (.getfield 50, 3) := by decide +kernel
theorem dX4_copyFrom_37 : decode cX4_copyFrom 37 = .ok (.putfield 50, 3) := by decide +kernel
theorem dX4_copyFrom_40 : decode cX4_copyFrom 40 = .ok (.aload_n 0, 1) := by decide +kernel
theorem dX4_copyFrom_41 : decode cX4_copyFrom 41 = .ok (.aload_n 1, 1) := by decide +kernel
theorem dX4_copyFrom_42 : decode cX4_copyFrom 42 = .ok (.getfield 53, 3) := by decide +kernel
theorem dX4_copyFrom_45 : decode cX4_copyFrom 45 = .ok (.putfield 53, 3) := by decide +kernel
theorem dX4_copyFrom_48 : decode cX4_copyFrom 48 = .ok (.aload_n 0, 1) := by decide +kernel
theorem dX4_copyFrom_49 : decode cX4_copyFrom 49 = .ok (.aload_n 1, 1) := by decide +kernel
theorem dX4_copyFrom_50 : decode cX4_copyFrom 50 = .ok (.getfield 56, 3) := by decide +kernel
theorem dX4_copyFrom_53 : decode cX4_copyFrom 53 = .ok (.putfield 56, 3) := by decide +kernel
theorem dX4_copyFrom_56 : decode cX4_copyFrom 56 = .ok (.aload_n 1, 1) := by decide +kernel
theorem dX4_copyFrom_57 : decode cX4_copyFrom 57 = .ok (.getfield 9, 3) := by decide +kernel
theorem dX4_copyFrom_60 : decode cX4_copyFrom 60 = .ok (.iconst 0, 1) := by decide +kernel
theorem dX4_copyFrom_61 : decode cX4_copyFrom 61 = .ok (.aload_n 0, 1) := by decide +kernel
theorem dX4_copyFrom_62 : decode cX4_copyFrom 62 = .ok (.getfield 9, 3) := by decide +kernel
theorem dX4_copyFrom_65 : decode cX4_copyFrom 65 = .ok (.iconst 0, 1) := by decide +kernel
theorem dX4_copyFrom_66 : decode cX4_copyFrom 66 = .ok (.bipush 10, 2) := by decide +kernel
theorem dX4_copyFrom_68 : decode cX4_copyFrom 68 = .ok (.invokestatic 66, 3) := by decide +kernel
theorem dX4_copyFrom_71 : decode cX4_copyFrom 71 = .ok (.aload_n 1, 1) := by decide +kernel
theorem dX4_copyFrom_72 : decode cX4_copyFrom 72 = .ok (.getfield 15, 3) := by decide +kernel
theorem dX4_copyFrom_75 : decode cX4_copyFrom 75 = .ok (.iconst 0, 1) := by decide +kernel
theorem dX4_copyFrom_76 : decode cX4_copyFrom 76 = .ok (.aload_n 0, 1) := by decide +kernel
theorem dX4_copyFrom_77 : decode cX4_copyFrom 77 = .ok (.getfield 15, 3) := by decide +kernel
theorem dX4_copyFrom_80 : decode cX4_copyFrom 80 = .ok (.iconst 0, 1) := by decide +kernel
theorem dX4_copyFrom_81 : decode cX4_copyFrom 81 = .ok (.bipush 10, 2) := by decide +kernel
theorem dX4_copyFrom_83 : decode cX4_copyFrom 83 = .ok (.invokestatic 66, 3) := by decide +kernel
theorem dX4_copyFrom_86 : decode cX4_copyFrom 86 = .ok (.aload_n 1, 1) := by decide +kernel
theorem dX4_copyFrom_87 : decode cX4_copyFrom 87 = .ok (.getfield 18, 3) := by decide +kernel
theorem dX4_copyFrom_90 : decode cX4_copyFrom 90 = .ok (.iconst 0, 1) := by decide +kernel
theorem dX4_copyFrom_91 : decode cX4_copyFrom 91 = .ok (.aload_n 0, 1) := by decide +kernel
theorem dX4_copyFrom_92 : decode cX4_copyFrom 92 = .ok (.getfield 18, 3) := by decide +kernel
theorem dX4_copyFrom_95 : decode cX4_copyFrom 95 = .ok (.iconst 0, 1) := by decide +kernel
theorem dX4_copyFrom_96 : decode cX4_copyFrom 96 = .ok (.bipush 10, 2) := by decide +kernel
theorem dX4_copyFrom_98 : decode cX4_copyFrom 98 = .ok (.invokestatic 66, 3) := by decide +kernel
theorem dX4_copyFrom_101 : decode cX4_copyFrom 101 = .ok (.aload_n 1, 1) := by decide +kernel
theorem dX4_copyFrom_102 : decode cX4_copyFrom 102 = .ok (.getfield 21, 3) := by decide +kernel
theorem dX4_copyFrom_105 : decode cX4_copyFrom 105 = .ok (.iconst 0, 1) := by decide +kernel
theorem dX4_copyFrom_106 : decode cX4_copyFrom 106 = .ok (.aload_n 0, 1) := by decide +kernel
theorem dX4_copyFrom_107 : decode cX4_copyFrom 107 = .ok (.getfield 21, 3) := by decide +kernel
theorem dX4_copyFrom_110 : decode cX4_copyFrom 110 = .ok (.iconst 0, 1) := by decide +kernel
theorem dX4_copyFrom_111 : decode cX4_copyFrom 111 = .ok (.bipush 10, 2) := by decide +kernel
theorem dX4_copyFrom_113 : decode cX4_copyFrom 113 = .ok (.invokestatic 66, 3) := by decide +kernel
theorem dX4_copyFrom_116 : decode cX4_copyFrom 116 = .ok (.aload_n 1, 1) := by decide +kernel
theorem dX4_copyFrom_117 : decode cX4_copyFrom 117 = .ok (.getfield 24, 3) := by decide +kernel
theorem dX4_copyFrom_120 : decode cX4_copyFrom 120 = .ok (.iconst 0, 1) := by decide +kernel
theorem dX4_copyFrom_121 : decode cX4_copyFrom 121 = .ok (.aload_n 0, 1) := by decide +kernel
theorem dX4_copyFrom_122 : decode cX4_copyFrom 122 = .ok (.getfield 24, 3) := by decide +kernel
theorem dX4_copyFrom_125 : decode cX4_copyFrom 125 = .ok (.iconst 0, 1) := by decide +kernel
theorem dX4_copyFrom_126 : decode cX4_copyFrom 126 = .ok (.bipush 10, 2) := by decide +kernel
theorem dX4_copyFrom_128 : decode cX4_copyFrom 128 = .ok (.invokestatic 66, 3) := by decide +kernel
theorem dX4_copyFrom_131 : decode cX4_copyFrom 131 = .ok (.aload_n 1, 1) := by decide +kernel
theorem dX4_copyFrom_132 : decode cX4_copyFrom 132 = .ok (.getfield 27, 3) := by decide +kernel
theorem dX4_copyFrom_135 : decode cX4_copyFrom 135 = .ok (.iconst 0, 1) := by decide +kernel
theorem dX4_copyFrom_136 : decode cX4_copyFrom 136 = .ok (.aload_n 0, 1) := by decide +kernel
theorem dX4_copyFrom_137 : decode cX4_copyFrom 137 = .ok (.getfield 27, 3) := by decide +kernel
theorem dX4_copyFrom_140 : decode cX4_copyFrom 140 = .ok (.iconst 0, 1) := by decide +kernel
theorem dX4_copyFrom_141 : decode cX4_copyFrom 141 = .ok (.bipush 16, 2) := by decide +kernel
theorem dX4_copyFrom_143 : decode cX4_copyFrom 143 = .ok (.invokestatic 66, 3) := by decide +kernel
theorem dX4_copyFrom_146 : decode cX4_copyFrom 146 = .ok (.aload_n 1, 1) := by decide +kernel
theorem dX4_copyFrom_147 : decode cX4_copyFrom 147 = .ok (.getfield 30, 3) := by decide +kernel
theorem dX4_copyFrom_150 : decode cX4_copyFrom 150 = .ok (.iconst 0, 1) := by decide +kernel
theorem dX4_copyFrom_151 : decode cX4_copyFrom 151 = .ok (.aload_n 0, 1) := by decide +kernel
theorem dX4_copyFrom_152 : decode cX4_copyFrom 152 = .ok (.getfield 30, 3) := by decide +kernel
theorem dX4_copyFrom_155 : decode cX4_copyFrom 155 = .ok (.iconst 0, 1) := by decide +kernel
theorem dX4_copyFrom_156 : decode cX4_copyFrom 156 = .ok (.bipush 32, 2) := by decide +kernel
theorem dX4_copyFrom_158 : decode cX4_copyFrom 158 = .ok (.invokestatic 66, 3) := by decide +kernel
theorem dX4_copyFrom_161 : decode cX4_copyFrom 161 = .ok (.aload_n 1, 1) := by decide +kernel
theorem dX4_copyFrom_162 : decode cX4_copyFrom 162 = .ok (.getfield 33, 3) := by decide +kernel
theorem dX4_copyFrom_165 : decode cX4_copyFrom 165 = .ok (.iconst 0, 1) := by decide +kernel
theorem dX4_copyFrom_166 : decode cX4_copyFrom 166 = .ok (.aload_n 0, 1) := by decide +kernel
theorem dX4_copyFrom_167 : decode cX4_copyFrom 167 = .ok (.getfield 33, 3) := by decide +kernel
theorem dX4_copyFrom_170 : decode cX4_copyFrom 170 = .ok (.iconst 0, 1) := by decide +kernel
theorem dX4_copyFrom_171 : decode cX4_copyFrom 171 = .ok (.bipush 32, 2) := by decide +kernel
theorem dX4_copyFrom_173 : decode cX4_copyFrom 173 = .ok (.invokestatic 66, 3) := by decide +kernel
theorem dX4_copyFrom_176 : decode cX4_copyFrom 176 = .ok (.return_, 1) := by decide +kernel
theorem dX4_isThere_0 : decode cX4_isThere 0 = .ok (.aload_n 0, 1) := by decide +kernel
theorem dX4_isThere_1 : decode cX4_isThere 1 = .ok (.getfield 37, 3) := by decide +kernel
theorem dX4_isThere_4 : decode cX4_isThere 4 = .ok (.ifCond .le 7, 3) := by decide +kernel
theorem dX4_isThere_7 : decode cX4_isThere 7 = .ok (.iconst 1, 1) := by decide +kernel
theorem dX4_isThere_8 : decode cX4_isThere 8 = .ok (.goto 4, 3) := by decide +kernel
theorem dX4_isThere_11 : decode cX4_isThere 11 = .ok (.iconst 0, 1) := by decide +kernel
theorem dX4_isThere_12 : decode cX4_isThere 12 = .ok (.ireturn, 1) := by decide +kernel
theorem dX4_hasPerson_0 : decode cX4_hasPerson 0 = .ok (.iload_n 1, 1) := by decide +kernel
theorem dX4_hasPerson_1 : decode cX4_hasPerson 1 = .ok (.ifCond .lt 15, 3) := by decide +kernel
theorem dX4_hasPerson_4 : decode cX4_hasPerson 4 = .ok (.iload_n 1, 1) := by decide +kernel
theorem dX4_hasPerson_5 : decode cX4_hasPerson 5 = .ok (.aload_n 0, 1) := by decide +kernel
theorem dX4_hasPerson_6 : decode cX4_hasPerson 6 = .ok (.getfield 50, 3) := by decide +kernel
theorem dX4_hasPerson_9 : decode cX4_hasPerson 9 = .ok (.if_icmp .ge 7, 3) := by decide +kernel
theorem dX4_hasPerson_12 : decode cX4_hasPerson 12 = .ok (.iconst 1, 1) := by decide +kernel
theorem dX4_hasPerson_13 : decode cX4_hasPerson 13 = .ok (.goto 4, 3) := by decide +kernel
theorem dX4_hasPerson_16 : decode cX4_hasPerson 16 = .ok (.iconst 0, 1) := by decide +kernel
theorem dX4_hasPerson_17 : decode cX4_hasPerson 17 = .ok (.ireturn, 1) := by decide +kernel
theorem dX4_hasPair_0 : decode cX4_hasPair 0 = .ok (.iload_n 1, 1) := by decide +kernel
theorem dX4_hasPair_1 : decode cX4_hasPair 1 = .ok (.ifCond .lt 15, 3) := by decide +kernel
theorem dX4_hasPair_4 : decode cX4_hasPair 4 = .ok (.iload_n 1, 1) := by decide +kernel
theorem dX4_hasPair_5 : decode cX4_hasPair 5 = .ok (.aload_n 0, 1) := by decide +kernel
theorem dX4_hasPair_6 : decode cX4_hasPair 6 = .ok (.getfield 53, 3) := by decide +kernel
theorem dX4_hasPair_9 : decode cX4_hasPair 9 = .ok (.if_icmp .ge 7, 3) := by decide +kernel
theorem dX4_hasPair_12 : decode cX4_hasPair 12 = .ok (.iconst 1, 1) := by decide +kernel
theorem dX4_hasPair_13 : decode cX4_hasPair 13 = .ok (.goto 4, 3) := by decide +kernel
theorem dX4_hasPair_16 : decode cX4_hasPair 16 = .ok (.iconst 0, 1) := by decide +kernel
theorem dX4_hasPair_17 : decode cX4_hasPair 17 = .ok (.ireturn, 1) := by decide +kernel
theorem dX4_hasYear_0 : decode cX4_hasYear 0 = .ok (.iload_n 1, 1) := by decide +kernel
theorem dX4_hasYear_1 : decode cX4_hasYear 1 = .ok (.ifCond .lt 15, 3) := by decide +kernel
theorem dX4_hasYear_4 : decode cX4_hasYear 4 = .ok (.iload_n 1, 1) := by decide +kernel
theorem dX4_hasYear_5 : decode cX4_hasYear 5 = .ok (.aload_n 0, 1) := by decide +kernel
theorem dX4_hasYear_6 : decode cX4_hasYear 6 = .ok (.getfield 41, 3) := by decide +kernel
theorem dX4_hasYear_9 : decode cX4_hasYear 9 = .ok (.if_icmp .ge 7, 3) := by decide +kernel
theorem dX4_hasYear_12 : decode cX4_hasYear 12 = .ok (.iconst 1, 1) := by decide +kernel
theorem dX4_hasYear_13 : decode cX4_hasYear 13 = .ok (.goto 4, 3) := by decide +kernel
theorem dX4_hasYear_16 : decode cX4_hasYear 16 = .ok (.iconst 0, 1) := by decide +kernel
theorem dX4_hasYear_17 : decode cX4_hasYear 17 = .ok (.ireturn, 1) := by decide +kernel
theorem dX4_hasSet_0 : decode cX4_hasSet 0 = .ok (.iload_n 1, 1) := by decide +kernel
theorem dX4_hasSet_1 : decode cX4_hasSet 1 = .ok (.ifCond .le 17, 3) := by decide +kernel
theorem dX4_hasSet_4 : decode cX4_hasSet 4 = .ok (.iload_n 1, 1) := by decide +kernel
theorem dX4_hasSet_5 : decode cX4_hasSet 5 = .ok (.iconst 1, 1) := by decide +kernel
theorem dX4_hasSet_6 : decode cX4_hasSet 6 = .ok (.aload_n 0, 1) := by decide +kernel
theorem dX4_hasSet_7 : decode cX4_hasSet 7 = .ok (.getfield 50, 3) := by decide +kernel
theorem dX4_hasSet_10 : decode cX4_hasSet 10 = .ok (.ishl, 1) := by decide +kernel
theorem dX4_hasSet_11 : decode cX4_hasSet 11 = .ok (.if_icmp .ge 7, 3) := by decide +kernel
theorem dX4_hasSet_14 : decode cX4_hasSet 14 = .ok (.iconst 1, 1) := by decide +kernel
theorem dX4_hasSet_15 : decode cX4_hasSet 15 = .ok (.goto 4, 3) := by decide +kernel
theorem dX4_hasSet_18 : decode cX4_hasSet 18 = .ok (.iconst 0, 1) := by decide +kernel
theorem dX4_hasSet_19 : decode cX4_hasSet 19 = .ok (.ireturn, 1) := by decide +kernel
theorem dX4_addPerson_0 : decode cX4_addPerson 0 = .ok (.aload_n 0, 1) := by decide +kernel
theorem dX4_addPerson_1 : decode cX4_addPerson 1 = .ok (.getfield 9, 3) := by decide +kernel
theorem dX4_addPerson_4 : decode cX4_addPerson 4 = .ok (.aload_n 0, 1) := by decide +kernel
theorem dX4_addPerson_5 : decode cX4_addPerson 5 = .ok (.getfield 50, 3) := by decide +kernel
theorem dX4_addPerson_8 : decode cX4_addPerson 8 = .ok (.iload_n 1, 1) := by decide +kernel
theorem dX4_addPerson_9 : decode cX4_addPerson 9 = .ok (.iastore, 1) := by decide +kernel
theorem dX4_addPerson_10 : decode cX4_addPerson 10 = .ok (.aload_n 0, 1) := by decide +kernel
theorem dX4_addPerson_11 : decode cX4_addPerson 11 = .ok (.getfield 15, 3) := by decide +kernel
theorem dX4_addPerson_14 : decode cX4_addPerson 14 = .ok (.aload_n 0, 1) := by decide +kernel
theorem dX4_addPerson_15 : decode cX4_addPerson 15 = .ok (.getfield 50, 3) := by decide +kernel
theorem dX4_addPerson_18 : decode cX4_addPerson 18 = .ok (.iconst 0, 1) := by decide +kernel
theorem dX4_addPerson_19 : decode cX4_addPerson 19 = .ok (.iastore, 1) := by decide +kernel
theorem dX4_addPerson_20 : decode cX4_addPerson 20 = .ok (.aload_n 0, 1) := by decide +kernel
theorem dX4_addPerson_21 : decode cX4_addPerson 21 = .ok (.getfield 18, 3) := by decide +kernel
theorem dX4_addPerson_24 : decode cX4_addPerson 24 = .ok (.aload_n 0, 1) := by decide +kernel
theorem dX4_addPerson_25 : decode cX4_addPerson 25 = .ok (.getfield 50, 3) := by decide +kernel
theorem dX4_addPerson_28 : decode cX4_addPerson 28 = .ok (.iconst 0, 1) := by decide +kernel
theorem dX4_addPerson_29 : decode cX4_addPerson 29 = .ok (.iastore, 1) := by decide +kernel
theorem dX4_addPerson_30 : decode cX4_addPerson 30 = .ok (.aload_n 0, 1) := by decide +kernel
theorem dX4_addPerson_31 : decode cX4_addPerson 31 = .ok (.getfield 21, 3) := by decide +kernel
theorem dX4_addPerson_34 : decode cX4_addPerson 34 = .ok (.aload_n 0, 1) := by decide +kernel
theorem dX4_addPerson_35 : decode cX4_addPerson 35 = .ok (.getfield 50, 3) := by decide +kernel
theorem dX4_addPerson_38 : decode cX4_addPerson 38 = .ok (.iconst (-1), 1) := by decide +kernel
theorem dX4_addPerson_39 : decode cX4_addPerson 39 = .ok (.iastore, 1) := by decide +kernel
theorem dX4_addPerson_40 : decode cX4_addPerson 40 = .ok (.aload_n 0, 1) := by decide +kernel
theorem dX4_addPerson_41 : decode cX4_addPerson 41 = .ok (.getfield 24, 3) := by decide +kernel
theorem dX4_addPerson_44 : decode cX4_addPerson 44 = .ok (.aload_n 0, 1) := by decide +kernel
theorem dX4_addPerson_45 : decode cX4_addPerson 45 = .ok (.getfield 50, 3) := by decide +kernel
theorem dX4_addPerson_48 : decode cX4_addPerson 48 = .ok (.iconst (-1), 1) := by decide +kernel
theorem dX4_addPerson_49 : decode cX4_addPerson 49 = .ok (.iastore, 1) := by decide +kernel
theorem dX4_addPerson_50 : decode cX4_addPerson 50 = .ok (.aload_n 0, 1) := by decide +kernel
theorem dX4_addPerson_51 : decode cX4_addPerson 51 = .ok (.dup, 1) := by decide +kernel
theorem dX4_addPerson_52 : decode cX4_addPerson 52 = .ok (.getfield 50, 3) := by decide +kernel
theorem dX4_addPerson_55 : decode cX4_addPerson 55 = .ok (.iconst 1, 1) := by decide +kernel
theorem dX4_addPerson_56 : decode cX4_addPerson 56 = .ok (.iadd, 1) := by decide +kernel
theorem dX4_addPerson_57 : decode cX4_addPerson 57 = .ok (.putfield 50, 3) := by decide +kernel
theorem dX4_addPerson_60 : decode cX4_addPerson 60 = .ok (.return_, 1) := by decide +kernel
theorem dX4_addPair_0 : decode cX4_addPair 0 = .ok (.aload_n 0, 1) := by decide +kernel
theorem dX4_addPair_1 : decode cX4_addPair 1 = .ok (.getfield 30, 3) := by decide +kernel
theorem dX4_addPair_4 : decode cX4_addPair 4 = .ok (.iconst 2, 1) := by decide +kernel
theorem dX4_addPair_5 : decode cX4_addPair 5 = .ok (.aload_n 0, 1) := by decide +kernel
theorem dX4_addPair_6 : decode cX4_addPair 6 = .ok (.getfield 53, 3) := by decide +kernel
theorem dX4_addPair_9 : decode cX4_addPair 9 = .ok (.imul, 1) := by decide +kernel
theorem dX4_addPair_10 : decode cX4_addPair 10 = .ok (.iload_n 1, 1) := by decide +kernel
theorem dX4_addPair_11 : decode cX4_addPair 11 = .ok (.iastore, 1) := by decide +kernel
theorem dX4_addPair_12 : decode cX4_addPair 12 = .ok (.aload_n 0, 1) := by decide +kernel
theorem dX4_addPair_13 : decode cX4_addPair 13 = .ok (.getfield 30, 3) := by decide +kernel
theorem dX4_addPair_16 : decode cX4_addPair 16 = .ok (.iconst 2, 1) := by decide +kernel
theorem dX4_addPair_17 : decode cX4_addPair 17 = .ok (.aload_n 0, 1) := by decide +kernel
theorem dX4_addPair_18 : decode cX4_addPair 18 = .ok (.getfield 53, 3) := by decide +kernel
theorem dX4_addPair_21 : decode cX4_addPair 21 = .ok (.imul, 1) := by decide +kernel
theorem dX4_addPair_22 : decode cX4_addPair 22 = .ok (.iconst 1, 1) := by decide +kernel
theorem dX4_addPair_23 : decode cX4_addPair 23 = .ok (.iadd, 1) := by decide +kernel
theorem dX4_addPair_24 : decode cX4_addPair 24 = .ok (.iload_n 2, 1) := by decide +kernel
theorem dX4_addPair_25 : decode cX4_addPair 25 = .ok (.iastore, 1) := by decide +kernel
theorem dX4_addPair_26 : decode cX4_addPair 26 = .ok (.aload_n 0, 1) := by decide +kernel
theorem dX4_addPair_27 : decode cX4_addPair 27 = .ok (.getfield 27, 3) := by decide +kernel
theorem dX4_addPair_30 : decode cX4_addPair 30 = .ok (.aload_n 0, 1) := by decide +kernel
theorem dX4_addPair_31 : decode cX4_addPair 31 = .ok (.getfield 53, 3) := by decide +kernel
theorem dX4_addPair_34 : decode cX4_addPair 34 = .ok (.iload_n 3, 1) := by decide +kernel
theorem dX4_addPair_35 : decode cX4_addPair 35 = .ok (.iastore, 1) := by decide +kernel
theorem dX4_addPair_36 : decode cX4_addPair 36 = .ok (.aload_n 0, 1) := by decide +kernel
theorem dX4_addPair_37 : decode cX4_addPair 37 = .ok (.dup, 1) := by decide +kernel
theorem dX4_addPair_38 : decode cX4_addPair 38 = .ok (.getfield 53, 3) := by decide +kernel
theorem dX4_addPair_41 : decode cX4_addPair 41 = .ok (.iconst 1, 1) := by decide +kernel
theorem dX4_addPair_42 : decode cX4_addPair 42 = .ok (.iadd, 1) := by decide +kernel
theorem dX4_addPair_43 : decode cX4_addPair 43 = .ok (.putfield 53, 3) := by decide +kernel
theorem dX4_addPair_46 : decode cX4_addPair 46 = .ok (.return_, 1) := by decide +kernel
theorem dX4_pairOf_0 : decode cX4_pairOf 0 = .ok (.iconst 0, 1) := by decide +kernel
theorem dX4_pairOf_1 : decode cX4_pairOf 1 = .ok (.istore_n 3, 1) := by decide +kernel
theorem dX4_pairOf_2 : decode cX4_pairOf 2 = .ok (.iload_n 3, 1) := by decide +kernel
theorem dX4_pairOf_3 : decode cX4_pairOf 3 = .ok (.aload_n 0, 1) := by decide +kernel
theorem dX4_pairOf_4 : decode cX4_pairOf 4 = .ok (.getfield 53, 3) := by decide +kernel
theorem dX4_pairOf_7 : decode cX4_pairOf 7 = .ok (.if_icmp .ge 57, 3) := by decide +kernel
theorem dX4_pairOf_10 : decode cX4_pairOf 10 = .ok (.aload_n 0, 1) := by decide +kernel
theorem dX4_pairOf_11 : decode cX4_pairOf 11 = .ok (.getfield 30, 3) := by decide +kernel
theorem dX4_pairOf_14 : decode cX4_pairOf 14 = .ok (.iconst 2, 1) := by decide +kernel
theorem dX4_pairOf_15 : decode cX4_pairOf 15 = .ok (.iload_n 3, 1) := by decide +kernel
theorem dX4_pairOf_16 : decode cX4_pairOf 16 = .ok (.imul, 1) := by decide +kernel
theorem dX4_pairOf_17 : decode cX4_pairOf 17 = .ok (.iaload, 1) := by decide +kernel
theorem dX4_pairOf_18 : decode cX4_pairOf 18 = .ok (.istore 4, 2) := by decide +kernel
theorem dX4_pairOf_20 : decode cX4_pairOf 20 = .ok (.aload_n 0, 1) := by decide +kernel
theorem dX4_pairOf_21 : decode cX4_pairOf 21 = .ok (.getfield 30, 3) := by decide +kernel
theorem dX4_pairOf_24 : decode cX4_pairOf 24 = .ok (.iconst 2, 1) := by decide +kernel
theorem dX4_pairOf_25 : decode cX4_pairOf 25 = .ok (.iload_n 3, 1) := by decide +kernel
theorem dX4_pairOf_26 : decode cX4_pairOf 26 = .ok (.imul, 1) := by decide +kernel
theorem dX4_pairOf_27 : decode cX4_pairOf 27 = .ok (.iconst 1, 1) := by decide +kernel
theorem dX4_pairOf_28 : decode cX4_pairOf 28 = .ok (.iadd, 1) := by decide +kernel
theorem dX4_pairOf_29 : decode cX4_pairOf 29 = .ok (.iaload, 1) := by decide +kernel
theorem dX4_pairOf_30 : decode cX4_pairOf 30 = .ok (.istore 5, 2) := by decide +kernel
theorem dX4_pairOf_32 : decode cX4_pairOf 32 = .ok (.iload 4, 2) := by decide +kernel
theorem dX4_pairOf_34 : decode cX4_pairOf 34 = .ok (.iload_n 1, 1) := by decide +kernel
theorem dX4_pairOf_35 : decode cX4_pairOf 35 = .ok (.if_icmp .ne 9, 3) := by decide +kernel
theorem dX4_pairOf_38 : decode cX4_pairOf 38 = .ok (.iload 5, 2) := by decide +kernel
theorem dX4_pairOf_40 : decode cX4_pairOf 40 = .ok (.iload_n 2, 1) := by decide +kernel
theorem dX4_pairOf_41 : decode cX4_pairOf 41 = .ok (.if_icmp .eq 15, 3) := by decide +kernel
theorem dX4_pairOf_44 : decode cX4_pairOf 44 = .ok (.iload 4, 2) := by decide +kernel
theorem dX4_pairOf_46 : decode cX4_pairOf 46 = .ok (.iload_n 2, 1) := by decide +kernel
theorem dX4_pairOf_47 : decode cX4_pairOf 47 = .ok (.if_icmp .ne 11, 3) := by decide +kernel
theorem dX4_pairOf_50 : decode cX4_pairOf 50 = .ok (.iload 5, 2) := by decide +kernel
theorem dX4_pairOf_52 : decode cX4_pairOf 52 = .ok (.iload_n 1, 1) := by decide +kernel
theorem dX4_pairOf_53 : decode cX4_pairOf 53 = .ok (.if_icmp .ne 5, 3) := by decide +kernel
theorem dX4_pairOf_56 : decode cX4_pairOf 56 = .ok (.iload_n 3, 1) := by decide +kernel
theorem dX4_pairOf_57 : decode cX4_pairOf 57 = .ok (.ireturn, 1) := by decide +kernel
theorem dX4_pairOf_58 : decode cX4_pairOf 58 = .ok (.iinc 3 1, 3) := by decide +kernel
theorem dX4_pairOf_61 : decode cX4_pairOf 61 = .ok (.goto (-59), 3) := by decide +kernel
theorem dX4_pairOf_64 : decode cX4_pairOf 64 = .ok (.iconst (-1), 1) := by decide +kernel
theorem dX4_pairOf_65 : decode cX4_pairOf 65 = .ok (.ireturn, 1) := by decide +kernel
theorem dX4_ruleOfSide_0 : decode cX4_ruleOfSide 0 = .ok (.aload_n 0, 1) := by decide +kernel
theorem dX4_ruleOfSide_1 : decode cX4_ruleOfSide 1 = .ok (.getfield 30, 3) := by decide +kernel
theorem dX4_ruleOfSide_4 : decode cX4_ruleOfSide 4 = .ok (.iconst 2, 1) := by decide +kernel
theorem dX4_ruleOfSide_5 : decode cX4_ruleOfSide 5 = .ok (.iload_n 1, 1) := by decide +kernel
theorem dX4_ruleOfSide_6 : decode cX4_ruleOfSide 6 = .ok (.imul, 1) := by decide +kernel
theorem dX4_ruleOfSide_7 : decode cX4_ruleOfSide 7 = .ok (.iload_n 2, 1) := by decide +kernel
theorem dX4_ruleOfSide_8 : decode cX4_ruleOfSide 8 = .ok (.iadd, 1) := by decide +kernel
theorem dX4_ruleOfSide_9 : decode cX4_ruleOfSide 9 = .ok (.iaload, 1) := by decide +kernel
theorem dX4_ruleOfSide_10 : decode cX4_ruleOfSide 10 = .ok (.istore_n 3, 1) := by decide +kernel
theorem dX4_ruleOfSide_11 : decode cX4_ruleOfSide 11 = .ok (.aload_n 0, 1) := by decide +kernel
theorem dX4_ruleOfSide_12 : decode cX4_ruleOfSide 12 = .ok (.getfield 9, 3) := by decide +kernel
theorem dX4_ruleOfSide_15 : decode cX4_ruleOfSide 15 = .ok (.iload_n 3, 1) := by decide +kernel
theorem dX4_ruleOfSide_16 : decode cX4_ruleOfSide 16 = .ok (.iaload, 1) := by decide +kernel
theorem dX4_ruleOfSide_17 : decode cX4_ruleOfSide 17 = .ok (.bipush 16, 2) := by decide +kernel
theorem dX4_ruleOfSide_19 : decode cX4_ruleOfSide 19 = .ok (.aload_n 0, 1) := by decide +kernel
theorem dX4_ruleOfSide_20 : decode cX4_ruleOfSide 20 = .ok (.getfield 15, 3) := by decide +kernel
theorem dX4_ruleOfSide_23 : decode cX4_ruleOfSide 23 = .ok (.iload_n 3, 1) := by decide +kernel
theorem dX4_ruleOfSide_24 : decode cX4_ruleOfSide 24 = .ok (.iaload, 1) := by decide +kernel
theorem dX4_ruleOfSide_25 : decode cX4_ruleOfSide 25 = .ok (.imul, 1) := by decide +kernel
theorem dX4_ruleOfSide_26 : decode cX4_ruleOfSide 26 = .ok (.iadd, 1) := by decide +kernel
theorem dX4_ruleOfSide_27 : decode cX4_ruleOfSide 27 = .ok (.ireturn, 1) := by decide +kernel
theorem dX4_lostCards_0 : decode cX4_lostCards 0 = .ok (.iconst 0, 1) := by decide +kernel
theorem dX4_lostCards_1 : decode cX4_lostCards 1 = .ok (.istore_n 1, 1) := by decide +kernel
theorem dX4_lostCards_2 : decode cX4_lostCards 2 = .ok (.iconst 0, 1) := by decide +kernel
theorem dX4_lostCards_3 : decode cX4_lostCards 3 = .ok (.istore_n 2, 1) := by decide +kernel
theorem dX4_lostCards_4 : decode cX4_lostCards 4 = .ok (.iload_n 2, 1) := by decide +kernel
theorem dX4_lostCards_5 : decode cX4_lostCards 5 = .ok (.iconst 2, 1) := by decide +kernel
theorem dX4_lostCards_6 : decode cX4_lostCards 6 = .ok (.aload_n 0, 1) := by decide +kernel
theorem dX4_lostCards_7 : decode cX4_lostCards 7 = .ok (.getfield 53, 3) := by decide +kernel
theorem dX4_lostCards_10 : decode cX4_lostCards 10 = .ok (.imul, 1) := by decide +kernel
theorem dX4_lostCards_11 : decode cX4_lostCards 11 = .ok (.if_icmp .ge 21, 3) := by decide +kernel
theorem dX4_lostCards_14 : decode cX4_lostCards 14 = .ok (.iload_n 1, 1) := by decide +kernel
theorem dX4_lostCards_15 : decode cX4_lostCards 15 = .ok (.aload_n 0, 1) := by decide +kernel
theorem dX4_lostCards_16 : decode cX4_lostCards 16 = .ok (.getfield 33, 3) := by decide +kernel
theorem dX4_lostCards_19 : decode cX4_lostCards 19 = .ok (.iload_n 2, 1) := by decide +kernel
theorem dX4_lostCards_20 : decode cX4_lostCards 20 = .ok (.laload, 1) := by decide +kernel
theorem dX4_lostCards_21 : decode cX4_lostCards 21 = .ok (.invokestatic 72, 3) := by decide +kernel
theorem dX4_lostCards_24 : decode cX4_lostCards 24 = .ok (.iadd, 1) := by decide +kernel
theorem dX4_lostCards_25 : decode cX4_lostCards 25 = .ok (.istore_n 1, 1) := by decide +kernel
theorem dX4_lostCards_26 : decode cX4_lostCards 26 = .ok (.iinc 2 1, 3) := by decide +kernel
theorem dX4_lostCards_29 : decode cX4_lostCards 29 = .ok (.goto (-25), 3) := by decide +kernel
theorem dX4_lostCards_32 : decode cX4_lostCards 32 = .ok (.iload_n 1, 1) := by decide +kernel
theorem dX4_lostCards_33 : decode cX4_lostCards 33 = .ok (.ireturn, 1) := by decide +kernel
theorem dX4_livingYears_0 : decode cX4_livingYears 0 = .ok (.lconst 1, 1) := by decide +kernel
theorem dX4_livingYears_1 : decode cX4_livingYears 1 = .ok (.aload_n 0, 1) := by decide +kernel
theorem dX4_livingYears_2 : decode cX4_livingYears 2 = .ok (.getfield 21, 3) := by decide +kernel
theorem dX4_livingYears_5 : decode cX4_livingYears 5 = .ok (.iload_n 1, 1) := by decide +kernel
theorem dX4_livingYears_6 : decode cX4_livingYears 6 = .ok (.iaload, 1) := by decide +kernel
theorem dX4_livingYears_7 : decode cX4_livingYears 7 = .ok (.iconst (-1), 1) := by decide +kernel
theorem dX4_livingYears_8 : decode cX4_livingYears 8 = .ok (.if_icmp .ne 10, 3) := by decide +kernel
theorem dX4_livingYears_11 : decode cX4_livingYears 11 = .ok (.aload_n 0, 1) := by decide +kernel
theorem dX4_livingYears_12 : decode cX4_livingYears 12 = .ok (.getfield 41, 3) := by decide +kernel
theorem dX4_livingYears_15 : decode cX4_livingYears 15 = .ok (.goto 9, 3) := by decide +kernel
theorem dX4_livingYears_18 : decode cX4_livingYears 18 = .ok (.aload_n 0, 1) := by decide +kernel
theorem dX4_livingYears_19 : decode cX4_livingYears 19 = .ok (.getfield 21, 3) := by decide +kernel
theorem dX4_livingYears_22 : decode cX4_livingYears 22 = .ok (.iload_n 1, 1) := by decide +kernel
theorem dX4_livingYears_23 : decode cX4_livingYears 23 = .ok (.iaload, 1) := by decide +kernel
theorem dX4_livingYears_24 : decode cX4_livingYears 24 = .ok (.lshl, 1) := by decide +kernel
theorem dX4_livingYears_25 : decode cX4_livingYears 25 = .ok (.lconst 1, 1) := by decide +kernel
theorem dX4_livingYears_26 : decode cX4_livingYears 26 = .ok (.lsub, 1) := by decide +kernel
theorem dX4_livingYears_27 : decode cX4_livingYears 27 = .ok (.lreturn, 1) := by decide +kernel
theorem dX4_reachOf_0 : decode cX4_reachOf 0 = .ok (.aload_n 0, 1) := by decide +kernel
theorem dX4_reachOf_1 : decode cX4_reachOf 1 = .ok (.getfield 30, 3) := by decide +kernel
theorem dX4_reachOf_4 : decode cX4_reachOf 4 = .ok (.iconst 2, 1) := by decide +kernel
theorem dX4_reachOf_5 : decode cX4_reachOf 5 = .ok (.iload_n 1, 1) := by decide +kernel
theorem dX4_reachOf_6 : decode cX4_reachOf 6 = .ok (.imul, 1) := by decide +kernel
theorem dX4_reachOf_7 : decode cX4_reachOf 7 = .ok (.iconst 1, 1) := by decide +kernel
theorem dX4_reachOf_8 : decode cX4_reachOf 8 = .ok (.iadd, 1) := by decide +kernel
theorem dX4_reachOf_9 : decode cX4_reachOf 9 = .ok (.iload_n 2, 1) := by decide +kernel
theorem dX4_reachOf_10 : decode cX4_reachOf 10 = .ok (.isub, 1) := by decide +kernel
theorem dX4_reachOf_11 : decode cX4_reachOf 11 = .ok (.iaload, 1) := by decide +kernel
theorem dX4_reachOf_12 : decode cX4_reachOf 12 = .ok (.istore_n 3, 1) := by decide +kernel
theorem dX4_reachOf_13 : decode cX4_reachOf 13 = .ok (.aload_n 0, 1) := by decide +kernel
theorem dX4_reachOf_14 : decode cX4_reachOf 14 = .ok (.getfield 24, 3) := by decide +kernel
theorem dX4_reachOf_17 : decode cX4_reachOf 17 = .ok (.iload_n 3, 1) := by decide +kernel
theorem dX4_reachOf_18 : decode cX4_reachOf 18 = .ok (.iaload, 1) := by decide +kernel
theorem dX4_reachOf_19 : decode cX4_reachOf 19 = .ok (.iconst (-1), 1) := by decide +kernel
theorem dX4_reachOf_20 : decode cX4_reachOf 20 = .ok (.if_icmp .ne 7, 3) := by decide +kernel
theorem dX4_reachOf_23 : decode cX4_reachOf 23 = .ok (.lconst 0, 1) := by decide +kernel
theorem dX4_reachOf_24 : decode cX4_reachOf 24 = .ok (.goto 11, 3) := by decide +kernel
theorem dX4_reachOf_27 : decode cX4_reachOf 27 = .ok (.lconst 1, 1) := by decide +kernel
theorem dX4_reachOf_28 : decode cX4_reachOf 28 = .ok (.aload_n 0, 1) := by decide +kernel
theorem dX4_reachOf_29 : decode cX4_reachOf 29 = .ok (.getfield 24, 3) := by decide +kernel
theorem dX4_reachOf_32 : decode cX4_reachOf 32 = .ok (.iload_n 3, 1) := by decide +kernel
theorem dX4_reachOf_33 : decode cX4_reachOf 33 = .ok (.iaload, 1) := by decide +kernel
theorem dX4_reachOf_34 : decode cX4_reachOf 34 = .ok (.lshl, 1) := by decide +kernel
theorem dX4_reachOf_35 : decode cX4_reachOf 35 = .ok (.lstore 4, 2) := by decide +kernel
theorem dX4_reachOf_37 : decode cX4_reachOf 37 = .ok (.aload_n 0, 1) := by decide +kernel
theorem dX4_reachOf_38 : decode cX4_reachOf 38 = .ok (.iload_n 3, 1) := by decide +kernel
theorem dX4_reachOf_39 : decode cX4_reachOf 39 = .ok (.invokevirtual 78, 3) := by decide +kernel
theorem dX4_reachOf_42 : decode cX4_reachOf 42 = .ok (.lload 4, 2) := by decide +kernel
theorem dX4_reachOf_44 : decode cX4_reachOf 44 = .ok (.ldc2_w 82, 3) := by decide +kernel
theorem dX4_reachOf_47 : decode cX4_reachOf 47 = .ok (.lxor, 1) := by decide +kernel
theorem dX4_reachOf_48 : decode cX4_reachOf 48 = .ok (.land, 1) := by decide +kernel
theorem dX4_reachOf_49 : decode cX4_reachOf 49 = .ok (.aload_n 0, 1) := by decide +kernel
theorem dX4_reachOf_50 : decode cX4_reachOf 50 = .ok (.getfield 56, 3) := by decide +kernel
theorem dX4_reachOf_53 : decode cX4_reachOf 53 = .ok (.ldc2_w 82, 3) := by decide +kernel
theorem dX4_reachOf_56 : decode cX4_reachOf 56 = .ok (.lxor, 1) := by decide +kernel
theorem dX4_reachOf_57 : decode cX4_reachOf 57 = .ok (.land, 1) := by decide +kernel
theorem dX4_reachOf_58 : decode cX4_reachOf 58 = .ok (.aload_n 0, 1) := by decide +kernel
theorem dX4_reachOf_59 : decode cX4_reachOf 59 = .ok (.getfield 33, 3) := by decide +kernel
theorem dX4_reachOf_62 : decode cX4_reachOf 62 = .ok (.iconst 2, 1) := by decide +kernel
theorem dX4_reachOf_63 : decode cX4_reachOf 63 = .ok (.iload_n 1, 1) := by decide +kernel
theorem dX4_reachOf_64 : decode cX4_reachOf 64 = .ok (.imul, 1) := by decide +kernel
theorem dX4_reachOf_65 : decode cX4_reachOf 65 = .ok (.iload_n 2, 1) := by decide +kernel
theorem dX4_reachOf_66 : decode cX4_reachOf 66 = .ok (.iadd, 1) := by decide +kernel
theorem dX4_reachOf_67 : decode cX4_reachOf 67 = .ok (.laload, 1) := by decide +kernel
theorem dX4_reachOf_68 : decode cX4_reachOf 68 = .ok (.ldc2_w 82, 3) := by decide +kernel
theorem dX4_reachOf_71 : decode cX4_reachOf 71 = .ok (.lxor, 1) := by decide +kernel
theorem dX4_reachOf_72 : decode cX4_reachOf 72 = .ok (.land, 1) := by decide +kernel
theorem dX4_reachOf_73 : decode cX4_reachOf 73 = .ok (.lreturn, 1) := by decide +kernel
theorem dX10_swapped_0 : decode cX10_swapped 0 = .ok (.iload_n 0, 1) := by decide +kernel
theorem dX10_swapped_1 : decode cX10_swapped 1 = .ok (.iconst 1, 1) := by decide +kernel
theorem dX10_swapped_2 : decode cX10_swapped 2 = .ok (.iand, 1) := by decide +kernel
theorem dX10_swapped_3 : decode cX10_swapped 3 = .ok (.iconst 1, 1) := by decide +kernel
theorem dX10_swapped_4 : decode cX10_swapped 4 = .ok (.ishl, 1) := by decide +kernel
theorem dX10_swapped_5 : decode cX10_swapped 5 = .ok (.iload_n 0, 1) := by decide +kernel
theorem dX10_swapped_6 : decode cX10_swapped 6 = .ok (.iconst 1, 1) := by decide +kernel
theorem dX10_swapped_7 : decode cX10_swapped 7 = .ok (.ishr, 1) := by decide +kernel
theorem dX10_swapped_8 : decode cX10_swapped 8 = .ok (.iconst 1, 1) := by decide +kernel
theorem dX10_swapped_9 : decode cX10_swapped 9 = .ok (.iand, 1) := by decide +kernel
theorem dX10_swapped_10 : decode cX10_swapped 10 = .ok (.ior, 1) := by decide +kernel
theorem dX10_swapped_11 : decode cX10_swapped 11 = .ok (.ireturn, 1) := by decide +kernel
theorem dX10_firsts_0 : decode cX10_firsts 0 = .ok (.iload_n 0, 1) := by decide +kernel
theorem dX10_firsts_1 : decode cX10_firsts 1 = .ok (.iload_n 2, 1) := by decide +kernel
theorem dX10_firsts_2 : decode cX10_firsts 2 = .ok (.iconst 3, 1) := by decide +kernel
theorem dX10_firsts_3 : decode cX10_firsts 3 = .ok (.iand, 1) := by decide +kernel
theorem dX10_firsts_4 : decode cX10_firsts 4 = .ok (.ishr, 1) := by decide +kernel
theorem dX10_firsts_5 : decode cX10_firsts 5 = .ok (.iconst 1, 1) := by decide +kernel
theorem dX10_firsts_6 : decode cX10_firsts 6 = .ok (.iand, 1) := by decide +kernel
theorem dX10_firsts_7 : decode cX10_firsts 7 = .ok (.iload_n 1, 1) := by decide +kernel
theorem dX10_firsts_8 : decode cX10_firsts 8 = .ok (.iload_n 2, 1) := by decide +kernel
theorem dX10_firsts_9 : decode cX10_firsts 9 = .ok (.iconst 2, 1) := by decide +kernel
theorem dX10_firsts_10 : decode cX10_firsts 10 = .ok (.ishr, 1) := by decide +kernel
theorem dX10_firsts_11 : decode cX10_firsts 11 = .ok (.iconst 3, 1) := by decide +kernel
theorem dX10_firsts_12 : decode cX10_firsts 12 = .ok (.iand, 1) := by decide +kernel
theorem dX10_firsts_13 : decode cX10_firsts 13 = .ok (.ishr, 1) := by decide +kernel
theorem dX10_firsts_14 : decode cX10_firsts 14 = .ok (.iconst 1, 1) := by decide +kernel
theorem dX10_firsts_15 : decode cX10_firsts 15 = .ok (.iand, 1) := by decide +kernel
theorem dX10_firsts_16 : decode cX10_firsts 16 = .ok (.iconst 1, 1) := by decide +kernel
theorem dX10_firsts_17 : decode cX10_firsts 17 = .ok (.ishl, 1) := by decide +kernel
theorem dX10_firsts_18 : decode cX10_firsts 18 = .ok (.ior, 1) := by decide +kernel
theorem dX10_firsts_19 : decode cX10_firsts 19 = .ok (.ireturn, 1) := by decide +kernel
theorem dX10_returning_0 : decode cX10_returning 0 = .ok (.iload_n 0, 1) := by decide +kernel
theorem dX10_returning_1 : decode cX10_returning 1 = .ok (.iconst 4, 1) := by decide +kernel
theorem dX10_returning_2 : decode cX10_returning 2 = .ok (.ishr, 1) := by decide +kernel
theorem dX10_returning_3 : decode cX10_returning 3 = .ok (.iconst 1, 1) := by decide +kernel
theorem dX10_returning_4 : decode cX10_returning 4 = .ok (.iand, 1) := by decide +kernel
theorem dX10_returning_5 : decode cX10_returning 5 = .ok (.iload_n 1, 1) := by decide +kernel
theorem dX10_returning_6 : decode cX10_returning 6 = .ok (.iconst 4, 1) := by decide +kernel
theorem dX10_returning_7 : decode cX10_returning 7 = .ok (.ishr, 1) := by decide +kernel
theorem dX10_returning_8 : decode cX10_returning 8 = .ok (.iconst 1, 1) := by decide +kernel
theorem dX10_returning_9 : decode cX10_returning 9 = .ok (.iand, 1) := by decide +kernel
theorem dX10_returning_10 : decode cX10_returning 10 = .ok (.iconst 1, 1) := by decide +kernel
theorem dX10_returning_11 : decode cX10_returning 11 = .ok (.ishl, 1) := by decide +kernel
theorem dX10_returning_12 : decode cX10_returning 12 = .ok (.ior, 1) := by decide +kernel
theorem dX10_returning_13 : decode cX10_returning 13 = .ok (.ireturn, 1) := by decide +kernel
theorem dX10_backs_0 : decode cX10_backs 0 = .ok (.iload_n 0, 1) := by decide +kernel
theorem dX10_backs_1 : decode cX10_backs 1 = .ok (.iload_n 2, 1) := by decide +kernel
theorem dX10_backs_2 : decode cX10_backs 2 = .ok (.iand, 1) := by decide +kernel
theorem dX10_backs_3 : decode cX10_backs 3 = .ok (.istore_n 3, 1) := by decide +kernel
theorem dX10_backs_4 : decode cX10_backs 4 = .ok (.iload_n 0, 1) := by decide +kernel
theorem dX10_backs_5 : decode cX10_backs 5 = .ok (.iconst (-1), 1) := by decide +kernel
theorem dX10_backs_6 : decode cX10_backs 6 = .ok (.ixor, 1) := by decide +kernel
theorem dX10_backs_7 : decode cX10_backs 7 = .ok (.iload_n 1, 1) := by decide +kernel
theorem dX10_backs_8 : decode cX10_backs 8 = .ok (.iand, 1) := by decide +kernel
theorem dX10_backs_9 : decode cX10_backs 9 = .ok (.iload_n 3, 1) := by decide +kernel
theorem dX10_backs_10 : decode cX10_backs 10 = .ok (.iconst 1, 1) := by decide +kernel
theorem dX10_backs_11 : decode cX10_backs 11 = .ok (.iand, 1) := by decide +kernel
theorem dX10_backs_12 : decode cX10_backs 12 = .ok (.iconst 1, 1) := by decide +kernel
theorem dX10_backs_13 : decode cX10_backs 13 = .ok (.ishl, 1) := by decide +kernel
theorem dX10_backs_14 : decode cX10_backs 14 = .ok (.iload_n 3, 1) := by decide +kernel
theorem dX10_backs_15 : decode cX10_backs 15 = .ok (.iconst 1, 1) := by decide +kernel
theorem dX10_backs_16 : decode cX10_backs 16 = .ok (.ishr, 1) := by decide +kernel
theorem dX10_backs_17 : decode cX10_backs 17 = .ok (.ior, 1) := by decide +kernel
theorem dX10_backs_18 : decode cX10_backs 18 = .ok (.iand, 1) := by decide +kernel
theorem dX10_backs_19 : decode cX10_backs 19 = .ok (.ireturn, 1) := by decide +kernel
theorem dX10_after_0 : decode cX10_after 0 = .ok (.iload_n 0, 1) := by decide +kernel
theorem dX10_after_1 : decode cX10_after 1 = .ok (.iconst 5, 1) := by decide +kernel
theorem dX10_after_2 : decode cX10_after 2 = .ok (.iand, 1) := by decide +kernel
theorem dX10_after_3 : decode cX10_after 3 = .ok (.iconst 1, 1) := by decide +kernel
theorem dX10_after_4 : decode cX10_after 4 = .ok (.ishl, 1) := by decide +kernel
theorem dX10_after_5 : decode cX10_after 5 = .ok (.iload_n 1, 1) := by decide +kernel
theorem dX10_after_6 : decode cX10_after 6 = .ok (.iconst 1, 1) := by decide +kernel
theorem dX10_after_7 : decode cX10_after 7 = .ok (.iand, 1) := by decide +kernel
theorem dX10_after_8 : decode cX10_after 8 = .ok (.ior, 1) := by decide +kernel
theorem dX10_after_9 : decode cX10_after 9 = .ok (.iload_n 1, 1) := by decide +kernel
theorem dX10_after_10 : decode cX10_after 10 = .ok (.iconst 2, 1) := by decide +kernel
theorem dX10_after_11 : decode cX10_after 11 = .ok (.iand, 1) := by decide +kernel
theorem dX10_after_12 : decode cX10_after 12 = .ok (.iconst 1, 1) := by decide +kernel
theorem dX10_after_13 : decode cX10_after 13 = .ok (.ishl, 1) := by decide +kernel
theorem dX10_after_14 : decode cX10_after 14 = .ok (.ior, 1) := by decide +kernel
theorem dX10_after_15 : decode cX10_after 15 = .ok (.ireturn, 1) := by decide +kernel
theorem dX11_isBelow_0 : decode cX11_isBelow 0 = .ok (.iload_n 0, 1) := by decide +kernel
theorem dX11_isBelow_1 : decode cX11_isBelow 1 = .ok (.ifCond .lt 12, 3) := by decide +kernel
theorem dX11_isBelow_4 : decode cX11_isBelow 4 = .ok (.iload_n 0, 1) := by decide +kernel
theorem dX11_isBelow_5 : decode cX11_isBelow 5 = .ok (.iload_n 1, 1) := by decide +kernel
theorem dX11_isBelow_6 : decode cX11_isBelow 6 = .ok (.if_icmp .ge 7, 3) := by decide +kernel
theorem dX11_isBelow_9 : decode cX11_isBelow 9 = .ok (.iconst 1, 1) := by decide +kernel
theorem dX11_isBelow_10 : decode cX11_isBelow 10 = .ok (.goto 4, 3) := by decide +kernel
theorem dX11_isBelow_13 : decode cX11_isBelow 13 = .ok (.iconst 0, 1) := by decide +kernel
theorem dX11_isBelow_14 : decode cX11_isBelow 14 = .ok (.ireturn, 1) := by decide +kernel
theorem dX11_isBit_0 : decode cX11_isBit 0 = .ok (.iload_n 0, 1) := by decide +kernel
theorem dX11_isBit_1 : decode cX11_isBit 1 = .ok (.ifCond .eq 8, 3) := by decide +kernel
theorem dX11_isBit_4 : decode cX11_isBit 4 = .ok (.iload_n 0, 1) := by decide +kernel
theorem dX11_isBit_5 : decode cX11_isBit 5 = .ok (.iconst 1, 1) := by decide +kernel
theorem dX11_isBit_6 : decode cX11_isBit 6 = .ok (.if_icmp .ne 7, 3) := by decide +kernel
theorem dX11_isBit_9 : decode cX11_isBit 9 = .ok (.iconst 1, 1) := by decide +kernel
theorem dX11_isBit_10 : decode cX11_isBit 10 = .ok (.goto 4, 3) := by decide +kernel
theorem dX11_isBit_13 : decode cX11_isBit 13 = .ok (.iconst 0, 1) := by decide +kernel
theorem dX11_isBit_14 : decode cX11_isBit 14 = .ok (.ireturn, 1) := by decide +kernel
theorem dX11_isSeed_0 : decode cX11_isSeed 0 = .ok (.iload_n 0, 1) := by decide +kernel
theorem dX11_isSeed_1 : decode cX11_isSeed 1 = .ok (.ifCond .lt 14, 3) := by decide +kernel
theorem dX11_isSeed_4 : decode cX11_isSeed 4 = .ok (.iload_n 0, 1) := by decide +kernel
theorem dX11_isSeed_5 : decode cX11_isSeed 5 = .ok (.ldc_w 411, 3) := by decide +kernel
theorem dX11_isSeed_8 : decode cX11_isSeed 8 = .ok (.if_icmp .gt 7, 3) := by decide +kernel
theorem dX11_isSeed_11 : decode cX11_isSeed 11 = .ok (.iconst 1, 1) := by decide +kernel
theorem dX11_isSeed_12 : decode cX11_isSeed 12 = .ok (.goto 4, 3) := by decide +kernel
theorem dX11_isSeed_15 : decode cX11_isSeed 15 = .ok (.iconst 0, 1) := by decide +kernel
theorem dX11_isSeed_16 : decode cX11_isSeed 16 = .ok (.ireturn, 1) := by decide +kernel
theorem dX11_areRules_0 : decode cX11_areRules 0 = .ok (.iload_n 0, 1) := by decide +kernel
theorem dX11_areRules_1 : decode cX11_areRules 1 = .ok (.bipush 32, 2) := by decide +kernel
theorem dX11_areRules_3 : decode cX11_areRules 3 = .ok (.invokestatic 148, 3) := by decide +kernel
theorem dX11_areRules_6 : decode cX11_areRules 6 = .ok (.ifCond .eq 16, 3) := by decide +kernel
theorem dX11_areRules_9 : decode cX11_areRules 9 = .ok (.iload_n 1, 1) := by decide +kernel
theorem dX11_areRules_10 : decode cX11_areRules 10 = .ok (.bipush 32, 2) := by decide +kernel
theorem dX11_areRules_12 : decode cX11_areRules 12 = .ok (.invokestatic 148, 3) := by decide +kernel
theorem dX11_areRules_15 : decode cX11_areRules 15 = .ok (.ifCond .eq 7, 3) := by decide +kernel
theorem dX11_areRules_18 : decode cX11_areRules 18 = .ok (.iconst 1, 1) := by decide +kernel
theorem dX11_areRules_19 : decode cX11_areRules 19 = .ok (.goto 4, 3) := by decide +kernel
theorem dX11_areRules_22 : decode cX11_areRules 22 = .ok (.iconst 0, 1) := by decide +kernel
theorem dX11_areRules_23 : decode cX11_areRules 23 = .ok (.ireturn, 1) := by decide +kernel
theorem dX11_isAt_0 : decode cX11_isAt 0 = .ok (.lload_n 0, 1) := by decide +kernel
theorem dX11_isAt_1 : decode cX11_isAt 1 = .ok (.iload_n 2, 1) := by decide +kernel
theorem dX11_isAt_2 : decode cX11_isAt 2 = .ok (.lshr, 1) := by decide +kernel
theorem dX11_isAt_3 : decode cX11_isAt 3 = .ok (.lconst 1, 1) := by decide +kernel
theorem dX11_isAt_4 : decode cX11_isAt 4 = .ok (.land, 1) := by decide +kernel
theorem dX11_isAt_5 : decode cX11_isAt 5 = .ok (.lconst 0, 1) := by decide +kernel
theorem dX11_isAt_6 : decode cX11_isAt 6 = .ok (.lcmp, 1) := by decide +kernel
theorem dX11_isAt_7 : decode cX11_isAt 7 = .ok (.ifCond .eq 7, 3) := by decide +kernel
theorem dX11_isAt_10 : decode cX11_isAt 10 = .ok (.iconst 1, 1) := by decide +kernel
theorem dX11_isAt_11 : decode cX11_isAt 11 = .ok (.goto 4, 3) := by decide +kernel
theorem dX11_isAt_14 : decode cX11_isAt 14 = .ok (.iconst 0, 1) := by decide +kernel
theorem dX11_isAt_15 : decode cX11_isAt 15 = .ok (.ireturn, 1) := by decide +kernel
theorem dX11_withBit_0 : decode cX11_withBit 0 = .ok (.iload_n 3, 1) := by decide +kernel
theorem dX11_withBit_1 : decode cX11_withBit 1 = .ok (.iconst 1, 1) := by decide +kernel
theorem dX11_withBit_2 : decode cX11_withBit 2 = .ok (.if_icmp .ne 11, 3) := by decide +kernel
theorem dX11_withBit_5 : decode cX11_withBit 5 = .ok (.lload_n 0, 1) := by decide +kernel
theorem dX11_withBit_6 : decode cX11_withBit 6 = .ok (.lconst 1, 1) := by decide +kernel
theorem dX11_withBit_7 : decode cX11_withBit 7 = .ok (.iload_n 2, 1) := by decide +kernel
theorem dX11_withBit_8 : decode cX11_withBit 8 = .ok (.lshl, 1) := by decide +kernel
theorem dX11_withBit_9 : decode cX11_withBit 9 = .ok (.lor, 1) := by decide +kernel
theorem dX11_withBit_10 : decode cX11_withBit 10 = .ok (.goto 12, 3) := by decide +kernel
theorem dX11_withBit_13 : decode cX11_withBit 13 = .ok (.lload_n 0, 1) := by decide +kernel
theorem dX11_withBit_14 : decode cX11_withBit 14 = .ok (.lconst 1, 1) := by decide +kernel
theorem dX11_withBit_15 : decode cX11_withBit 15 = .ok (.iload_n 2, 1) := by decide +kernel
theorem dX11_withBit_16 : decode cX11_withBit 16 = .ok (.lshl, 1) := by decide +kernel
theorem dX11_withBit_17 : decode cX11_withBit 17 = .ok (.ldc2_w 210, 3) := by decide +kernel
theorem dX11_withBit_20 : decode cX11_withBit 20 = .ok (.lxor, 1) := by decide +kernel
theorem dX11_withBit_21 : decode cX11_withBit 21 = .ok (.land, 1) := by decide +kernel
theorem dX11_withBit_22 : decode cX11_withBit 22 = .ok (.lreturn, 1) := by decide +kernel
theorem dX11_highest_0 : decode cX11_highest 0 = .ok (.lload_n 0, 1) := by decide +kernel
theorem dX11_highest_1 : decode cX11_highest 1 = .ok (.lconst 0, 1) := by decide +kernel
theorem dX11_highest_2 : decode cX11_highest 2 = .ok (.lcmp, 1) := by decide +kernel
theorem dX11_highest_3 : decode cX11_highest 3 = .ok (.ifCond .ne 7, 3) := by decide +kernel
theorem dX11_highest_6 : decode cX11_highest 6 = .ok (.iconst (-1), 1) := by decide +kernel
theorem dX11_highest_7 : decode cX11_highest 7 = .ok (.goto 10, 3) := by decide +kernel
theorem dX11_highest_10 : decode cX11_highest 10 = .ok (.bipush 63, 2) := by decide +kernel
theorem dX11_highest_12 : decode cX11_highest 12 = .ok (.lload_n 0, 1) := by decide +kernel
theorem dX11_highest_13 : decode cX11_highest 13 = .ok (.invokestatic 412, 3) := by decide +kernel
theorem dX11_highest_16 : decode cX11_highest 16 = .ok (.isub, 1) := by decide +kernel
theorem dX11_highest_17 : decode cX11_highest 17 = .ok (.ireturn, 1) := by decide +kernel
theorem dJ6_numberOfLeadingZeros_0f7a4_0 : decode cJ6_numberOfLeadingZeros_0f7a4 0 = .ok (.iload_n 0, 1) := by decide +kernel
theorem dJ6_numberOfLeadingZeros_0f7a4_1 : decode cJ6_numberOfLeadingZeros_0f7a4 1 = .ok (.ifCond .gt 14, 3) := by decide +kernel
theorem dJ6_numberOfLeadingZeros_0f7a4_4 : decode cJ6_numberOfLeadingZeros_0f7a4 4 = .ok (.iload_n 0, 1) := by decide +kernel
theorem dJ6_numberOfLeadingZeros_0f7a4_5 : decode cJ6_numberOfLeadingZeros_0f7a4 5 = .ok (.ifCond .ne 8, 3) := by decide +kernel
theorem dJ6_numberOfLeadingZeros_0f7a4_8 : decode cJ6_numberOfLeadingZeros_0f7a4 8 = .ok (.bipush 32, 2) := by decide +kernel
theorem dJ6_numberOfLeadingZeros_0f7a4_10 : decode cJ6_numberOfLeadingZeros_0f7a4 10 = .ok (.goto 4, 3) := by decide +kernel
theorem dJ6_numberOfLeadingZeros_0f7a4_13 : decode cJ6_numberOfLeadingZeros_0f7a4 13 = .ok (.iconst 0, 1) := by decide +kernel
theorem dJ6_numberOfLeadingZeros_0f7a4_14 : decode cJ6_numberOfLeadingZeros_0f7a4 14 = .ok (.ireturn, 1) := by decide +kernel
theorem dJ6_numberOfLeadingZeros_0f7a4_15 : decode cJ6_numberOfLeadingZeros_0f7a4 15 = .ok (.bipush 31, 2) := by decide +kernel
theorem dJ6_numberOfLeadingZeros_0f7a4_17 : decode cJ6_numberOfLeadingZeros_0f7a4 17 = .ok (.istore_n 1, 1) := by decide +kernel
theorem dJ6_numberOfLeadingZeros_0f7a4_18 : decode cJ6_numberOfLeadingZeros_0f7a4 18 = .ok (.iload_n 0, 1) := by decide +kernel
theorem dJ6_numberOfLeadingZeros_0f7a4_19 : decode cJ6_numberOfLeadingZeros_0f7a4 19 = .ok (.ldc_w 264, 3) := by decide +kernel
theorem dJ6_numberOfLeadingZeros_0f7a4_22 : decode cJ6_numberOfLeadingZeros_0f7a4 22 = .ok (.if_icmp .lt 11, 3) := by decide +kernel
theorem dJ6_numberOfLeadingZeros_0f7a4_25 : decode cJ6_numberOfLeadingZeros_0f7a4 25 = .ok (.iinc 1 (-16), 3) := by decide +kernel
theorem dJ6_numberOfLeadingZeros_0f7a4_28 : decode cJ6_numberOfLeadingZeros_0f7a4 28 = .ok (.iload_n 0, 1) := by decide +kernel
theorem dJ6_numberOfLeadingZeros_0f7a4_29 : decode cJ6_numberOfLeadingZeros_0f7a4 29 = .ok (.bipush 16, 2) := by decide +kernel
theorem dJ6_numberOfLeadingZeros_0f7a4_31 : decode cJ6_numberOfLeadingZeros_0f7a4 31 = .ok (.iushr, 1) := by decide +kernel
theorem dJ6_numberOfLeadingZeros_0f7a4_32 : decode cJ6_numberOfLeadingZeros_0f7a4 32 = .ok (.istore_n 0, 1) := by decide +kernel
theorem dJ6_numberOfLeadingZeros_0f7a4_33 : decode cJ6_numberOfLeadingZeros_0f7a4 33 = .ok (.iload_n 0, 1) := by decide +kernel
theorem dJ6_numberOfLeadingZeros_0f7a4_34 : decode cJ6_numberOfLeadingZeros_0f7a4 34 = .ok (.sipush 256, 3) := by decide +kernel
theorem dJ6_numberOfLeadingZeros_0f7a4_37 : decode cJ6_numberOfLeadingZeros_0f7a4 37 = .ok (.if_icmp .lt 11, 3) := by decide +kernel
theorem dJ6_numberOfLeadingZeros_0f7a4_40 : decode cJ6_numberOfLeadingZeros_0f7a4 40 = .ok (.iinc 1 (-8), 3) := by decide +kernel
theorem dJ6_numberOfLeadingZeros_0f7a4_43 : decode cJ6_numberOfLeadingZeros_0f7a4 43 = .ok (.iload_n 0, 1) := by decide +kernel
theorem dJ6_numberOfLeadingZeros_0f7a4_44 : decode cJ6_numberOfLeadingZeros_0f7a4 44 = .ok (.bipush 8, 2) := by decide +kernel
theorem dJ6_numberOfLeadingZeros_0f7a4_46 : decode cJ6_numberOfLeadingZeros_0f7a4 46 = .ok (.iushr, 1) := by decide +kernel
theorem dJ6_numberOfLeadingZeros_0f7a4_47 : decode cJ6_numberOfLeadingZeros_0f7a4 47 = .ok (.istore_n 0, 1) := by decide +kernel
theorem dJ6_numberOfLeadingZeros_0f7a4_48 : decode cJ6_numberOfLeadingZeros_0f7a4 48 = .ok (.iload_n 0, 1) := by decide +kernel
theorem dJ6_numberOfLeadingZeros_0f7a4_49 : decode cJ6_numberOfLeadingZeros_0f7a4 49 = .ok (.bipush 16, 2) := by decide +kernel
theorem dJ6_numberOfLeadingZeros_0f7a4_51 : decode cJ6_numberOfLeadingZeros_0f7a4 51 = .ok (.if_icmp .lt 10, 3) := by decide +kernel
theorem dJ6_numberOfLeadingZeros_0f7a4_54 : decode cJ6_numberOfLeadingZeros_0f7a4 54 = .ok (.iinc 1 (-4), 3) := by decide +kernel
theorem dJ6_numberOfLeadingZeros_0f7a4_57 : decode cJ6_numberOfLeadingZeros_0f7a4 57 = .ok (.iload_n 0, 1) := by decide +kernel
theorem dJ6_numberOfLeadingZeros_0f7a4_58 : decode cJ6_numberOfLeadingZeros_0f7a4 58 = .ok (.iconst 4, 1) := by decide +kernel
theorem dJ6_numberOfLeadingZeros_0f7a4_59 : decode cJ6_numberOfLeadingZeros_0f7a4 59 = .ok (.iushr, 1) := by decide +kernel
theorem dJ6_numberOfLeadingZeros_0f7a4_60 : decode cJ6_numberOfLeadingZeros_0f7a4 60 = .ok (.istore_n 0, 1) := by decide +kernel
theorem dJ6_numberOfLeadingZeros_0f7a4_61 : decode cJ6_numberOfLeadingZeros_0f7a4 61 = .ok (.iload_n 0, 1) := by decide +kernel
theorem dJ6_numberOfLeadingZeros_0f7a4_62 : decode cJ6_numberOfLeadingZeros_0f7a4 62 = .ok (.iconst 4, 1) := by decide +kernel
theorem dJ6_numberOfLeadingZeros_0f7a4_63 : decode cJ6_numberOfLeadingZeros_0f7a4 63 = .ok (.if_icmp .lt 10, 3) := by decide +kernel
theorem dJ6_numberOfLeadingZeros_0f7a4_66 : decode cJ6_numberOfLeadingZeros_0f7a4 66 = .ok (.iinc 1 (-2), 3) := by decide +kernel
theorem dJ6_numberOfLeadingZeros_0f7a4_69 : decode cJ6_numberOfLeadingZeros_0f7a4 69 = .ok (.iload_n 0, 1) := by decide +kernel
theorem dJ6_numberOfLeadingZeros_0f7a4_70 : decode cJ6_numberOfLeadingZeros_0f7a4 70 = .ok (.iconst 2, 1) := by decide +kernel
theorem dJ6_numberOfLeadingZeros_0f7a4_71 : decode cJ6_numberOfLeadingZeros_0f7a4 71 = .ok (.iushr, 1) := by decide +kernel
theorem dJ6_numberOfLeadingZeros_0f7a4_72 : decode cJ6_numberOfLeadingZeros_0f7a4 72 = .ok (.istore_n 0, 1) := by decide +kernel
theorem dJ6_numberOfLeadingZeros_0f7a4_73 : decode cJ6_numberOfLeadingZeros_0f7a4 73 = .ok (.iload_n 1, 1) := by decide +kernel
theorem dJ6_numberOfLeadingZeros_0f7a4_74 : decode cJ6_numberOfLeadingZeros_0f7a4 74 = .ok (.iload_n 0, 1) := by decide +kernel
theorem dJ6_numberOfLeadingZeros_0f7a4_75 : decode cJ6_numberOfLeadingZeros_0f7a4 75 = .ok (.iconst 1, 1) := by decide +kernel
theorem dJ6_numberOfLeadingZeros_0f7a4_76 : decode cJ6_numberOfLeadingZeros_0f7a4 76 = .ok (.iushr, 1) := by decide +kernel
theorem dJ6_numberOfLeadingZeros_0f7a4_77 : decode cJ6_numberOfLeadingZeros_0f7a4 77 = .ok (.isub, 1) := by decide +kernel
theorem dJ6_numberOfLeadingZeros_0f7a4_78 : decode cJ6_numberOfLeadingZeros_0f7a4 78 = .ok (.ireturn, 1) := by decide +kernel
theorem dJ6_bitCount_0f7a4_0 : decode cJ6_bitCount_0f7a4 0 = .ok (.iload_n 0, 1) := by decide +kernel
theorem dJ6_bitCount_0f7a4_1 : decode cJ6_bitCount_0f7a4 1 = .ok (.iload_n 0, 1) := by decide +kernel
theorem dJ6_bitCount_0f7a4_2 : decode cJ6_bitCount_0f7a4 2 = .ok (.iconst 1, 1) := by decide +kernel
theorem dJ6_bitCount_0f7a4_3 : decode cJ6_bitCount_0f7a4 3 = .ok (.iushr, 1) := by decide +kernel
theorem dJ6_bitCount_0f7a4_4 : decode cJ6_bitCount_0f7a4 4 = .ok (.ldc_w 265, 3) := by decide +kernel
theorem dJ6_bitCount_0f7a4_7 : decode cJ6_bitCount_0f7a4 7 = .ok (.iand, 1) := by decide +kernel
theorem dJ6_bitCount_0f7a4_8 : decode cJ6_bitCount_0f7a4 8 = .ok (.isub, 1) := by decide +kernel
theorem dJ6_bitCount_0f7a4_9 : decode cJ6_bitCount_0f7a4 9 = .ok (.istore_n 0, 1) := by decide +kernel
theorem dJ6_bitCount_0f7a4_10 : decode cJ6_bitCount_0f7a4 10 = .ok (.iload_n 0, 1) := by decide +kernel
theorem dJ6_bitCount_0f7a4_11 : decode cJ6_bitCount_0f7a4 11 = .ok (.ldc_w 266, 3) := by decide +kernel
theorem dJ6_bitCount_0f7a4_14 : decode cJ6_bitCount_0f7a4 14 = .ok (.iand, 1) := by decide +kernel
theorem dJ6_bitCount_0f7a4_15 : decode cJ6_bitCount_0f7a4 15 = .ok (.iload_n 0, 1) := by decide +kernel
theorem dJ6_bitCount_0f7a4_16 : decode cJ6_bitCount_0f7a4 16 = .ok (.iconst 2, 1) := by decide +kernel
theorem dJ6_bitCount_0f7a4_17 : decode cJ6_bitCount_0f7a4 17 = .ok (.iushr, 1) := by decide +kernel
theorem dJ6_bitCount_0f7a4_18 : decode cJ6_bitCount_0f7a4 18 = .ok (.ldc_w 266, 3) := by decide +kernel
theorem dJ6_bitCount_0f7a4_21 : decode cJ6_bitCount_0f7a4 21 = .ok (.iand, 1) := by decide +kernel
theorem dJ6_bitCount_0f7a4_22 : decode cJ6_bitCount_0f7a4 22 = .ok (.iadd, 1) := by decide +kernel
theorem dJ6_bitCount_0f7a4_23 : decode cJ6_bitCount_0f7a4 23 = .ok (.istore_n 0, 1) := by decide +kernel
theorem dJ6_bitCount_0f7a4_24 : decode cJ6_bitCount_0f7a4 24 = .ok (.iload_n 0, 1) := by decide +kernel
theorem dJ6_bitCount_0f7a4_25 : decode cJ6_bitCount_0f7a4 25 = .ok (.iload_n 0, 1) := by decide +kernel
theorem dJ6_bitCount_0f7a4_26 : decode cJ6_bitCount_0f7a4 26 = .ok (.iconst 4, 1) := by decide +kernel
theorem dJ6_bitCount_0f7a4_27 : decode cJ6_bitCount_0f7a4 27 = .ok (.iushr, 1) := by decide +kernel
theorem dJ6_bitCount_0f7a4_28 : decode cJ6_bitCount_0f7a4 28 = .ok (.iadd, 1) := by decide +kernel
theorem dJ6_bitCount_0f7a4_29 : decode cJ6_bitCount_0f7a4 29 = .ok (.ldc_w 267, 3) := by decide +kernel
theorem dJ6_bitCount_0f7a4_32 : decode cJ6_bitCount_0f7a4 32 = .ok (.iand, 1) := by decide +kernel
theorem dJ6_bitCount_0f7a4_33 : decode cJ6_bitCount_0f7a4 33 = .ok (.istore_n 0, 1) := by decide +kernel
theorem dJ6_bitCount_0f7a4_34 : decode cJ6_bitCount_0f7a4 34 = .ok (.iload_n 0, 1) := by decide +kernel
theorem dJ6_bitCount_0f7a4_35 : decode cJ6_bitCount_0f7a4 35 = .ok (.iload_n 0, 1) := by decide +kernel
theorem dJ6_bitCount_0f7a4_36 : decode cJ6_bitCount_0f7a4 36 = .ok (.bipush 8, 2) := by decide +kernel
theorem dJ6_bitCount_0f7a4_38 : decode cJ6_bitCount_0f7a4 38 = .ok (.iushr, 1) := by decide +kernel
theorem dJ6_bitCount_0f7a4_39 : decode cJ6_bitCount_0f7a4 39 = .ok (.iadd, 1) := by decide +kernel
theorem dJ6_bitCount_0f7a4_40 : decode cJ6_bitCount_0f7a4 40 = .ok (.istore_n 0, 1) := by decide +kernel
theorem dJ6_bitCount_0f7a4_41 : decode cJ6_bitCount_0f7a4 41 = .ok (.iload_n 0, 1) := by decide +kernel
theorem dJ6_bitCount_0f7a4_42 : decode cJ6_bitCount_0f7a4 42 = .ok (.iload_n 0, 1) := by decide +kernel
theorem dJ6_bitCount_0f7a4_43 : decode cJ6_bitCount_0f7a4 43 = .ok (.bipush 16, 2) := by decide +kernel
theorem dJ6_bitCount_0f7a4_45 : decode cJ6_bitCount_0f7a4 45 = .ok (.iushr, 1) := by decide +kernel
theorem dJ6_bitCount_0f7a4_46 : decode cJ6_bitCount_0f7a4 46 = .ok (.iadd, 1) := by decide +kernel
theorem dJ6_bitCount_0f7a4_47 : decode cJ6_bitCount_0f7a4 47 = .ok (.istore_n 0, 1) := by decide +kernel
theorem dJ6_bitCount_0f7a4_48 : decode cJ6_bitCount_0f7a4 48 = .ok (.iload_n 0, 1) := by decide +kernel
theorem dJ6_bitCount_0f7a4_49 : decode cJ6_bitCount_0f7a4 49 = .ok (.bipush 63, 2) := by decide +kernel
theorem dJ6_bitCount_0f7a4_51 : decode cJ6_bitCount_0f7a4 51 = .ok (.iand, 1) := by decide +kernel
theorem dJ6_bitCount_0f7a4_52 : decode cJ6_bitCount_0f7a4 52 = .ok (.ireturn, 1) := by decide +kernel
theorem dJ13_numberOfLeadingZeros_95d88_0 : decode cJ13_numberOfLeadingZeros_95d88 0 = .ok (.lload_n 0, 1) := by decide +kernel
theorem dJ13_numberOfLeadingZeros_95d88_1 : decode cJ13_numberOfLeadingZeros_95d88 1 = .ok (.bipush 32, 2) := by decide +kernel
theorem dJ13_numberOfLeadingZeros_95d88_3 : decode cJ13_numberOfLeadingZeros_95d88 3 = .ok (.lushr, 1) := by decide +kernel
theorem dJ13_numberOfLeadingZeros_95d88_4 : decode cJ13_numberOfLeadingZeros_95d88 4 = .ok (.l2i, 1) := by decide +kernel
theorem dJ13_numberOfLeadingZeros_95d88_5 : decode cJ13_numberOfLeadingZeros_95d88 5 = .ok (.istore_n 2, 1) := by decide +kernel
theorem dJ13_numberOfLeadingZeros_95d88_6 : decode cJ13_numberOfLeadingZeros_95d88 6 = .ok (.iload_n 2, 1) := by decide +kernel
theorem dJ13_numberOfLeadingZeros_95d88_7 : decode cJ13_numberOfLeadingZeros_95d88 7 = .ok (.ifCond .ne 14, 3) := by decide +kernel
theorem dJ13_numberOfLeadingZeros_95d88_10 : decode cJ13_numberOfLeadingZeros_95d88 10 = .ok (.bipush 32, 2) := by decide +kernel
theorem dJ13_numberOfLeadingZeros_95d88_12 : decode cJ13_numberOfLeadingZeros_95d88 12 = .ok (.lload_n 0, 1) := by decide +kernel
theorem dJ13_numberOfLeadingZeros_95d88_13 : decode cJ13_numberOfLeadingZeros_95d88 13 = .ok (.l2i, 1) := by decide +kernel
theorem dJ13_numberOfLeadingZeros_95d88_14 : decode cJ13_numberOfLeadingZeros_95d88 14 = .ok (.invokestatic 308, 3) := by decide +kernel
theorem dJ13_numberOfLeadingZeros_95d88_17 : decode cJ13_numberOfLeadingZeros_95d88 17 = .ok (.iadd, 1) := by decide +kernel
theorem dJ13_numberOfLeadingZeros_95d88_18 : decode cJ13_numberOfLeadingZeros_95d88 18 = .ok (.goto 7, 3) := by decide +kernel
theorem dJ13_numberOfLeadingZeros_95d88_21 : decode cJ13_numberOfLeadingZeros_95d88 21 = .ok (.iload_n 2, 1) := by decide +kernel
theorem dJ13_numberOfLeadingZeros_95d88_22 : decode cJ13_numberOfLeadingZeros_95d88 22 = .ok (.invokestatic 308, 3) := by decide +kernel
theorem dJ13_numberOfLeadingZeros_95d88_25 : decode cJ13_numberOfLeadingZeros_95d88 25 = .ok (.ireturn, 1) := by decide +kernel
theorem dJ13_bitCount_95d88_0 : decode cJ13_bitCount_95d88 0 = .ok (.lload_n 0, 1) := by decide +kernel
theorem dJ13_bitCount_95d88_1 : decode cJ13_bitCount_95d88 1 = .ok (.lload_n 0, 1) := by decide +kernel
theorem dJ13_bitCount_95d88_2 : decode cJ13_bitCount_95d88 2 = .ok (.iconst 1, 1) := by decide +kernel
theorem dJ13_bitCount_95d88_3 : decode cJ13_bitCount_95d88 3 = .ok (.lushr, 1) := by decide +kernel
theorem dJ13_bitCount_95d88_4 : decode cJ13_bitCount_95d88 4 = .ok (.ldc2_w 314, 3) := by decide +kernel
theorem dJ13_bitCount_95d88_7 : decode cJ13_bitCount_95d88 7 = .ok (.land, 1) := by decide +kernel
theorem dJ13_bitCount_95d88_8 : decode cJ13_bitCount_95d88 8 = .ok (.lsub, 1) := by decide +kernel
theorem dJ13_bitCount_95d88_9 : decode cJ13_bitCount_95d88 9 = .ok (.lstore_n 0, 1) := by decide +kernel
theorem dJ13_bitCount_95d88_10 : decode cJ13_bitCount_95d88 10 = .ok (.lload_n 0, 1) := by decide +kernel
theorem dJ13_bitCount_95d88_11 : decode cJ13_bitCount_95d88 11 = .ok (.ldc2_w 316, 3) := by decide +kernel
theorem dJ13_bitCount_95d88_14 : decode cJ13_bitCount_95d88 14 = .ok (.land, 1) := by decide +kernel
theorem dJ13_bitCount_95d88_15 : decode cJ13_bitCount_95d88 15 = .ok (.lload_n 0, 1) := by decide +kernel
theorem dJ13_bitCount_95d88_16 : decode cJ13_bitCount_95d88 16 = .ok (.iconst 2, 1) := by decide +kernel
theorem dJ13_bitCount_95d88_17 : decode cJ13_bitCount_95d88 17 = .ok (.lushr, 1) := by decide +kernel
theorem dJ13_bitCount_95d88_18 : decode cJ13_bitCount_95d88 18 = .ok (.ldc2_w 316, 3) := by decide +kernel
theorem dJ13_bitCount_95d88_21 : decode cJ13_bitCount_95d88 21 = .ok (.land, 1) := by decide +kernel
theorem dJ13_bitCount_95d88_22 : decode cJ13_bitCount_95d88 22 = .ok (.ladd, 1) := by decide +kernel
theorem dJ13_bitCount_95d88_23 : decode cJ13_bitCount_95d88 23 = .ok (.lstore_n 0, 1) := by decide +kernel
theorem dJ13_bitCount_95d88_24 : decode cJ13_bitCount_95d88 24 = .ok (.lload_n 0, 1) := by decide +kernel
theorem dJ13_bitCount_95d88_25 : decode cJ13_bitCount_95d88 25 = .ok (.lload_n 0, 1) := by decide +kernel
theorem dJ13_bitCount_95d88_26 : decode cJ13_bitCount_95d88 26 = .ok (.iconst 4, 1) := by decide +kernel
theorem dJ13_bitCount_95d88_27 : decode cJ13_bitCount_95d88 27 = .ok (.lushr, 1) := by decide +kernel
theorem dJ13_bitCount_95d88_28 : decode cJ13_bitCount_95d88 28 = .ok (.ladd, 1) := by decide +kernel
theorem dJ13_bitCount_95d88_29 : decode cJ13_bitCount_95d88 29 = .ok (.ldc2_w 318, 3) := by decide +kernel
theorem dJ13_bitCount_95d88_32 : decode cJ13_bitCount_95d88 32 = .ok (.land, 1) := by decide +kernel
theorem dJ13_bitCount_95d88_33 : decode cJ13_bitCount_95d88 33 = .ok (.lstore_n 0, 1) := by decide +kernel
theorem dJ13_bitCount_95d88_34 : decode cJ13_bitCount_95d88 34 = .ok (.lload_n 0, 1) := by decide +kernel
theorem dJ13_bitCount_95d88_35 : decode cJ13_bitCount_95d88 35 = .ok (.lload_n 0, 1) := by decide +kernel
theorem dJ13_bitCount_95d88_36 : decode cJ13_bitCount_95d88 36 = .ok (.bipush 8, 2) := by decide +kernel
theorem dJ13_bitCount_95d88_38 : decode cJ13_bitCount_95d88 38 = .ok (.lushr, 1) := by decide +kernel
theorem dJ13_bitCount_95d88_39 : decode cJ13_bitCount_95d88 39 = .ok (.ladd, 1) := by decide +kernel
theorem dJ13_bitCount_95d88_40 : decode cJ13_bitCount_95d88 40 = .ok (.lstore_n 0, 1) := by decide +kernel
theorem dJ13_bitCount_95d88_41 : decode cJ13_bitCount_95d88 41 = .ok (.lload_n 0, 1) := by decide +kernel
theorem dJ13_bitCount_95d88_42 : decode cJ13_bitCount_95d88 42 = .ok (.lload_n 0, 1) := by decide +kernel
theorem dJ13_bitCount_95d88_43 : decode cJ13_bitCount_95d88 43 = .ok (.bipush 16, 2) := by decide +kernel
theorem dJ13_bitCount_95d88_45 : decode cJ13_bitCount_95d88 45 = .ok (.lushr, 1) := by decide +kernel
theorem dJ13_bitCount_95d88_46 : decode cJ13_bitCount_95d88 46 = .ok (.ladd, 1) := by decide +kernel
theorem dJ13_bitCount_95d88_47 : decode cJ13_bitCount_95d88 47 = .ok (.lstore_n 0, 1) := by decide +kernel
theorem dJ13_bitCount_95d88_48 : decode cJ13_bitCount_95d88 48 = .ok (.lload_n 0, 1) := by decide +kernel
theorem dJ13_bitCount_95d88_49 : decode cJ13_bitCount_95d88 49 = .ok (.lload_n 0, 1) := by decide +kernel
theorem dJ13_bitCount_95d88_50 : decode cJ13_bitCount_95d88 50 = .ok (.bipush 32, 2) := by decide +kernel
theorem dJ13_bitCount_95d88_52 : decode cJ13_bitCount_95d88 52 = .ok (.lushr, 1) := by decide +kernel
theorem dJ13_bitCount_95d88_53 : decode cJ13_bitCount_95d88 53 = .ok (.ladd, 1) := by decide +kernel
theorem dJ13_bitCount_95d88_54 : decode cJ13_bitCount_95d88 54 = .ok (.lstore_n 0, 1) := by decide +kernel
theorem dJ13_bitCount_95d88_55 : decode cJ13_bitCount_95d88 55 = .ok (.lload_n 0, 1) := by decide +kernel
theorem dJ13_bitCount_95d88_56 : decode cJ13_bitCount_95d88 56 = .ok (.l2i, 1) := by decide +kernel
theorem dJ13_bitCount_95d88_57 : decode cJ13_bitCount_95d88 57 = .ok (.bipush 127, 2) := by decide +kernel
theorem dJ13_bitCount_95d88_59 : decode cJ13_bitCount_95d88 59 = .ok (.iand, 1) := by decide +kernel
theorem dJ13_bitCount_95d88_60 : decode cJ13_bitCount_95d88 60 = .ok (.ireturn, 1) := by decide +kernel
theorem dJ7_fill_d0a16_0 : decode cJ7_fill_d0a16 0 = .ok (.iconst 0, 1) := by decide +kernel
theorem dJ7_fill_d0a16_1 : decode cJ7_fill_d0a16 1 = .ok (.istore_n 3, 1) := by decide +kernel
theorem dJ7_fill_d0a16_2 : decode cJ7_fill_d0a16 2 = .ok (.aload_n 0, 1) := by decide +kernel
theorem dJ7_fill_d0a16_3 : decode cJ7_fill_d0a16 3 = .ok (.arraylength, 1) := by decide +kernel
theorem dJ7_fill_d0a16_4 : decode cJ7_fill_d0a16 4 = .ok (.istore 4, 2) := by decide +kernel
theorem dJ7_fill_d0a16_6 : decode cJ7_fill_d0a16 6 = .ok (.iload_n 3, 1) := by decide +kernel
theorem dJ7_fill_d0a16_7 : decode cJ7_fill_d0a16 7 = .ok (.iload 4, 2) := by decide +kernel
theorem dJ7_fill_d0a16_9 : decode cJ7_fill_d0a16 9 = .ok (.if_icmp .ge 13, 3) := by decide +kernel
theorem dJ7_fill_d0a16_12 : decode cJ7_fill_d0a16 12 = .ok (.aload_n 0, 1) := by decide +kernel
theorem dJ7_fill_d0a16_13 : decode cJ7_fill_d0a16 13 = .ok (.iload_n 3, 1) := by decide +kernel
theorem dJ7_fill_d0a16_14 : decode cJ7_fill_d0a16 14 = .ok (.lload_n 1, 1) := by decide +kernel
theorem dJ7_fill_d0a16_15 : decode cJ7_fill_d0a16 15 = .ok (.lastore, 1) := by decide +kernel
theorem dJ7_fill_d0a16_16 : decode cJ7_fill_d0a16 16 = .ok (.iinc 3 1, 3) := by decide +kernel
theorem dJ7_fill_d0a16_19 : decode cJ7_fill_d0a16 19 = .ok (.goto (-13), 3) := by decide +kernel
theorem dJ7_fill_d0a16_22 : decode cJ7_fill_d0a16 22 = .ok (.return_, 1) := by decide +kernel
theorem dJ7_fill_53178_0 : decode cJ7_fill_53178 0 = .ok (.iconst 0, 1) := by decide +kernel
theorem dJ7_fill_53178_1 : decode cJ7_fill_53178 1 = .ok (.istore_n 2, 1) := by decide +kernel
theorem dJ7_fill_53178_2 : decode cJ7_fill_53178 2 = .ok (.aload_n 0, 1) := by decide +kernel
theorem dJ7_fill_53178_3 : decode cJ7_fill_53178 3 = .ok (.arraylength, 1) := by decide +kernel
theorem dJ7_fill_53178_4 : decode cJ7_fill_53178 4 = .ok (.istore_n 3, 1) := by decide +kernel
theorem dJ7_fill_53178_5 : decode cJ7_fill_53178 5 = .ok (.iload_n 2, 1) := by decide +kernel
theorem dJ7_fill_53178_6 : decode cJ7_fill_53178 6 = .ok (.iload_n 3, 1) := by decide +kernel
theorem dJ7_fill_53178_7 : decode cJ7_fill_53178 7 = .ok (.if_icmp .ge 13, 3) := by decide +kernel
theorem dJ7_fill_53178_10 : decode cJ7_fill_53178 10 = .ok (.aload_n 0, 1) := by decide +kernel
theorem dJ7_fill_53178_11 : decode cJ7_fill_53178 11 = .ok (.iload_n 2, 1) := by decide +kernel
theorem dJ7_fill_53178_12 : decode cJ7_fill_53178 12 = .ok (.iload_n 1, 1) := by decide +kernel
theorem dJ7_fill_53178_13 : decode cJ7_fill_53178 13 = .ok (.iastore, 1) := by decide +kernel
theorem dJ7_fill_53178_14 : decode cJ7_fill_53178 14 = .ok (.iinc 2 1, 3) := by decide +kernel
theorem dJ7_fill_53178_17 : decode cJ7_fill_53178 17 = .ok (.goto (-12), 3) := by decide +kernel
theorem dJ7_fill_53178_20 : decode cJ7_fill_53178 20 = .ok (.return_, 1) := by decide +kernel
