theorem dX6_note_0 : decode cX6_note 0 = .ok (.aload_n 0, 1) := by decide +kernel
theorem dX6_note_1 : decode cX6_note 1 = .ok (.getfield 9, 3) := by decide +kernel
theorem dX6_note_4 : decode cX6_note 4 = .ok (.iload_n 1, 1) := by decide +kernel
theorem dX6_note_5 : decode cX6_note 5 = .ok (.invokestatic 55, 3) := by decide +kernel
theorem dX6_note_8 : decode cX6_note 8 = .ok (.ifCond .eq 47, 3) := by decide +kernel
theorem dX6_note_11 : decode cX6_note 11 = .ok (.aload_n 0, 1) := by decide +kernel
theorem dX6_note_12 : decode cX6_note 12 = .ok (.aload_n 0, 1) := by decide +kernel
theorem dX6_note_13 : decode cX6_note 13 = .ok (.getfield 21, 3) := by decide +kernel
theorem dX6_note_16 : decode cX6_note 16 = .ok (.ifCond .ne 30, 3) := by decide +kernel
theorem dX6_note_19 : decode cX6_note 19 = .ok (.aload_n 0, 1) := by decide +kernel
theorem dX6_note_20 : decode cX6_note 20 = .ok (.getfield 15, 3) := by decide +kernel
theorem dX6_note_23 : decode cX6_note 23 = .ok (.iload_n 1, 1) := by decide +kernel
theorem dX6_note_24 : decode cX6_note 24 = .ok (.lshr, 1) := by decide +kernel
theorem dX6_note_25 : decode cX6_note 25 = .ok (.lconst 1, 1) := by decide +kernel
theorem dX6_note_26 : decode cX6_note 26 = .ok (.land, 1) := by decide +kernel
theorem dX6_note_27 : decode cX6_note 27 = .ok (.lload_n 2, 1) := by decide +kernel
theorem dX6_note_28 : decode cX6_note 28 = .ok (.lcmp, 1) := by decide +kernel
theorem dX6_note_29 : decode cX6_note 29 = .ok (.ifCond .ne 17, 3) := by decide +kernel
theorem dX6_note_32 : decode cX6_note 32 = .ok (.aload_n 0, 1) := by decide +kernel
theorem dX6_note_33 : decode cX6_note 33 = .ok (.getfield 18, 3) := by decide +kernel
theorem dX6_note_36 : decode cX6_note 36 = .ok (.iload_n 1, 1) := by decide +kernel
theorem dX6_note_37 : decode cX6_note 37 = .ok (.lshr, 1) := by decide +kernel
theorem dX6_note_38 : decode cX6_note 38 = .ok (.lconst 1, 1) := by decide +kernel
theorem dX6_note_39 : decode cX6_note 39 = .ok (.land, 1) := by decide +kernel
theorem dX6_note_40 : decode cX6_note 40 = .ok (.lload 4, 2) := by decide +kernel
theorem dX6_note_42 : decode cX6_note 42 = .ok (.lcmp, 1) := by decide +kernel
theorem dX6_note_43 : decode cX6_note 43 = .ok (.ifCond .eq 7, 3) := by decide +kernel
theorem dX6_note_46 : decode cX6_note 46 = .ok (.iconst 1, 1) := by decide +kernel
theorem dX6_note_47 : decode cX6_note 47 = .ok (.goto 4, 3) := by decide +kernel
theorem dX6_note_50 : decode cX6_note 50 = .ok (.iconst 0, 1) := by decide +kernel
theorem dX6_note_51 : decode cX6_note 51 = .ok (.putfield 21, 3) := by decide +kernel
theorem dX6_note_54 : decode cX6_note 54 = .ok (.return_, 1) := by decide +kernel
theorem dX6_note_55 : decode cX6_note 55 = .ok (.aload_n 0, 1) := by decide +kernel
theorem dX6_note_56 : decode cX6_note 56 = .ok (.dup, 1) := by decide +kernel
theorem dX6_note_57 : decode cX6_note 57 = .ok (.getfield 9, 3) := by decide +kernel
theorem dX6_note_60 : decode cX6_note 60 = .ok (.lconst 1, 1) := by decide +kernel
theorem dX6_note_61 : decode cX6_note 61 = .ok (.iload_n 1, 1) := by decide +kernel
theorem dX6_note_62 : decode cX6_note 62 = .ok (.lshl, 1) := by decide +kernel
theorem dX6_note_63 : decode cX6_note 63 = .ok (.lor, 1) := by decide +kernel
theorem dX6_note_64 : decode cX6_note 64 = .ok (.putfield 9, 3) := by decide +kernel
theorem dX6_note_67 : decode cX6_note 67 = .ok (.aload_n 0, 1) := by decide +kernel
theorem dX6_note_68 : decode cX6_note 68 = .ok (.dup, 1) := by decide +kernel
theorem dX6_note_69 : decode cX6_note 69 = .ok (.getfield 15, 3) := by decide +kernel
theorem dX6_note_72 : decode cX6_note 72 = .ok (.lload_n 2, 1) := by decide +kernel
theorem dX6_note_73 : decode cX6_note 73 = .ok (.iload_n 1, 1) := by decide +kernel
theorem dX6_note_74 : decode cX6_note 74 = .ok (.lshl, 1) := by decide +kernel
theorem dX6_note_75 : decode cX6_note 75 = .ok (.lor, 1) := by decide +kernel
theorem dX6_note_76 : decode cX6_note 76 = .ok (.putfield 15, 3) := by decide +kernel
theorem dX6_note_79 : decode cX6_note 79 = .ok (.aload_n 0, 1) := by decide +kernel
theorem dX6_note_80 : decode cX6_note 80 = .ok (.dup, 1) := by decide +kernel
theorem dX6_note_81 : decode cX6_note 81 = .ok (.getfield 18, 3) := by decide +kernel
theorem dX6_note_84 : decode cX6_note 84 = .ok (.lload 4, 2) := by decide +kernel
theorem dX6_note_86 : decode cX6_note 86 = .ok (.iload_n 1, 1) := by decide +kernel
theorem dX6_note_87 : decode cX6_note 87 = .ok (.lshl, 1) := by decide +kernel
theorem dX6_note_88 : decode cX6_note 88 = .ok (.lor, 1) := by decide +kernel
theorem dX6_note_89 : decode cX6_note 89 = .ok (.putfield 18, 3) := by decide +kernel
theorem dX6_note_92 : decode cX6_note 92 = .ok (.return_, 1) := by decide +kernel
theorem dX7_has_0 : decode cX7_has 0 = .ok (.aload_n 0, 1) := by decide +kernel
theorem dX7_has_1 : decode cX7_has 1 = .ok (.getfield 15, 3) := by decide +kernel
theorem dX7_has_4 : decode cX7_has 4 = .ok (.iload_n 1, 1) := by decide +kernel
theorem dX7_has_5 : decode cX7_has 5 = .ok (.iaload, 1) := by decide +kernel
theorem dX7_has_6 : decode cX7_has 6 = .ok (.iconst (-1), 1) := by decide +kernel
theorem dX7_has_7 : decode cX7_has 7 = .ok (.if_icmp .eq 7, 3) := by decide +kernel
theorem dX7_has_10 : decode cX7_has 10 = .ok (.iconst 1, 1) := by decide +kernel
theorem dX7_has_11 : decode cX7_has 11 = .ok (.goto 4, 3) := by decide +kernel
theorem dX7_has_14 : decode cX7_has 14 = .ok (.iconst 0, 1) := by decide +kernel
theorem dX7_has_15 : decode cX7_has 15 = .ok (.ireturn, 1) := by decide +kernel
theorem dX7_filled_0 : decode cX7_filled 0 = .ok (.iconst 0, 1) := by decide +kernel
theorem dX7_filled_1 : decode cX7_filled 1 = .ok (.istore_n 1, 1) := by decide +kernel
theorem dX7_filled_2 : decode cX7_filled 2 = .ok (.iconst 0, 1) := by decide +kernel
theorem dX7_filled_3 : decode cX7_filled 3 = .ok (.istore_n 2, 1) := by decide +kernel
theorem dX7_filled_4 : decode cX7_filled 4 = .ok (.iload_n 2, 1) := by decide +kernel
theorem dX7_filled_5 : decode cX7_filled 5 = .ok (.iconst 4, 1) := by decide +kernel
theorem dX7_filled_6 : decode cX7_filled 6 = .ok (.if_icmp .ge 25, 3) := by decide +kernel
theorem dX7_filled_9 : decode cX7_filled 9 = .ok (.iload_n 1, 1) := by decide +kernel
theorem dX7_filled_10 : decode cX7_filled 10 = .ok (.aload_n 0, 1) := by decide +kernel
theorem dX7_filled_11 : decode cX7_filled 11 = .ok (.iload_n 2, 1) := by decide +kernel
theorem dX7_filled_12 : decode cX7_filled 12 = .ok (.invokevirtual 22, 3) := by decide +kernel
theorem dX7_filled_15 : decode cX7_filled 15 = .ok (.ifCond .eq 7, 3) := by decide +kernel
theorem dX7_filled_18 : decode cX7_filled 18 = .ok (.iconst 1, 1) := by decide +kernel
theorem dX7_filled_19 : decode cX7_filled 19 = .ok (.goto 4, 3) := by decide +kernel
theorem dX7_filled_22 : decode cX7_filled 22 = .ok (.iconst 0, 1) := by decide +kernel
theorem dX7_filled_23 : decode cX7_filled 23 = .ok (.iadd, 1) := by decide +kernel
theorem dX7_filled_24 : decode cX7_filled 24 = .ok (.istore_n 1, 1) := by decide +kernel
theorem dX7_filled_25 : decode cX7_filled 25 = .ok (.iinc 2 1, 3) := by decide +kernel
theorem dX7_filled_28 : decode cX7_filled 28 = .ok (.goto (-24), 3) := by decide +kernel
theorem dX7_filled_31 : decode cX7_filled 31 = .ok (.iload_n 1, 1) := by decide +kernel
theorem dX7_filled_32 : decode cX7_filled 32 = .ok (.ireturn, 1) := by decide +kernel
theorem dX7_lay_0 : decode cX7_lay 0 = .ok (.aload_n 0, 1) := by decide +kernel
theorem dX7_lay_1 : decode cX7_lay 1 = .ok (.getfield 11, 3) := by decide +kernel
theorem dX7_lay_4 : decode cX7_lay 4 = .ok (.iload_n 1, 1) := by decide +kernel
theorem dX7_lay_5 : decode cX7_lay 5 = .ok (.iload_n 2, 1) := by decide +kernel
theorem dX7_lay_6 : decode cX7_lay 6 = .ok (.iastore, 1) := by decide +kernel
theorem dX7_lay_7 : decode cX7_lay 7 = .ok (.aload_n 0, 1) := by decide +kernel
theorem dX7_lay_8 : decode cX7_lay 8 = .ok (.getfield 15, 3) := by decide +kernel
theorem dX7_lay_11 : decode cX7_lay 11 = .ok (.iload_n 1, 1) := by decide +kernel
theorem dX7_lay_12 : decode cX7_lay 12 = .ok (.iload_n 3, 1) := by decide +kernel
theorem dX7_lay_13 : decode cX7_lay 13 = .ok (.iastore, 1) := by decide +kernel
theorem dX7_lay_14 : decode cX7_lay 14 = .ok (.iconst 0, 1) := by decide +kernel
theorem dX7_lay_15 : decode cX7_lay 15 = .ok (.istore 4, 2) := by decide +kernel
theorem dX7_lay_17 : decode cX7_lay 17 = .ok (.iload 4, 2) := by decide +kernel
theorem dX7_lay_19 : decode cX7_lay 19 = .ok (.iload_n 3, 1) := by decide +kernel
theorem dX7_lay_20 : decode cX7_lay 20 = .ok (.if_icmp .ge 22, 3) := by decide +kernel
theorem dX7_lay_23 : decode cX7_lay 23 = .ok (.aload_n 0, 1) := by decide +kernel
theorem dX7_lay_24 : decode cX7_lay 24 = .ok (.getfield 18, 3) := by decide +kernel
theorem dX7_lay_27 : decode cX7_lay 27 = .ok (.iload_n 1, 1) := by decide +kernel
theorem dX7_lay_28 : decode cX7_lay 28 = .ok (.bipush 60, 2) := by decide +kernel
theorem dX7_lay_30 : decode cX7_lay 30 = .ok (.imul, 1) := by decide +kernel
theorem dX7_lay_31 : decode cX7_lay 31 = .ok (.iload 4, 2) := by decide +kernel
theorem dX7_lay_33 : decode cX7_lay 33 = .ok (.iadd, 1) := by decide +kernel
theorem dX7_lay_34 : decode cX7_lay 34 = .ok (.lconst 0, 1) := by decide +kernel
theorem dX7_lay_35 : decode cX7_lay 35 = .ok (.lastore, 1) := by decide +kernel
theorem dX7_lay_36 : decode cX7_lay 36 = .ok (.iinc 4 1, 3) := by decide +kernel
theorem dX7_lay_39 : decode cX7_lay 39 = .ok (.goto (-22), 3) := by decide +kernel
theorem dX7_lay_42 : decode cX7_lay 42 = .ok (.return_, 1) := by decide +kernel
theorem dX7_numberAt_0 : decode cX7_numberAt 0 = .ok (.aload_n 0, 1) := by decide +kernel
theorem dX7_numberAt_1 : decode cX7_numberAt 1 = .ok (.getfield 18, 3) := by decide +kernel
theorem dX7_numberAt_4 : decode cX7_numberAt 4 = .ok (.iload_n 1, 1) := by decide +kernel
theorem dX7_numberAt_5 : decode cX7_numberAt 5 = .ok (.bipush 60, 2) := by decide +kernel
theorem dX7_numberAt_7 : decode cX7_numberAt 7 = .ok (.imul, 1) := by decide +kernel
theorem dX7_numberAt_8 : decode cX7_numberAt 8 = .ok (.iload_n 2, 1) := by decide +kernel
theorem dX7_numberAt_9 : decode cX7_numberAt 9 = .ok (.iadd, 1) := by decide +kernel
theorem dX7_numberAt_10 : decode cX7_numberAt 10 = .ok (.laload, 1) := by decide +kernel
theorem dX7_numberAt_11 : decode cX7_numberAt 11 = .ok (.lreturn, 1) := by decide +kernel
theorem dX7_put_0 : decode cX7_put 0 = .ok (.bipush 64, 2) := by decide +kernel
theorem dX7_put_2 : decode cX7_put 2 = .ok (.bipush 8, 2) := by decide +kernel
theorem dX7_put_4 : decode cX7_put 4 = .ok (.aload_n 0, 1) := by decide +kernel
theorem dX7_put_5 : decode cX7_put 5 = .ok (.getfield 11, 3) := by decide +kernel
theorem dX7_put_8 : decode cX7_put 8 = .ok (.iload_n 1, 1) := by decide +kernel
theorem dX7_put_9 : decode cX7_put 9 = .ok (.iaload, 1) := by decide +kernel
theorem dX7_put_10 : decode cX7_put 10 = .ok (.ishl, 1) := by decide +kernel
theorem dX7_put_11 : decode cX7_put 11 = .ok (.isub, 1) := by decide +kernel
theorem dX7_put_12 : decode cX7_put 12 = .ok (.istore 5, 2) := by decide +kernel
theorem dX7_put_14 : decode cX7_put 14 = .ok (.aload_n 0, 1) := by decide +kernel
theorem dX7_put_15 : decode cX7_put 15 = .ok (.getfield 18, 3) := by decide +kernel
theorem dX7_put_18 : decode cX7_put 18 = .ok (.iload_n 1, 1) := by decide +kernel
theorem dX7_put_19 : decode cX7_put 19 = .ok (.bipush 60, 2) := by decide +kernel
theorem dX7_put_21 : decode cX7_put 21 = .ok (.imul, 1) := by decide +kernel
theorem dX7_put_22 : decode cX7_put 22 = .ok (.iload_n 2, 1) := by decide +kernel
theorem dX7_put_23 : decode cX7_put 23 = .ok (.iadd, 1) := by decide +kernel
theorem dX7_put_24 : decode cX7_put 24 = .ok (.lload_n 3, 1) := by decide +kernel
theorem dX7_put_25 : decode cX7_put 25 = .ok (.iload 5, 2) := by decide +kernel
theorem dX7_put_27 : decode cX7_put 27 = .ok (.lshl, 1) := by decide +kernel
theorem dX7_put_28 : decode cX7_put 28 = .ok (.iload 5, 2) := by decide +kernel
theorem dX7_put_30 : decode cX7_put 30 = .ok (.lshr, 1) := by decide +kernel
theorem dX7_put_31 : decode cX7_put 31 = .ok (.lastore, 1) := by decide +kernel
theorem dX7_put_32 : decode cX7_put 32 = .ok (.return_, 1) := by decide +kernel
theorem dX7_holds_0 : decode cX7_holds 0 = .ok (.iload_n 2, 1) := by decide +kernel
theorem dX7_holds_1 : decode cX7_holds 1 = .ok (.ifCond .lt 33, 3) := by decide +kernel
theorem dX7_holds_4 : decode cX7_holds 4 = .ok (.iload_n 3, 1) := by decide +kernel
theorem dX7_holds_5 : decode cX7_holds 5 = .ok (.ifCond .lt 29, 3) := by decide +kernel
theorem dX7_holds_8 : decode cX7_holds 8 = .ok (.iload_n 2, 1) := by decide +kernel
theorem dX7_holds_9 : decode cX7_holds 9 = .ok (.aload_n 0, 1) := by decide +kernel
theorem dX7_holds_10 : decode cX7_holds 10 = .ok (.getfield 15, 3) := by decide +kernel
theorem dX7_holds_13 : decode cX7_holds 13 = .ok (.iload_n 1, 1) := by decide +kernel
theorem dX7_holds_14 : decode cX7_holds 14 = .ok (.iaload, 1) := by decide +kernel
theorem dX7_holds_15 : decode cX7_holds 15 = .ok (.if_icmp .gt 19, 3) := by decide +kernel
theorem dX7_holds_18 : decode cX7_holds 18 = .ok (.iload_n 3, 1) := by decide +kernel
theorem dX7_holds_19 : decode cX7_holds 19 = .ok (.aload_n 0, 1) := by decide +kernel
theorem dX7_holds_20 : decode cX7_holds 20 = .ok (.getfield 15, 3) := by decide +kernel
theorem dX7_holds_23 : decode cX7_holds 23 = .ok (.iload_n 1, 1) := by decide +kernel
theorem dX7_holds_24 : decode cX7_holds 24 = .ok (.iaload, 1) := by decide +kernel
theorem dX7_holds_25 : decode cX7_holds 25 = .ok (.iload_n 2, 1) := by decide +kernel
theorem dX7_holds_26 : decode cX7_holds 26 = .ok (.isub, 1) := by decide +kernel
theorem dX7_holds_27 : decode cX7_holds 27 = .ok (.if_icmp .gt 7, 3) := by decide +kernel
theorem dX7_holds_30 : decode cX7_holds 30 = .ok (.iconst 1, 1) := by decide +kernel
theorem dX7_holds_31 : decode cX7_holds 31 = .ok (.goto 4, 3) := by decide +kernel
theorem dX7_holds_34 : decode cX7_holds 34 = .ok (.iconst 0, 1) := by decide +kernel
theorem dX7_holds_35 : decode cX7_holds 35 = .ok (.ireturn, 1) := by decide +kernel
theorem dX7_copy_0 : decode cX7_copy 0 = .ok (.aload_n 0, 1) := by decide +kernel
theorem dX7_copy_1 : decode cX7_copy 1 = .ok (.getfield 18, 3) := by decide +kernel
theorem dX7_copy_4 : decode cX7_copy 4 = .ok (.iload_n 1, 1) := by decide +kernel
theorem dX7_copy_5 : decode cX7_copy 5 = .ok (.bipush 60, 2) := by decide +kernel
theorem dX7_copy_7 : decode cX7_copy 7 = .ok (.imul, 1) := by decide +kernel
theorem dX7_copy_8 : decode cX7_copy 8 = .ok (.iload_n 2, 1) := by decide +kernel
theorem dX7_copy_9 : decode cX7_copy 9 = .ok (.iadd, 1) := by decide +kernel
theorem dX7_copy_10 : decode cX7_copy 10 = .ok (.aload_n 0, 1) := by decide +kernel
theorem dX7_copy_11 : decode cX7_copy 11 = .ok (.getfield 18, 3) := by decide +kernel
theorem dX7_copy_14 : decode cX7_copy 14 = .ok (.iload_n 3, 1) := by decide +kernel
theorem dX7_copy_15 : decode cX7_copy 15 = .ok (.bipush 60, 2) := by decide +kernel
theorem dX7_copy_17 : decode cX7_copy 17 = .ok (.imul, 1) := by decide +kernel
theorem dX7_copy_18 : decode cX7_copy 18 = .ok (.iload 4, 2) := by decide +kernel
theorem dX7_copy_20 : decode cX7_copy 20 = .ok (.iadd, 1) := by decide +kernel
theorem dX7_copy_21 : decode cX7_copy 21 = .ok (.iload 5, 2) := by decide +kernel
theorem dX7_copy_23 : decode cX7_copy 23 = .ok (.invokestatic 26, 3) := by decide +kernel
theorem dX7_copy_26 : decode cX7_copy 26 = .ok (.return_, 1) := by decide +kernel
theorem dX9_planEnd_0 : decode cX9_planEnd 0 = .ok (.aload_n 0, 1) := by decide +kernel
theorem dX9_planEnd_1 : decode cX9_planEnd 1 = .ok (.aload_n 1, 1) := by decide +kernel
theorem dX9_planEnd_2 : decode cX9_planEnd 2 = .ok (.iload_n 2, 1) := by decide +kernel
theorem dX9_planEnd_3 : decode cX9_planEnd 3 = .ok (.iload_n 3, 1) := by decide +kernel
theorem dX9_planEnd_4 : decode cX9_planEnd 4 = .ok (.iload 4, 2) := by decide +kernel
theorem dX9_planEnd_6 : decode cX9_planEnd 6 = .ok (.invokevirtual 15, 3) := by decide +kernel
theorem dX9_planEnd_9 : decode cX9_planEnd 9 = .ok (.aload_n 0, 1) := by decide +kernel
theorem dX9_planEnd_10 : decode cX9_planEnd 10 = .ok (.iconst 1, 1) := by decide +kernel
theorem dX9_planEnd_11 : decode cX9_planEnd 11 = .ok (.putfield 19, 3) := by decide +kernel
theorem dX9_planEnd_14 : decode cX9_planEnd 14 = .ok (.iconst 0, 1) := by decide +kernel
theorem dX9_planEnd_15 : decode cX9_planEnd 15 = .ok (.istore 6, 2) := by decide +kernel
theorem dX9_planEnd_17 : decode cX9_planEnd 17 = .ok (.iload 6, 2) := by decide +kernel
theorem dX9_planEnd_19 : decode cX9_planEnd 19 = .ok (.bipush 16, 2) := by decide +kernel
theorem dX9_planEnd_21 : decode cX9_planEnd 21 = .ok (.if_icmp .ge 75, 3) := by decide +kernel
theorem dX9_planEnd_24 : decode cX9_planEnd 24 = .ok (.aload 5, 2) := by decide +kernel
theorem dX9_planEnd_26 : decode cX9_planEnd 26 = .ok (.aload_n 0, 1) := by decide +kernel
theorem dX9_planEnd_27 : decode cX9_planEnd 27 = .ok (.getfield 23, 3) := by decide +kernel
theorem dX9_planEnd_30 : decode cX9_planEnd 30 = .ok (.ifCond .ne 7, 3) := by decide +kernel
theorem dX9_planEnd_33 : decode cX9_planEnd 33 = .ok (.iconst 0, 1) := by decide +kernel
theorem dX9_planEnd_34 : decode cX9_planEnd 34 = .ok (.goto 7, 3) := by decide +kernel
theorem dX9_planEnd_37 : decode cX9_planEnd 37 = .ok (.aload_n 0, 1) := by decide +kernel
theorem dX9_planEnd_38 : decode cX9_planEnd 38 = .ok (.getfield 27, 3) := by decide +kernel
theorem dX9_planEnd_41 : decode cX9_planEnd 41 = .ok (.aload_n 0, 1) := by decide +kernel
theorem dX9_planEnd_42 : decode cX9_planEnd 42 = .ok (.getfield 23, 3) := by decide +kernel
theorem dX9_planEnd_45 : decode cX9_planEnd 45 = .ok (.ifCond .ne 10, 3) := by decide +kernel
theorem dX9_planEnd_48 : decode cX9_planEnd 48 = .ok (.aload_n 0, 1) := by decide +kernel
theorem dX9_planEnd_49 : decode cX9_planEnd 49 = .ok (.getfield 27, 3) := by decide +kernel
theorem dX9_planEnd_52 : decode cX9_planEnd 52 = .ok (.goto 4, 3) := by decide +kernel
theorem dX9_planEnd_55 : decode cX9_planEnd 55 = .ok (.iconst 0, 1) := by decide +kernel
theorem dX9_planEnd_56 : decode cX9_planEnd 56 = .ok (.iload 6, 2) := by decide +kernel
theorem dX9_planEnd_58 : decode cX9_planEnd 58 = .ok (.invokevirtual 30, 3) := by decide +kernel
theorem dX9_planEnd_61 : decode cX9_planEnd 61 = .ok (.aload_n 0, 1) := by decide +kernel
theorem dX9_planEnd_62 : decode cX9_planEnd 62 = .ok (.getfield 9, 3) := by decide +kernel
theorem dX9_planEnd_65 : decode cX9_planEnd 65 = .ok (.bipush 16, 2) := by decide +kernel
theorem dX9_planEnd_67 : decode cX9_planEnd 67 = .ok (.aload_n 0, 1) := by decide +kernel
theorem dX9_planEnd_68 : decode cX9_planEnd 68 = .ok (.getfield 36, 3) := by decide +kernel
theorem dX9_planEnd_71 : decode cX9_planEnd 71 = .ok (.imul, 1) := by decide +kernel
theorem dX9_planEnd_72 : decode cX9_planEnd 72 = .ok (.iload 6, 2) := by decide +kernel
theorem dX9_planEnd_74 : decode cX9_planEnd 74 = .ok (.iadd, 1) := by decide +kernel
theorem dX9_planEnd_75 : decode cX9_planEnd 75 = .ok (.aload 5, 2) := by decide +kernel
theorem dX9_planEnd_77 : decode cX9_planEnd 77 = .ok (.invokevirtual 39, 3) := by decide +kernel
theorem dX9_planEnd_80 : decode cX9_planEnd 80 = .ok (.ifCond .ne 7, 3) := by decide +kernel
theorem dX9_planEnd_83 : decode cX9_planEnd 83 = .ok (.iconst 0, 1) := by decide +kernel
theorem dX9_planEnd_84 : decode cX9_planEnd 84 = .ok (.goto 5, 3) := by decide +kernel
theorem dX9_planEnd_87 : decode cX9_planEnd 87 = .ok (.ldc 43, 2) := by decide +kernel
theorem dX9_planEnd_89 : decode cX9_planEnd 89 = .ok (.iastore, 1) := by decide +kernel
theorem dX9_planEnd_90 : decode cX9_planEnd 90 = .ok (.iinc 6 1, 3) := by decide +kernel
theorem dX9_planEnd_93 : decode cX9_planEnd 93 = .ok (.goto (-76), 3) := by decide +kernel
theorem dX9_planEnd_96 : decode cX9_planEnd 96 = .ok (.aload_n 0, 1) := by decide +kernel
theorem dX9_planEnd_97 : decode cX9_planEnd 97 = .ok (.invokevirtual 44, 3) := by decide +kernel
theorem dX9_planEnd_100 : decode cX9_planEnd 100 = .ok (.return_, 1) := by decide +kernel
theorem dX9_planKeep_0 : decode cX9_planKeep 0 = .ok (.aload_n 0, 1) := by decide +kernel
theorem dX9_planKeep_1 : decode cX9_planKeep 1 = .ok (.aload_n 1, 1) := by decide +kernel
theorem dX9_planKeep_2 : decode cX9_planKeep 2 = .ok (.iload_n 2, 1) := by decide +kernel
theorem dX9_planKeep_3 : decode cX9_planKeep 3 = .ok (.iload_n 3, 1) := by decide +kernel
theorem dX9_planKeep_4 : decode cX9_planKeep 4 = .ok (.iload 4, 2) := by decide +kernel
theorem dX9_planKeep_6 : decode cX9_planKeep 6 = .ok (.invokevirtual 15, 3) := by decide +kernel
theorem dX9_planKeep_9 : decode cX9_planKeep 9 = .ok (.aload_n 0, 1) := by decide +kernel
theorem dX9_planKeep_10 : decode cX9_planKeep 10 = .ok (.iconst 0, 1) := by decide +kernel
theorem dX9_planKeep_11 : decode cX9_planKeep 11 = .ok (.putfield 19, 3) := by decide +kernel
theorem dX9_planKeep_14 : decode cX9_planKeep 14 = .ok (.aload_n 0, 1) := by decide +kernel
theorem dX9_planKeep_15 : decode cX9_planKeep 15 = .ok (.getfield 9, 3) := by decide +kernel
theorem dX9_planKeep_18 : decode cX9_planKeep 18 = .ok (.iconst 0, 1) := by decide +kernel
theorem dX9_planKeep_19 : decode cX9_planKeep 19 = .ok (.invokestatic 47, 3) := by decide +kernel
theorem dX9_planKeep_22 : decode cX9_planKeep 22 = .ok (.aload_n 0, 1) := by decide +kernel
theorem dX9_planKeep_23 : decode cX9_planKeep 23 = .ok (.invokevirtual 44, 3) := by decide +kernel
theorem dX9_planKeep_26 : decode cX9_planKeep 26 = .ok (.return_, 1) := by decide +kernel
