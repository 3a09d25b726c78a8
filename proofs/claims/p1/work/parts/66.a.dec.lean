theorem dX3_find_0 : decode cX3_find 0 = .ok (.aload_n 0, 1) := by decide +kernel
theorem dX3_find_1 : decode cX3_find 1 = .ok (.iload_n 1, 1) := by decide +kernel
theorem dX3_find_2 : decode cX3_find 2 = .ok (.putfield 15, 3) := by decide +kernel
theorem dX3_find_5 : decode cX3_find 5 = .ok (.aload_n 0, 1) := by decide +kernel
theorem dX3_find_6 : decode cX3_find 6 = .ok (.iload_n 2, 1) := by decide +kernel
theorem dX3_find_7 : decode cX3_find 7 = .ok (.putfield 19, 3) := by decide +kernel
theorem dX3_find_10 : decode cX3_find 10 = .ok (.aload_n 0, 1) := by decide +kernel
theorem dX3_find_11 : decode cX3_find 11 = .ok (.getfield 9, 3) := by decide +kernel
theorem dX3_find_14 : decode cX3_find 14 = .ok (.iconst (-1), 1) := by decide +kernel
theorem dX3_find_15 : decode cX3_find 15 = .ok (.invokestatic 22, 3) := by decide +kernel
theorem dX3_find_18 : decode cX3_find 18 = .ok (.iload_n 3, 1) := by decide +kernel
theorem dX3_find_19 : decode cX3_find 19 = .ok (.istore 4, 2) := by decide +kernel
theorem dX3_find_21 : decode cX3_find 21 = .ok (.iconst 0, 1) := by decide +kernel
theorem dX3_find_22 : decode cX3_find 22 = .ok (.istore 5, 2) := by decide +kernel
theorem dX3_find_24 : decode cX3_find 24 = .ok (.iload 5, 2) := by decide +kernel
theorem dX3_find_26 : decode cX3_find 26 = .ok (.bipush 16, 2) := by decide +kernel
theorem dX3_find_28 : decode cX3_find 28 = .ok (.if_icmp .ge 38, 3) := by decide +kernel
theorem dX3_find_31 : decode cX3_find 31 = .ok (.aload_n 0, 1) := by decide +kernel
theorem dX3_find_32 : decode cX3_find 32 = .ok (.getfield 9, 3) := by decide +kernel
theorem dX3_find_35 : decode cX3_find 35 = .ok (.iload 4, 2) := by decide +kernel
theorem dX3_find_37 : decode cX3_find 37 = .ok (.iaload, 1) := by decide +kernel
theorem dX3_find_38 : decode cX3_find 38 = .ok (.iconst (-1), 1) := by decide +kernel
theorem dX3_find_39 : decode cX3_find 39 = .ok (.if_icmp .ne 27, 3) := by decide +kernel
theorem dX3_find_42 : decode cX3_find 42 = .ok (.aload_n 0, 1) := by decide +kernel
theorem dX3_find_43 : decode cX3_find 43 = .ok (.getfield 9, 3) := by decide +kernel
theorem dX3_find_46 : decode cX3_find 46 = .ok (.iload 4, 2) := by decide +kernel
theorem dX3_find_48 : decode cX3_find 48 = .ok (.iload 5, 2) := by decide +kernel
theorem dX3_find_50 : decode cX3_find 50 = .ok (.iastore, 1) := by decide +kernel
theorem dX3_find_51 : decode cX3_find 51 = .ok (.iinc 5 1, 3) := by decide +kernel
theorem dX3_find_54 : decode cX3_find 54 = .ok (.aload_n 0, 1) := by decide +kernel
theorem dX3_find_55 : decode cX3_find 55 = .ok (.iload 4, 2) := by decide +kernel
theorem dX3_find_57 : decode cX3_find 57 = .ok (.iconst 3, 1) := by decide +kernel
theorem dX3_find_58 : decode cX3_find 58 = .ok (.invokevirtual 28, 3) := by decide +kernel
theorem dX3_find_61 : decode cX3_find 61 = .ok (.istore 4, 2) := by decide +kernel
theorem dX3_find_63 : decode cX3_find 63 = .ok (.goto (-39), 3) := by decide +kernel
theorem dX3_find_66 : decode cX3_find 66 = .ok (.aload_n 0, 1) := by decide +kernel
theorem dX3_find_67 : decode cX3_find 67 = .ok (.iload 4, 2) := by decide +kernel
theorem dX3_find_69 : decode cX3_find 69 = .ok (.putfield 32, 3) := by decide +kernel
theorem dX3_find_72 : decode cX3_find 72 = .ok (.aload_n 0, 1) := by decide +kernel
theorem dX3_find_73 : decode cX3_find 73 = .ok (.aload_n 0, 1) := by decide +kernel
theorem dX3_find_74 : decode cX3_find 74 = .ok (.getfield 9, 3) := by decide +kernel
theorem dX3_find_77 : decode cX3_find 77 = .ok (.iload 4, 2) := by decide +kernel
theorem dX3_find_79 : decode cX3_find 79 = .ok (.iaload, 1) := by decide +kernel
theorem dX3_find_80 : decode cX3_find 80 = .ok (.putfield 35, 3) := by decide +kernel
theorem dX3_find_83 : decode cX3_find 83 = .ok (.aload_n 0, 1) := by decide +kernel
theorem dX3_find_84 : decode cX3_find 84 = .ok (.iload 5, 2) := by decide +kernel
theorem dX3_find_86 : decode cX3_find 86 = .ok (.aload_n 0, 1) := by decide +kernel
theorem dX3_find_87 : decode cX3_find 87 = .ok (.getfield 35, 3) := by decide +kernel
theorem dX3_find_90 : decode cX3_find 90 = .ok (.isub, 1) := by decide +kernel
theorem dX3_find_91 : decode cX3_find 91 = .ok (.putfield 38, 3) := by decide +kernel
theorem dX3_find_94 : decode cX3_find 94 = .ok (.aload_n 0, 1) := by decide +kernel
theorem dX3_find_95 : decode cX3_find 95 = .ok (.iconst 0, 1) := by decide +kernel
theorem dX3_find_96 : decode cX3_find 96 = .ok (.putfield 41, 3) := by decide +kernel
theorem dX3_find_99 : decode cX3_find 99 = .ok (.iconst 0, 1) := by decide +kernel
theorem dX3_find_100 : decode cX3_find 100 = .ok (.istore 6, 2) := by decide +kernel
theorem dX3_find_102 : decode cX3_find 102 = .ok (.iload 6, 2) := by decide +kernel
theorem dX3_find_104 : decode cX3_find 104 = .ok (.aload_n 0, 1) := by decide +kernel
theorem dX3_find_105 : decode cX3_find 105 = .ok (.getfield 38, 3) := by decide +kernel
theorem dX3_find_108 : decode cX3_find 108 = .ok (.if_icmp .ge 37, 3) := by decide +kernel
theorem dX3_find_111 : decode cX3_find 111 = .ok (.aload_n 0, 1) := by decide +kernel
theorem dX3_find_112 : decode cX3_find 112 = .ok (.dup, 1) := by decide +kernel
theorem dX3_find_113 : decode cX3_find 113 = .ok (.getfield 41, 3) := by decide +kernel
theorem dX3_find_116 : decode cX3_find 116 = .ok (.aload_n 0, 1) := by decide +kernel
theorem dX3_find_117 : decode cX3_find 117 = .ok (.iload 4, 2) := by decide +kernel
theorem dX3_find_119 : decode cX3_find 119 = .ok (.iconst 3, 1) := by decide +kernel
theorem dX3_find_120 : decode cX3_find 120 = .ok (.invokevirtual 44, 3) := by decide +kernel
theorem dX3_find_123 : decode cX3_find 123 = .ok (.invokestatic 47, 3) := by decide +kernel
theorem dX3_find_126 : decode cX3_find 126 = .ok (.iadd, 1) := by decide +kernel
theorem dX3_find_127 : decode cX3_find 127 = .ok (.putfield 41, 3) := by decide +kernel
theorem dX3_find_130 : decode cX3_find 130 = .ok (.aload_n 0, 1) := by decide +kernel
theorem dX3_find_131 : decode cX3_find 131 = .ok (.iload 4, 2) := by decide +kernel
theorem dX3_find_133 : decode cX3_find 133 = .ok (.iconst 3, 1) := by decide +kernel
theorem dX3_find_134 : decode cX3_find 134 = .ok (.invokevirtual 28, 3) := by decide +kernel
theorem dX3_find_137 : decode cX3_find 137 = .ok (.istore 4, 2) := by decide +kernel
theorem dX3_find_139 : decode cX3_find 139 = .ok (.iinc 6 1, 3) := by decide +kernel
theorem dX3_find_142 : decode cX3_find 142 = .ok (.goto (-40), 3) := by decide +kernel
theorem dX3_find_145 : decode cX3_find 145 = .ok (.return_, 1) := by decide +kernel
theorem dX3_kind_0 : decode cX3_kind 0 = .ok (.aload_n 0, 1) := by decide +kernel
theorem dX3_kind_1 : decode cX3_kind 1 = .ok (.getfield 41, 3) := by decide +kernel
theorem dX3_kind_4 : decode cX3_kind 4 = .ok (.ifCond .ne 5, 3) := by decide +kernel
theorem dX3_kind_7 : decode cX3_kind 7 = .ok (.iconst 0, 1) := by decide +kernel
theorem dX3_kind_8 : decode cX3_kind 8 = .ok (.ireturn, 1) := by decide +kernel
theorem dX3_kind_9 : decode cX3_kind 9 = .ok (.aload_n 0, 1) := by decide +kernel
theorem dX3_kind_10 : decode cX3_kind 10 = .ok (.getfield 41, 3) := by decide +kernel
theorem dX3_kind_13 : decode cX3_kind 13 = .ok (.iconst 2, 1) := by decide +kernel
theorem dX3_kind_14 : decode cX3_kind 14 = .ok (.aload_n 0, 1) := by decide +kernel
theorem dX3_kind_15 : decode cX3_kind 15 = .ok (.getfield 38, 3) := by decide +kernel
theorem dX3_kind_18 : decode cX3_kind 18 = .ok (.imul, 1) := by decide +kernel
theorem dX3_kind_19 : decode cX3_kind 19 = .ok (.if_icmp .ne 7, 3) := by decide +kernel
theorem dX3_kind_22 : decode cX3_kind 22 = .ok (.iconst 1, 1) := by decide +kernel
theorem dX3_kind_23 : decode cX3_kind 23 = .ok (.goto 4, 3) := by decide +kernel
theorem dX3_kind_26 : decode cX3_kind 26 = .ok (.iconst 2, 1) := by decide +kernel
theorem dX3_kind_27 : decode cX3_kind 27 = .ok (.ireturn, 1) := by decide +kernel
theorem dX3_tell_0 : decode cX3_tell 0 = .ok (.iload_n 1, 1) := by decide +kernel
theorem dX3_tell_1 : decode cX3_tell 1 = .ok (.tableswitch 42 0 2 #[27, 32, 37], 27) := by decide +kernel
theorem dX3_tell_28 : decode cX3_tell 28 = .ok (.aload_n 0, 1) := by decide +kernel
theorem dX3_tell_29 : decode cX3_tell 29 = .ok (.getfield 35, 3) := by decide +kernel
theorem dX3_tell_32 : decode cX3_tell 32 = .ok (.ireturn, 1) := by decide +kernel
theorem dX3_tell_33 : decode cX3_tell 33 = .ok (.aload_n 0, 1) := by decide +kernel
theorem dX3_tell_34 : decode cX3_tell 34 = .ok (.getfield 38, 3) := by decide +kernel
theorem dX3_tell_37 : decode cX3_tell 37 = .ok (.ireturn, 1) := by decide +kernel
theorem dX3_tell_38 : decode cX3_tell 38 = .ok (.aload_n 0, 1) := by decide +kernel
theorem dX3_tell_39 : decode cX3_tell 39 = .ok (.getfield 41, 3) := by decide +kernel
theorem dX3_tell_42 : decode cX3_tell 42 = .ok (.ireturn, 1) := by decide +kernel
theorem dX3_tell_43 : decode cX3_tell 43 = .ok (.aload_n 0, 1) := by decide +kernel
theorem dX3_tell_44 : decode cX3_tell 44 = .ok (.invokevirtual 53, 3) := by decide +kernel
theorem dX3_tell_47 : decode cX3_tell 47 = .ok (.ireturn, 1) := by decide +kernel
theorem dX3_everDies_0 : decode cX3_everDies 0 = .ok (.iconst 0, 1) := by decide +kernel
theorem dX3_everDies_1 : decode cX3_everDies 1 = .ok (.istore_n 3, 1) := by decide +kernel
theorem dX3_everDies_2 : decode cX3_everDies 2 = .ok (.iload_n 3, 1) := by decide +kernel
theorem dX3_everDies_3 : decode cX3_everDies 3 = .ok (.bipush 16, 2) := by decide +kernel
theorem dX3_everDies_5 : decode cX3_everDies 5 = .ok (.if_icmp .ge 25, 3) := by decide +kernel
theorem dX3_everDies_8 : decode cX3_everDies 8 = .ok (.aload_n 0, 1) := by decide +kernel
theorem dX3_everDies_9 : decode cX3_everDies 9 = .ok (.iload_n 1, 1) := by decide +kernel
theorem dX3_everDies_10 : decode cX3_everDies 10 = .ok (.iload_n 2, 1) := by decide +kernel
theorem dX3_everDies_11 : decode cX3_everDies 11 = .ok (.iload_n 3, 1) := by decide +kernel
theorem dX3_everDies_12 : decode cX3_everDies 12 = .ok (.invokevirtual 57, 3) := by decide +kernel
theorem dX3_everDies_15 : decode cX3_everDies 15 = .ok (.aload_n 0, 1) := by decide +kernel
theorem dX3_everDies_16 : decode cX3_everDies 16 = .ok (.invokevirtual 53, 3) := by decide +kernel
theorem dX3_everDies_19 : decode cX3_everDies 19 = .ok (.ifCond .ne 5, 3) := by decide +kernel
theorem dX3_everDies_22 : decode cX3_everDies 22 = .ok (.iconst 1, 1) := by decide +kernel
theorem dX3_everDies_23 : decode cX3_everDies 23 = .ok (.ireturn, 1) := by decide +kernel
theorem dX3_everDies_24 : decode cX3_everDies 24 = .ok (.iinc 3 1, 3) := by decide +kernel
theorem dX3_everDies_27 : decode cX3_everDies 27 = .ok (.goto (-25), 3) := by decide +kernel
theorem dX3_everDies_30 : decode cX3_everDies 30 = .ok (.iconst 0, 1) := by decide +kernel
theorem dX3_everDies_31 : decode cX3_everDies 31 = .ok (.ireturn, 1) := by decide +kernel
theorem dX3_sentIn_0 : decode cX3_sentIn 0 = .ok (.aload_n 0, 1) := by decide +kernel
theorem dX3_sentIn_1 : decode cX3_sentIn 1 = .ok (.getfield 15, 3) := by decide +kernel
theorem dX3_sentIn_4 : decode cX3_sentIn 4 = .ok (.aload_n 0, 1) := by decide +kernel
theorem dX3_sentIn_5 : decode cX3_sentIn 5 = .ok (.getfield 19, 3) := by decide +kernel
theorem dX3_sentIn_8 : decode cX3_sentIn 8 = .ok (.iload_n 1, 1) := by decide +kernel
theorem dX3_sentIn_9 : decode cX3_sentIn 9 = .ok (.invokestatic 61, 3) := by decide +kernel
theorem dX3_sentIn_12 : decode cX3_sentIn 12 = .ok (.istore_n 3, 1) := by decide +kernel
theorem dX3_sentIn_13 : decode cX3_sentIn 13 = .ok (.iload_n 3, 1) := by decide +kernel
theorem dX3_sentIn_14 : decode cX3_sentIn 14 = .ok (.iload_n 3, 1) := by decide +kernel
theorem dX3_sentIn_15 : decode cX3_sentIn 15 = .ok (.aload_n 0, 1) := by decide +kernel
theorem dX3_sentIn_16 : decode cX3_sentIn 16 = .ok (.getfield 15, 3) := by decide +kernel
theorem dX3_sentIn_19 : decode cX3_sentIn 19 = .ok (.aload_n 0, 1) := by decide +kernel
theorem dX3_sentIn_20 : decode cX3_sentIn 20 = .ok (.getfield 19, 3) := by decide +kernel
theorem dX3_sentIn_23 : decode cX3_sentIn 23 = .ok (.invokestatic 67, 3) := by decide +kernel
theorem dX3_sentIn_26 : decode cX3_sentIn 26 = .ok (.iload_n 2, 1) := by decide +kernel
theorem dX3_sentIn_27 : decode cX3_sentIn 27 = .ok (.invokestatic 70, 3) := by decide +kernel
theorem dX3_sentIn_30 : decode cX3_sentIn 30 = .ok (.ior, 1) := by decide +kernel
theorem dX3_sentIn_31 : decode cX3_sentIn 31 = .ok (.ireturn, 1) := by decide +kernel
theorem dX3_next_0 : decode cX3_next 0 = .ok (.iload_n 1, 1) := by decide +kernel
theorem dX3_next_1 : decode cX3_next 1 = .ok (.aload_n 0, 1) := by decide +kernel
theorem dX3_next_2 : decode cX3_next 2 = .ok (.iload_n 1, 1) := by decide +kernel
theorem dX3_next_3 : decode cX3_next 3 = .ok (.iload_n 2, 1) := by decide +kernel
theorem dX3_next_4 : decode cX3_next 4 = .ok (.invokevirtual 44, 3) := by decide +kernel
theorem dX3_next_7 : decode cX3_next 7 = .ok (.iload_n 2, 1) := by decide +kernel
theorem dX3_next_8 : decode cX3_next 8 = .ok (.iand, 1) := by decide +kernel
theorem dX3_next_9 : decode cX3_next 9 = .ok (.invokestatic 73, 3) := by decide +kernel
theorem dX3_next_12 : decode cX3_next 12 = .ok (.invokestatic 76, 3) := by decide +kernel
theorem dX3_next_15 : decode cX3_next 15 = .ok (.ireturn, 1) := by decide +kernel
theorem dX10_swapped_0 : decode cX10_swapped 0 = .ok (.iload_n 0, 1) := by decide +kernel
theorem dX10_swapped_1 : decode cX10_swapped 1 = .ok (.iconst 1, 1) := by decide +kernel
theorem dX10_swapped_2 : decode cX10_swapped 2 = .ok (.iand, 1) := by decide +kernel
theorem dX10_swapped_3 : decode cX10_swapped 3 = .ok (.iconst 1, 1) := by decide +kernel
theorem dX10_swapped_4 : decode cX10_swapped 4 = .ok (.ishl, 1) := by decide +kernel
theorem dX10_swapped_5 : decode cX10_swapped 5 = .ok (.iload_n 0, 1) := by decide +kernel
theorem dX10_swapped_6 : decode cX10_swapped 6 = .ok (.iconst 1, 1) := by decide +kernel
theorem dX10_swapped_7 : decode cX10_swapped 7 = .ok (.ishr, 1) := by decide +kernel
theorem dX10_swapped_8 : decode cX10_swapped 8 = .ok (.iconst 1, 1) := by decide +kernel
theorem dX10_swapped_9 : decode cX10_swapped 9 = .ok (.iand, 1) := by decide +kernel
theorem dX10_swapped_10 : decode cX10_swapped 10 = .ok (.ior, 1) := by decide +kernel
theorem dX10_swapped_11 : decode cX10_swapped 11 = .ok (.ireturn, 1) := by decide +kernel
theorem dX10_firsts_0 : decode cX10_firsts 0 = .ok (.iload_n 0, 1) := by decide +kernel
theorem dX10_firsts_1 : decode cX10_firsts 1 = .ok (.iload_n 2, 1) := by decide +kernel
theorem dX10_firsts_2 : decode cX10_firsts 2 = .ok (.iconst 3, 1) := by decide +kernel
theorem dX10_firsts_3 : decode cX10_firsts 3 = .ok (.iand, 1) := by decide +kernel
theorem dX10_firsts_4 : decode cX10_firsts 4 = .ok (.ishr, 1) := by decide +kernel
theorem dX10_firsts_5 : decode cX10_firsts 5 = .ok (.iconst 1, 1) := by decide +kernel
theorem dX10_firsts_6 : decode cX10_firsts 6 = .ok (.iand, 1) := by decide +kernel
theorem dX10_firsts_7 : decode cX10_firsts 7 = .ok (.iload_n 1, 1) := by decide +kernel
theorem dX10_firsts_8 : decode cX10_firsts 8 = .ok (.iload_n 2, 1) := by decide +kernel
theorem dX10_firsts_9 : decode cX10_firsts 9 = .ok (.iconst 2, 1) := by decide +kernel
theorem dX10_firsts_10 : decode cX10_firsts 10 = .ok (.ishr, 1) := by decide +kernel
theorem dX10_firsts_11 : decode cX10_firsts 11 = .ok (.iconst 3, 1) := by decide +kernel
theorem dX10_firsts_12 : decode cX10_firsts 12 = .ok (.iand, 1) := by decide +kernel
theorem dX10_firsts_13 : decode cX10_firsts 13 = .ok (.ishr, 1) := by decide +kernel
theorem dX10_firsts_14 : decode cX10_firsts 14 = .ok (.iconst 1, 1) := by decide +kernel
theorem dX10_firsts_15 : decode cX10_firsts 15 = .ok (.iand, 1) := by decide +kernel
theorem dX10_firsts_16 : decode cX10_firsts 16 = .ok (.iconst 1, 1) := by decide +kernel
theorem dX10_firsts_17 : decode cX10_firsts 17 = .ok (.ishl, 1) := by decide +kernel
theorem dX10_firsts_18 : decode cX10_firsts 18 = .ok (.ior, 1) := by decide +kernel
theorem dX10_firsts_19 : decode cX10_firsts 19 = .ok (.ireturn, 1) := by decide +kernel
theorem dX10_returning_0 : decode cX10_returning 0 = .ok (.iload_n 0, 1) := by decide +kernel
theorem dX10_returning_1 : decode cX10_returning 1 = .ok (.iconst 4, 1) := by decide +kernel
theorem dX10_returning_2 : decode cX10_returning 2 = .ok (.ishr, 1) := by decide +kernel
theorem dX10_returning_3 : decode cX10_returning 3 = .ok (.iconst 1, 1) := by decide +kernel
theorem dX10_returning_4 : decode cX10_returning 4 = .ok (.iand, 1) := by decide +kernel
theorem dX10_returning_5 : decode cX10_returning 5 = .ok (.iload_n 1, 1) := by decide +kernel
theorem dX10_returning_6 : decode cX10_returning 6 = .ok (.iconst 4, 1) := by decide +kernel
theorem dX10_returning_7 : decode cX10_returning 7 = .ok (.ishr, 1) := by decide +kernel
theorem dX10_returning_8 : decode cX10_returning 8 = .ok (.iconst 1, 1) := by decide +kernel
theorem dX10_returning_9 : decode cX10_returning 9 = .ok (.iand, 1) := by decide +kernel
theorem dX10_returning_10 : decode cX10_returning 10 = .ok (.iconst 1, 1) := by decide +kernel
theorem dX10_returning_11 : decode cX10_returning 11 = .ok (.ishl, 1) := by decide +kernel
theorem dX10_returning_12 : decode cX10_returning 12 = .ok (.ior, 1) := by decide +kernel
theorem dX10_returning_13 : decode cX10_returning 13 = .ok (.ireturn, 1) := by decide +kernel
theorem dX10_backs_0 : decode cX10_backs 0 = .ok (.iload_n 0, 1) := by decide +kernel
theorem dX10_backs_1 : decode cX10_backs 1 = .ok (.iload_n 2, 1) := by decide +kernel
theorem dX10_backs_2 : decode cX10_backs 2 = .ok (.iand, 1) := by decide +kernel
theorem dX10_backs_3 : decode cX10_backs 3 = .ok (.istore_n 3, 1) := by decide +kernel
theorem dX10_backs_4 : decode cX10_backs 4 = .ok (.iload_n 0, 1) := by decide +kernel
theorem dX10_backs_5 : decode cX10_backs 5 = .ok (.iconst (-1), 1) := by decide +kernel
theorem dX10_backs_6 : decode cX10_backs 6 = .ok (.ixor, 1) := by decide +kernel
theorem dX10_backs_7 : decode cX10_backs 7 = .ok (.iload_n 1, 1) := by decide +kernel
theorem dX10_backs_8 : decode cX10_backs 8 = .ok (.iand, 1) := by decide +kernel
theorem dX10_backs_9 : decode cX10_backs 9 = .ok (.iload_n 3, 1) := by decide +kernel
theorem dX10_backs_10 : decode cX10_backs 10 = .ok (.iconst 1, 1) := by decide +kernel
theorem dX10_backs_11 : decode cX10_backs 11 = .ok (.iand, 1) := by decide +kernel
theorem dX10_backs_12 : decode cX10_backs 12 = .ok (.iconst 1, 1) := by decide +kernel
theorem dX10_backs_13 : decode cX10_backs 13 = .ok (.ishl, 1) := by decide +kernel
theorem dX10_backs_14 : decode cX10_backs 14 = .ok (.iload_n 3, 1) := by decide +kernel
theorem dX10_backs_15 : decode cX10_backs 15 = .ok (.iconst 1, 1) := by decide +kernel
theorem dX10_backs_16 : decode cX10_backs 16 = .ok (.ishr, 1) := by decide +kernel
theorem dX10_backs_17 : decode cX10_backs 17 = .ok (.ior, 1) := by decide +kernel
theorem dX10_backs_18 : decode cX10_backs 18 = .ok (.iand, 1) := by decide +kernel
theorem dX10_backs_19 : decode cX10_backs 19 = .ok (.ireturn, 1) := by decide +kernel
theorem dX10_after_0 : decode cX10_after 0 = .ok (.iload_n 0, 1) := by decide +kernel
theorem dX10_after_1 : decode cX10_after 1 = .ok (.iconst 5, 1) := by decide +kernel
theorem dX10_after_2 : decode cX10_after 2 = .ok (.iand, 1) := by decide +kernel
theorem dX10_after_3 : decode cX10_after 3 = .ok (.iconst 1, 1) := by decide +kernel
theorem dX10_after_4 : decode cX10_after 4 = .ok (.ishl, 1) := by decide +kernel
theorem dX10_after_5 : decode cX10_after 5 = .ok (.iload_n 1, 1) := by decide +kernel
theorem dX10_after_6 : decode cX10_after 6 = .ok (.iconst 1, 1) := by decide +kernel
theorem dX10_after_7 : decode cX10_after 7 = .ok (.iand, 1) := by decide +kernel
theorem dX10_after_8 : decode cX10_after 8 = .ok (.ior, 1) := by decide +kernel
theorem dX10_after_9 : decode cX10_after 9 = .ok (.iload_n 1, 1) := by decide +kernel
theorem dX10_after_10 : decode cX10_after 10 = .ok (.iconst 2, 1) := by decide +kernel
theorem dX10_after_11 : decode cX10_after 11 = .ok (.iand, 1) := by decide +kernel
theorem dX10_after_12 : decode cX10_after 12 = .ok (.iconst 1, 1) := by decide +kernel
theorem dX10_after_13 : decode cX10_after 13 = .ok (.ishl, 1) := by decide +kernel
theorem dX10_after_14 : decode cX10_after 14 = .ok (.ior, 1) := by decide +kernel
theorem dX10_after_15 : decode cX10_after 15 = .ok (.ireturn, 1) := by decide +kernel
theorem dX11_fate_0 : decode cX11_fate 0 = .ok (.iload_n 1, 1) := by decide +kernel
theorem dX11_fate_1 : decode cX11_fate 1 = .ok (.iload_n 2, 1) := by decide +kernel
theorem dX11_fate_2 : decode cX11_fate 2 = .ok (.invokestatic 232, 3) := by decide +kernel
theorem dX11_fate_5 : decode cX11_fate 5 = .ok (.ifCond .eq 21, 3) := by decide +kernel
theorem dX11_fate_8 : decode cX11_fate 8 = .ok (.iload_n 3, 1) := by decide +kernel
theorem dX11_fate_9 : decode cX11_fate 9 = .ok (.bipush 16, 2) := by decide +kernel
theorem dX11_fate_11 : decode cX11_fate 11 = .ok (.invokestatic 148, 3) := by decide +kernel
theorem dX11_fate_14 : decode cX11_fate 14 = .ok (.ifCond .eq 12, 3) := by decide +kernel
theorem dX11_fate_17 : decode cX11_fate 17 = .ok (.iload 4, 2) := by decide +kernel
theorem dX11_fate_19 : decode cX11_fate 19 = .ok (.iconst 4, 1) := by decide +kernel
theorem dX11_fate_20 : decode cX11_fate 20 = .ok (.invokestatic 148, 3) := by decide +kernel
theorem dX11_fate_23 : decode cX11_fate 23 = .ok (.ifCond .ne 6, 3) := by decide +kernel
theorem dX11_fate_26 : decode cX11_fate 26 = .ok (.bipush (-2), 2) := by decide +kernel
theorem dX11_fate_28 : decode cX11_fate 28 = .ok (.ireturn, 1) := by decide +kernel
theorem dX11_fate_29 : decode cX11_fate 29 = .ok (.aload_n 0, 1) := by decide +kernel
theorem dX11_fate_30 : decode cX11_fate 30 = .ok (.getfield 44, 3) := by decide +kernel
theorem dX11_fate_33 : decode cX11_fate 33 = .ok (.iload_n 1, 1) := by decide +kernel
theorem dX11_fate_34 : decode cX11_fate 34 = .ok (.iload_n 2, 1) := by decide +kernel
theorem dX11_fate_35 : decode cX11_fate 35 = .ok (.iload_n 3, 1) := by decide +kernel
theorem dX11_fate_36 : decode cX11_fate 36 = .ok (.invokevirtual 235, 3) := by decide +kernel
theorem dX11_fate_39 : decode cX11_fate 39 = .ok (.aload_n 0, 1) := by decide +kernel
theorem dX11_fate_40 : decode cX11_fate 40 = .ok (.getfield 44, 3) := by decide +kernel
theorem dX11_fate_43 : decode cX11_fate 43 = .ok (.iload 4, 2) := by decide +kernel
theorem dX11_fate_45 : decode cX11_fate 45 = .ok (.invokevirtual 239, 3) := by decide +kernel
theorem dX11_fate_48 : decode cX11_fate 48 = .ok (.ireturn, 1) := by decide +kernel
theorem dX11_basin_0 : decode cX11_basin 0 = .ok (.iload_n 1, 1) := by decide +kernel
theorem dX11_basin_1 : decode cX11_basin 1 = .ok (.iload_n 2, 1) := by decide +kernel
theorem dX11_basin_2 : decode cX11_basin 2 = .ok (.invokestatic 232, 3) := by decide +kernel
theorem dX11_basin_5 : decode cX11_basin 5 = .ok (.ifCond .eq 11, 3) := by decide +kernel
theorem dX11_basin_8 : decode cX11_basin 8 = .ok (.iload_n 3, 1) := by decide +kernel
theorem dX11_basin_9 : decode cX11_basin 9 = .ok (.iconst 3, 1) := by decide +kernel
theorem dX11_basin_10 : decode cX11_basin 10 = .ok (.invokestatic 148, 3) := by decide +kernel
theorem dX11_basin_13 : decode cX11_basin 13 = .ok (.ifCond .ne 6, 3) := by decide +kernel
theorem dX11_basin_16 : decode cX11_basin 16 = .ok (.bipush (-2), 2) := by decide +kernel
theorem dX11_basin_18 : decode cX11_basin 18 = .ok (.ireturn, 1) := by decide +kernel
theorem dX11_basin_19 : decode cX11_basin 19 = .ok (.iconst 0, 1) := by decide +kernel
theorem dX11_basin_20 : decode cX11_basin 20 = .ok (.istore 4, 2) := by decide +kernel
theorem dX11_basin_22 : decode cX11_basin 22 = .ok (.iconst 0, 1) := by decide +kernel
theorem dX11_basin_23 : decode cX11_basin 23 = .ok (.istore 5, 2) := by decide +kernel
theorem dX11_basin_25 : decode cX11_basin 25 = .ok (.iload 5, 2) := by decide +kernel
theorem dX11_basin_27 : decode cX11_basin 27 = .ok (.bipush 16, 2) := by decide +kernel
theorem dX11_basin_29 : decode cX11_basin 29 = .ok (.if_icmp .ge 34, 3) := by decide +kernel
theorem dX11_basin_32 : decode cX11_basin 32 = .ok (.aload_n 0, 1) := by decide +kernel
theorem dX11_basin_33 : decode cX11_basin 33 = .ok (.getfield 44, 3) := by decide +kernel
theorem dX11_basin_36 : decode cX11_basin 36 = .ok (.iload_n 1, 1) := by decide +kernel
theorem dX11_basin_37 : decode cX11_basin 37 = .ok (.iload_n 2, 1) := by decide +kernel
theorem dX11_basin_38 : decode cX11_basin 38 = .ok (.iload 5, 2) := by decide +kernel
theorem dX11_basin_40 : decode cX11_basin 40 = .ok (.invokevirtual 235, 3) := by decide +kernel
theorem dX11_basin_43 : decode cX11_basin 43 = .ok (.aload_n 0, 1) := by decide +kernel
theorem dX11_basin_44 : decode cX11_basin 44 = .ok (.getfield 44, 3) := by decide +kernel
theorem dX11_basin_47 : decode cX11_basin 47 = .ok (.invokevirtual 246, 3) := by decide +kernel
theorem dX11_basin_50 : decode cX11_basin 50 = .ok (.iload_n 3, 1) := by decide +kernel
theorem dX11_basin_51 : decode cX11_basin 51 = .ok (.if_icmp .ne 6, 3) := by decide +kernel
theorem dX11_basin_54 : decode cX11_basin 54 = .ok (.iinc 4 1, 3) := by decide +kernel
theorem dX11_basin_57 : decode cX11_basin 57 = .ok (.iinc 5 1, 3) := by decide +kernel
theorem dX11_basin_60 : decode cX11_basin 60 = .ok (.goto (-35), 3) := by decide +kernel
theorem dX11_basin_63 : decode cX11_basin 63 = .ok (.iload 4, 2) := by decide +kernel
theorem dX11_basin_65 : decode cX11_basin 65 = .ok (.ireturn, 1) := by decide +kernel
theorem dX11_longest_0 : decode cX11_longest 0 = .ok (.iload_n 1, 1) := by decide +kernel
theorem dX11_longest_1 : decode cX11_longest 1 = .ok (.iload_n 2, 1) := by decide +kernel
theorem dX11_longest_2 : decode cX11_longest 2 = .ok (.invokestatic 232, 3) := by decide +kernel
theorem dX11_longest_5 : decode cX11_longest 5 = .ok (.ifCond .ne 6, 3) := by decide +kernel
theorem dX11_longest_8 : decode cX11_longest 8 = .ok (.bipush (-2), 2) := by decide +kernel
theorem dX11_longest_10 : decode cX11_longest 10 = .ok (.ireturn, 1) := by decide +kernel
theorem dX11_longest_11 : decode cX11_longest 11 = .ok (.iconst 0, 1) := by decide +kernel
theorem dX11_longest_12 : decode cX11_longest 12 = .ok (.istore_n 3, 1) := by decide +kernel
theorem dX11_longest_13 : decode cX11_longest 13 = .ok (.iconst 0, 1) := by decide +kernel
theorem dX11_longest_14 : decode cX11_longest 14 = .ok (.istore 4, 2) := by decide +kernel
theorem dX11_longest_16 : decode cX11_longest 16 = .ok (.iload 4, 2) := by decide +kernel
theorem dX11_longest_18 : decode cX11_longest 18 = .ok (.bipush 16, 2) := by decide +kernel
theorem dX11_longest_20 : decode cX11_longest 20 = .ok (.if_icmp .ge 32, 3) := by decide +kernel
theorem dX11_longest_23 : decode cX11_longest 23 = .ok (.aload_n 0, 1) := by decide +kernel
theorem dX11_longest_24 : decode cX11_longest 24 = .ok (.getfield 44, 3) := by decide +kernel
theorem dX11_longest_27 : decode cX11_longest 27 = .ok (.iload_n 1, 1) := by decide +kernel
theorem dX11_longest_28 : decode cX11_longest 28 = .ok (.iload_n 2, 1) := by decide +kernel
theorem dX11_longest_29 : decode cX11_longest 29 = .ok (.iload 4, 2) := by decide +kernel
theorem dX11_longest_31 : decode cX11_longest 31 = .ok (.invokevirtual 235, 3) := by decide +kernel
theorem dX11_longest_34 : decode cX11_longest 34 = .ok (.iload_n 3, 1) := by decide +kernel
theorem dX11_longest_35 : decode cX11_longest 35 = .ok (.aload_n 0, 1) := by decide +kernel
theorem dX11_longest_36 : decode cX11_longest 36 = .ok (.getfield 44, 3) := by decide +kernel
theorem dX11_longest_39 : decode cX11_longest 39 = .ok (.getfield 250, 3) := by decide +kernel
theorem dX11_longest_42 : decode cX11_longest 42 = .ok (.invokestatic 251, 3) := by decide +kernel
theorem dX11_longest_45 : decode cX11_longest 45 = .ok (.istore_n 3, 1) := by decide +kernel
theorem dX11_longest_46 : decode cX11_longest 46 = .ok (.iinc 4 1, 3) := by decide +kernel
theorem dX11_longest_49 : decode cX11_longest 49 = .ok (.goto (-33), 3) := by decide +kernel
theorem dX11_longest_52 : decode cX11_longest 52 = .ok (.iload_n 3, 1) := by decide +kernel
theorem dX11_longest_53 : decode cX11_longest 53 = .ok (.ireturn, 1) := by decide +kernel
theorem dX11_faithful_0 : decode cX11_faithful 0 = .ok (.iload_n 1, 1) := by decide +kernel
theorem dX11_faithful_1 : decode cX11_faithful 1 = .ok (.bipush 32, 2) := by decide +kernel
theorem dX11_faithful_3 : decode cX11_faithful 3 = .ok (.invokestatic 148, 3) := by decide +kernel
theorem dX11_faithful_6 : decode cX11_faithful 6 = .ok (.ifCond .ne 6, 3) := by decide +kernel
theorem dX11_faithful_9 : decode cX11_faithful 9 = .ok (.bipush (-2), 2) := by decide +kernel
theorem dX11_faithful_11 : decode cX11_faithful 11 = .ok (.ireturn, 1) := by decide +kernel
theorem dX11_faithful_12 : decode cX11_faithful 12 = .ok (.iconst 0, 1) := by decide +kernel
theorem dX11_faithful_13 : decode cX11_faithful 13 = .ok (.istore_n 2, 1) := by decide +kernel
theorem dX11_faithful_14 : decode cX11_faithful 14 = .ok (.iconst 0, 1) := by decide +kernel
theorem dX11_faithful_15 : decode cX11_faithful 15 = .ok (.istore_n 3, 1) := by decide +kernel
theorem dX11_faithful_16 : decode cX11_faithful 16 = .ok (.iload_n 3, 1) := by decide +kernel
theorem dX11_faithful_17 : decode cX11_faithful 17 = .ok (.bipush 32, 2) := by decide +kernel
theorem dX11_faithful_19 : decode cX11_faithful 19 = .ok (.if_icmp .ge 24, 3) := by decide +kernel
theorem dX11_faithful_22 : decode cX11_faithful 22 = .ok (.aload_n 0, 1) := by decide +kernel
theorem dX11_faithful_23 : decode cX11_faithful 23 = .ok (.getfield 44, 3) := by decide +kernel
theorem dX11_faithful_26 : decode cX11_faithful 26 = .ok (.iload_n 1, 1) := by decide +kernel
theorem dX11_faithful_27 : decode cX11_faithful 27 = .ok (.iload_n 3, 1) := by decide +kernel
theorem dX11_faithful_28 : decode cX11_faithful 28 = .ok (.invokevirtual 256, 3) := by decide +kernel
theorem dX11_faithful_31 : decode cX11_faithful 31 = .ok (.ifCond .ne 6, 3) := by decide +kernel
theorem dX11_faithful_34 : decode cX11_faithful 34 = .ok (.iinc 2 1, 3) := by decide +kernel
theorem dX11_faithful_37 : decode cX11_faithful 37 = .ok (.iinc 3 1, 3) := by decide +kernel
theorem dX11_faithful_40 : decode cX11_faithful 40 = .ok (.goto (-24), 3) := by decide +kernel
theorem dX11_faithful_43 : decode cX11_faithful 43 = .ok (.iload_n 2, 1) := by decide +kernel
theorem dX11_faithful_44 : decode cX11_faithful 44 = .ok (.ireturn, 1) := by decide +kernel
theorem dX11_areRules_0 : decode cX11_areRules 0 = .ok (.iload_n 0, 1) := by decide +kernel
theorem dX11_areRules_1 : decode cX11_areRules 1 = .ok (.bipush 32, 2) := by decide +kernel
theorem dX11_areRules_3 : decode cX11_areRules 3 = .ok (.invokestatic 148, 3) := by decide +kernel
theorem dX11_areRules_6 : decode cX11_areRules 6 = .ok (.ifCond .eq 16, 3) := by decide +kernel
theorem dX11_areRules_9 : decode cX11_areRules 9 = .ok (.iload_n 1, 1) := by decide +kernel
theorem dX11_areRules_10 : decode cX11_areRules 10 = .ok (.bipush 32, 2) := by decide +kernel
theorem dX11_areRules_12 : decode cX11_areRules 12 = .ok (.invokestatic 148, 3) := by decide +kernel
theorem dX11_areRules_15 : decode cX11_areRules 15 = .ok (.ifCond .eq 7, 3) := by decide +kernel
theorem dX11_areRules_18 : decode cX11_areRules 18 = .ok (.iconst 1, 1) := by decide +kernel
theorem dX11_areRules_19 : decode cX11_areRules 19 = .ok (.goto 4, 3) := by decide +kernel
theorem dX11_areRules_22 : decode cX11_areRules 22 = .ok (.iconst 0, 1) := by decide +kernel
theorem dX11_areRules_23 : decode cX11_areRules 23 = .ok (.ireturn, 1) := by decide +kernel
