theorem dX12_got_0 : decode cX12_got 0 = .ok (.aload_n 0, 1) := by decide +kernel
theorem dX12_got_1 : decode cX12_got 1 = .ok (.iconst 0, 1) := by decide +kernel
theorem dX12_got_2 : decode cX12_got 2 = .ok (.putfield 107, 3) := by decide +kernel
theorem dX12_got_5 : decode cX12_got 5 = .ok (.aload_n 0, 1) := by decide +kernel
theorem dX12_got_6 : decode cX12_got 6 = .ok (.iload_n 1, 1) := by decide +kernel
theorem dX12_got_7 : decode cX12_got 7 = .ok (.invokevirtual 281, 3) := by decide +kernel
theorem dX12_got_10 : decode cX12_got 10 = .ok (.ifCond .eq 19, 3) := by decide +kernel
theorem dX12_got_13 : decode cX12_got 13 = .ok (.iload_n 2, 1) := by decide +kernel
theorem dX12_got_14 : decode cX12_got 14 = .ok (.invokestatic 340, 3) := by decide +kernel
theorem dX12_got_17 : decode cX12_got 17 = .ok (.ifCond .eq 12, 3) := by decide +kernel
theorem dX12_got_20 : decode cX12_got 20 = .ok (.aload_n 0, 1) := by decide +kernel
theorem dX12_got_21 : decode cX12_got 21 = .ok (.iload_n 3, 1) := by decide +kernel
theorem dX12_got_22 : decode cX12_got 22 = .ok (.i2l, 1) := by decide +kernel
theorem dX12_got_23 : decode cX12_got 23 = .ok (.invokevirtual 343, 3) := by decide +kernel
theorem dX12_got_26 : decode cX12_got 26 = .ok (.ifCond .ne 6, 3) := by decide +kernel
theorem dX12_got_29 : decode cX12_got 29 = .ok (.bipush (-2), 2) := by decide +kernel
theorem dX12_got_31 : decode cX12_got 31 = .ok (.ireturn, 1) := by decide +kernel
theorem dX12_got_32 : decode cX12_got 32 = .ok (.aload_n 0, 1) := by decide +kernel
theorem dX12_got_33 : decode cX12_got 33 = .ok (.invokevirtual 346, 3) := by decide +kernel
theorem dX12_got_36 : decode cX12_got 36 = .ok (.aload_n 0, 1) := by decide +kernel
theorem dX12_got_37 : decode cX12_got 37 = .ok (.iload_n 1, 1) := by decide +kernel
theorem dX12_got_38 : decode cX12_got 38 = .ok (.iload_n 2, 1) := by decide +kernel
theorem dX12_got_39 : decode cX12_got 39 = .ok (.iload_n 3, 1) := by decide +kernel
theorem dX12_got_40 : decode cX12_got 40 = .ok (.invokevirtual 352, 3) := by decide +kernel
theorem dX12_got_43 : decode cX12_got 43 = .ok (.ifCond .eq 7, 3) := by decide +kernel
theorem dX12_got_46 : decode cX12_got 46 = .ok (.iconst 1, 1) := by decide +kernel
theorem dX12_got_47 : decode cX12_got 47 = .ok (.goto 4, 3) := by decide +kernel
theorem dX12_got_50 : decode cX12_got 50 = .ok (.iconst 0, 1) := by decide +kernel
theorem dX12_got_51 : decode cX12_got 51 = .ok (.ireturn, 1) := by decide +kernel
theorem dX12_state_0 : decode cX12_state 0 = .ok (.aload_n 0, 1) := by decide +kernel
theorem dX12_state_1 : decode cX12_state 1 = .ok (.iconst 0, 1) := by decide +kernel
theorem dX12_state_2 : decode cX12_state 2 = .ok (.putfield 107, 3) := by decide +kernel
theorem dX12_state_5 : decode cX12_state 5 = .ok (.aload_n 0, 1) := by decide +kernel
theorem dX12_state_6 : decode cX12_state 6 = .ok (.iload_n 1, 1) := by decide +kernel
theorem dX12_state_7 : decode cX12_state 7 = .ok (.invokevirtual 281, 3) := by decide +kernel
theorem dX12_state_10 : decode cX12_state 10 = .ok (.ifCond .eq 19, 3) := by decide +kernel
theorem dX12_state_13 : decode cX12_state 13 = .ok (.iload_n 2, 1) := by decide +kernel
theorem dX12_state_14 : decode cX12_state 14 = .ok (.i2l, 1) := by decide +kernel
theorem dX12_state_15 : decode cX12_state 15 = .ok (.lconst 0, 1) := by decide +kernel
theorem dX12_state_16 : decode cX12_state 16 = .ok (.aload_n 0, 1) := by decide +kernel
theorem dX12_state_17 : decode cX12_state 17 = .ok (.getfield 34, 3) := by decide +kernel
theorem dX12_state_20 : decode cX12_state 20 = .ok (.iconst 0, 1) := by decide +kernel
theorem dX12_state_21 : decode cX12_state 21 = .ok (.iaload, 1) := by decide +kernel
theorem dX12_state_22 : decode cX12_state 22 = .ok (.i2l, 1) := by decide +kernel
theorem dX12_state_23 : decode cX12_state 23 = .ok (.invokestatic 112, 3) := by decide +kernel
theorem dX12_state_26 : decode cX12_state 26 = .ok (.ifCond .ne 6, 3) := by decide +kernel
theorem dX12_state_29 : decode cX12_state 29 = .ok (.bipush (-2), 2) := by decide +kernel
theorem dX12_state_31 : decode cX12_state 31 = .ok (.ireturn, 1) := by decide +kernel
theorem dX12_state_32 : decode cX12_state 32 = .ok (.aload_n 0, 1) := by decide +kernel
theorem dX12_state_33 : decode cX12_state 33 = .ok (.invokevirtual 346, 3) := by decide +kernel
theorem dX12_state_36 : decode cX12_state 36 = .ok (.aload_n 0, 1) := by decide +kernel
theorem dX12_state_37 : decode cX12_state 37 = .ok (.getfield 83, 3) := by decide +kernel
theorem dX12_state_40 : decode cX12_state 40 = .ok (.bipush 16, 2) := by decide +kernel
theorem dX12_state_42 : decode cX12_state 42 = .ok (.iload_n 2, 1) := by decide +kernel
theorem dX12_state_43 : decode cX12_state 43 = .ok (.imul, 1) := by decide +kernel
theorem dX12_state_44 : decode cX12_state 44 = .ok (.iload_n 1, 1) := by decide +kernel
theorem dX12_state_45 : decode cX12_state 45 = .ok (.iadd, 1) := by decide +kernel
theorem dX12_state_46 : decode cX12_state 46 = .ok (.iaload, 1) := by decide +kernel
theorem dX12_state_47 : decode cX12_state 47 = .ok (.ireturn, 1) := by decide +kernel
theorem dX12_cardsOf_0 : decode cX12_cardsOf 0 = .ok (.iconst 0, 1) := by decide +kernel
theorem dX12_cardsOf_1 : decode cX12_cardsOf 1 = .ok (.istore_n 3, 1) := by decide +kernel
theorem dX12_cardsOf_2 : decode cX12_cardsOf 2 = .ok (.iconst 0, 1) := by decide +kernel
theorem dX12_cardsOf_3 : decode cX12_cardsOf 3 = .ok (.istore 4, 2) := by decide +kernel
theorem dX12_cardsOf_5 : decode cX12_cardsOf 5 = .ok (.iload 4, 2) := by decide +kernel
theorem dX12_cardsOf_7 : decode cX12_cardsOf 7 = .ok (.aload_n 0, 1) := by decide +kernel
theorem dX12_cardsOf_8 : decode cX12_cardsOf 8 = .ok (.getfield 34, 3) := by decide +kernel
theorem dX12_cardsOf_11 : decode cX12_cardsOf 11 = .ok (.iconst 4, 1) := by decide +kernel
theorem dX12_cardsOf_12 : decode cX12_cardsOf 12 = .ok (.iaload, 1) := by decide +kernel
theorem dX12_cardsOf_13 : decode cX12_cardsOf 13 = .ok (.if_icmp .ge 88, 3) := by decide +kernel
theorem dX12_cardsOf_16 : decode cX12_cardsOf 16 = .ok (.iconst 0, 1) := by decide +kernel
theorem dX12_cardsOf_17 : decode cX12_cardsOf 17 = .ok (.istore 5, 2) := by decide +kernel
theorem dX12_cardsOf_19 : decode cX12_cardsOf 19 = .ok (.iload 5, 2) := by decide +kernel
theorem dX12_cardsOf_21 : decode cX12_cardsOf 21 = .ok (.iconst 2, 1) := by decide +kernel
theorem dX12_cardsOf_22 : decode cX12_cardsOf 22 = .ok (.if_icmp .ge 73, 3) := by decide +kernel
theorem dX12_cardsOf_25 : decode cX12_cardsOf 25 = .ok (.aload_n 0, 1) := by decide +kernel
theorem dX12_cardsOf_26 : decode cX12_cardsOf 26 = .ok (.iload 4, 2) := by decide +kernel
theorem dX12_cardsOf_28 : decode cX12_cardsOf 28 = .ok (.iload 5, 2) := by decide +kernel
theorem dX12_cardsOf_30 : decode cX12_cardsOf 30 = .ok (.iload_n 1, 1) := by decide +kernel
theorem dX12_cardsOf_31 : decode cX12_cardsOf 31 = .ok (.invokevirtual 349, 3) := by decide +kernel
theorem dX12_cardsOf_34 : decode cX12_cardsOf 34 = .ok (.ifCond .le 7, 3) := by decide +kernel
theorem dX12_cardsOf_37 : decode cX12_cardsOf 37 = .ok (.iconst 1, 1) := by decide +kernel
theorem dX12_cardsOf_38 : decode cX12_cardsOf 38 = .ok (.goto 4, 3) := by decide +kernel
theorem dX12_cardsOf_41 : decode cX12_cardsOf 41 = .ok (.iconst 0, 1) := by decide +kernel
theorem dX12_cardsOf_42 : decode cX12_cardsOf 42 = .ok (.istore 6, 2) := by decide +kernel
theorem dX12_cardsOf_44 : decode cX12_cardsOf 44 = .ok (.aload_n 0, 1) := by decide +kernel
theorem dX12_cardsOf_45 : decode cX12_cardsOf 45 = .ok (.iload 4, 2) := by decide +kernel
theorem dX12_cardsOf_47 : decode cX12_cardsOf 47 = .ok (.iconst 1, 1) := by decide +kernel
theorem dX12_cardsOf_48 : decode cX12_cardsOf 48 = .ok (.iload 5, 2) := by decide +kernel
theorem dX12_cardsOf_50 : decode cX12_cardsOf 50 = .ok (.isub, 1) := by decide +kernel
theorem dX12_cardsOf_51 : decode cX12_cardsOf 51 = .ok (.iload_n 1, 1) := by decide +kernel
theorem dX12_cardsOf_52 : decode cX12_cardsOf 52 = .ok (.invokevirtual 352, 3) := by decide +kernel
theorem dX12_cardsOf_55 : decode cX12_cardsOf 55 = .ok (.istore 7, 2) := by decide +kernel
theorem dX12_cardsOf_57 : decode cX12_cardsOf 57 = .ok (.iload_n 3, 1) := by decide +kernel
theorem dX12_cardsOf_58 : decode cX12_cardsOf 58 = .ok (.iload 6, 2) := by decide +kernel
theorem dX12_cardsOf_60 : decode cX12_cardsOf 60 = .ok (.ifCond .eq 26, 3) := by decide +kernel
theorem dX12_cardsOf_63 : decode cX12_cardsOf 63 = .ok (.iload_n 2, 1) := by decide +kernel
theorem dX12_cardsOf_64 : decode cX12_cardsOf 64 = .ok (.ifCond .eq 18, 3) := by decide +kernel
theorem dX12_cardsOf_67 : decode cX12_cardsOf 67 = .ok (.iload 7, 2) := by decide +kernel
theorem dX12_cardsOf_69 : decode cX12_cardsOf 69 = .ok (.iload_n 2, 1) := by decide +kernel
theorem dX12_cardsOf_70 : decode cX12_cardsOf 70 = .ok (.iconst 1, 1) := by decide +kernel
theorem dX12_cardsOf_71 : decode cX12_cardsOf 71 = .ok (.if_icmp .ne 7, 3) := by decide +kernel
theorem dX12_cardsOf_74 : decode cX12_cardsOf 74 = .ok (.iconst 1, 1) := by decide +kernel
theorem dX12_cardsOf_75 : decode cX12_cardsOf 75 = .ok (.goto 4, 3) := by decide +kernel
theorem dX12_cardsOf_78 : decode cX12_cardsOf 78 = .ok (.iconst 0, 1) := by decide +kernel
theorem dX12_cardsOf_79 : decode cX12_cardsOf 79 = .ok (.if_icmp .ne 7, 3) := by decide +kernel
theorem dX12_cardsOf_82 : decode cX12_cardsOf 82 = .ok (.iconst 1, 1) := by decide +kernel
theorem dX12_cardsOf_83 : decode cX12_cardsOf 83 = .ok (.goto 4, 3) := by decide +kernel
theorem dX12_cardsOf_86 : decode cX12_cardsOf 86 = .ok (.iconst 0, 1) := by decide +kernel
theorem dX12_cardsOf_87 : decode cX12_cardsOf 87 = .ok (.iadd, 1) := by decide +kernel
theorem dX12_cardsOf_88 : decode cX12_cardsOf 88 = .ok (.istore_n 3, 1) := by decide +kernel
theorem dX12_cardsOf_89 : decode cX12_cardsOf 89 = .ok (.iinc 5 1, 3) := by decide +kernel
theorem dX12_cardsOf_92 : decode cX12_cardsOf 92 = .ok (.goto (-73), 3) := by decide +kernel
theorem dX12_cardsOf_95 : decode cX12_cardsOf 95 = .ok (.iinc 4 1, 3) := by decide +kernel
theorem dX12_cardsOf_98 : decode cX12_cardsOf 98 = .ok (.goto (-93), 3) := by decide +kernel
theorem dX12_cardsOf_101 : decode cX12_cardsOf 101 = .ok (.iload_n 3, 1) := by decide +kernel
theorem dX12_cardsOf_102 : decode cX12_cardsOf 102 = .ok (.ireturn, 1) := by decide +kernel
theorem dX12_cards_0 : decode cX12_cards 0 = .ok (.aload_n 0, 1) := by decide +kernel
theorem dX12_cards_1 : decode cX12_cards 1 = .ok (.iconst 0, 1) := by decide +kernel
theorem dX12_cards_2 : decode cX12_cards 2 = .ok (.putfield 107, 3) := by decide +kernel
theorem dX12_cards_5 : decode cX12_cards 5 = .ok (.aload_n 0, 1) := by decide +kernel
theorem dX12_cards_6 : decode cX12_cards 6 = .ok (.iload_n 1, 1) := by decide +kernel
theorem dX12_cards_7 : decode cX12_cards 7 = .ok (.i2l, 1) := by decide +kernel
theorem dX12_cards_8 : decode cX12_cards 8 = .ok (.invokevirtual 343, 3) := by decide +kernel
theorem dX12_cards_11 : decode cX12_cards 11 = .ok (.ifCond .eq 15, 3) := by decide +kernel
theorem dX12_cards_14 : decode cX12_cards 14 = .ok (.iload_n 2, 1) := by decide +kernel
theorem dX12_cards_15 : decode cX12_cards 15 = .ok (.i2l, 1) := by decide +kernel
theorem dX12_cards_16 : decode cX12_cards 16 = .ok (.lconst 0, 1) := by decide +kernel
theorem dX12_cards_17 : decode cX12_cards 17 = .ok (.ldc2_w 284, 3) := by decide +kernel
theorem dX12_cards_20 : decode cX12_cards 20 = .ok (.invokestatic 112, 3) := by decide +kernel
theorem dX12_cards_23 : decode cX12_cards 23 = .ok (.ifCond .ne 6, 3) := by decide +kernel
theorem dX12_cards_26 : decode cX12_cards 26 = .ok (.bipush (-2), 2) := by decide +kernel
theorem dX12_cards_28 : decode cX12_cards 28 = .ok (.ireturn, 1) := by decide +kernel
theorem dX12_cards_29 : decode cX12_cards 29 = .ok (.aload_n 0, 1) := by decide +kernel
theorem dX12_cards_30 : decode cX12_cards 30 = .ok (.invokevirtual 346, 3) := by decide +kernel
theorem dX12_cards_33 : decode cX12_cards 33 = .ok (.aload_n 0, 1) := by decide +kernel
theorem dX12_cards_34 : decode cX12_cards 34 = .ok (.iload_n 1, 1) := by decide +kernel
theorem dX12_cards_35 : decode cX12_cards 35 = .ok (.iload_n 2, 1) := by decide +kernel
theorem dX12_cards_36 : decode cX12_cards 36 = .ok (.invokevirtual 355, 3) := by decide +kernel
theorem dX12_cards_39 : decode cX12_cards 39 = .ok (.ireturn, 1) := by decide +kernel
theorem dX12_listOf_0 : decode cX12_listOf 0 = .ok (.iconst 0, 1) := by decide +kernel
theorem dX12_listOf_1 : decode cX12_listOf 1 = .ok (.istore_n 3, 1) := by decide +kernel
theorem dX12_listOf_2 : decode cX12_listOf 2 = .ok (.iconst 0, 1) := by decide +kernel
theorem dX12_listOf_3 : decode cX12_listOf 3 = .ok (.istore 4, 2) := by decide +kernel
theorem dX12_listOf_5 : decode cX12_listOf 5 = .ok (.iload 4, 2) := by decide +kernel
theorem dX12_listOf_7 : decode cX12_listOf 7 = .ok (.aload_n 0, 1) := by decide +kernel
theorem dX12_listOf_8 : decode cX12_listOf 8 = .ok (.getfield 34, 3) := by decide +kernel
theorem dX12_listOf_11 : decode cX12_listOf 11 = .ok (.iconst 4, 1) := by decide +kernel
theorem dX12_listOf_12 : decode cX12_listOf 12 = .ok (.iaload, 1) := by decide +kernel
theorem dX12_listOf_13 : decode cX12_listOf 13 = .ok (.if_icmp .ge 56, 3) := by decide +kernel
theorem dX12_listOf_16 : decode cX12_listOf 16 = .ok (.iconst 0, 1) := by decide +kernel
theorem dX12_listOf_17 : decode cX12_listOf 17 = .ok (.istore 5, 2) := by decide +kernel
theorem dX12_listOf_19 : decode cX12_listOf 19 = .ok (.iload 5, 2) := by decide +kernel
theorem dX12_listOf_21 : decode cX12_listOf 21 = .ok (.iconst 2, 1) := by decide +kernel
theorem dX12_listOf_22 : decode cX12_listOf 22 = .ok (.if_icmp .ge 41, 3) := by decide +kernel
theorem dX12_listOf_25 : decode cX12_listOf 25 = .ok (.iload_n 3, 1) := by decide +kernel
theorem dX12_listOf_26 : decode cX12_listOf 26 = .ok (.aload_n 0, 1) := by decide +kernel
theorem dX12_listOf_27 : decode cX12_listOf 27 = .ok (.iload 4, 2) := by decide +kernel
theorem dX12_listOf_29 : decode cX12_listOf 29 = .ok (.iload 5, 2) := by decide +kernel
theorem dX12_listOf_31 : decode cX12_listOf 31 = .ok (.invokevirtual 321, 3) := by decide +kernel
theorem dX12_listOf_34 : decode cX12_listOf 34 = .ok (.iload_n 1, 1) := by decide +kernel
theorem dX12_listOf_35 : decode cX12_listOf 35 = .ok (.if_icmp .ne 19, 3) := by decide +kernel
theorem dX12_listOf_38 : decode cX12_listOf 38 = .ok (.aload_n 0, 1) := by decide +kernel
theorem dX12_listOf_39 : decode cX12_listOf 39 = .ok (.iload 4, 2) := by decide +kernel
theorem dX12_listOf_41 : decode cX12_listOf 41 = .ok (.iload 5, 2) := by decide +kernel
theorem dX12_listOf_43 : decode cX12_listOf 43 = .ok (.iload_n 2, 1) := by decide +kernel
theorem dX12_listOf_44 : decode cX12_listOf 44 = .ok (.invokevirtual 349, 3) := by decide +kernel
theorem dX12_listOf_47 : decode cX12_listOf 47 = .ok (.ifCond .le 7, 3) := by decide +kernel
theorem dX12_listOf_50 : decode cX12_listOf 50 = .ok (.iconst 1, 1) := by decide +kernel
theorem dX12_listOf_51 : decode cX12_listOf 51 = .ok (.goto 4, 3) := by decide +kernel
theorem dX12_listOf_54 : decode cX12_listOf 54 = .ok (.iconst 0, 1) := by decide +kernel
theorem dX12_listOf_55 : decode cX12_listOf 55 = .ok (.iadd, 1) := by decide +kernel
theorem dX12_listOf_56 : decode cX12_listOf 56 = .ok (.istore_n 3, 1) := by decide +kernel
theorem dX12_listOf_57 : decode cX12_listOf 57 = .ok (.iinc 5 1, 3) := by decide +kernel
theorem dX12_listOf_60 : decode cX12_listOf 60 = .ok (.goto (-41), 3) := by decide +kernel
theorem dX12_listOf_63 : decode cX12_listOf 63 = .ok (.iinc 4 1, 3) := by decide +kernel
theorem dX12_listOf_66 : decode cX12_listOf 66 = .ok (.goto (-61), 3) := by decide +kernel
theorem dX12_listOf_69 : decode cX12_listOf 69 = .ok (.iload_n 3, 1) := by decide +kernel
theorem dX12_listOf_70 : decode cX12_listOf 70 = .ok (.ireturn, 1) := by decide +kernel
theorem dX12_list_0 : decode cX12_list 0 = .ok (.aload_n 0, 1) := by decide +kernel
theorem dX12_list_1 : decode cX12_list 1 = .ok (.iconst 0, 1) := by decide +kernel
theorem dX12_list_2 : decode cX12_list 2 = .ok (.putfield 107, 3) := by decide +kernel
theorem dX12_list_5 : decode cX12_list 5 = .ok (.aload_n 0, 1) := by decide +kernel
theorem dX12_list_6 : decode cX12_list 6 = .ok (.iload_n 1, 1) := by decide +kernel
theorem dX12_list_7 : decode cX12_list 7 = .ok (.invokevirtual 276, 3) := by decide +kernel
theorem dX12_list_10 : decode cX12_list 10 = .ok (.ifCond .eq 12, 3) := by decide +kernel
theorem dX12_list_13 : decode cX12_list 13 = .ok (.aload_n 0, 1) := by decide +kernel
theorem dX12_list_14 : decode cX12_list 14 = .ok (.iload_n 2, 1) := by decide +kernel
theorem dX12_list_15 : decode cX12_list 15 = .ok (.i2l, 1) := by decide +kernel
theorem dX12_list_16 : decode cX12_list 16 = .ok (.invokevirtual 343, 3) := by decide +kernel
theorem dX12_list_19 : decode cX12_list 19 = .ok (.ifCond .ne 6, 3) := by decide +kernel
theorem dX12_list_22 : decode cX12_list 22 = .ok (.bipush (-2), 2) := by decide +kernel
theorem dX12_list_24 : decode cX12_list 24 = .ok (.ireturn, 1) := by decide +kernel
theorem dX12_list_25 : decode cX12_list 25 = .ok (.aload_n 0, 1) := by decide +kernel
theorem dX12_list_26 : decode cX12_list 26 = .ok (.invokevirtual 346, 3) := by decide +kernel
theorem dX12_list_29 : decode cX12_list 29 = .ok (.aload_n 0, 1) := by decide +kernel
theorem dX12_list_30 : decode cX12_list 30 = .ok (.iload_n 1, 1) := by decide +kernel
theorem dX12_list_31 : decode cX12_list 31 = .ok (.iload_n 2, 1) := by decide +kernel
theorem dX12_list_32 : decode cX12_list 32 = .ok (.invokevirtual 358, 3) := by decide +kernel
theorem dX12_list_35 : decode cX12_list 35 = .ok (.ireturn, 1) := by decide +kernel
theorem dX12_whoseOf_0 : decode cX12_whoseOf 0 = .ok (.iconst 0, 1) := by decide +kernel
theorem dX12_whoseOf_1 : decode cX12_whoseOf 1 = .ok (.istore_n 3, 1) := by decide +kernel
theorem dX12_whoseOf_2 : decode cX12_whoseOf 2 = .ok (.iconst 0, 1) := by decide +kernel
theorem dX12_whoseOf_3 : decode cX12_whoseOf 3 = .ok (.istore 4, 2) := by decide +kernel
theorem dX12_whoseOf_5 : decode cX12_whoseOf 5 = .ok (.iload 4, 2) := by decide +kernel
theorem dX12_whoseOf_7 : decode cX12_whoseOf 7 = .ok (.aload_n 0, 1) := by decide +kernel
theorem dX12_whoseOf_8 : decode cX12_whoseOf 8 = .ok (.getfield 34, 3) := by decide +kernel
theorem dX12_whoseOf_11 : decode cX12_whoseOf 11 = .ok (.iconst 4, 1) := by decide +kernel
theorem dX12_whoseOf_12 : decode cX12_whoseOf 12 = .ok (.iaload, 1) := by decide +kernel
theorem dX12_whoseOf_13 : decode cX12_whoseOf 13 = .ok (.if_icmp .ge 67, 3) := by decide +kernel
theorem dX12_whoseOf_16 : decode cX12_whoseOf 16 = .ok (.iconst 0, 1) := by decide +kernel
theorem dX12_whoseOf_17 : decode cX12_whoseOf 17 = .ok (.istore 5, 2) := by decide +kernel
theorem dX12_whoseOf_19 : decode cX12_whoseOf 19 = .ok (.iload 5, 2) := by decide +kernel
theorem dX12_whoseOf_21 : decode cX12_whoseOf 21 = .ok (.iconst 2, 1) := by decide +kernel
theorem dX12_whoseOf_22 : decode cX12_whoseOf 22 = .ok (.if_icmp .ge 52, 3) := by decide +kernel
theorem dX12_whoseOf_25 : decode cX12_whoseOf 25 = .ok (.iload_n 3, 1) := by decide +kernel
theorem dX12_whoseOf_26 : decode cX12_whoseOf 26 = .ok (.aload_n 0, 1) := by decide +kernel
theorem dX12_whoseOf_27 : decode cX12_whoseOf 27 = .ok (.iload 4, 2) := by decide +kernel
theorem dX12_whoseOf_29 : decode cX12_whoseOf 29 = .ok (.iload 5, 2) := by decide +kernel
theorem dX12_whoseOf_31 : decode cX12_whoseOf 31 = .ok (.invokevirtual 321, 3) := by decide +kernel
theorem dX12_whoseOf_34 : decode cX12_whoseOf 34 = .ok (.iload_n 1, 1) := by decide +kernel
theorem dX12_whoseOf_35 : decode cX12_whoseOf 35 = .ok (.if_icmp .ne 30, 3) := by decide +kernel
theorem dX12_whoseOf_38 : decode cX12_whoseOf 38 = .ok (.aload_n 0, 1) := by decide +kernel
theorem dX12_whoseOf_39 : decode cX12_whoseOf 39 = .ok (.iload 4, 2) := by decide +kernel
theorem dX12_whoseOf_41 : decode cX12_whoseOf 41 = .ok (.iload 5, 2) := by decide +kernel
theorem dX12_whoseOf_43 : decode cX12_whoseOf 43 = .ok (.iload_n 2, 1) := by decide +kernel
theorem dX12_whoseOf_44 : decode cX12_whoseOf 44 = .ok (.invokevirtual 352, 3) := by decide +kernel
theorem dX12_whoseOf_47 : decode cX12_whoseOf 47 = .ok (.ifCond .eq 18, 3) := by decide +kernel
theorem dX12_whoseOf_50 : decode cX12_whoseOf 50 = .ok (.iconst 1, 1) := by decide +kernel
theorem dX12_whoseOf_51 : decode cX12_whoseOf 51 = .ok (.aload_n 0, 1) := by decide +kernel
theorem dX12_whoseOf_52 : decode cX12_whoseOf 52 = .ok (.iload 4, 2) := by decide +kernel
theorem dX12_whoseOf_54 : decode cX12_whoseOf 54 = .ok (.iconst 1, 1) := by decide +kernel
theorem dX12_whoseOf_55 : decode cX12_whoseOf 55 = .ok (.iload 5, 2) := by decide +kernel
theorem dX12_whoseOf_57 : decode cX12_whoseOf 57 = .ok (.isub, 1) := by decide +kernel
theorem dX12_whoseOf_58 : decode cX12_whoseOf 58 = .ok (.invokevirtual 321, 3) := by decide +kernel
theorem dX12_whoseOf_61 : decode cX12_whoseOf 61 = .ok (.ishl, 1) := by decide +kernel
theorem dX12_whoseOf_62 : decode cX12_whoseOf 62 = .ok (.goto 4, 3) := by decide +kernel
theorem dX12_whoseOf_65 : decode cX12_whoseOf 65 = .ok (.iconst 0, 1) := by decide +kernel
theorem dX12_whoseOf_66 : decode cX12_whoseOf 66 = .ok (.ior, 1) := by decide +kernel
theorem dX12_whoseOf_67 : decode cX12_whoseOf 67 = .ok (.istore_n 3, 1) := by decide +kernel
theorem dX12_whoseOf_68 : decode cX12_whoseOf 68 = .ok (.iinc 5 1, 3) := by decide +kernel
theorem dX12_whoseOf_71 : decode cX12_whoseOf 71 = .ok (.goto (-52), 3) := by decide +kernel
theorem dX12_whoseOf_74 : decode cX12_whoseOf 74 = .ok (.iinc 4 1, 3) := by decide +kernel
theorem dX12_whoseOf_77 : decode cX12_whoseOf 77 = .ok (.goto (-72), 3) := by decide +kernel
theorem dX12_whoseOf_80 : decode cX12_whoseOf 80 = .ok (.iload_n 3, 1) := by decide +kernel
theorem dX12_whoseOf_81 : decode cX12_whoseOf 81 = .ok (.ireturn, 1) := by decide +kernel
theorem dX12_sizeOf_0 : decode cX12_sizeOf 0 = .ok (.iconst 0, 1) := by decide +kernel
theorem dX12_sizeOf_1 : decode cX12_sizeOf 1 = .ok (.istore_n 1, 1) := by decide +kernel
theorem dX12_sizeOf_2 : decode cX12_sizeOf 2 = .ok (.iload_n 0, 1) := by decide +kernel
theorem dX12_sizeOf_3 : decode cX12_sizeOf 3 = .ok (.istore_n 2, 1) := by decide +kernel
theorem dX12_sizeOf_4 : decode cX12_sizeOf 4 = .ok (.iload_n 2, 1) := by decide +kernel
theorem dX12_sizeOf_5 : decode cX12_sizeOf 5 = .ok (.ifCond .eq 15, 3) := by decide +kernel
theorem dX12_sizeOf_8 : decode cX12_sizeOf 8 = .ok (.iinc 1 1, 3) := by decide +kernel
theorem dX12_sizeOf_11 : decode cX12_sizeOf 11 = .ok (.iload_n 2, 1) := by decide +kernel
theorem dX12_sizeOf_12 : decode cX12_sizeOf 12 = .ok (.iload_n 2, 1) := by decide +kernel
theorem dX12_sizeOf_13 : decode cX12_sizeOf 13 = .ok (.iconst 1, 1) := by decide +kernel
theorem dX12_sizeOf_14 : decode cX12_sizeOf 14 = .ok (.isub, 1) := by decide +kernel
theorem dX12_sizeOf_15 : decode cX12_sizeOf 15 = .ok (.iand, 1) := by decide +kernel
theorem dX12_sizeOf_16 : decode cX12_sizeOf 16 = .ok (.istore_n 2, 1) := by decide +kernel
theorem dX12_sizeOf_17 : decode cX12_sizeOf 17 = .ok (.goto (-13), 3) := by decide +kernel
theorem dX12_sizeOf_20 : decode cX12_sizeOf 20 = .ok (.iload_n 1, 1) := by decide +kernel
theorem dX12_sizeOf_21 : decode cX12_sizeOf 21 = .ok (.ireturn, 1) := by decide +kernel
theorem dX12_mantel_0 : decode cX12_mantel 0 = .ok (.aload_n 0, 1) := by decide +kernel
theorem dX12_mantel_1 : decode cX12_mantel 1 = .ok (.iconst 0, 1) := by decide +kernel
theorem dX12_mantel_2 : decode cX12_mantel 2 = .ok (.putfield 107, 3) := by decide +kernel
theorem dX12_mantel_5 : decode cX12_mantel 5 = .ok (.aload_n 0, 1) := by decide +kernel
theorem dX12_mantel_6 : decode cX12_mantel 6 = .ok (.iload_n 1, 1) := by decide +kernel
theorem dX12_mantel_7 : decode cX12_mantel 7 = .ok (.invokevirtual 276, 3) := by decide +kernel
theorem dX12_mantel_10 : decode cX12_mantel 10 = .ok (.ifCond .eq 12, 3) := by decide +kernel
theorem dX12_mantel_13 : decode cX12_mantel 13 = .ok (.aload_n 0, 1) := by decide +kernel
theorem dX12_mantel_14 : decode cX12_mantel 14 = .ok (.iload_n 2, 1) := by decide +kernel
theorem dX12_mantel_15 : decode cX12_mantel 15 = .ok (.i2l, 1) := by decide +kernel
theorem dX12_mantel_16 : decode cX12_mantel 16 = .ok (.invokevirtual 343, 3) := by decide +kernel
theorem dX12_mantel_19 : decode cX12_mantel 19 = .ok (.ifCond .ne 6, 3) := by decide +kernel
theorem dX12_mantel_22 : decode cX12_mantel 22 = .ok (.bipush (-2), 2) := by decide +kernel
theorem dX12_mantel_24 : decode cX12_mantel 24 = .ok (.ireturn, 1) := by decide +kernel
theorem dX12_mantel_25 : decode cX12_mantel 25 = .ok (.aload_n 0, 1) := by decide +kernel
theorem dX12_mantel_26 : decode cX12_mantel 26 = .ok (.invokevirtual 346, 3) := by decide +kernel
theorem dX12_mantel_29 : decode cX12_mantel 29 = .ok (.aload_n 0, 1) := by decide +kernel
theorem dX12_mantel_30 : decode cX12_mantel 30 = .ok (.iload_n 1, 1) := by decide +kernel
theorem dX12_mantel_31 : decode cX12_mantel 31 = .ok (.iload_n 2, 1) := by decide +kernel
theorem dX12_mantel_32 : decode cX12_mantel 32 = .ok (.invokevirtual 361, 3) := by decide +kernel
theorem dX12_mantel_35 : decode cX12_mantel 35 = .ok (.invokestatic 364, 3) := by decide +kernel
theorem dX12_mantel_38 : decode cX12_mantel 38 = .ok (.ireturn, 1) := by decide +kernel
theorem dX12_whose_0 : decode cX12_whose 0 = .ok (.aload_n 0, 1) := by decide +kernel
theorem dX12_whose_1 : decode cX12_whose 1 = .ok (.iconst 0, 1) := by decide +kernel
theorem dX12_whose_2 : decode cX12_whose 2 = .ok (.putfield 107, 3) := by decide +kernel
theorem dX12_whose_5 : decode cX12_whose 5 = .ok (.aload_n 0, 1) := by decide +kernel
theorem dX12_whose_6 : decode cX12_whose 6 = .ok (.iload_n 1, 1) := by decide +kernel
theorem dX12_whose_7 : decode cX12_whose 7 = .ok (.invokevirtual 276, 3) := by decide +kernel
theorem dX12_whose_10 : decode cX12_whose 10 = .ok (.ifCond .eq 12, 3) := by decide +kernel
theorem dX12_whose_13 : decode cX12_whose 13 = .ok (.aload_n 0, 1) := by decide +kernel
theorem dX12_whose_14 : decode cX12_whose 14 = .ok (.iload_n 2, 1) := by decide +kernel
theorem dX12_whose_15 : decode cX12_whose 15 = .ok (.i2l, 1) := by decide +kernel
theorem dX12_whose_16 : decode cX12_whose 16 = .ok (.invokevirtual 343, 3) := by decide +kernel
theorem dX12_whose_19 : decode cX12_whose 19 = .ok (.ifCond .ne 6, 3) := by decide +kernel
theorem dX12_whose_22 : decode cX12_whose 22 = .ok (.bipush (-2), 2) := by decide +kernel
theorem dX12_whose_24 : decode cX12_whose 24 = .ok (.ireturn, 1) := by decide +kernel
theorem dX12_whose_25 : decode cX12_whose 25 = .ok (.aload_n 0, 1) := by decide +kernel
theorem dX12_whose_26 : decode cX12_whose 26 = .ok (.invokevirtual 346, 3) := by decide +kernel
theorem dX12_whose_29 : decode cX12_whose 29 = .ok (.aload_n 0, 1) := by decide +kernel
theorem dX12_whose_30 : decode cX12_whose 30 = .ok (.iload_n 1, 1) := by decide +kernel
theorem dX12_whose_31 : decode cX12_whose 31 = .ok (.iload_n 2, 1) := by decide +kernel
theorem dX12_whose_32 : decode cX12_whose 32 = .ok (.invokevirtual 361, 3) := by decide +kernel
theorem dX12_whose_35 : decode cX12_whose 35 = .ok (.ireturn, 1) := by decide +kernel
theorem dX12_hurtsOf_0 : decode cX12_hurtsOf 0 = .ok (.iconst 0, 1) := by decide +kernel
theorem dX12_hurtsOf_1 : decode cX12_hurtsOf 1 = .ok (.istore_n 3, 1) := by decide +kernel
theorem dX12_hurtsOf_2 : decode cX12_hurtsOf 2 = .ok (.iconst 0, 1) := by decide +kernel
theorem dX12_hurtsOf_3 : decode cX12_hurtsOf 3 = .ok (.istore 4, 2) := by decide +kernel
theorem dX12_hurtsOf_5 : decode cX12_hurtsOf 5 = .ok (.iload 4, 2) := by decide +kernel
theorem dX12_hurtsOf_7 : decode cX12_hurtsOf 7 = .ok (.aload_n 0, 1) := by decide +kernel
theorem dX12_hurtsOf_8 : decode cX12_hurtsOf 8 = .ok (.getfield 34, 3) := by decide +kernel
theorem dX12_hurtsOf_11 : decode cX12_hurtsOf 11 = .ok (.iconst 0, 1) := by decide +kernel
theorem dX12_hurtsOf_12 : decode cX12_hurtsOf 12 = .ok (.iaload, 1) := by decide +kernel
theorem dX12_hurtsOf_13 : decode cX12_hurtsOf 13 = .ok (.if_icmp .ge 131, 3) := by decide +kernel
theorem dX12_hurtsOf_16 : decode cX12_hurtsOf 16 = .ok (.iconst 0, 1) := by decide +kernel
theorem dX12_hurtsOf_17 : decode cX12_hurtsOf 17 = .ok (.istore 5, 2) := by decide +kernel
theorem dX12_hurtsOf_19 : decode cX12_hurtsOf 19 = .ok (.iload 5, 2) := by decide +kernel
theorem dX12_hurtsOf_21 : decode cX12_hurtsOf 21 = .ok (.aload_n 0, 1) := by decide +kernel
theorem dX12_hurtsOf_22 : decode cX12_hurtsOf 22 = .ok (.getfield 34, 3) := by decide +kernel
theorem dX12_hurtsOf_25 : decode cX12_hurtsOf 25 = .ok (.iconst 4, 1) := by decide +kernel
theorem dX12_hurtsOf_26 : decode cX12_hurtsOf 26 = .ok (.iaload, 1) := by decide +kernel
theorem dX12_hurtsOf_27 : decode cX12_hurtsOf 27 = .ok (.if_icmp .ge 111, 3) := by decide +kernel
theorem dX12_hurtsOf_30 : decode cX12_hurtsOf 30 = .ok (.iconst 0, 1) := by decide +kernel
theorem dX12_hurtsOf_31 : decode cX12_hurtsOf 31 = .ok (.istore 6, 2) := by decide +kernel
theorem dX12_hurtsOf_33 : decode cX12_hurtsOf 33 = .ok (.iload 6, 2) := by decide +kernel
theorem dX12_hurtsOf_35 : decode cX12_hurtsOf 35 = .ok (.iconst 2, 1) := by decide +kernel
theorem dX12_hurtsOf_36 : decode cX12_hurtsOf 36 = .ok (.if_icmp .ge 96, 3) := by decide +kernel
theorem dX12_hurtsOf_39 : decode cX12_hurtsOf 39 = .ok (.aload_n 0, 1) := by decide +kernel
theorem dX12_hurtsOf_40 : decode cX12_hurtsOf 40 = .ok (.iload 5, 2) := by decide +kernel
theorem dX12_hurtsOf_42 : decode cX12_hurtsOf 42 = .ok (.iload 6, 2) := by decide +kernel
theorem dX12_hurtsOf_44 : decode cX12_hurtsOf 44 = .ok (.invokevirtual 321, 3) := by decide +kernel
theorem dX12_hurtsOf_47 : decode cX12_hurtsOf 47 = .ok (.iload_n 1, 1) := by decide +kernel
theorem dX12_hurtsOf_48 : decode cX12_hurtsOf 48 = .ok (.if_icmp .eq 6, 3) := by decide +kernel
theorem dX12_hurtsOf_51 : decode cX12_hurtsOf 51 = .ok (.goto 75, 3) := by decide +kernel
theorem dX12_hurtsOf_54 : decode cX12_hurtsOf 54 = .ok (.aload_n 0, 1) := by decide +kernel
theorem dX12_hurtsOf_55 : decode cX12_hurtsOf 55 = .ok (.iload 5, 2) := by decide +kernel
theorem dX12_hurtsOf_57 : decode cX12_hurtsOf 57 = .ok (.iload 6, 2) := by decide +kernel
theorem dX12_hurtsOf_59 : decode cX12_hurtsOf 59 = .ok (.iload 4, 2) := by decide +kernel
theorem dX12_hurtsOf_61 : decode cX12_hurtsOf 61 = .ok (.invokevirtual 349, 3) := by decide +kernel
theorem dX12_hurtsOf_64 : decode cX12_hurtsOf 64 = .ok (.ifCond .le 7, 3) := by decide +kernel
theorem dX12_hurtsOf_67 : decode cX12_hurtsOf 67 = .ok (.iconst 1, 1) := by decide +kernel
theorem dX12_hurtsOf_68 : decode cX12_hurtsOf 68 = .ok (.goto 4, 3) := by decide +kernel
theorem dX12_hurtsOf_71 : decode cX12_hurtsOf 71 = .ok (.iconst 0, 1) := by decide +kernel
theorem dX12_hurtsOf_72 : decode cX12_hurtsOf 72 = .ok (.istore 7, 2) := by decide +kernel
theorem dX12_hurtsOf_74 : decode cX12_hurtsOf 74 = .ok (.aload_n 0, 1) := by decide +kernel
theorem dX12_hurtsOf_75 : decode cX12_hurtsOf 75 = .ok (.iload 5, 2) := by decide +kernel
theorem dX12_hurtsOf_77 : decode cX12_hurtsOf 77 = .ok (.iload 6, 2) := by decide +kernel
theorem dX12_hurtsOf_79 : decode cX12_hurtsOf 79 = .ok (.iload 4, 2) := by decide +kernel
theorem dX12_hurtsOf_81 : decode cX12_hurtsOf 81 = .ok (.invokevirtual 352, 3) := by decide +kernel
theorem dX12_hurtsOf_84 : decode cX12_hurtsOf 84 = .ok (.istore 8, 2) := by decide +kernel
theorem dX12_hurtsOf_86 : decode cX12_hurtsOf 86 = .ok (.iload_n 3, 1) := by decide +kernel
theorem dX12_hurtsOf_87 : decode cX12_hurtsOf 87 = .ok (.iload_n 2, 1) := by decide +kernel
theorem dX12_hurtsOf_88 : decode cX12_hurtsOf 88 = .ok (.ifCond .ne 21, 3) := by decide +kernel
theorem dX12_hurtsOf_91 : decode cX12_hurtsOf 91 = .ok (.iload 7, 2) := by decide +kernel
theorem dX12_hurtsOf_93 : decode cX12_hurtsOf 93 = .ok (.ifCond .eq 12, 3) := by decide +kernel
theorem dX12_hurtsOf_96 : decode cX12_hurtsOf 96 = .ok (.iload 8, 2) := by decide +kernel
theorem dX12_hurtsOf_98 : decode cX12_hurtsOf 98 = .ok (.ifCond .ne 7, 3) := by decide +kernel
theorem dX12_hurtsOf_101 : decode cX12_hurtsOf 101 = .ok (.iconst 1, 1) := by decide +kernel
theorem dX12_hurtsOf_102 : decode cX12_hurtsOf 102 = .ok (.goto 22, 3) := by decide +kernel
theorem dX12_hurtsOf_105 : decode cX12_hurtsOf 105 = .ok (.iconst 0, 1) := by decide +kernel
theorem dX12_hurtsOf_106 : decode cX12_hurtsOf 106 = .ok (.goto 18, 3) := by decide +kernel
theorem dX12_hurtsOf_109 : decode cX12_hurtsOf 109 = .ok (.iload 8, 2) := by decide +kernel
theorem dX12_hurtsOf_111 : decode cX12_hurtsOf 111 = .ok (.ifCond .eq 12, 3) := by decide +kernel
theorem dX12_hurtsOf_114 : decode cX12_hurtsOf 114 = .ok (.iload 7, 2) := by decide +kernel
theorem dX12_hurtsOf_116 : decode cX12_hurtsOf 116 = .ok (.ifCond .ne 7, 3) := by decide +kernel
theorem dX12_hurtsOf_119 : decode cX12_hurtsOf 119 = .ok (.iconst 1, 1) := by decide +kernel
theorem dX12_hurtsOf_120 : decode cX12_hurtsOf 120 = .ok (.goto 4, 3) := by decide +kernel
theorem dX12_hurtsOf_123 : decode cX12_hurtsOf 123 = .ok (.iconst 0, 1) := by decide +kernel
theorem dX12_hurtsOf_124 : decode cX12_hurtsOf 124 = .ok (.iadd, 1) := by decide +kernel
theorem dX12_hurtsOf_125 : decode cX12_hurtsOf 125 = .ok (.istore_n 3, 1) := by decide +kernel
theorem dX12_hurtsOf_126 : decode cX12_hurtsOf 126 = .ok (.iinc 6 1, 3) := by decide +kernel
theorem dX12_hurtsOf_129 : decode cX12_hurtsOf 129 = .ok (.goto (-96), 3) := by decide +kernel
theorem dX12_hurtsOf_132 : decode cX12_hurtsOf 132 = .ok (.iinc 5 1, 3) := by decide +kernel
theorem dX12_hurtsOf_135 : decode cX12_hurtsOf 135 = .ok (.goto (-116), 3) := by decide +kernel
theorem dX12_hurtsOf_138 : decode cX12_hurtsOf 138 = .ok (.iinc 4 1, 3) := by decide +kernel
theorem dX12_hurtsOf_141 : decode cX12_hurtsOf 141 = .ok (.goto (-136), 3) := by decide +kernel
theorem dX12_hurtsOf_144 : decode cX12_hurtsOf 144 = .ok (.iload_n 3, 1) := by decide +kernel
theorem dX12_hurtsOf_145 : decode cX12_hurtsOf 145 = .ok (.ireturn, 1) := by decide +kernel
