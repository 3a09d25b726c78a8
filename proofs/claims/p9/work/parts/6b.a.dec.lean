theorem dX12_sends_0 : decode cX12_sends 0 = .ok (.aload_n 0, 1) := by decide +kernel
theorem dX12_sends_1 : decode cX12_sends 1 = .ok (.iconst 0, 1) := by decide +kernel
theorem dX12_sends_2 : decode cX12_sends 2 = .ok (.putfield 107, 3) := by decide +kernel
theorem dX12_sends_5 : decode cX12_sends 5 = .ok (.aload_n 0, 1) := by decide +kernel
theorem dX12_sends_6 : decode cX12_sends 6 = .ok (.iload_n 1, 1) := by decide +kernel
theorem dX12_sends_7 : decode cX12_sends 7 = .ok (.invokevirtual 281, 3) := by decide +kernel
theorem dX12_sends_10 : decode cX12_sends 10 = .ok (.ifCond .eq 19, 3) := by decide +kernel
theorem dX12_sends_13 : decode cX12_sends 13 = .ok (.iload_n 2, 1) := by decide +kernel
theorem dX12_sends_14 : decode cX12_sends 14 = .ok (.invokestatic 340, 3) := by decide +kernel
theorem dX12_sends_17 : decode cX12_sends 17 = .ok (.ifCond .eq 12, 3) := by decide +kernel
theorem dX12_sends_20 : decode cX12_sends 20 = .ok (.aload_n 0, 1) := by decide +kernel
theorem dX12_sends_21 : decode cX12_sends 21 = .ok (.iload_n 3, 1) := by decide +kernel
theorem dX12_sends_22 : decode cX12_sends 22 = .ok (.i2l, 1) := by decide +kernel
theorem dX12_sends_23 : decode cX12_sends 23 = .ok (.invokevirtual 343, 3) := by decide +kernel
theorem dX12_sends_26 : decode cX12_sends 26 = .ok (.ifCond .ne 6, 3) := by decide +kernel
theorem dX12_sends_29 : decode cX12_sends 29 = .ok (.bipush (-2), 2) := by decide +kernel
theorem dX12_sends_31 : decode cX12_sends 31 = .ok (.ireturn, 1) := by decide +kernel
theorem dX12_sends_32 : decode cX12_sends 32 = .ok (.aload_n 0, 1) := by decide +kernel
theorem dX12_sends_33 : decode cX12_sends 33 = .ok (.invokevirtual 346, 3) := by decide +kernel
theorem dX12_sends_36 : decode cX12_sends 36 = .ok (.aload_n 0, 1) := by decide +kernel
theorem dX12_sends_37 : decode cX12_sends 37 = .ok (.iload_n 1, 1) := by decide +kernel
theorem dX12_sends_38 : decode cX12_sends 38 = .ok (.iload_n 2, 1) := by decide +kernel
theorem dX12_sends_39 : decode cX12_sends 39 = .ok (.iload_n 3, 1) := by decide +kernel
theorem dX12_sends_40 : decode cX12_sends 40 = .ok (.invokevirtual 349, 3) := by decide +kernel
theorem dX12_sends_43 : decode cX12_sends 43 = .ok (.ireturn, 1) := by decide +kernel
theorem dX12_got_0 : decode cX12_got 0 = .ok (.aload_n 0, 1) := by decide +kernel
theorem dX12_got_1 : decode cX12_got 1 = .ok (.iconst 0, 1) := by decide +kernel
theorem dX12_got_2 : decode cX12_got 2 = .ok (.putfield 107, 3) := by decide +kernel
theorem dX12_got_5 : decode cX12_got 5 = .ok (.aload_n 0, 1) := by decide +kernel
theorem dX12_got_6 : decode cX12_got 6 = .ok (.iload_n 1, 1) := by decide +kernel
theorem dX12_got_7 : decode cX12_got 7 = .ok (.invokevirtual 281, 3) := by decide +kernel
theorem dX12_got_10 : decode cX12_got 10 = .ok (.ifCond .eq 19, 3) := by decide +kernel
theorem dX12_got_13 : decode cX12_got 13 = .ok (.iload_n 2, 1) := by decide +kernel
theorem dX12_got_14 : decode cX12_got 14 = .ok (.invokestatic 340, 3) := by decide +kernel
theorem dX12_got_17 : decode cX12_got 17 = .ok (.ifCond .eq 12, 3) := by decide +kernel
theorem dX12_got_20 : decode cX12_got 20 = .ok (.aload_n 0, 1) := by decide +kernel
theorem dX12_got_21 : decode cX12_got 21 = .ok (.iload_n 3, 1) := by decide +kernel
theorem dX12_got_22 : decode cX12_got 22 = .ok (.i2l, 1) := by decide +kernel
theorem dX12_got_23 : decode cX12_got 23 = .ok (.invokevirtual 343, 3) := by decide +kernel
theorem dX12_got_26 : decode cX12_got 26 = .ok (.ifCond .ne 6, 3) := by decide +kernel
theorem dX12_got_29 : decode cX12_got 29 = .ok (.bipush (-2), 2) := by decide +kernel
theorem dX12_got_31 : decode cX12_got 31 = .ok (.ireturn, 1) := by decide +kernel
theorem dX12_got_32 : decode cX12_got 32 = .ok (.aload_n 0, 1) := by decide +kernel
theorem dX12_got_33 : decode cX12_got 33 = .ok (.invokevirtual 346, 3) := by decide +kernel
theorem dX12_got_36 : decode cX12_got 36 = .ok (.aload_n 0, 1) := by decide +kernel
theorem dX12_got_37 : decode cX12_got 37 = .ok (.iload_n 1, 1) := by decide +kernel
theorem dX12_got_38 : decode cX12_got 38 = .ok (.iload_n 2, 1) := by decide +kernel
theorem dX12_got_39 : decode cX12_got 39 = .ok (.iload_n 3, 1) := by decide +kernel
theorem dX12_got_40 : decode cX12_got 40 = .ok (.invokevirtual 352, 3) := by decide +kernel
theorem dX12_got_43 : decode cX12_got 43 = .ok (.ifCond .eq 7, 3) := by decide +kernel
theorem dX12_got_46 : decode cX12_got 46 = .ok (.iconst 1, 1) := by decide +kernel
theorem dX12_got_47 : decode cX12_got 47 = .ok (.goto 4, 3) := by decide +kernel
theorem dX12_got_50 : decode cX12_got 50 = .ok (.iconst 0, 1) := by decide +kernel
theorem dX12_got_51 : decode cX12_got 51 = .ok (.ireturn, 1) := by decide +kernel
theorem dX12_state_0 : decode cX12_state 0 = .ok (.aload_n 0, 1) := by decide +kernel
theorem dX12_state_1 : decode cX12_state 1 = .ok (.iconst 0, 1) := by decide +kernel
theorem dX12_state_2 : decode cX12_state 2 = .ok (.putfield 107, 3) := by decide +kernel
theorem dX12_state_5 : decode cX12_state 5 = .ok (.aload_n 0, 1) := by decide +kernel
theorem dX12_state_6 : decode cX12_state 6 = .ok (.iload_n 1, 1) := by decide +kernel
theorem dX12_state_7 : decode cX12_state 7 = .ok (.invokevirtual 281, 3) := by decide +kernel
theorem dX12_state_10 : decode cX12_state 10 = .ok (.ifCond .eq 19, 3) := by decide +kernel
theorem dX12_state_13 : decode cX12_state 13 = .ok (.iload_n 2, 1) := by decide +kernel
theorem dX12_state_14 : decode cX12_state 14 = .ok (.i2l, 1) := by decide +kernel
theorem dX12_state_15 : decode cX12_state 15 = .ok (.lconst 0, 1) := by decide +kernel
theorem dX12_state_16 : decode cX12_state 16 = .ok (.aload_n 0, 1) := by decide +kernel
theorem dX12_state_17 : decode cX12_state 17 = .ok (.getfield 34, 3) := by decide +kernel
theorem dX12_state_20 : decode cX12_state 20 = .ok (.iconst 0, 1) := by decide +kernel
theorem dX12_state_21 : decode cX12_state 21 = .ok (.iaload, 1) := by decide +kernel
theorem dX12_state_22 : decode cX12_state 22 = .ok (.i2l, 1) := by decide +kernel
theorem dX12_state_23 : decode cX12_state 23 = .ok (.invokestatic 112, 3) := by decide +kernel
theorem dX12_state_26 : decode cX12_state 26 = .ok (.ifCond .ne 6, 3) := by decide +kernel
theorem dX12_state_29 : decode cX12_state 29 = .ok (.bipush (-2), 2) := by decide +kernel
theorem dX12_state_31 : decode cX12_state 31 = .ok (.ireturn, 1) := by decide +kernel
theorem dX12_state_32 : decode cX12_state 32 = .ok (.aload_n 0, 1) := by decide +kernel
theorem dX12_state_33 : decode cX12_state 33 = .ok (.invokevirtual 346, 3) := by decide +kernel
theorem dX12_state_36 : decode cX12_state 36 = .ok (.aload_n 0, 1) := by decide +kernel
theorem dX12_state_37 : decode cX12_state 37 = .ok (.getfield 83, 3) := by decide +kernel
theorem dX12_state_40 : decode cX12_state 40 = .ok (.bipush 16, 2) := by decide +kernel
theorem dX12_state_42 : decode cX12_state 42 = .ok (.iload_n 2, 1) := by decide +kernel
theorem dX12_state_43 : decode cX12_state 43 = .ok (.imul, 1) := by decide +kernel
theorem dX12_state_44 : decode cX12_state 44 = .ok (.iload_n 1, 1) := by decide +kernel
theorem dX12_state_45 : decode cX12_state 45 = .ok (.iadd, 1) := by decide +kernel
theorem dX12_state_46 : decode cX12_state 46 = .ok (.iaload, 1) := by decide +kernel
theorem dX12_state_47 : decode cX12_state 47 = .ok (.ireturn, 1) := by decide +kernel
theorem dX12_cardsOf_0 : decode cX12_cardsOf 0 = .ok (.iconst 0, 1) := by decide +kernel
theorem dX12_cardsOf_1 : decode cX12_cardsOf 1 = .ok (.istore_n 3, 1) := by decide +kernel
theorem dX12_cardsOf_2 : decode cX12_cardsOf 2 = .ok (.iconst 0, 1) := by decide +kernel
theorem dX12_cardsOf_3 : decode cX12_cardsOf 3 = .ok (.istore 4, 2) := by decide +kernel
theorem dX12_cardsOf_5 : decode cX12_cardsOf 5 = .ok (.iload 4, 2) := by decide +kernel
theorem dX12_cardsOf_7 : decode cX12_cardsOf 7 = .ok (.aload_n 0, 1) := by decide +kernel
theorem dX12_cardsOf_8 : decode cX12_cardsOf 8 = .ok (.getfield 34, 3) := by decide +kernel
theorem dX12_cardsOf_11 : decode cX12_cardsOf 11 = .ok (.iconst 4, 1) := by decide +kernel
theorem dX12_cardsOf_12 : decode cX12_cardsOf 12 = .ok (.iaload, 1) := by decide +kernel
theorem dX12_cardsOf_13 : decode cX12_cardsOf 13 = .ok (.if_icmp .ge 88, 3) := by decide +kernel
theorem dX12_cardsOf_16 : decode cX12_cardsOf 16 = .ok (.iconst 0, 1) := by decide +kernel
theorem dX12_cardsOf_17 : decode cX12_cardsOf 17 = .ok (.istore 5, 2) := by decide +kernel
theorem dX12_cardsOf_19 : decode cX12_cardsOf 19 = .ok (.iload 5, 2) := by decide +kernel
theorem dX12_cardsOf_21 : decode cX12_cardsOf 21 = .ok (.iconst 2, 1) := by decide +kernel
theorem dX12_cardsOf_22 : decode cX12_cardsOf 22 = .ok (.if_icmp .ge 73, 3) := by decide +kernel
theorem dX12_cardsOf_25 : decode cX12_cardsOf 25 = .ok (.aload_n 0, 1) := by decide +kernel
theorem dX12_cardsOf_26 : decode cX12_cardsOf 26 = .ok (.iload 4, 2) := by decide +kernel
theorem dX12_cardsOf_28 : decode cX12_cardsOf 28 = .ok (.iload 5, 2) := by decide +kernel
theorem dX12_cardsOf_30 : decode cX12_cardsOf 30 = .ok (.iload_n 1, 1) := by decide +kernel
theorem dX12_cardsOf_31 : decode cX12_cardsOf 31 = .ok (.invokevirtual 349, 3) := by decide +kernel
theorem dX12_cardsOf_34 : decode cX12_cardsOf 34 = .ok (.ifCond .le 7, 3) := by decide +kernel
theorem dX12_cardsOf_37 : decode cX12_cardsOf 37 = .ok (.iconst 1, 1) := by decide +kernel
theorem dX12_cardsOf_38 : decode cX12_cardsOf 38 = .ok (.goto 4, 3) := by decide +kernel
theorem dX12_cardsOf_41 : decode cX12_cardsOf 41 = .ok (.iconst 0, 1) := by decide +kernel
theorem dX12_cardsOf_42 : decode cX12_cardsOf 42 = .ok (.istore 6, 2) := by decide +kernel
theorem dX12_cardsOf_44 : decode cX12_cardsOf 44 = .ok (.aload_n 0, 1) := by decide +kernel
theorem dX12_cardsOf_45 : decode cX12_cardsOf 45 = .ok (.iload 4, 2) := by decide +kernel
theorem dX12_cardsOf_47 : decode cX12_cardsOf 47 = .ok (.iconst 1, 1) := by decide +kernel
theorem dX12_cardsOf_48 : decode cX12_cardsOf 48 = .ok (.iload 5, 2) := by decide +kernel
theorem dX12_cardsOf_50 : decode cX12_cardsOf 50 = .ok (.isub, 1) := by decide +kernel
theorem dX12_cardsOf_51 : decode cX12_cardsOf 51 = .ok (.iload_n 1, 1) := by decide +kernel
theorem dX12_cardsOf_52 : decode cX12_cardsOf 52 = .ok (.invokevirtual 352, 3) := by decide +kernel
theorem dX12_cardsOf_55 : decode cX12_cardsOf 55 = .ok (.istore 7, 2) := by decide +kernel
theorem dX12_cardsOf_57 : decode cX12_cardsOf 57 = .ok (.iload_n 3, 1) := by decide +kernel
theorem dX12_cardsOf_58 : decode cX12_cardsOf 58 = .ok (.iload 6, 2) := by decide +kernel
theorem dX12_cardsOf_60 : decode cX12_cardsOf 60 = .ok (.ifCond .eq 26, 3) := by decide +kernel
theorem dX12_cardsOf_63 : decode cX12_cardsOf 63 = .ok (.iload_n 2, 1) := by decide +kernel
theorem dX12_cardsOf_64 : decode cX12_cardsOf 64 = .ok (.ifCond .eq 18, 3) := by decide +kernel
theorem dX12_cardsOf_67 : decode cX12_cardsOf 67 = .ok (.iload 7, 2) := by decide +kernel
theorem dX12_cardsOf_69 : decode cX12_cardsOf 69 = .ok (.iload_n 2, 1) := by decide +kernel
theorem dX12_cardsOf_70 : decode cX12_cardsOf 70 = .ok (.iconst 1, 1) := by decide +kernel
theorem dX12_cardsOf_71 : decode cX12_cardsOf 71 = .ok (.if_icmp .ne 7, 3) := by decide +kernel
theorem dX12_cardsOf_74 : decode cX12_cardsOf 74 = .ok (.iconst 1, 1) := by decide +kernel
theorem dX12_cardsOf_75 : decode cX12_cardsOf 75 = .ok (.goto 4, 3) := by decide +kernel
theorem dX12_cardsOf_78 : decode cX12_cardsOf 78 = .ok (.iconst 0, 1) := by decide +kernel
theorem dX12_cardsOf_79 : decode cX12_cardsOf 79 = .ok (.if_icmp .ne 7, 3) := by decide +kernel
theorem dX12_cardsOf_82 : decode cX12_cardsOf 82 = .ok (.iconst 1, 1) := by decide +kernel
theorem dX12_cardsOf_83 : decode cX12_cardsOf 83 = .ok (.goto 4, 3) := by decide +kernel
theorem dX12_cardsOf_86 : decode cX12_cardsOf 86 = .ok (.iconst 0, 1) := by decide +kernel
theorem dX12_cardsOf_87 : decode cX12_cardsOf 87 = .ok (.iadd, 1) := by decide +kernel
theorem dX12_cardsOf_88 : decode cX12_cardsOf 88 = .ok (.istore_n 3, 1) := by decide +kernel
theorem dX12_cardsOf_89 : decode cX12_cardsOf 89 = .ok (.iinc 5 1, 3) := by decide +kernel
theorem dX12_cardsOf_92 : decode cX12_cardsOf 92 = .ok (.goto (-73), 3) := by decide +kernel
theorem dX12_cardsOf_95 : decode cX12_cardsOf 95 = .ok (.iinc 4 1, 3) := by decide +kernel
theorem dX12_cardsOf_98 : decode cX12_cardsOf 98 = .ok (.goto (-93), 3) := by decide +kernel
theorem dX12_cardsOf_101 : decode cX12_cardsOf 101 = .ok (.iload_n 3, 1) := by decide +kernel
theorem dX12_cardsOf_102 : decode cX12_cardsOf 102 = .ok (.ireturn, 1) := by decide +kernel
theorem dX12_cards_0 : decode cX12_cards 0 = .ok (.aload_n 0, 1) := by decide +kernel
theorem dX12_cards_1 : decode cX12_cards 1 = .ok (.iconst 0, 1) := by decide +kernel
theorem dX12_cards_2 : decode cX12_cards 2 = .ok (.putfield 107, 3) := by decide +kernel
theorem dX12_cards_5 : decode cX12_cards 5 = .ok (.aload_n 0, 1) := by decide +kernel
theorem dX12_cards_6 : decode cX12_cards 6 = .ok (.iload_n 1, 1) := by decide +kernel
theorem dX12_cards_7 : decode cX12_cards 7 = .ok (.i2l, 1) := by decide +kernel
theorem dX12_cards_8 : decode cX12_cards 8 = .ok (.invokevirtual 343, 3) := by decide +kernel
theorem dX12_cards_11 : decode cX12_cards 11 = .ok (.ifCond .eq 15, 3) := by decide +kernel
theorem dX12_cards_14 : decode cX12_cards 14 = .ok (.iload_n 2, 1) := by decide +kernel
theorem dX12_cards_15 : decode cX12_cards 15 = .ok (.i2l, 1) := by decide +kernel
theorem dX12_cards_16 : decode cX12_cards 16 = .ok (.lconst 0, 1) := by decide +kernel
theorem dX12_cards_17 : decode cX12_cards 17 = .ok (.ldc2_w 284, 3) := by decide +kernel
theorem dX12_cards_20 : decode cX12_cards 20 = .ok (.invokestatic 112, 3) := by decide +kernel
theorem dX12_cards_23 : decode cX12_cards 23 = .ok (.ifCond .ne 6, 3) := by decide +kernel
theorem dX12_cards_26 : decode cX12_cards 26 = .ok (.bipush (-2), 2) := by decide +kernel
theorem dX12_cards_28 : decode cX12_cards 28 = .ok (.ireturn, 1) := by decide +kernel
theorem dX12_cards_29 : decode cX12_cards 29 = .ok (.aload_n 0, 1) := by decide +kernel
theorem dX12_cards_30 : decode cX12_cards 30 = .ok (.invokevirtual 346, 3) := by decide +kernel
theorem dX12_cards_33 : decode cX12_cards 33 = .ok (.aload_n 0, 1) := by decide +kernel
theorem dX12_cards_34 : decode cX12_cards 34 = .ok (.iload_n 1, 1) := by decide +kernel
theorem dX12_cards_35 : decode cX12_cards 35 = .ok (.iload_n 2, 1) := by decide +kernel
theorem dX12_cards_36 : decode cX12_cards 36 = .ok (.invokevirtual 355, 3) := by decide +kernel
theorem dX12_cards_39 : decode cX12_cards 39 = .ok (.ireturn, 1) := by decide +kernel
