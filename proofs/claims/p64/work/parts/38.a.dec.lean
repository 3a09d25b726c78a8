theorem dX11_of_0 : decode cX11_of 0 = .ok (.aload_n 0, 1) := by decide +kernel
theorem dX11_of_1 : decode cX11_of 1 = .ok (.getfield 19, 3) := by decide +kernel
theorem dX11_of_4 : decode cX11_of 4 = .ok (.iload_n 1, 1) := by decide +kernel
theorem dX11_of_5 : decode cX11_of 5 = .ok (.invokevirtual 115, 3) := by decide +kernel
theorem dX11_of_8 : decode cX11_of 8 = .ok (.ifCond .eq 19, 3) := by decide +kernel
theorem dX11_of_11 : decode cX11_of 11 = .ok (.aload_n 0, 1) := by decide +kernel
theorem dX11_of_12 : decode cX11_of 12 = .ok (.getfield 19, 3) := by decide +kernel
theorem dX11_of_15 : decode cX11_of 15 = .ok (.iload_n 2, 1) := by decide +kernel
theorem dX11_of_16 : decode cX11_of 16 = .ok (.invokevirtual 115, 3) := by decide +kernel
theorem dX11_of_19 : decode cX11_of 19 = .ok (.ifCond .eq 8, 3) := by decide +kernel
theorem dX11_of_22 : decode cX11_of 22 = .ok (.iload_n 1, 1) := by decide +kernel
theorem dX11_of_23 : decode cX11_of 23 = .ok (.iload_n 2, 1) := by decide +kernel
theorem dX11_of_24 : decode cX11_of 24 = .ok (.if_icmp .ne 6, 3) := by decide +kernel
theorem dX11_of_27 : decode cX11_of 27 = .ok (.bipush (-2), 2) := by decide +kernel
theorem dX11_of_29 : decode cX11_of 29 = .ok (.ireturn, 1) := by decide +kernel
theorem dX11_of_30 : decode cX11_of 30 = .ok (.aload_n 0, 1) := by decide +kernel
theorem dX11_of_31 : decode cX11_of 31 = .ok (.getfield 19, 3) := by decide +kernel
theorem dX11_of_34 : decode cX11_of 34 = .ok (.iload_n 1, 1) := by decide +kernel
theorem dX11_of_35 : decode cX11_of 35 = .ok (.iload_n 2, 1) := by decide +kernel
theorem dX11_of_36 : decode cX11_of 36 = .ok (.invokevirtual 144, 3) := by decide +kernel
theorem dX11_of_39 : decode cX11_of 39 = .ok (.ireturn, 1) := by decide +kernel
theorem dX11_does_0 : decode cX11_does 0 = .ok (.iload_n 1, 1) := by decide +kernel
theorem dX11_does_1 : decode cX11_does 1 = .ok (.bipush 16, 2) := by decide +kernel
theorem dX11_does_3 : decode cX11_does 3 = .ok (.invokestatic 148, 3) := by decide +kernel
theorem dX11_does_6 : decode cX11_does 6 = .ok (.ifCond .eq 17, 3) := by decide +kernel
theorem dX11_does_9 : decode cX11_does 9 = .ok (.iload_n 2, 1) := by decide +kernel
theorem dX11_does_10 : decode cX11_does 10 = .ok (.invokestatic 152, 3) := by decide +kernel
theorem dX11_does_13 : decode cX11_does 13 = .ok (.ifCond .eq 10, 3) := by decide +kernel
theorem dX11_does_16 : decode cX11_does 16 = .ok (.iload_n 3, 1) := by decide +kernel
theorem dX11_does_17 : decode cX11_does 17 = .ok (.invokestatic 152, 3) := by decide +kernel
theorem dX11_does_20 : decode cX11_does 20 = .ok (.ifCond .ne 6, 3) := by decide +kernel
theorem dX11_does_23 : decode cX11_does 23 = .ok (.bipush (-2), 2) := by decide +kernel
theorem dX11_does_25 : decode cX11_does 25 = .ok (.ireturn, 1) := by decide +kernel
theorem dX11_does_26 : decode cX11_does 26 = .ok (.iload_n 1, 1) := by decide +kernel
theorem dX11_does_27 : decode cX11_does 27 = .ok (.iload_n 2, 1) := by decide +kernel
theorem dX11_does_28 : decode cX11_does 28 = .ok (.iconst 2, 1) := by decide +kernel
theorem dX11_does_29 : decode cX11_does 29 = .ok (.iload_n 3, 1) := by decide +kernel
theorem dX11_does_30 : decode cX11_does 30 = .ok (.imul, 1) := by decide +kernel
theorem dX11_does_31 : decode cX11_does 31 = .ok (.iadd, 1) := by decide +kernel
theorem dX11_does_32 : decode cX11_does 32 = .ok (.ishr, 1) := by decide +kernel
theorem dX11_does_33 : decode cX11_does 33 = .ok (.iconst 1, 1) := by decide +kernel
theorem dX11_does_34 : decode cX11_does 34 = .ok (.iand, 1) := by decide +kernel
theorem dX11_does_35 : decode cX11_does 35 = .ok (.ireturn, 1) := by decide +kernel
theorem dX11_sends_0 : decode cX11_sends 0 = .ok (.aload_n 0, 1) := by decide +kernel
theorem dX11_sends_1 : decode cX11_sends 1 = .ok (.iload_n 1, 1) := by decide +kernel
theorem dX11_sends_2 : decode cX11_sends 2 = .ok (.iload_n 2, 1) := by decide +kernel
theorem dX11_sends_3 : decode cX11_sends 3 = .ok (.iload_n 3, 1) := by decide +kernel
theorem dX11_sends_4 : decode cX11_sends 4 = .ok (.invokevirtual 155, 3) := by decide +kernel
theorem dX11_sends_7 : decode cX11_sends 7 = .ok (.ifCond .ne 6, 3) := by decide +kernel
theorem dX11_sends_10 : decode cX11_sends 10 = .ok (.bipush (-2), 2) := by decide +kernel
theorem dX11_sends_12 : decode cX11_sends 12 = .ok (.ireturn, 1) := by decide +kernel
theorem dX11_sends_13 : decode cX11_sends 13 = .ok (.aload_n 0, 1) := by decide +kernel
theorem dX11_sends_14 : decode cX11_sends 14 = .ok (.invokevirtual 159, 3) := by decide +kernel
theorem dX11_sends_17 : decode cX11_sends 17 = .ok (.astore 4, 2) := by decide +kernel
theorem dX11_sends_19 : decode cX11_sends 19 = .ok (.iconst 2, 1) := by decide +kernel
theorem dX11_sends_20 : decode cX11_sends 20 = .ok (.iload_n 1, 1) := by decide +kernel
theorem dX11_sends_21 : decode cX11_sends 21 = .ok (.imul, 1) := by decide +kernel
theorem dX11_sends_22 : decode cX11_sends 22 = .ok (.iload_n 2, 1) := by decide +kernel
theorem dX11_sends_23 : decode cX11_sends 23 = .ok (.iadd, 1) := by decide +kernel
theorem dX11_sends_24 : decode cX11_sends 24 = .ok (.istore 5, 2) := by decide +kernel
theorem dX11_sends_26 : decode cX11_sends 26 = .ok (.aload 4, 2) := by decide +kernel
theorem dX11_sends_28 : decode cX11_sends 28 = .ok (.getfield 163, 3) := by decide +kernel
theorem dX11_sends_31 : decode cX11_sends 31 = .ok (.iload 5, 2) := by decide +kernel
theorem dX11_sends_33 : decode cX11_sends 33 = .ok (.laload, 1) := by decide +kernel
theorem dX11_sends_34 : decode cX11_sends 34 = .ok (.iload_n 3, 1) := by decide +kernel
theorem dX11_sends_35 : decode cX11_sends 35 = .ok (.invokestatic 167, 3) := by decide +kernel
theorem dX11_sends_38 : decode cX11_sends 38 = .ok (.ifCond .eq 5, 3) := by decide +kernel
theorem dX11_sends_41 : decode cX11_sends 41 = .ok (.iconst 1, 1) := by decide +kernel
theorem dX11_sends_42 : decode cX11_sends 42 = .ok (.ireturn, 1) := by decide +kernel
theorem dX11_sends_43 : decode cX11_sends 43 = .ok (.aload 4, 2) := by decide +kernel
theorem dX11_sends_45 : decode cX11_sends 45 = .ok (.getfield 171, 3) := by decide +kernel
theorem dX11_sends_48 : decode cX11_sends 48 = .ok (.iload 5, 2) := by decide +kernel
theorem dX11_sends_50 : decode cX11_sends 50 = .ok (.laload, 1) := by decide +kernel
theorem dX11_sends_51 : decode cX11_sends 51 = .ok (.iload_n 3, 1) := by decide +kernel
theorem dX11_sends_52 : decode cX11_sends 52 = .ok (.invokestatic 167, 3) := by decide +kernel
theorem dX11_sends_55 : decode cX11_sends 55 = .ok (.ifCond .eq 7, 3) := by decide +kernel
theorem dX11_sends_58 : decode cX11_sends 58 = .ok (.iconst 2, 1) := by decide +kernel
theorem dX11_sends_59 : decode cX11_sends 59 = .ok (.goto 4, 3) := by decide +kernel
theorem dX11_sends_62 : decode cX11_sends 62 = .ok (.iconst 0, 1) := by decide +kernel
theorem dX11_sends_63 : decode cX11_sends 63 = .ok (.ireturn, 1) := by decide +kernel
theorem dX11_got_0 : decode cX11_got 0 = .ok (.aload_n 0, 1) := by decide +kernel
theorem dX11_got_1 : decode cX11_got 1 = .ok (.iload_n 1, 1) := by decide +kernel
theorem dX11_got_2 : decode cX11_got 2 = .ok (.iload_n 2, 1) := by decide +kernel
theorem dX11_got_3 : decode cX11_got 3 = .ok (.iload_n 3, 1) := by decide +kernel
theorem dX11_got_4 : decode cX11_got 4 = .ok (.invokevirtual 155, 3) := by decide +kernel
theorem dX11_got_7 : decode cX11_got 7 = .ok (.ifCond .ne 6, 3) := by decide +kernel
theorem dX11_got_10 : decode cX11_got 10 = .ok (.bipush (-2), 2) := by decide +kernel
theorem dX11_got_12 : decode cX11_got 12 = .ok (.ireturn, 1) := by decide +kernel
theorem dX11_got_13 : decode cX11_got 13 = .ok (.aload_n 0, 1) := by decide +kernel
theorem dX11_got_14 : decode cX11_got 14 = .ok (.invokevirtual 159, 3) := by decide +kernel
theorem dX11_got_17 : decode cX11_got 17 = .ok (.getfield 174, 3) := by decide +kernel
theorem dX11_got_20 : decode cX11_got 20 = .ok (.iconst 2, 1) := by decide +kernel
theorem dX11_got_21 : decode cX11_got 21 = .ok (.iload_n 1, 1) := by decide +kernel
theorem dX11_got_22 : decode cX11_got 22 = .ok (.imul, 1) := by decide +kernel
theorem dX11_got_23 : decode cX11_got 23 = .ok (.iload_n 2, 1) := by decide +kernel
theorem dX11_got_24 : decode cX11_got 24 = .ok (.iadd, 1) := by decide +kernel
theorem dX11_got_25 : decode cX11_got 25 = .ok (.laload, 1) := by decide +kernel
theorem dX11_got_26 : decode cX11_got 26 = .ok (.iload_n 3, 1) := by decide +kernel
theorem dX11_got_27 : decode cX11_got 27 = .ok (.invokestatic 167, 3) := by decide +kernel
theorem dX11_got_30 : decode cX11_got 30 = .ok (.ifCond .eq 7, 3) := by decide +kernel
theorem dX11_got_33 : decode cX11_got 33 = .ok (.iconst 1, 1) := by decide +kernel
theorem dX11_got_34 : decode cX11_got 34 = .ok (.goto 4, 3) := by decide +kernel
theorem dX11_got_37 : decode cX11_got 37 = .ok (.iconst 0, 1) := by decide +kernel
theorem dX11_got_38 : decode cX11_got 38 = .ok (.ireturn, 1) := by decide +kernel
theorem dX11_state_0 : decode cX11_state 0 = .ok (.aload_n 0, 1) := by decide +kernel
theorem dX11_state_1 : decode cX11_state 1 = .ok (.getfield 19, 3) := by decide +kernel
theorem dX11_state_4 : decode cX11_state 4 = .ok (.iload_n 1, 1) := by decide +kernel
theorem dX11_state_5 : decode cX11_state 5 = .ok (.invokevirtual 135, 3) := by decide +kernel
theorem dX11_state_8 : decode cX11_state 8 = .ok (.ifCond .eq 18, 3) := by decide +kernel
theorem dX11_state_11 : decode cX11_state 11 = .ok (.iload_n 2, 1) := by decide +kernel
theorem dX11_state_12 : decode cX11_state 12 = .ok (.ifCond .lt 14, 3) := by decide +kernel
theorem dX11_state_15 : decode cX11_state 15 = .ok (.iload_n 2, 1) := by decide +kernel
theorem dX11_state_16 : decode cX11_state 16 = .ok (.aload_n 0, 1) := by decide +kernel
theorem dX11_state_17 : decode cX11_state 17 = .ok (.getfield 19, 3) := by decide +kernel
theorem dX11_state_20 : decode cX11_state 20 = .ok (.getfield 177, 3) := by decide +kernel
theorem dX11_state_23 : decode cX11_state 23 = .ok (.if_icmp .le 6, 3) := by decide +kernel
theorem dX11_state_26 : decode cX11_state 26 = .ok (.bipush (-2), 2) := by decide +kernel
theorem dX11_state_28 : decode cX11_state 28 = .ok (.ireturn, 1) := by decide +kernel
theorem dX11_state_29 : decode cX11_state 29 = .ok (.aload_n 0, 1) := by decide +kernel
theorem dX11_state_30 : decode cX11_state 30 = .ok (.invokevirtual 159, 3) := by decide +kernel
theorem dX11_state_33 : decode cX11_state 33 = .ok (.aload_n 0, 1) := by decide +kernel
theorem dX11_state_34 : decode cX11_state 34 = .ok (.getfield 19, 3) := by decide +kernel
theorem dX11_state_37 : decode cX11_state 37 = .ok (.iload_n 1, 1) := by decide +kernel
theorem dX11_state_38 : decode cX11_state 38 = .ok (.iload_n 2, 1) := by decide +kernel
theorem dX11_state_39 : decode cX11_state 39 = .ok (.invokevirtual 180, 3) := by decide +kernel
theorem dX11_state_42 : decode cX11_state 42 = .ok (.ireturn, 1) := by decide +kernel
theorem dX11_cards_0 : decode cX11_cards 0 = .ok (.aload_n 0, 1) := by decide +kernel
theorem dX11_cards_1 : decode cX11_cards 1 = .ok (.getfield 19, 3) := by decide +kernel
theorem dX11_cards_4 : decode cX11_cards 4 = .ok (.iload_n 1, 1) := by decide +kernel
theorem dX11_cards_5 : decode cX11_cards 5 = .ok (.invokevirtual 184, 3) := by decide +kernel
theorem dX11_cards_8 : decode cX11_cards 8 = .ok (.ifCond .eq 11, 3) := by decide +kernel
theorem dX11_cards_11 : decode cX11_cards 11 = .ok (.iload_n 2, 1) := by decide +kernel
theorem dX11_cards_12 : decode cX11_cards 12 = .ok (.iconst 3, 1) := by decide +kernel
theorem dX11_cards_13 : decode cX11_cards 13 = .ok (.invokestatic 148, 3) := by decide +kernel
theorem dX11_cards_16 : decode cX11_cards 16 = .ok (.ifCond .ne 6, 3) := by decide +kernel
theorem dX11_cards_19 : decode cX11_cards 19 = .ok (.bipush (-2), 2) := by decide +kernel
theorem dX11_cards_21 : decode cX11_cards 21 = .ok (.ireturn, 1) := by decide +kernel
theorem dX11_cards_22 : decode cX11_cards 22 = .ok (.aload_n 0, 1) := by decide +kernel
theorem dX11_cards_23 : decode cX11_cards 23 = .ok (.invokevirtual 159, 3) := by decide +kernel
theorem dX11_cards_26 : decode cX11_cards 26 = .ok (.aload_n 0, 1) := by decide +kernel
theorem dX11_cards_27 : decode cX11_cards 27 = .ok (.getfield 19, 3) := by decide +kernel
theorem dX11_cards_30 : decode cX11_cards 30 = .ok (.iload_n 1, 1) := by decide +kernel
theorem dX11_cards_31 : decode cX11_cards 31 = .ok (.invokevirtual 187, 3) := by decide +kernel
theorem dX11_cards_34 : decode cX11_cards 34 = .ok (.istore_n 3, 1) := by decide +kernel
theorem dX11_cards_35 : decode cX11_cards 35 = .ok (.aload_n 0, 1) := by decide +kernel
theorem dX11_cards_36 : decode cX11_cards 36 = .ok (.getfield 30, 3) := by decide +kernel
theorem dX11_cards_39 : decode cX11_cards 39 = .ok (.aload_n 0, 1) := by decide +kernel
theorem dX11_cards_40 : decode cX11_cards 40 = .ok (.getfield 19, 3) := by decide +kernel
theorem dX11_cards_43 : decode cX11_cards 43 = .ok (.iload_n 1, 1) := by decide +kernel
theorem dX11_cards_44 : decode cX11_cards 44 = .ok (.invokevirtual 191, 3) := by decide +kernel
theorem dX11_cards_47 : decode cX11_cards 47 = .ok (.istore 4, 2) := by decide +kernel
theorem dX11_cards_49 : decode cX11_cards 49 = .ok (.iload_n 2, 1) := by decide +kernel
theorem dX11_cards_50 : decode cX11_cards 50 = .ok (.ifCond .ne 5, 3) := by decide +kernel
theorem dX11_cards_53 : decode cX11_cards 53 = .ok (.iload_n 3, 1) := by decide +kernel
theorem dX11_cards_54 : decode cX11_cards 54 = .ok (.ireturn, 1) := by decide +kernel
theorem dX11_cards_55 : decode cX11_cards 55 = .ok (.iload_n 2, 1) := by decide +kernel
theorem dX11_cards_56 : decode cX11_cards 56 = .ok (.iconst 1, 1) := by decide +kernel
theorem dX11_cards_57 : decode cX11_cards 57 = .ok (.if_icmp .ne 8, 3) := by decide +kernel
theorem dX11_cards_60 : decode cX11_cards 60 = .ok (.iload 4, 2) := by decide +kernel
theorem dX11_cards_62 : decode cX11_cards 62 = .ok (.goto 7, 3) := by decide +kernel
theorem dX11_cards_65 : decode cX11_cards 65 = .ok (.iload_n 3, 1) := by decide +kernel
theorem dX11_cards_66 : decode cX11_cards 66 = .ok (.iload 4, 2) := by decide +kernel
theorem dX11_cards_68 : decode cX11_cards 68 = .ok (.isub, 1) := by decide +kernel
theorem dX11_cards_69 : decode cX11_cards 69 = .ok (.ireturn, 1) := by decide +kernel
theorem dX11_list_0 : decode cX11_list 0 = .ok (.aload_n 0, 1) := by decide +kernel
theorem dX11_list_1 : decode cX11_list 1 = .ok (.getfield 19, 3) := by decide +kernel
theorem dX11_list_4 : decode cX11_list 4 = .ok (.iload_n 1, 1) := by decide +kernel
theorem dX11_list_5 : decode cX11_list 5 = .ok (.invokevirtual 115, 3) := by decide +kernel
theorem dX11_list_8 : decode cX11_list 8 = .ok (.ifCond .eq 14, 3) := by decide +kernel
theorem dX11_list_11 : decode cX11_list 11 = .ok (.aload_n 0, 1) := by decide +kernel
theorem dX11_list_12 : decode cX11_list 12 = .ok (.getfield 19, 3) := by decide +kernel
theorem dX11_list_15 : decode cX11_list 15 = .ok (.iload_n 2, 1) := by decide +kernel
theorem dX11_list_16 : decode cX11_list 16 = .ok (.invokevirtual 184, 3) := by decide +kernel
theorem dX11_list_19 : decode cX11_list 19 = .ok (.ifCond .ne 6, 3) := by decide +kernel
theorem dX11_list_22 : decode cX11_list 22 = .ok (.bipush (-2), 2) := by decide +kernel
theorem dX11_list_24 : decode cX11_list 24 = .ok (.ireturn, 1) := by decide +kernel
theorem dX11_list_25 : decode cX11_list 25 = .ok (.aload_n 0, 1) := by decide +kernel
theorem dX11_list_26 : decode cX11_list 26 = .ok (.invokevirtual 159, 3) := by decide +kernel
theorem dX11_list_29 : decode cX11_list 29 = .ok (.astore_n 3, 1) := by decide +kernel
theorem dX11_list_30 : decode cX11_list 30 = .ok (.iconst 0, 1) := by decide +kernel
theorem dX11_list_31 : decode cX11_list 31 = .ok (.istore 4, 2) := by decide +kernel
theorem dX11_list_33 : decode cX11_list 33 = .ok (.iconst 0, 1) := by decide +kernel
theorem dX11_list_34 : decode cX11_list 34 = .ok (.istore 5, 2) := by decide +kernel
theorem dX11_list_36 : decode cX11_list 36 = .ok (.iload 5, 2) := by decide +kernel
theorem dX11_list_38 : decode cX11_list 38 = .ok (.iconst 2, 1) := by decide +kernel
theorem dX11_list_39 : decode cX11_list 39 = .ok (.aload_n 0, 1) := by decide +kernel
theorem dX11_list_40 : decode cX11_list 40 = .ok (.getfield 19, 3) := by decide +kernel
theorem dX11_list_43 : decode cX11_list 43 = .ok (.getfield 194, 3) := by decide +kernel
theorem dX11_list_46 : decode cX11_list 46 = .ok (.imul, 1) := by decide +kernel
theorem dX11_list_47 : decode cX11_list 47 = .ok (.if_icmp .ge 39, 3) := by decide +kernel
theorem dX11_list_50 : decode cX11_list 50 = .ok (.aload_n 0, 1) := by decide +kernel
theorem dX11_list_51 : decode cX11_list 51 = .ok (.getfield 19, 3) := by decide +kernel
theorem dX11_list_54 : decode cX11_list 54 = .ok (.getfield 138, 3) := by decide +kernel
theorem dX11_list_57 : decode cX11_list 57 = .ok (.iload 5, 2) := by decide +kernel
theorem dX11_list_59 : decode cX11_list 59 = .ok (.iaload, 1) := by decide +kernel
theorem dX11_list_60 : decode cX11_list 60 = .ok (.iload_n 1, 1) := by decide +kernel
theorem dX11_list_61 : decode cX11_list 61 = .ok (.if_icmp .ne 19, 3) := by decide +kernel
theorem dX11_list_64 : decode cX11_list 64 = .ok (.aload_n 3, 1) := by decide +kernel
theorem dX11_list_65 : decode cX11_list 65 = .ok (.iload 5, 2) := by decide +kernel
theorem dX11_list_67 : decode cX11_list 67 = .ok (.invokevirtual 197, 3) := by decide +kernel
theorem dX11_list_70 : decode cX11_list 70 = .ok (.iload_n 2, 1) := by decide +kernel
theorem dX11_list_71 : decode cX11_list 71 = .ok (.invokestatic 167, 3) := by decide +kernel
theorem dX11_list_74 : decode cX11_list 74 = .ok (.ifCond .eq 6, 3) := by decide +kernel
theorem dX11_list_77 : decode cX11_list 77 = .ok (.iinc 4 1, 3) := by decide +kernel
theorem dX11_list_80 : decode cX11_list 80 = .ok (.iinc 5 1, 3) := by decide +kernel
theorem dX11_list_83 : decode cX11_list 83 = .ok (.goto (-47), 3) := by decide +kernel
theorem dX11_list_86 : decode cX11_list 86 = .ok (.iload 4, 2) := by decide +kernel
theorem dX11_list_88 : decode cX11_list 88 = .ok (.ireturn, 1) := by decide +kernel
theorem dX11_mantel_0 : decode cX11_mantel 0 = .ok (.aload_n 0, 1) := by decide +kernel
theorem dX11_mantel_1 : decode cX11_mantel 1 = .ok (.getfield 19, 3) := by decide +kernel
theorem dX11_mantel_4 : decode cX11_mantel 4 = .ok (.iload_n 1, 1) := by decide +kernel
theorem dX11_mantel_5 : decode cX11_mantel 5 = .ok (.invokevirtual 115, 3) := by decide +kernel
theorem dX11_mantel_8 : decode cX11_mantel 8 = .ok (.ifCond .eq 14, 3) := by decide +kernel
theorem dX11_mantel_11 : decode cX11_mantel 11 = .ok (.aload_n 0, 1) := by decide +kernel
theorem dX11_mantel_12 : decode cX11_mantel 12 = .ok (.getfield 19, 3) := by decide +kernel
theorem dX11_mantel_15 : decode cX11_mantel 15 = .ok (.iload_n 2, 1) := by decide +kernel
theorem dX11_mantel_16 : decode cX11_mantel 16 = .ok (.invokevirtual 184, 3) := by decide +kernel
theorem dX11_mantel_19 : decode cX11_mantel 19 = .ok (.ifCond .ne 6, 3) := by decide +kernel
theorem dX11_mantel_22 : decode cX11_mantel 22 = .ok (.bipush (-2), 2) := by decide +kernel
theorem dX11_mantel_24 : decode cX11_mantel 24 = .ok (.ireturn, 1) := by decide +kernel
theorem dX11_mantel_25 : decode cX11_mantel 25 = .ok (.aload_n 0, 1) := by decide +kernel
theorem dX11_mantel_26 : decode cX11_mantel 26 = .ok (.iload_n 1, 1) := by decide +kernel
theorem dX11_mantel_27 : decode cX11_mantel 27 = .ok (.iload_n 2, 1) := by decide +kernel
theorem dX11_mantel_28 : decode cX11_mantel 28 = .ok (.invokevirtual 201, 3) := by decide +kernel
theorem dX11_mantel_31 : decode cX11_mantel 31 = .ok (.invokestatic 204, 3) := by decide +kernel
theorem dX11_mantel_34 : decode cX11_mantel 34 = .ok (.ireturn, 1) := by decide +kernel
