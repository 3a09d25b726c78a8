theorem dX11_state_0 : decode cX11_state 0 = .ok (.aload_n 0, 1) := by decide +kernel
theorem dX11_state_1 : decode cX11_state 1 = .ok (.getfield 19, 3) := by decide +kernel
theorem dX11_state_4 : decode cX11_state 4 = .ok (.iload_n 1, 1) := by decide +kernel
theorem dX11_state_5 : decode cX11_state 5 = .ok (.invokevirtual 135, 3) := by decide +kernel
theorem dX11_state_8 : decode cX11_state 8 = .ok (.ifCond .eq 18, 3) := by decide +kernel
theorem dX11_state_11 : decode cX11_state 11 = .ok (.iload_n 2, 1) := by decide +kernel
theorem dX11_state_12 : decode cX11_state 12 = .ok (.ifCond .lt 14, 3) := by decide +kernel
theorem dX11_state_15 : decode cX11_state 15 = .ok (.iload_n 2, 1) := by decide +kernel
theorem dX11_state_16 : decode cX11_state 16 = .ok (.aload_n 0, 1) := by decide +kernel
theorem dX11_state_17 : decode cX11_state 17 = .ok (.getfield 19, 3) := by decide +kernel
theorem dX11_state_20 : decode cX11_state 20 = .ok (.getfield 177, 3) := by decide +kernel
theorem dX11_state_23 : decode cX11_state 23 = .ok (.if_icmp .le 6, 3) := by decide +kernel
theorem dX11_state_26 : decode cX11_state 26 = .ok (.bipush (-2), 2) := by decide +kernel
theorem dX11_state_28 : decode cX11_state 28 = .ok (.ireturn, 1) := by decide +kernel
theorem dX11_state_29 : decode cX11_state 29 = .ok (.aload_n 0, 1) := by decide +kernel
theorem dX11_state_30 : decode cX11_state 30 = .ok (.invokevirtual 159, 3) := by decide +kernel
theorem dX11_state_33 : decode cX11_state 33 = .ok (.aload_n 0, 1) := by decide +kernel
theorem dX11_state_34 : decode cX11_state 34 = .ok (.getfield 19, 3) := by decide +kernel
theorem dX11_state_37 : decode cX11_state 37 = .ok (.iload_n 1, 1) := by decide +kernel
theorem dX11_state_38 : decode cX11_state 38 = .ok (.iload_n 2, 1) := by decide +kernel
theorem dX11_state_39 : decode cX11_state 39 = .ok (.invokevirtual 180, 3) := by decide +kernel
theorem dX11_state_42 : decode cX11_state 42 = .ok (.ireturn, 1) := by decide +kernel
theorem dX11_cards_0 : decode cX11_cards 0 = .ok (.aload_n 0, 1) := by decide +kernel
theorem dX11_cards_1 : decode cX11_cards 1 = .ok (.getfield 19, 3) := by decide +kernel
theorem dX11_cards_4 : decode cX11_cards 4 = .ok (.iload_n 1, 1) := by decide +kernel
theorem dX11_cards_5 : decode cX11_cards 5 = .ok (.invokevirtual 184, 3) := by decide +kernel
theorem dX11_cards_8 : decode cX11_cards 8 = .ok (.ifCond .eq 11, 3) := by decide +kernel
theorem dX11_cards_11 : decode cX11_cards 11 = .ok (.iload_n 2, 1) := by decide +kernel
theorem dX11_cards_12 : decode cX11_cards 12 = .ok (.iconst 3, 1) := by decide +kernel
theorem dX11_cards_13 : decode cX11_cards 13 = .ok (.invokestatic 148, 3) := by decide +kernel
theorem dX11_cards_16 : decode cX11_cards 16 = .ok (.ifCond .ne 6, 3) := by decide +kernel
theorem dX11_cards_19 : decode cX11_cards 19 = .ok (.bipush (-2), 2) := by decide +kernel
theorem dX11_cards_21 : decode cX11_cards 21 = .ok (.ireturn, 1) := by decide +kernel
theorem dX11_cards_22 : decode cX11_cards 22 = .ok (.aload_n 0, 1) := by decide +kernel
theorem dX11_cards_23 : decode cX11_cards 23 = .ok (.invokevirtual 159, 3) := by decide +kernel
theorem dX11_cards_26 : decode cX11_cards 26 = .ok (.aload_n 0, 1) := by decide +kernel
theorem dX11_cards_27 : decode cX11_cards 27 = .ok (.getfield 19, 3) := by decide +kernel
theorem dX11_cards_30 : decode cX11_cards 30 = .ok (.iload_n 1, 1) := by decide +kernel
theorem dX11_cards_31 : decode cX11_cards 31 = .ok (.invokevirtual 187, 3) := by decide +kernel
theorem dX11_cards_34 : decode cX11_cards 34 = .ok (.istore_n 3, 1) := by decide +kernel
theorem dX11_cards_35 : decode cX11_cards 35 = .ok (.aload_n 0, 1) := by decide +kernel
theorem dX11_cards_36 : decode cX11_cards 36 = .ok (.getfield 30, 3) := by decide +kernel
theorem dX11_cards_39 : decode cX11_cards 39 = .ok (.aload_n 0, 1) := by decide +kernel
theorem dX11_cards_40 : decode cX11_cards 40 = .ok (.getfield 19, 3) := by decide +kernel
theorem dX11_cards_43 : decode cX11_cards 43 = .ok (.iload_n 1, 1) := by decide +kernel
theorem dX11_cards_44 : decode cX11_cards 44 = .ok (.invokevirtual 191, 3) := by decide +kernel
theorem dX11_cards_47 : decode cX11_cards 47 = .ok (.istore 4, 2) := by decide +kernel
theorem dX11_cards_49 : decode cX11_cards 49 = .ok (.iload_n 2, 1) := by decide +kernel
theorem dX11_cards_50 : decode cX11_cards 50 = .ok (.ifCond .ne 5, 3) := by decide +kernel
theorem dX11_cards_53 : decode cX11_cards 53 = .ok (.iload_n 3, 1) := by decide +kernel
theorem dX11_cards_54 : decode cX11_cards 54 = .ok (.ireturn, 1) := by decide +kernel
theorem dX11_cards_55 : decode cX11_cards 55 = .ok (.iload_n 2, 1) := by decide +kernel
theorem dX11_cards_56 : decode cX11_cards 56 = .ok (.iconst 1, 1) := by decide +kernel
theorem dX11_cards_57 : decode cX11_cards 57 = .ok (.if_icmp .ne 8, 3) := by decide +kernel
theorem dX11_cards_60 : decode cX11_cards 60 = .ok (.iload 4, 2) := by decide +kernel
theorem dX11_cards_62 : decode cX11_cards 62 = .ok (.goto 7, 3) := by decide +kernel
theorem dX11_cards_65 : decode cX11_cards 65 = .ok (.iload_n 3, 1) := by decide +kernel
theorem dX11_cards_66 : decode cX11_cards 66 = .ok (.iload 4, 2) := by decide +kernel
theorem dX11_cards_68 : decode cX11_cards 68 = .ok (.isub, 1) := by decide +kernel
theorem dX11_cards_69 : decode cX11_cards 69 = .ok (.ireturn, 1) := by decide +kernel
theorem dX11_list_0 : decode cX11_list 0 = .ok (.aload_n 0, 1) := by decide +kernel
theorem dX11_list_1 : decode cX11_list 1 = .ok (.getfield 19, 3) := by decide +kernel
theorem dX11_list_4 : decode cX11_list 4 = .ok (.iload_n 1, 1) := by decide +kernel
theorem dX11_list_5 : decode cX11_list 5 = .ok (.invokevirtual 115, 3) := by decide +kernel
theorem dX11_list_8 : decode cX11_list 8 = .ok (.ifCond .eq 14, 3) := by decide +kernel
theorem dX11_list_11 : decode cX11_list 11 = .ok (.aload_n 0, 1) := by decide +kernel
theorem dX11_list_12 : decode cX11_list 12 = .ok (.getfield 19, 3) := by decide +kernel
theorem dX11_list_15 : decode cX11_list 15 = .ok (.iload_n 2, 1) := by decide +kernel
theorem dX11_list_16 : decode cX11_list 16 = .ok (.invokevirtual 184, 3) := by decide +kernel
theorem dX11_list_19 : decode cX11_list 19 = .ok (.ifCond .ne 6, 3) := by decide +kernel
theorem dX11_list_22 : decode cX11_list 22 = .ok (.bipush (-2), 2) := by decide +kernel
theorem dX11_list_24 : decode cX11_list 24 = .ok (.ireturn, 1) := by decide +kernel
theorem dX11_list_25 : decode cX11_list 25 = .ok (.aload_n 0, 1) := by decide +kernel
theorem dX11_list_26 : decode cX11_list 26 = .ok (.invokevirtual 159, 3) := by decide +kernel
theorem dX11_list_29 : decode cX11_list 29 = .ok (.astore_n 3, 1) := by decide +kernel
theorem dX11_list_30 : decode cX11_list 30 = .ok (.iconst 0, 1) := by decide +kernel
theorem dX11_list_31 : decode cX11_list 31 = .ok (.istore 4, 2) := by decide +kernel
theorem dX11_list_33 : decode cX11_list 33 = .ok (.iconst 0, 1) := by decide +kernel
theorem dX11_list_34 : decode cX11_list 34 = .ok (.istore 5, 2) := by decide +kernel
theorem dX11_list_36 : decode cX11_list 36 = .ok (.iload 5, 2) := by decide +kernel
theorem dX11_list_38 : decode cX11_list 38 = .ok (.iconst 2, 1) := by decide +kernel
theorem dX11_list_39 : decode cX11_list 39 = .ok (.aload_n 0, 1) := by decide +kernel
theorem dX11_list_40 : decode cX11_list 40 = .ok (.getfield 19, 3) := by decide +kernel
theorem dX11_list_43 : decode cX11_list 43 = .ok (.getfield 194, 3) := by decide +kernel
theorem dX11_list_46 : decode cX11_list 46 = .ok (.imul, 1) := by decide +kernel
theorem dX11_list_47 : decode cX11_list 47 = .ok (.if_icmp .ge 39, 3) := by decide +kernel
theorem dX11_list_50 : decode cX11_list 50 = .ok (.aload_n 0, 1) := by decide +kernel
theorem dX11_list_51 : decode cX11_list 51 = .ok (.getfield 19, 3) := by decide +kernel
theorem dX11_list_54 : decode cX11_list 54 = .ok (.getfield 138, 3) := by decide +kernel
theorem dX11_list_57 : decode cX11_list 57 = .ok (.iload 5, 2) := by decide +kernel
theorem dX11_list_59 : decode cX11_list 59 = .ok (.iaload, 1) := by decide +kernel
theorem dX11_list_60 : decode cX11_list 60 = .ok (.iload_n 1, 1) := by decide +kernel
theorem dX11_list_61 : decode cX11_list 61 = .ok (.if_icmp .ne 19, 3) := by decide +kernel
theorem dX11_list_64 : decode cX11_list 64 = .ok (.aload_n 3, 1) := by decide +kernel
theorem dX11_list_65 : decode cX11_list 65 = .ok (.iload 5, 2) := by decide +kernel
theorem dX11_list_67 : decode cX11_list 67 = .ok (.invokevirtual 197, 3) := by decide +kernel
theorem dX11_list_70 : decode cX11_list 70 = .ok (.iload_n 2, 1) := by decide +kernel
theorem dX11_list_71 : decode cX11_list 71 = .ok (.invokestatic 167, 3) := by decide +kernel
theorem dX11_list_74 : decode cX11_list 74 = .ok (.ifCond .eq 6, 3) := by decide +kernel
theorem dX11_list_77 : decode cX11_list 77 = .ok (.iinc 4 1, 3) := by decide +kernel
theorem dX11_list_80 : decode cX11_list 80 = .ok (.iinc 5 1, 3) := by decide +kernel
theorem dX11_list_83 : decode cX11_list 83 = .ok (.goto (-47), 3) := by decide +kernel
theorem dX11_list_86 : decode cX11_list 86 = .ok (.iload 4, 2) := by decide +kernel
theorem dX11_list_88 : decode cX11_list 88 = .ok (.ireturn, 1) := by decide +kernel
