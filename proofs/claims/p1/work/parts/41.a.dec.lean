theorem dX12_person_0 : decode cX12_person 0 = .ok (.aload_n 0, 1) := by decide +kernel
theorem dX12_person_1 : decode cX12_person 1 = .ok (.iconst 0, 1) := by decide +kernel
theorem dX12_person_2 : decode cX12_person 2 = .ok (.putfield 107, 3) := by decide +kernel
theorem dX12_person_5 : decode cX12_person 5 = .ok (.aload_n 0, 1) := by decide +kernel
theorem dX12_person_6 : decode cX12_person 6 = .ok (.iload_n 1, 1) := by decide +kernel
theorem dX12_person_7 : decode cX12_person 7 = .ok (.invokevirtual 276, 3) := by decide +kernel
theorem dX12_person_10 : decode cX12_person 10 = .ok (.ifCond .eq 24, 3) := by decide +kernel
theorem dX12_person_34 : decode cX12_person 34 = .ok (.bipush (-2), 2) := by decide +kernel
theorem dX12_person_36 : decode cX12_person 36 = .ok (.ireturn, 1) := by decide +kernel
theorem dX12_pair_0 : decode cX12_pair 0 = .ok (.aload_n 0, 1) := by decide +kernel
theorem dX12_pair_1 : decode cX12_pair 1 = .ok (.iconst 0, 1) := by decide +kernel
theorem dX12_pair_2 : decode cX12_pair 2 = .ok (.putfield 107, 3) := by decide +kernel
theorem dX12_pair_5 : decode cX12_pair 5 = .ok (.aload_n 0, 1) := by decide +kernel
theorem dX12_pair_6 : decode cX12_pair 6 = .ok (.iload_n 1, 1) := by decide +kernel
theorem dX12_pair_7 : decode cX12_pair 7 = .ok (.invokevirtual 281, 3) := by decide +kernel
theorem dX12_pair_10 : decode cX12_pair 10 = .ok (.ifCond .eq 28, 3) := by decide +kernel
theorem dX12_pair_38 : decode cX12_pair 38 = .ok (.bipush (-2), 2) := by decide +kernel
theorem dX12_pair_40 : decode cX12_pair 40 = .ok (.ireturn, 1) := by decide +kernel
theorem dX12_of_0 : decode cX12_of 0 = .ok (.aload_n 0, 1) := by decide +kernel
theorem dX12_of_1 : decode cX12_of 1 = .ok (.iconst 0, 1) := by decide +kernel
theorem dX12_of_2 : decode cX12_of 2 = .ok (.putfield 107, 3) := by decide +kernel
theorem dX12_of_5 : decode cX12_of 5 = .ok (.aload_n 0, 1) := by decide +kernel
theorem dX12_of_6 : decode cX12_of 6 = .ok (.iload_n 1, 1) := by decide +kernel
theorem dX12_of_7 : decode cX12_of 7 = .ok (.invokevirtual 276, 3) := by decide +kernel
theorem dX12_of_10 : decode cX12_of 10 = .ok (.ifCond .eq 26, 3) := by decide +kernel
theorem dX12_of_36 : decode cX12_of 36 = .ok (.bipush (-2), 2) := by decide +kernel
theorem dX12_of_38 : decode cX12_of 38 = .ok (.ireturn, 1) := by decide +kernel
theorem dX12_sends_0 : decode cX12_sends 0 = .ok (.aload_n 0, 1) := by decide +kernel
theorem dX12_sends_1 : decode cX12_sends 1 = .ok (.iconst 0, 1) := by decide +kernel
theorem dX12_sends_2 : decode cX12_sends 2 = .ok (.putfield 107, 3) := by decide +kernel
theorem dX12_sends_5 : decode cX12_sends 5 = .ok (.aload_n 0, 1) := by decide +kernel
theorem dX12_sends_6 : decode cX12_sends 6 = .ok (.iload_n 1, 1) := by decide +kernel
theorem dX12_sends_7 : decode cX12_sends 7 = .ok (.invokevirtual 281, 3) := by decide +kernel
theorem dX12_sends_10 : decode cX12_sends 10 = .ok (.ifCond .eq 19, 3) := by decide +kernel
theorem dX12_sends_29 : decode cX12_sends 29 = .ok (.bipush (-2), 2) := by decide +kernel
theorem dX12_sends_31 : decode cX12_sends 31 = .ok (.ireturn, 1) := by decide +kernel
theorem dX12_got_0 : decode cX12_got 0 = .ok (.aload_n 0, 1) := by decide +kernel
theorem dX12_got_1 : decode cX12_got 1 = .ok (.iconst 0, 1) := by decide +kernel
theorem dX12_got_2 : decode cX12_got 2 = .ok (.putfield 107, 3) := by decide +kernel
theorem dX12_got_5 : decode cX12_got 5 = .ok (.aload_n 0, 1) := by decide +kernel
theorem dX12_got_6 : decode cX12_got 6 = .ok (.iload_n 1, 1) := by decide +kernel
theorem dX12_got_7 : decode cX12_got 7 = .ok (.invokevirtual 281, 3) := by decide +kernel
theorem dX12_got_10 : decode cX12_got 10 = .ok (.ifCond .eq 19, 3) := by decide +kernel
theorem dX12_got_29 : decode cX12_got 29 = .ok (.bipush (-2), 2) := by decide +kernel
theorem dX12_got_31 : decode cX12_got 31 = .ok (.ireturn, 1) := by decide +kernel
theorem dX12_state_0 : decode cX12_state 0 = .ok (.aload_n 0, 1) := by decide +kernel
theorem dX12_state_1 : decode cX12_state 1 = .ok (.iconst 0, 1) := by decide +kernel
theorem dX12_state_2 : decode cX12_state 2 = .ok (.putfield 107, 3) := by decide +kernel
theorem dX12_state_5 : decode cX12_state 5 = .ok (.aload_n 0, 1) := by decide +kernel
theorem dX12_state_6 : decode cX12_state 6 = .ok (.iload_n 1, 1) := by decide +kernel
theorem dX12_state_7 : decode cX12_state 7 = .ok (.invokevirtual 281, 3) := by decide +kernel
theorem dX12_state_10 : decode cX12_state 10 = .ok (.ifCond .eq 19, 3) := by decide +kernel
theorem dX12_state_29 : decode cX12_state 29 = .ok (.bipush (-2), 2) := by decide +kernel
theorem dX12_state_31 : decode cX12_state 31 = .ok (.ireturn, 1) := by decide +kernel
theorem dX12_cards_0 : decode cX12_cards 0 = .ok (.aload_n 0, 1) := by decide +kernel
theorem dX12_cards_1 : decode cX12_cards 1 = .ok (.iconst 0, 1) := by decide +kernel
theorem dX12_cards_2 : decode cX12_cards 2 = .ok (.putfield 107, 3) := by decide +kernel
theorem dX12_cards_5 : decode cX12_cards 5 = .ok (.aload_n 0, 1) := by decide +kernel
theorem dX12_cards_6 : decode cX12_cards 6 = .ok (.iload_n 1, 1) := by decide +kernel
theorem dX12_cards_7 : decode cX12_cards 7 = .ok (.i2l, 1) := by decide +kernel
theorem dX12_cards_8 : decode cX12_cards 8 = .ok (.invokevirtual 343, 3) := by decide +kernel
theorem dX12_cards_11 : decode cX12_cards 11 = .ok (.ifCond .eq 15, 3) := by decide +kernel
theorem dX12_cards_26 : decode cX12_cards 26 = .ok (.bipush (-2), 2) := by decide +kernel
theorem dX12_cards_28 : decode cX12_cards 28 = .ok (.ireturn, 1) := by decide +kernel
theorem dX12_list_0 : decode cX12_list 0 = .ok (.aload_n 0, 1) := by decide +kernel
theorem dX12_list_1 : decode cX12_list 1 = .ok (.iconst 0, 1) := by decide +kernel
theorem dX12_list_2 : decode cX12_list 2 = .ok (.putfield 107, 3) := by decide +kernel
theorem dX12_list_5 : decode cX12_list 5 = .ok (.aload_n 0, 1) := by decide +kernel
theorem dX12_list_6 : decode cX12_list 6 = .ok (.iload_n 1, 1) := by decide +kernel
theorem dX12_list_7 : decode cX12_list 7 = .ok (.invokevirtual 276, 3) := by decide +kernel
theorem dX12_list_10 : decode cX12_list 10 = .ok (.ifCond .eq 12, 3) := by decide +kernel
theorem dX12_list_22 : decode cX12_list 22 = .ok (.bipush (-2), 2) := by decide +kernel
theorem dX12_list_24 : decode cX12_list 24 = .ok (.ireturn, 1) := by decide +kernel
theorem dX12_mantel_0 : decode cX12_mantel 0 = .ok (.aload_n 0, 1) := by decide +kernel
theorem dX12_mantel_1 : decode cX12_mantel 1 = .ok (.iconst 0, 1) := by decide +kernel
theorem dX12_mantel_2 : decode cX12_mantel 2 = .ok (.putfield 107, 3) := by decide +kernel
theorem dX12_mantel_5 : decode cX12_mantel 5 = .ok (.aload_n 0, 1) := by decide +kernel
theorem dX12_mantel_6 : decode cX12_mantel 6 = .ok (.iload_n 1, 1) := by decide +kernel
theorem dX12_mantel_7 : decode cX12_mantel 7 = .ok (.invokevirtual 276, 3) := by decide +kernel
theorem dX12_mantel_10 : decode cX12_mantel 10 = .ok (.ifCond .eq 12, 3) := by decide +kernel
theorem dX12_mantel_22 : decode cX12_mantel 22 = .ok (.bipush (-2), 2) := by decide +kernel
theorem dX12_mantel_24 : decode cX12_mantel 24 = .ok (.ireturn, 1) := by decide +kernel
theorem dX12_whose_0 : decode cX12_whose 0 = .ok (.aload_n 0, 1) := by decide +kernel
theorem dX12_whose_1 : decode cX12_whose 1 = .ok (.iconst 0, 1) := by decide +kernel
theorem dX12_whose_2 : decode cX12_whose 2 = .ok (.putfield 107, 3) := by decide +kernel
theorem dX12_whose_5 : decode cX12_whose 5 = .ok (.aload_n 0, 1) := by decide +kernel
theorem dX12_whose_6 : decode cX12_whose 6 = .ok (.iload_n 1, 1) := by decide +kernel
theorem dX12_whose_7 : decode cX12_whose 7 = .ok (.invokevirtual 276, 3) := by decide +kernel
theorem dX12_whose_10 : decode cX12_whose 10 = .ok (.ifCond .eq 12, 3) := by decide +kernel
theorem dX12_whose_22 : decode cX12_whose 22 = .ok (.bipush (-2), 2) := by decide +kernel
theorem dX12_whose_24 : decode cX12_whose 24 = .ok (.ireturn, 1) := by decide +kernel
theorem dX12_hurts_0 : decode cX12_hurts 0 = .ok (.aload_n 0, 1) := by decide +kernel
theorem dX12_hurts_1 : decode cX12_hurts 1 = .ok (.iconst 0, 1) := by decide +kernel
theorem dX12_hurts_2 : decode cX12_hurts 2 = .ok (.putfield 107, 3) := by decide +kernel
theorem dX12_hurts_5 : decode cX12_hurts 5 = .ok (.aload_n 0, 1) := by decide +kernel
theorem dX12_hurts_6 : decode cX12_hurts 6 = .ok (.iload_n 1, 1) := by decide +kernel
theorem dX12_hurts_7 : decode cX12_hurts 7 = .ok (.invokevirtual 276, 3) := by decide +kernel
theorem dX12_hurts_10 : decode cX12_hurts 10 = .ok (.ifCond .eq 13, 3) := by decide +kernel
theorem dX12_hurts_23 : decode cX12_hurts 23 = .ok (.bipush (-2), 2) := by decide +kernel
theorem dX12_hurts_25 : decode cX12_hurts 25 = .ok (.ireturn, 1) := by decide +kernel
theorem dX12_cost_0 : decode cX12_cost 0 = .ok (.aload_n 0, 1) := by decide +kernel
theorem dX12_cost_1 : decode cX12_cost 1 = .ok (.iconst 0, 1) := by decide +kernel
theorem dX12_cost_2 : decode cX12_cost 2 = .ok (.putfield 107, 3) := by decide +kernel
theorem dX12_cost_5 : decode cX12_cost 5 = .ok (.aload_n 0, 1) := by decide +kernel
theorem dX12_cost_6 : decode cX12_cost 6 = .ok (.iload_n 1, 1) := by decide +kernel
theorem dX12_cost_7 : decode cX12_cost 7 = .ok (.invokevirtual 276, 3) := by decide +kernel
theorem dX12_cost_10 : decode cX12_cost 10 = .ok (.ifCond .ne 6, 3) := by decide +kernel
theorem dX12_cost_13 : decode cX12_cost 13 = .ok (.bipush (-2), 2) := by decide +kernel
theorem dX12_cost_15 : decode cX12_cost 15 = .ok (.ireturn, 1) := by decide +kernel
theorem dX12_dearest_0 : decode cX12_dearest 0 = .ok (.aload_n 0, 1) := by decide +kernel
theorem dX12_dearest_1 : decode cX12_dearest 1 = .ok (.iconst 0, 1) := by decide +kernel
theorem dX12_dearest_2 : decode cX12_dearest 2 = .ok (.putfield 107, 3) := by decide +kernel
theorem dX12_dearest_5 : decode cX12_dearest 5 = .ok (.aload_n 0, 1) := by decide +kernel
theorem dX12_dearest_6 : decode cX12_dearest 6 = .ok (.invokevirtual 373, 3) := by decide +kernel
theorem dX12_dearest_9 : decode cX12_dearest 9 = .ok (.ifCond .ne 6, 3) := by decide +kernel
theorem dX12_dearest_12 : decode cX12_dearest 12 = .ok (.bipush (-2), 2) := by decide +kernel
theorem dX12_dearest_14 : decode cX12_dearest 14 = .ok (.ireturn, 1) := by decide +kernel
theorem dX12_last_0 : decode cX12_last 0 = .ok (.aload_n 0, 1) := by decide +kernel
theorem dX12_last_1 : decode cX12_last 1 = .ok (.iconst 0, 1) := by decide +kernel
theorem dX12_last_2 : decode cX12_last 2 = .ok (.putfield 107, 3) := by decide +kernel
theorem dX12_last_5 : decode cX12_last 5 = .ok (.aload_n 0, 1) := by decide +kernel
theorem dX12_last_6 : decode cX12_last 6 = .ok (.iload_n 1, 1) := by decide +kernel
theorem dX12_last_7 : decode cX12_last 7 = .ok (.invokevirtual 281, 3) := by decide +kernel
theorem dX12_last_10 : decode cX12_last 10 = .ok (.ifCond .ne 6, 3) := by decide +kernel
theorem dX12_last_13 : decode cX12_last 13 = .ok (.bipush (-2), 2) := by decide +kernel
theorem dX12_last_15 : decode cX12_last 15 = .ok (.ireturn, 1) := by decide +kernel
theorem dX12_over_0 : decode cX12_over 0 = .ok (.aload_n 0, 1) := by decide +kernel
theorem dX12_over_1 : decode cX12_over 1 = .ok (.iconst 0, 1) := by decide +kernel
theorem dX12_over_2 : decode cX12_over 2 = .ok (.putfield 107, 3) := by decide +kernel
theorem dX12_over_5 : decode cX12_over 5 = .ok (.aload_n 0, 1) := by decide +kernel
theorem dX12_over_6 : decode cX12_over 6 = .ok (.invokevirtual 373, 3) := by decide +kernel
theorem dX12_over_9 : decode cX12_over 9 = .ok (.ifCond .ne 6, 3) := by decide +kernel
theorem dX12_over_12 : decode cX12_over 12 = .ok (.bipush (-2), 2) := by decide +kernel
theorem dX12_over_14 : decode cX12_over 14 = .ok (.ireturn, 1) := by decide +kernel
theorem dX12_poorest_0 : decode cX12_poorest 0 = .ok (.aload_n 0, 1) := by decide +kernel
theorem dX12_poorest_1 : decode cX12_poorest 1 = .ok (.iconst 0, 1) := by decide +kernel
theorem dX12_poorest_2 : decode cX12_poorest 2 = .ok (.putfield 107, 3) := by decide +kernel
theorem dX12_poorest_5 : decode cX12_poorest 5 = .ok (.aload_n 0, 1) := by decide +kernel
theorem dX12_poorest_6 : decode cX12_poorest 6 = .ok (.invokevirtual 373, 3) := by decide +kernel
theorem dX12_poorest_9 : decode cX12_poorest 9 = .ok (.ifCond .ne 6, 3) := by decide +kernel
theorem dX12_poorest_12 : decode cX12_poorest 12 = .ok (.bipush (-2), 2) := by decide +kernel
theorem dX12_poorest_14 : decode cX12_poorest 14 = .ok (.ireturn, 1) := by decide +kernel
theorem dX12_odds_0 : decode cX12_odds 0 = .ok (.aload_n 0, 1) := by decide +kernel
theorem dX12_odds_1 : decode cX12_odds 1 = .ok (.iconst 0, 1) := by decide +kernel
theorem dX12_odds_2 : decode cX12_odds 2 = .ok (.putfield 107, 3) := by decide +kernel
theorem dX12_odds_5 : decode cX12_odds 5 = .ok (.aload_n 0, 1) := by decide +kernel
theorem dX12_odds_6 : decode cX12_odds 6 = .ok (.iload_n 1, 1) := by decide +kernel
theorem dX12_odds_7 : decode cX12_odds 7 = .ok (.invokevirtual 281, 3) := by decide +kernel
theorem dX12_odds_10 : decode cX12_odds 10 = .ok (.ifCond .ne 6, 3) := by decide +kernel
theorem dX12_odds_13 : decode cX12_odds 13 = .ok (.bipush (-100), 2) := by decide +kernel
theorem dX12_odds_15 : decode cX12_odds 15 = .ok (.ireturn, 1) := by decide +kernel
theorem dX12_streak_0 : decode cX12_streak 0 = .ok (.aload_n 0, 1) := by decide +kernel
theorem dX12_streak_1 : decode cX12_streak 1 = .ok (.iconst 0, 1) := by decide +kernel
theorem dX12_streak_2 : decode cX12_streak 2 = .ok (.putfield 107, 3) := by decide +kernel
theorem dX12_streak_5 : decode cX12_streak 5 = .ok (.aload_n 0, 1) := by decide +kernel
theorem dX12_streak_6 : decode cX12_streak 6 = .ok (.iload_n 1, 1) := by decide +kernel
theorem dX12_streak_7 : decode cX12_streak 7 = .ok (.invokevirtual 281, 3) := by decide +kernel
theorem dX12_streak_10 : decode cX12_streak 10 = .ok (.ifCond .eq 13, 3) := by decide +kernel
theorem dX12_streak_23 : decode cX12_streak 23 = .ok (.bipush (-2), 2) := by decide +kernel
theorem dX12_streak_25 : decode cX12_streak 25 = .ok (.ireturn, 1) := by decide +kernel
theorem dX12_goes__0 : decode cX12_goes_ 0 = .ok (.aload_n 0, 1) := by decide +kernel
theorem dX12_goes__1 : decode cX12_goes_ 1 = .ok (.iconst 0, 1) := by decide +kernel
theorem dX12_goes__2 : decode cX12_goes_ 2 = .ok (.putfield 107, 3) := by decide +kernel
theorem dX12_goes__5 : decode cX12_goes_ 5 = .ok (.aload_n 0, 1) := by decide +kernel
theorem dX12_goes__6 : decode cX12_goes_ 6 = .ok (.iload_n 1, 1) := by decide +kernel
theorem dX12_goes__7 : decode cX12_goes_ 7 = .ok (.invokevirtual 281, 3) := by decide +kernel
theorem dX12_goes__10 : decode cX12_goes_ 10 = .ok (.ifCond .eq 15, 3) := by decide +kernel
theorem dX12_goes__25 : decode cX12_goes_ 25 = .ok (.bipush (-2), 2) := by decide +kernel
theorem dX12_goes__27 : decode cX12_goes_ 27 = .ok (.ireturn, 1) := by decide +kernel
theorem dX12_lost_0 : decode cX12_lost 0 = .ok (.aload_n 0, 1) := by decide +kernel
theorem dX12_lost_1 : decode cX12_lost 1 = .ok (.iconst 0, 1) := by decide +kernel
theorem dX12_lost_2 : decode cX12_lost 2 = .ok (.putfield 107, 3) := by decide +kernel
theorem dX12_lost_5 : decode cX12_lost 5 = .ok (.aload_n 0, 1) := by decide +kernel
theorem dX12_lost_6 : decode cX12_lost 6 = .ok (.iload_n 1, 1) := by decide +kernel
theorem dX12_lost_7 : decode cX12_lost 7 = .ok (.invokevirtual 281, 3) := by decide +kernel
theorem dX12_lost_10 : decode cX12_lost 10 = .ok (.ifCond .eq 19, 3) := by decide +kernel
theorem dX12_lost_29 : decode cX12_lost 29 = .ok (.bipush (-2), 2) := by decide +kernel
theorem dX12_lost_31 : decode cX12_lost 31 = .ok (.ireturn, 1) := by decide +kernel
theorem dX12_back_0 : decode cX12_back 0 = .ok (.aload_n 0, 1) := by decide +kernel
theorem dX12_back_1 : decode cX12_back 1 = .ok (.iconst 0, 1) := by decide +kernel
theorem dX12_back_2 : decode cX12_back 2 = .ok (.putfield 107, 3) := by decide +kernel
theorem dX12_back_5 : decode cX12_back 5 = .ok (.aload_n 0, 1) := by decide +kernel
theorem dX12_back_6 : decode cX12_back 6 = .ok (.iload_n 1, 1) := by decide +kernel
theorem dX12_back_7 : decode cX12_back 7 = .ok (.invokevirtual 281, 3) := by decide +kernel
theorem dX12_back_10 : decode cX12_back 10 = .ok (.ifCond .eq 10, 3) := by decide +kernel
theorem dX12_back_20 : decode cX12_back 20 = .ok (.bipush (-2), 2) := by decide +kernel
theorem dX12_back_22 : decode cX12_back 22 = .ok (.ireturn, 1) := by decide +kernel
theorem dX12_strike_0 : decode cX12_strike 0 = .ok (.aload_n 0, 1) := by decide +kernel
theorem dX12_strike_1 : decode cX12_strike 1 = .ok (.iconst 0, 1) := by decide +kernel
theorem dX12_strike_2 : decode cX12_strike 2 = .ok (.putfield 107, 3) := by decide +kernel
theorem dX12_strike_5 : decode cX12_strike 5 = .ok (.aload_n 0, 1) := by decide +kernel
theorem dX12_strike_6 : decode cX12_strike 6 = .ok (.iload_n 1, 1) := by decide +kernel
theorem dX12_strike_7 : decode cX12_strike 7 = .ok (.i2l, 1) := by decide +kernel
theorem dX12_strike_8 : decode cX12_strike 8 = .ok (.invokevirtual 343, 3) := by decide +kernel
theorem dX12_strike_11 : decode cX12_strike 11 = .ok (.ifCond .ne 6, 3) := by decide +kernel
theorem dX12_strike_14 : decode cX12_strike 14 = .ok (.bipush (-2), 2) := by decide +kernel
theorem dX12_strike_16 : decode cX12_strike 16 = .ok (.ireturn, 1) := by decide +kernel
theorem dX12_saves_0 : decode cX12_saves 0 = .ok (.aload_n 0, 1) := by decide +kernel
theorem dX12_saves_1 : decode cX12_saves 1 = .ok (.iconst 0, 1) := by decide +kernel
theorem dX12_saves_2 : decode cX12_saves 2 = .ok (.putfield 107, 3) := by decide +kernel
theorem dX12_saves_5 : decode cX12_saves 5 = .ok (.aload_n 0, 1) := by decide +kernel
theorem dX12_saves_6 : decode cX12_saves 6 = .ok (.iload_n 1, 1) := by decide +kernel
theorem dX12_saves_7 : decode cX12_saves 7 = .ok (.i2l, 1) := by decide +kernel
theorem dX12_saves_8 : decode cX12_saves 8 = .ok (.invokevirtual 343, 3) := by decide +kernel
theorem dX12_saves_11 : decode cX12_saves 11 = .ok (.ifCond .ne 6, 3) := by decide +kernel
theorem dX12_saves_14 : decode cX12_saves 14 = .ok (.bipush (-2), 2) := by decide +kernel
theorem dX12_saves_16 : decode cX12_saves 16 = .ok (.ireturn, 1) := by decide +kernel
theorem dX12_mildest_0 : decode cX12_mildest 0 = .ok (.aload_n 0, 1) := by decide +kernel
theorem dX12_mildest_1 : decode cX12_mildest 1 = .ok (.iconst 0, 1) := by decide +kernel
theorem dX12_mildest_2 : decode cX12_mildest 2 = .ok (.putfield 107, 3) := by decide +kernel
theorem dX12_mildest_5 : decode cX12_mildest 5 = .ok (.aload_n 0, 1) := by decide +kernel
theorem dX12_mildest_6 : decode cX12_mildest 6 = .ok (.invokevirtual 373, 3) := by decide +kernel
theorem dX12_mildest_9 : decode cX12_mildest 9 = .ok (.ifCond .ne 6, 3) := by decide +kernel
theorem dX12_mildest_12 : decode cX12_mildest 12 = .ok (.bipush (-2), 2) := by decide +kernel
theorem dX12_mildest_14 : decode cX12_mildest 14 = .ok (.ireturn, 1) := by decide +kernel
theorem dX12_alive_0 : decode cX12_alive 0 = .ok (.aload_n 0, 1) := by decide +kernel
theorem dX12_alive_1 : decode cX12_alive 1 = .ok (.iconst 0, 1) := by decide +kernel
theorem dX12_alive_2 : decode cX12_alive 2 = .ok (.putfield 107, 3) := by decide +kernel
theorem dX12_alive_5 : decode cX12_alive 5 = .ok (.aload_n 0, 1) := by decide +kernel
theorem dX12_alive_6 : decode cX12_alive 6 = .ok (.iload_n 1, 1) := by decide +kernel
theorem dX12_alive_7 : decode cX12_alive 7 = .ok (.iload_n 2, 1) := by decide +kernel
theorem dX12_alive_8 : decode cX12_alive 8 = .ok (.iload_n 3, 1) := by decide +kernel
theorem dX12_alive_9 : decode cX12_alive 9 = .ok (.invokevirtual 457, 3) := by decide +kernel
theorem dX12_alive_12 : decode cX12_alive 12 = .ok (.ifCond .ne 7, 3) := by decide +kernel
theorem dX12_alive_15 : decode cX12_alive 15 = .ok (.ldc2_w 460, 3) := by decide +kernel
theorem dX12_alive_18 : decode cX12_alive 18 = .ok (.lreturn, 1) := by decide +kernel
theorem dX12_both_0 : decode cX12_both 0 = .ok (.aload_n 0, 1) := by decide +kernel
theorem dX12_both_1 : decode cX12_both 1 = .ok (.iconst 0, 1) := by decide +kernel
theorem dX12_both_2 : decode cX12_both 2 = .ok (.putfield 107, 3) := by decide +kernel
theorem dX12_both_5 : decode cX12_both 5 = .ok (.aload_n 0, 1) := by decide +kernel
theorem dX12_both_6 : decode cX12_both 6 = .ok (.iload_n 1, 1) := by decide +kernel
theorem dX12_both_7 : decode cX12_both 7 = .ok (.iload_n 2, 1) := by decide +kernel
theorem dX12_both_8 : decode cX12_both 8 = .ok (.iload_n 3, 1) := by decide +kernel
theorem dX12_both_9 : decode cX12_both 9 = .ok (.invokevirtual 457, 3) := by decide +kernel
theorem dX12_both_12 : decode cX12_both 12 = .ok (.ifCond .ne 7, 3) := by decide +kernel
theorem dX12_both_15 : decode cX12_both 15 = .ok (.ldc2_w 460, 3) := by decide +kernel
theorem dX12_both_18 : decode cX12_both 18 = .ok (.lreturn, 1) := by decide +kernel
theorem dX12_mean_0 : decode cX12_mean 0 = .ok (.aload_n 0, 1) := by decide +kernel
theorem dX12_mean_1 : decode cX12_mean 1 = .ok (.iconst 0, 1) := by decide +kernel
theorem dX12_mean_2 : decode cX12_mean 2 = .ok (.putfield 107, 3) := by decide +kernel
theorem dX12_mean_5 : decode cX12_mean 5 = .ok (.aload_n 0, 1) := by decide +kernel
theorem dX12_mean_6 : decode cX12_mean 6 = .ok (.iload_n 1, 1) := by decide +kernel
theorem dX12_mean_7 : decode cX12_mean 7 = .ok (.iload_n 2, 1) := by decide +kernel
theorem dX12_mean_8 : decode cX12_mean 8 = .ok (.iload_n 3, 1) := by decide +kernel
theorem dX12_mean_9 : decode cX12_mean 9 = .ok (.invokevirtual 457, 3) := by decide +kernel
theorem dX12_mean_12 : decode cX12_mean 12 = .ok (.ifCond .ne 7, 3) := by decide +kernel
theorem dX12_mean_15 : decode cX12_mean 15 = .ok (.ldc2_w 460, 3) := by decide +kernel
theorem dX12_mean_18 : decode cX12_mean 18 = .ok (.lreturn, 1) := by decide +kernel
theorem dX12_ending_0 : decode cX12_ending 0 = .ok (.aload_n 0, 1) := by decide +kernel
theorem dX12_ending_1 : decode cX12_ending 1 = .ok (.iconst 0, 1) := by decide +kernel
theorem dX12_ending_2 : decode cX12_ending 2 = .ok (.putfield 107, 3) := by decide +kernel
theorem dX12_ending_5 : decode cX12_ending 5 = .ok (.aload_n 0, 1) := by decide +kernel
theorem dX12_ending_6 : decode cX12_ending 6 = .ok (.iload_n 1, 1) := by decide +kernel
theorem dX12_ending_7 : decode cX12_ending 7 = .ok (.iload_n 2, 1) := by decide +kernel
theorem dX12_ending_8 : decode cX12_ending 8 = .ok (.iload_n 3, 1) := by decide +kernel
theorem dX12_ending_9 : decode cX12_ending 9 = .ok (.invokevirtual 487, 3) := by decide +kernel
theorem dX12_ending_12 : decode cX12_ending 12 = .ok (.ifCond .eq 14, 3) := by decide +kernel
theorem dX12_ending_26 : decode cX12_ending 26 = .ok (.bipush (-2), 2) := by decide +kernel
theorem dX12_ending_28 : decode cX12_ending 28 = .ok (.ireturn, 1) := by decide +kernel
theorem dX12_step_0 : decode cX12_step 0 = .ok (.aload_n 0, 1) := by decide +kernel
theorem dX12_step_1 : decode cX12_step 1 = .ok (.iconst 0, 1) := by decide +kernel
theorem dX12_step_2 : decode cX12_step 2 = .ok (.putfield 107, 3) := by decide +kernel
theorem dX12_step_5 : decode cX12_step 5 = .ok (.aload_n 0, 1) := by decide +kernel
theorem dX12_step_6 : decode cX12_step 6 = .ok (.iload_n 1, 1) := by decide +kernel
theorem dX12_step_7 : decode cX12_step 7 = .ok (.iload_n 2, 1) := by decide +kernel
theorem dX12_step_8 : decode cX12_step 8 = .ok (.iload_n 3, 1) := by decide +kernel
theorem dX12_step_9 : decode cX12_step 9 = .ok (.invokevirtual 487, 3) := by decide +kernel
theorem dX12_step_12 : decode cX12_step 12 = .ok (.ifCond .eq 16, 3) := by decide +kernel
theorem dX12_step_28 : decode cX12_step 28 = .ok (.bipush (-2), 2) := by decide +kernel
theorem dX12_step_30 : decode cX12_step 30 = .ok (.ireturn, 1) := by decide +kernel
theorem dX12_keeping_0 : decode cX12_keeping 0 = .ok (.aload_n 0, 1) := by decide +kernel
theorem dX12_keeping_1 : decode cX12_keeping 1 = .ok (.iconst 0, 1) := by decide +kernel
theorem dX12_keeping_2 : decode cX12_keeping 2 = .ok (.putfield 107, 3) := by decide +kernel
theorem dX12_keeping_5 : decode cX12_keeping 5 = .ok (.aload_n 0, 1) := by decide +kernel
theorem dX12_keeping_6 : decode cX12_keeping 6 = .ok (.iload_n 1, 1) := by decide +kernel
theorem dX12_keeping_7 : decode cX12_keeping 7 = .ok (.iload_n 2, 1) := by decide +kernel
theorem dX12_keeping_8 : decode cX12_keeping 8 = .ok (.iload_n 3, 1) := by decide +kernel
theorem dX12_keeping_9 : decode cX12_keeping 9 = .ok (.invokevirtual 487, 3) := by decide +kernel
theorem dX12_keeping_12 : decode cX12_keeping 12 = .ok (.ifCond .eq 14, 3) := by decide +kernel
theorem dX12_keeping_26 : decode cX12_keeping 26 = .ok (.bipush (-2), 2) := by decide +kernel
theorem dX12_keeping_28 : decode cX12_keeping 28 = .ok (.ireturn, 1) := by decide +kernel
theorem dX12_pen_0 : decode cX12_pen 0 = .ok (.aload_n 0, 1) := by decide +kernel
theorem dX12_pen_1 : decode cX12_pen 1 = .ok (.iconst 0, 1) := by decide +kernel
theorem dX12_pen_2 : decode cX12_pen 2 = .ok (.putfield 107, 3) := by decide +kernel
theorem dX12_pen_5 : decode cX12_pen 5 = .ok (.aload_n 0, 1) := by decide +kernel
theorem dX12_pen_6 : decode cX12_pen 6 = .ok (.iload_n 1, 1) := by decide +kernel
theorem dX12_pen_7 : decode cX12_pen 7 = .ok (.iload_n 2, 1) := by decide +kernel
theorem dX12_pen_8 : decode cX12_pen 8 = .ok (.iload_n 3, 1) := by decide +kernel
theorem dX12_pen_9 : decode cX12_pen 9 = .ok (.invokevirtual 487, 3) := by decide +kernel
theorem dX12_pen_12 : decode cX12_pen 12 = .ok (.ifCond .eq 16, 3) := by decide +kernel
theorem dX12_pen_28 : decode cX12_pen 28 = .ok (.bipush (-2), 2) := by decide +kernel
theorem dX12_pen_30 : decode cX12_pen 30 = .ok (.ireturn, 1) := by decide +kernel
theorem dX12_quit_0 : decode cX12_quit 0 = .ok (.aload_n 0, 1) := by decide +kernel
theorem dX12_quit_1 : decode cX12_quit 1 = .ok (.iconst 0, 1) := by decide +kernel
theorem dX12_quit_2 : decode cX12_quit 2 = .ok (.putfield 107, 3) := by decide +kernel
theorem dX12_quit_5 : decode cX12_quit 5 = .ok (.aload_n 0, 1) := by decide +kernel
theorem dX12_quit_6 : decode cX12_quit 6 = .ok (.iload_n 1, 1) := by decide +kernel
theorem dX12_quit_7 : decode cX12_quit 7 = .ok (.invokevirtual 281, 3) := by decide +kernel
theorem dX12_quit_10 : decode cX12_quit 10 = .ok (.ifCond .eq 29, 3) := by decide +kernel
theorem dX12_quit_39 : decode cX12_quit 39 = .ok (.bipush (-2), 2) := by decide +kernel
theorem dX12_quit_41 : decode cX12_quit 41 = .ok (.ireturn, 1) := by decide +kernel
theorem dX12_when_0 : decode cX12_when 0 = .ok (.aload_n 0, 1) := by decide +kernel
theorem dX12_when_1 : decode cX12_when 1 = .ok (.iconst 0, 1) := by decide +kernel
theorem dX12_when_2 : decode cX12_when 2 = .ok (.putfield 107, 3) := by decide +kernel
theorem dX12_when_5 : decode cX12_when 5 = .ok (.aload_n 0, 1) := by decide +kernel
theorem dX12_when_6 : decode cX12_when 6 = .ok (.iload_n 1, 1) := by decide +kernel
theorem dX12_when_7 : decode cX12_when 7 = .ok (.invokevirtual 281, 3) := by decide +kernel
theorem dX12_when_10 : decode cX12_when 10 = .ok (.ifCond .eq 10, 3) := by decide +kernel
theorem dX12_when_20 : decode cX12_when 20 = .ok (.bipush (-2), 2) := by decide +kernel
theorem dX12_when_22 : decode cX12_when 22 = .ok (.ireturn, 1) := by decide +kernel
theorem dX12_best_0 : decode cX12_best 0 = .ok (.aload_n 0, 1) := by decide +kernel
theorem dX12_best_1 : decode cX12_best 1 = .ok (.iconst 0, 1) := by decide +kernel
theorem dX12_best_2 : decode cX12_best 2 = .ok (.putfield 107, 3) := by decide +kernel
theorem dX12_best_5 : decode cX12_best 5 = .ok (.aload_n 0, 1) := by decide +kernel
theorem dX12_best_6 : decode cX12_best 6 = .ok (.iload_n 1, 1) := by decide +kernel
theorem dX12_best_7 : decode cX12_best 7 = .ok (.invokevirtual 276, 3) := by decide +kernel
theorem dX12_best_10 : decode cX12_best 10 = .ok (.ifCond .eq 13, 3) := by decide +kernel
theorem dX12_best_23 : decode cX12_best 23 = .ok (.bipush (-2), 2) := by decide +kernel
theorem dX12_best_25 : decode cX12_best 25 = .ok (.ireturn, 1) := by decide +kernel
theorem dX12_bestCost_0 : decode cX12_bestCost 0 = .ok (.aload_n 0, 1) := by decide +kernel
theorem dX12_bestCost_1 : decode cX12_bestCost 1 = .ok (.iconst 0, 1) := by decide +kernel
theorem dX12_bestCost_2 : decode cX12_bestCost 2 = .ok (.putfield 107, 3) := by decide +kernel
theorem dX12_bestCost_5 : decode cX12_bestCost 5 = .ok (.aload_n 0, 1) := by decide +kernel
theorem dX12_bestCost_6 : decode cX12_bestCost 6 = .ok (.iload_n 1, 1) := by decide +kernel
theorem dX12_bestCost_7 : decode cX12_bestCost 7 = .ok (.invokevirtual 276, 3) := by decide +kernel
theorem dX12_bestCost_10 : decode cX12_bestCost 10 = .ok (.ifCond .ne 6, 3) := by decide +kernel
theorem dX12_bestCost_13 : decode cX12_bestCost 13 = .ok (.bipush (-2), 2) := by decide +kernel
theorem dX12_bestCost_15 : decode cX12_bestCost 15 = .ok (.ireturn, 1) := by decide +kernel
theorem dX12_family_0 : decode cX12_family 0 = .ok (.aload_n 0, 1) := by decide +kernel
theorem dX12_family_1 : decode cX12_family 1 = .ok (.iconst 0, 1) := by decide +kernel
theorem dX12_family_2 : decode cX12_family 2 = .ok (.putfield 107, 3) := by decide +kernel
theorem dX12_family_5 : decode cX12_family 5 = .ok (.aload_n 0, 1) := by decide +kernel
theorem dX12_family_6 : decode cX12_family 6 = .ok (.iload_n 1, 1) := by decide +kernel
theorem dX12_family_7 : decode cX12_family 7 = .ok (.invokevirtual 503, 3) := by decide +kernel
theorem dX12_family_10 : decode cX12_family 10 = .ok (.ifCond .eq 11, 3) := by decide +kernel
theorem dX12_family_21 : decode cX12_family 21 = .ok (.bipush (-2), 2) := by decide +kernel
theorem dX12_family_23 : decode cX12_family 23 = .ok (.ireturn, 1) := by decide +kernel
theorem dX12_together_0 : decode cX12_together 0 = .ok (.aload_n 0, 1) := by decide +kernel
theorem dX12_together_1 : decode cX12_together 1 = .ok (.iconst 0, 1) := by decide +kernel
theorem dX12_together_2 : decode cX12_together 2 = .ok (.putfield 107, 3) := by decide +kernel
theorem dX12_together_5 : decode cX12_together 5 = .ok (.aload_n 0, 1) := by decide +kernel
theorem dX12_together_6 : decode cX12_together 6 = .ok (.iload_n 1, 1) := by decide +kernel
theorem dX12_together_7 : decode cX12_together 7 = .ok (.invokevirtual 503, 3) := by decide +kernel
theorem dX12_together_10 : decode cX12_together 10 = .ok (.ifCond .ne 6, 3) := by decide +kernel
theorem dX12_together_13 : decode cX12_together 13 = .ok (.bipush (-2), 2) := by decide +kernel
theorem dX12_together_15 : decode cX12_together 15 = .ok (.ireturn, 1) := by decide +kernel
theorem dX12_fits_0 : decode cX12_fits 0 = .ok (.aload_n 0, 1) := by decide +kernel
theorem dX12_fits_1 : decode cX12_fits 1 = .ok (.iconst 0, 1) := by decide +kernel
theorem dX12_fits_2 : decode cX12_fits 2 = .ok (.putfield 107, 3) := by decide +kernel
theorem dX12_fits_5 : decode cX12_fits 5 = .ok (.aload_n 0, 1) := by decide +kernel
theorem dX12_fits_6 : decode cX12_fits 6 = .ok (.iload_n 1, 1) := by decide +kernel
theorem dX12_fits_7 : decode cX12_fits 7 = .ok (.iload_n 2, 1) := by decide +kernel
theorem dX12_fits_8 : decode cX12_fits 8 = .ok (.invokevirtual 522, 3) := by decide +kernel
theorem dX12_fits_11 : decode cX12_fits 11 = .ok (.istore_n 3, 1) := by decide +kernel
theorem dX12_fits_12 : decode cX12_fits 12 = .ok (.iload_n 3, 1) := by decide +kernel
theorem dX12_fits_13 : decode cX12_fits 13 = .ok (.ifCond .eq 5, 3) := by decide +kernel
theorem dX12_fits_16 : decode cX12_fits 16 = .ok (.iload_n 3, 1) := by decide +kernel
theorem dX12_fits_17 : decode cX12_fits 17 = .ok (.ireturn, 1) := by decide +kernel
theorem dX12_which_0 : decode cX12_which 0 = .ok (.aload_n 0, 1) := by decide +kernel
theorem dX12_which_1 : decode cX12_which 1 = .ok (.iconst 0, 1) := by decide +kernel
theorem dX12_which_2 : decode cX12_which 2 = .ok (.putfield 107, 3) := by decide +kernel
theorem dX12_which_5 : decode cX12_which 5 = .ok (.iload_n 3, 1) := by decide +kernel
theorem dX12_which_6 : decode cX12_which 6 = .ok (.invokestatic 340, 3) := by decide +kernel
theorem dX12_which_9 : decode cX12_which 9 = .ok (.ifCond .eq 12, 3) := by decide +kernel
theorem dX12_which_12 : decode cX12_which 12 = .ok (.aload_n 0, 1) := by decide +kernel
theorem dX12_which_13 : decode cX12_which 13 = .ok (.iload_n 1, 1) := by decide +kernel
theorem dX12_which_14 : decode cX12_which 14 = .ok (.iload_n 2, 1) := by decide +kernel
theorem dX12_which_15 : decode cX12_which 15 = .ok (.invokevirtual 522, 3) := by decide +kernel
theorem dX12_which_18 : decode cX12_which 18 = .ok (.goto 5, 3) := by decide +kernel
theorem dX12_which_21 : decode cX12_which 21 = .ok (.bipush (-2), 2) := by decide +kernel
theorem dX12_which_23 : decode cX12_which 23 = .ok (.istore 4, 2) := by decide +kernel
theorem dX12_which_25 : decode cX12_which 25 = .ok (.iload 4, 2) := by decide +kernel
theorem dX12_which_27 : decode cX12_which 27 = .ok (.ifCond .eq 7, 3) := by decide +kernel
theorem dX12_which_30 : decode cX12_which 30 = .ok (.iload 4, 2) := by decide +kernel
theorem dX12_which_32 : decode cX12_which 32 = .ok (.i2l, 1) := by decide +kernel
theorem dX12_which_33 : decode cX12_which 33 = .ok (.lreturn, 1) := by decide +kernel
theorem dX12_begun_0 : decode cX12_begun 0 = .ok (.aload_n 0, 1) := by decide +kernel
theorem dX12_begun_1 : decode cX12_begun 1 = .ok (.iconst 0, 1) := by decide +kernel
theorem dX12_begun_2 : decode cX12_begun 2 = .ok (.putfield 107, 3) := by decide +kernel
theorem dX12_begun_5 : decode cX12_begun 5 = .ok (.aload_n 0, 1) := by decide +kernel
theorem dX12_begun_6 : decode cX12_begun 6 = .ok (.iload_n 1, 1) := by decide +kernel
theorem dX12_begun_7 : decode cX12_begun 7 = .ok (.iload_n 2, 1) := by decide +kernel
theorem dX12_begun_8 : decode cX12_begun 8 = .ok (.invokevirtual 522, 3) := by decide +kernel
theorem dX12_begun_11 : decode cX12_begun 11 = .ok (.istore_n 3, 1) := by decide +kernel
theorem dX12_begun_12 : decode cX12_begun 12 = .ok (.iload_n 3, 1) := by decide +kernel
theorem dX12_begun_13 : decode cX12_begun 13 = .ok (.ifCond .eq 5, 3) := by decide +kernel
theorem dX12_begun_16 : decode cX12_begun 16 = .ok (.iload_n 3, 1) := by decide +kernel
theorem dX12_begun_17 : decode cX12_begun 17 = .ok (.ireturn, 1) := by decide +kernel
theorem dX12_odd_0 : decode cX12_odd 0 = .ok (.aload_n 0, 1) := by decide +kernel
theorem dX12_odd_1 : decode cX12_odd 1 = .ok (.iconst 0, 1) := by decide +kernel
theorem dX12_odd_2 : decode cX12_odd 2 = .ok (.putfield 107, 3) := by decide +kernel
theorem dX12_odd_5 : decode cX12_odd 5 = .ok (.aload_n 0, 1) := by decide +kernel
theorem dX12_odd_6 : decode cX12_odd 6 = .ok (.iload_n 1, 1) := by decide +kernel
theorem dX12_odd_7 : decode cX12_odd 7 = .ok (.iload_n 2, 1) := by decide +kernel
theorem dX12_odd_8 : decode cX12_odd 8 = .ok (.invokevirtual 522, 3) := by decide +kernel
theorem dX12_odd_11 : decode cX12_odd 11 = .ok (.istore_n 3, 1) := by decide +kernel
theorem dX12_odd_12 : decode cX12_odd 12 = .ok (.iload_n 3, 1) := by decide +kernel
theorem dX12_odd_13 : decode cX12_odd 13 = .ok (.ifCond .eq 5, 3) := by decide +kernel
theorem dX12_odd_16 : decode cX12_odd 16 = .ok (.iload_n 3, 1) := by decide +kernel
theorem dX12_odd_17 : decode cX12_odd 17 = .ok (.ireturn, 1) := by decide +kernel
theorem dX12_life_0 : decode cX12_life 0 = .ok (.aload_n 0, 1) := by decide +kernel
theorem dX12_life_1 : decode cX12_life 1 = .ok (.iconst 0, 1) := by decide +kernel
theorem dX12_life_2 : decode cX12_life 2 = .ok (.putfield 107, 3) := by decide +kernel
theorem dX12_life_5 : decode cX12_life 5 = .ok (.iload_n 1, 1) := by decide +kernel
theorem dX12_life_6 : decode cX12_life 6 = .ok (.invokestatic 530, 3) := by decide +kernel
theorem dX12_life_9 : decode cX12_life 9 = .ok (.ifCond .eq 22, 3) := by decide +kernel
theorem dX12_life_12 : decode cX12_life 12 = .ok (.aload_n 0, 1) := by decide +kernel
theorem dX12_life_13 : decode cX12_life 13 = .ok (.invokevirtual 373, 3) := by decide +kernel
theorem dX12_life_16 : decode cX12_life 16 = .ok (.ifCond .eq 15, 3) := by decide +kernel
theorem dX12_life_31 : decode cX12_life 31 = .ok (.bipush (-2), 2) := by decide +kernel
theorem dX12_life_33 : decode cX12_life 33 = .ok (.ireturn, 1) := by decide +kernel
theorem dX12_lives_0 : decode cX12_lives 0 = .ok (.aload_n 0, 1) := by decide +kernel
theorem dX12_lives_1 : decode cX12_lives 1 = .ok (.iconst 0, 1) := by decide +kernel
theorem dX12_lives_2 : decode cX12_lives 2 = .ok (.putfield 107, 3) := by decide +kernel
theorem dX12_lives_5 : decode cX12_lives 5 = .ok (.iload_n 1, 1) := by decide +kernel
theorem dX12_lives_6 : decode cX12_lives 6 = .ok (.invokestatic 530, 3) := by decide +kernel
theorem dX12_lives_9 : decode cX12_lives 9 = .ok (.ifCond .eq 11, 3) := by decide +kernel
theorem dX12_lives_12 : decode cX12_lives 12 = .ok (.aload_n 0, 1) := by decide +kernel
theorem dX12_lives_13 : decode cX12_lives 13 = .ok (.iload_n 2, 1) := by decide +kernel
theorem dX12_lives_14 : decode cX12_lives 14 = .ok (.invokevirtual 281, 3) := by decide +kernel
theorem dX12_lives_17 : decode cX12_lives 17 = .ok (.ifCond .ne 6, 3) := by decide +kernel
theorem dX12_lives_20 : decode cX12_lives 20 = .ok (.bipush (-2), 2) := by decide +kernel
theorem dX12_lives_22 : decode cX12_lives 22 = .ok (.ireturn, 1) := by decide +kernel
theorem dX12_lasts_0 : decode cX12_lasts 0 = .ok (.aload_n 0, 1) := by decide +kernel
theorem dX12_lasts_1 : decode cX12_lasts 1 = .ok (.iconst 0, 1) := by decide +kernel
theorem dX12_lasts_2 : decode cX12_lasts 2 = .ok (.putfield 107, 3) := by decide +kernel
theorem dX12_lasts_5 : decode cX12_lasts 5 = .ok (.iload_n 1, 1) := by decide +kernel
theorem dX12_lasts_6 : decode cX12_lasts 6 = .ok (.invokestatic 530, 3) := by decide +kernel
theorem dX12_lasts_9 : decode cX12_lasts 9 = .ok (.ifCond .eq 23, 3) := by decide +kernel
theorem dX12_lasts_12 : decode cX12_lasts 12 = .ok (.iload_n 2, 1) := by decide +kernel
theorem dX12_lasts_13 : decode cX12_lasts 13 = .ok (.i2l, 1) := by decide +kernel
theorem dX12_lasts_14 : decode cX12_lasts 14 = .ok (.lconst 1, 1) := by decide +kernel
theorem dX12_lasts_15 : decode cX12_lasts 15 = .ok (.ldc2_w 536, 3) := by decide +kernel
theorem dX12_lasts_18 : decode cX12_lasts 18 = .ok (.invokestatic 112, 3) := by decide +kernel
theorem dX12_lasts_21 : decode cX12_lasts 21 = .ok (.ifCond .eq 11, 3) := by decide +kernel
theorem dX12_lasts_24 : decode cX12_lasts 24 = .ok (.aload_n 0, 1) := by decide +kernel
theorem dX12_lasts_25 : decode cX12_lasts 25 = .ok (.iload_n 3, 1) := by decide +kernel
theorem dX12_lasts_26 : decode cX12_lasts 26 = .ok (.invokevirtual 281, 3) := by decide +kernel
theorem dX12_lasts_29 : decode cX12_lasts 29 = .ok (.ifCond .ne 6, 3) := by decide +kernel
theorem dX12_lasts_32 : decode cX12_lasts 32 = .ok (.bipush (-2), 2) := by decide +kernel
theorem dX12_lasts_34 : decode cX12_lasts 34 = .ok (.ireturn, 1) := by decide +kernel
theorem dX12_train_0 : decode cX12_train 0 = .ok (.aload_n 0, 1) := by decide +kernel
theorem dX12_train_1 : decode cX12_train 1 = .ok (.iconst 0, 1) := by decide +kernel
theorem dX12_train_2 : decode cX12_train 2 = .ok (.putfield 107, 3) := by decide +kernel
theorem dX12_train_5 : decode cX12_train 5 = .ok (.aload_n 0, 1) := by decide +kernel
theorem dX12_train_6 : decode cX12_train 6 = .ok (.iload_n 1, 1) := by decide +kernel
theorem dX12_train_7 : decode cX12_train 7 = .ok (.invokevirtual 276, 3) := by decide +kernel
theorem dX12_train_10 : decode cX12_train 10 = .ok (.ifCond .eq 46, 3) := by decide +kernel
theorem dX12_train_56 : decode cX12_train 56 = .ok (.bipush (-2), 2) := by decide +kernel
theorem dX12_train_58 : decode cX12_train 58 = .ok (.ireturn, 1) := by decide +kernel
theorem dX12_begin_0 : decode cX12_begin 0 = .ok (.aload_n 0, 1) := by decide +kernel
theorem dX12_begin_1 : decode cX12_begin 1 = .ok (.iconst 0, 1) := by decide +kernel
theorem dX12_begin_2 : decode cX12_begin 2 = .ok (.putfield 107, 3) := by decide +kernel
theorem dX12_begin_5 : decode cX12_begin 5 = .ok (.aload_n 0, 1) := by decide +kernel
theorem dX12_begin_6 : decode cX12_begin 6 = .ok (.iload_n 1, 1) := by decide +kernel
theorem dX12_begin_7 : decode cX12_begin 7 = .ok (.invokevirtual 281, 3) := by decide +kernel
theorem dX12_begin_10 : decode cX12_begin 10 = .ok (.ifCond .eq 15, 3) := by decide +kernel
theorem dX12_begin_25 : decode cX12_begin 25 = .ok (.bipush (-2), 2) := by decide +kernel
theorem dX12_begin_27 : decode cX12_begin 27 = .ok (.ireturn, 1) := by decide +kernel
theorem dX12_lose_0 : decode cX12_lose 0 = .ok (.aload_n 0, 1) := by decide +kernel
theorem dX12_lose_1 : decode cX12_lose 1 = .ok (.iconst 0, 1) := by decide +kernel
theorem dX12_lose_2 : decode cX12_lose 2 = .ok (.putfield 107, 3) := by decide +kernel
theorem dX12_lose_5 : decode cX12_lose 5 = .ok (.aload_n 0, 1) := by decide +kernel
theorem dX12_lose_6 : decode cX12_lose 6 = .ok (.iload_n 1, 1) := by decide +kernel
theorem dX12_lose_7 : decode cX12_lose 7 = .ok (.invokevirtual 281, 3) := by decide +kernel
theorem dX12_lose_10 : decode cX12_lose 10 = .ok (.ifCond .eq 30, 3) := by decide +kernel
theorem dX12_lose_40 : decode cX12_lose 40 = .ok (.bipush (-2), 2) := by decide +kernel
theorem dX12_lose_42 : decode cX12_lose 42 = .ok (.ireturn, 1) := by decide +kernel
theorem dX12_calls_0 : decode cX12_calls 0 = .ok (.aload_n 0, 1) := by decide +kernel
theorem dX12_calls_1 : decode cX12_calls 1 = .ok (.iconst 0, 1) := by decide +kernel
theorem dX12_calls_2 : decode cX12_calls 2 = .ok (.putfield 107, 3) := by decide +kernel
theorem dX12_calls_5 : decode cX12_calls 5 = .ok (.aload_n 0, 1) := by decide +kernel
theorem dX12_calls_6 : decode cX12_calls 6 = .ok (.iload_n 1, 1) := by decide +kernel
theorem dX12_calls_7 : decode cX12_calls 7 = .ok (.i2l, 1) := by decide +kernel
theorem dX12_calls_8 : decode cX12_calls 8 = .ok (.invokevirtual 343, 3) := by decide +kernel
theorem dX12_calls_11 : decode cX12_calls 11 = .ok (.ifCond .eq 13, 3) := by decide +kernel
theorem dX12_calls_24 : decode cX12_calls 24 = .ok (.bipush (-2), 2) := by decide +kernel
theorem dX12_calls_26 : decode cX12_calls 26 = .ok (.ireturn, 1) := by decide +kernel
