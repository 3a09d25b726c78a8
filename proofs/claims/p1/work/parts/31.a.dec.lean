set_option maxRecDepth 20000 in
theorem ggX11_person_X4_hasPerson : GoodIn wsX11_person wsX4_hasPerson := goodIn_r _ [11, 12, 24, 25, 26, 27, 28, 29, 30, 31, 32, 33, 34, 35, 36, 37, 38] (by decide +kernel) (by decide +kernel)
set_option maxRecDepth 20000 in
theorem gX11_person_X4_hasPerson : GoodIn wsX11_person (wsV RX11 115 RX4 yX4_hasPerson wsX4_hasPerson) := goodIn_app (goodIn_of _ (by decide +kernel)) ggX11_person_X4_hasPerson
theorem dX11_person_0 : decode cX11_person 0 = .ok (.aload_n 0, 1) := by decide +kernel
theorem dX11_person_1 : decode cX11_person 1 = .ok (.getfield 19, 3) := by decide +kernel
theorem dX11_person_4 : decode cX11_person 4 = .ok (.iload_n 1, 1) := by decide +kernel
theorem dX11_person_5 : decode cX11_person 5 = .ok (.invokevirtual 115, 3) := by decide +kernel
theorem dX11_person_8 : decode cX11_person 8 = .ok (.ifCond .ne 6, 3) := by decide +kernel
theorem dX11_person_11 : decode cX11_person 11 = .ok (.bipush (-2), 2) := by decide +kernel
theorem dX11_person_13 : decode cX11_person 13 = .ok (.ireturn, 1) := by decide +kernel
set_option maxRecDepth 20000 in
theorem ggX11_pair_X4_hasPair : GoodIn wsX11_pair wsX4_hasPair := goodIn_r _ [8, 9, 21, 22, 23, 24, 25, 26, 27, 28, 29, 30, 31, 32, 33, 34, 35] (by decide +kernel) (by decide +kernel)
set_option maxRecDepth 20000 in
theorem gX11_pair_X4_hasPair : GoodIn wsX11_pair (wsV RX11 135 RX4 yX4_hasPair wsX4_hasPair) := goodIn_app (goodIn_of _ (by decide +kernel)) ggX11_pair_X4_hasPair
theorem dX11_pair_0 : decode cX11_pair 0 = .ok (.aload_n 0, 1) := by decide +kernel
theorem dX11_pair_1 : decode cX11_pair 1 = .ok (.getfield 19, 3) := by decide +kernel
theorem dX11_pair_4 : decode cX11_pair 4 = .ok (.iload_n 1, 1) := by decide +kernel
theorem dX11_pair_5 : decode cX11_pair 5 = .ok (.invokevirtual 135, 3) := by decide +kernel
theorem dX11_pair_8 : decode cX11_pair 8 = .ok (.ifCond .ne 6, 3) := by decide +kernel
theorem dX11_pair_11 : decode cX11_pair 11 = .ok (.bipush (-2), 2) := by decide +kernel
theorem dX11_pair_13 : decode cX11_pair 13 = .ok (.ireturn, 1) := by decide +kernel
set_option maxRecDepth 20000 in
theorem ggX11_of_X4_hasPerson : GoodIn wsX11_of wsX4_hasPerson := goodIn_r _ [6, 7, 25, 26, 27, 28, 29, 30, 31, 32, 33, 34, 35, 36, 37, 38, 39] (by decide +kernel) (by decide +kernel)
set_option maxRecDepth 20000 in
theorem gX11_of_X4_hasPerson : GoodIn wsX11_of (wsV RX11 115 RX4 yX4_hasPerson wsX4_hasPerson) := goodIn_app (goodIn_of _ (by decide +kernel)) ggX11_of_X4_hasPerson
theorem dX11_of_0 : decode cX11_of 0 = .ok (.aload_n 0, 1) := by decide +kernel
theorem dX11_of_1 : decode cX11_of 1 = .ok (.getfield 19, 3) := by decide +kernel
theorem dX11_of_4 : decode cX11_of 4 = .ok (.iload_n 1, 1) := by decide +kernel
theorem dX11_of_5 : decode cX11_of 5 = .ok (.invokevirtual 115, 3) := by decide +kernel
theorem dX11_of_8 : decode cX11_of 8 = .ok (.ifCond .eq 19, 3) := by decide +kernel
theorem dX11_of_27 : decode cX11_of 27 = .ok (.bipush (-2), 2) := by decide +kernel
theorem dX11_of_29 : decode cX11_of 29 = .ok (.ireturn, 1) := by decide +kernel
set_option maxRecDepth 20000 in
theorem ggX11_sends_X11_hasYearOf : GoodIn wsX11_sends wsX11_hasYearOf := goodIn_r _ [7, 8, 9, 10, 11, 12, 13, 14, 15, 16, 6, 17, 18, 19, 20, 21, 22, 121, 122, 123, 124, 125, 126, 127, 128, 129, 130, 131, 132, 133, 134, 135, 136, 137, 138, 139, 140, 141, 142, 143, 144, 145, 146] (by decide +kernel) (by decide +kernel)
set_option maxRecDepth 20000 in
theorem gX11_sends_X11_hasYearOf : GoodIn wsX11_sends (wsV RX11 155 RX11 yX11_hasYearOf wsX11_hasYearOf) := goodIn_app (goodIn_of _ (by decide +kernel)) ggX11_sends_X11_hasYearOf
theorem dX11_sends_0 : decode cX11_sends 0 = .ok (.aload_n 0, 1) := by decide +kernel
theorem dX11_sends_1 : decode cX11_sends 1 = .ok (.iload_n 1, 1) := by decide +kernel
theorem dX11_sends_2 : decode cX11_sends 2 = .ok (.iload_n 2, 1) := by decide +kernel
theorem dX11_sends_3 : decode cX11_sends 3 = .ok (.iload_n 3, 1) := by decide +kernel
theorem dX11_sends_4 : decode cX11_sends 4 = .ok (.invokevirtual 155, 3) := by decide +kernel
theorem dX11_sends_7 : decode cX11_sends 7 = .ok (.ifCond .ne 6, 3) := by decide +kernel
theorem dX11_sends_10 : decode cX11_sends 10 = .ok (.bipush (-2), 2) := by decide +kernel
theorem dX11_sends_12 : decode cX11_sends 12 = .ok (.ireturn, 1) := by decide +kernel
set_option maxRecDepth 20000 in
theorem ggX11_got_X11_hasYearOf : GoodIn wsX11_got wsX11_hasYearOf := goodIn_r _ [6, 7, 8, 9, 10, 11, 12, 13, 14, 15, 5, 16, 17, 18, 19, 20, 21, 120, 121, 122, 123, 124, 125, 126, 127, 128, 129, 130, 131, 132, 133, 134, 135, 136, 137, 138, 139, 140, 141, 142, 143, 144, 145] (by decide +kernel) (by decide +kernel)
set_option maxRecDepth 20000 in
theorem gX11_got_X11_hasYearOf : GoodIn wsX11_got (wsV RX11 155 RX11 yX11_hasYearOf wsX11_hasYearOf) := goodIn_app (goodIn_of _ (by decide +kernel)) ggX11_got_X11_hasYearOf
theorem dX11_got_0 : decode cX11_got 0 = .ok (.aload_n 0, 1) := by decide +kernel
theorem dX11_got_1 : decode cX11_got 1 = .ok (.iload_n 1, 1) := by decide +kernel
theorem dX11_got_2 : decode cX11_got 2 = .ok (.iload_n 2, 1) := by decide +kernel
theorem dX11_got_3 : decode cX11_got 3 = .ok (.iload_n 3, 1) := by decide +kernel
theorem dX11_got_4 : decode cX11_got 4 = .ok (.invokevirtual 155, 3) := by decide +kernel
theorem dX11_got_7 : decode cX11_got 7 = .ok (.ifCond .ne 6, 3) := by decide +kernel
theorem dX11_got_10 : decode cX11_got 10 = .ok (.bipush (-2), 2) := by decide +kernel
theorem dX11_got_12 : decode cX11_got 12 = .ok (.ireturn, 1) := by decide +kernel
set_option maxRecDepth 20000 in
theorem ggX11_state_X4_hasPair : GoodIn wsX11_state wsX4_hasPair := goodIn_r _ [7, 8, 123, 124, 125, 126, 127, 128, 129, 130, 131, 132, 133, 134, 135, 136, 137] (by decide +kernel) (by decide +kernel)
set_option maxRecDepth 20000 in
theorem gX11_state_X4_hasPair : GoodIn wsX11_state (wsV RX11 135 RX4 yX4_hasPair wsX4_hasPair) := goodIn_app (goodIn_of _ (by decide +kernel)) ggX11_state_X4_hasPair
theorem dX11_state_0 : decode cX11_state 0 = .ok (.aload_n 0, 1) := by decide +kernel
theorem dX11_state_1 : decode cX11_state 1 = .ok (.getfield 19, 3) := by decide +kernel
theorem dX11_state_4 : decode cX11_state 4 = .ok (.iload_n 1, 1) := by decide +kernel
theorem dX11_state_5 : decode cX11_state 5 = .ok (.invokevirtual 135, 3) := by decide +kernel
theorem dX11_state_8 : decode cX11_state 8 = .ok (.ifCond .eq 18, 3) := by decide +kernel
theorem dX11_state_26 : decode cX11_state 26 = .ok (.bipush (-2), 2) := by decide +kernel
theorem dX11_state_28 : decode cX11_state 28 = .ok (.ireturn, 1) := by decide +kernel
set_option maxRecDepth 20000 in
theorem ggX11_cards_X4_hasYear : GoodIn wsX11_cards wsX4_hasYear := goodIn_r _ [7, 8, 128, 129, 130, 131, 132, 133, 134, 135, 136, 137, 138, 139, 140, 141, 142] (by decide +kernel) (by decide +kernel)
set_option maxRecDepth 20000 in
theorem gX11_cards_X4_hasYear : GoodIn wsX11_cards (wsV RX11 184 RX4 yX4_hasYear wsX4_hasYear) := goodIn_app (goodIn_of _ (by decide +kernel)) ggX11_cards_X4_hasYear
theorem dX11_cards_0 : decode cX11_cards 0 = .ok (.aload_n 0, 1) := by decide +kernel
theorem dX11_cards_1 : decode cX11_cards 1 = .ok (.getfield 19, 3) := by decide +kernel
theorem dX11_cards_4 : decode cX11_cards 4 = .ok (.iload_n 1, 1) := by decide +kernel
theorem dX11_cards_5 : decode cX11_cards 5 = .ok (.invokevirtual 184, 3) := by decide +kernel
theorem dX11_cards_8 : decode cX11_cards 8 = .ok (.ifCond .eq 11, 3) := by decide +kernel
theorem dX11_cards_19 : decode cX11_cards 19 = .ok (.bipush (-2), 2) := by decide +kernel
theorem dX11_cards_21 : decode cX11_cards 21 = .ok (.ireturn, 1) := by decide +kernel
set_option maxRecDepth 20000 in
theorem ggX11_list_X4_hasPerson : GoodIn wsX11_list wsX4_hasPerson := goodIn_r _ [8, 9, 125, 126, 127, 128, 129, 130, 131, 132, 133, 134, 135, 136, 137, 138, 139] (by decide +kernel) (by decide +kernel)
set_option maxRecDepth 20000 in
theorem gX11_list_X4_hasPerson : GoodIn wsX11_list (wsV RX11 115 RX4 yX4_hasPerson wsX4_hasPerson) := goodIn_app (goodIn_of _ (by decide +kernel)) ggX11_list_X4_hasPerson
theorem dX11_list_0 : decode cX11_list 0 = .ok (.aload_n 0, 1) := by decide +kernel
theorem dX11_list_1 : decode cX11_list 1 = .ok (.getfield 19, 3) := by decide +kernel
theorem dX11_list_4 : decode cX11_list 4 = .ok (.iload_n 1, 1) := by decide +kernel
theorem dX11_list_5 : decode cX11_list 5 = .ok (.invokevirtual 115, 3) := by decide +kernel
theorem dX11_list_8 : decode cX11_list 8 = .ok (.ifCond .eq 14, 3) := by decide +kernel
theorem dX11_list_22 : decode cX11_list 22 = .ok (.bipush (-2), 2) := by decide +kernel
theorem dX11_list_24 : decode cX11_list 24 = .ok (.ireturn, 1) := by decide +kernel
set_option maxRecDepth 20000 in
theorem ggX11_mantel_X4_hasPerson : GoodIn wsX11_mantel wsX4_hasPerson := goodIn_r _ [6, 7, 133, 134, 135, 136, 137, 138, 139, 140, 141, 142, 143, 144, 145, 146, 147] (by decide +kernel) (by decide +kernel)
set_option maxRecDepth 20000 in
theorem gX11_mantel_X4_hasPerson : GoodIn wsX11_mantel (wsV RX11 115 RX4 yX4_hasPerson wsX4_hasPerson) := goodIn_app (goodIn_of _ (by decide +kernel)) ggX11_mantel_X4_hasPerson
theorem dX11_mantel_0 : decode cX11_mantel 0 = .ok (.aload_n 0, 1) := by decide +kernel
theorem dX11_mantel_1 : decode cX11_mantel 1 = .ok (.getfield 19, 3) := by decide +kernel
theorem dX11_mantel_4 : decode cX11_mantel 4 = .ok (.iload_n 1, 1) := by decide +kernel
theorem dX11_mantel_5 : decode cX11_mantel 5 = .ok (.invokevirtual 115, 3) := by decide +kernel
theorem dX11_mantel_8 : decode cX11_mantel 8 = .ok (.ifCond .eq 14, 3) := by decide +kernel
theorem dX11_mantel_22 : decode cX11_mantel 22 = .ok (.bipush (-2), 2) := by decide +kernel
theorem dX11_mantel_24 : decode cX11_mantel 24 = .ok (.ireturn, 1) := by decide +kernel
set_option maxRecDepth 20000 in
theorem ggX11_whose_X4_hasPerson : GoodIn wsX11_whose wsX4_hasPerson := goodIn_r _ [6, 7, 126, 127, 128, 129, 130, 131, 132, 133, 134, 135, 136, 137, 138, 139, 140] (by decide +kernel) (by decide +kernel)
set_option maxRecDepth 20000 in
theorem gX11_whose_X4_hasPerson : GoodIn wsX11_whose (wsV RX11 115 RX4 yX4_hasPerson wsX4_hasPerson) := goodIn_app (goodIn_of _ (by decide +kernel)) ggX11_whose_X4_hasPerson
theorem dX11_whose_0 : decode cX11_whose 0 = .ok (.aload_n 0, 1) := by decide +kernel
theorem dX11_whose_1 : decode cX11_whose 1 = .ok (.getfield 19, 3) := by decide +kernel
theorem dX11_whose_4 : decode cX11_whose 4 = .ok (.iload_n 1, 1) := by decide +kernel
theorem dX11_whose_5 : decode cX11_whose 5 = .ok (.invokevirtual 115, 3) := by decide +kernel
theorem dX11_whose_8 : decode cX11_whose 8 = .ok (.ifCond .eq 14, 3) := by decide +kernel
theorem dX11_whose_22 : decode cX11_whose 22 = .ok (.bipush (-2), 2) := by decide +kernel
theorem dX11_whose_24 : decode cX11_whose 24 = .ok (.ireturn, 1) := by decide +kernel
set_option maxRecDepth 20000 in
theorem ggX11_hurts_X4_hasPerson : GoodIn wsX11_hurts wsX4_hasPerson := goodIn_r _ [10, 11, 132, 133, 134, 135, 136, 137, 138, 139, 140, 141, 142, 143, 144, 145, 146] (by decide +kernel) (by decide +kernel)
set_option maxRecDepth 20000 in
theorem gX11_hurts_X4_hasPerson : GoodIn wsX11_hurts (wsV RX11 115 RX4 yX4_hasPerson wsX4_hasPerson) := goodIn_app (goodIn_of _ (by decide +kernel)) ggX11_hurts_X4_hasPerson
theorem dX11_hurts_0 : decode cX11_hurts 0 = .ok (.aload_n 0, 1) := by decide +kernel
theorem dX11_hurts_1 : decode cX11_hurts 1 = .ok (.getfield 19, 3) := by decide +kernel
theorem dX11_hurts_4 : decode cX11_hurts 4 = .ok (.iload_n 1, 1) := by decide +kernel
theorem dX11_hurts_5 : decode cX11_hurts 5 = .ok (.invokevirtual 115, 3) := by decide +kernel
theorem dX11_hurts_8 : decode cX11_hurts 8 = .ok (.ifCond .eq 11, 3) := by decide +kernel
theorem dX11_hurts_19 : decode cX11_hurts 19 = .ok (.bipush (-2), 2) := by decide +kernel
theorem dX11_hurts_21 : decode cX11_hurts 21 = .ok (.ireturn, 1) := by decide +kernel
set_option maxRecDepth 20000 in
theorem ggX11_cost_X4_hasPerson : GoodIn wsX11_cost wsX4_hasPerson := goodIn_r _ [6, 7, 133, 134, 135, 136, 137, 138, 139, 140, 141, 142, 143, 144, 145, 146, 147] (by decide +kernel) (by decide +kernel)
set_option maxRecDepth 20000 in
theorem gX11_cost_X4_hasPerson : GoodIn wsX11_cost (wsV RX11 115 RX4 yX4_hasPerson wsX4_hasPerson) := goodIn_app (goodIn_of _ (by decide +kernel)) ggX11_cost_X4_hasPerson
theorem dX11_cost_0 : decode cX11_cost 0 = .ok (.aload_n 0, 1) := by decide +kernel
theorem dX11_cost_1 : decode cX11_cost 1 = .ok (.getfield 19, 3) := by decide +kernel
theorem dX11_cost_4 : decode cX11_cost 4 = .ok (.iload_n 1, 1) := by decide +kernel
theorem dX11_cost_5 : decode cX11_cost 5 = .ok (.invokevirtual 115, 3) := by decide +kernel
theorem dX11_cost_8 : decode cX11_cost 8 = .ok (.ifCond .ne 6, 3) := by decide +kernel
theorem dX11_cost_11 : decode cX11_cost 11 = .ok (.bipush (-2), 2) := by decide +kernel
theorem dX11_cost_13 : decode cX11_cost 13 = .ok (.ireturn, 1) := by decide +kernel
set_option maxRecDepth 20000 in
theorem ggX11_dearest_X4_isThere : GoodIn wsX11_dearest wsX4_isThere := goodIn_r _ [7, 8, 134, 135, 136, 137, 138, 139, 140, 141, 142, 143, 144, 145, 146, 147, 148] (by decide +kernel) (by decide +kernel)
set_option maxRecDepth 20000 in
theorem gX11_dearest_X4_isThere : GoodIn wsX11_dearest (wsV RX11 220 RX4 yX4_isThere wsX4_isThere) := goodIn_app (goodIn_of _ (by decide +kernel)) ggX11_dearest_X4_isThere
theorem dX11_dearest_0 : decode cX11_dearest 0 = .ok (.aload_n 0, 1) := by decide +kernel
theorem dX11_dearest_1 : decode cX11_dearest 1 = .ok (.getfield 19, 3) := by decide +kernel
theorem dX11_dearest_4 : decode cX11_dearest 4 = .ok (.invokevirtual 220, 3) := by decide +kernel
theorem dX11_dearest_7 : decode cX11_dearest 7 = .ok (.ifCond .ne 6, 3) := by decide +kernel
theorem dX11_dearest_10 : decode cX11_dearest 10 = .ok (.bipush (-2), 2) := by decide +kernel
theorem dX11_dearest_12 : decode cX11_dearest 12 = .ok (.ireturn, 1) := by decide +kernel
set_option maxRecDepth 20000 in
theorem ggX11_last_X4_hasPair : GoodIn wsX11_last wsX4_hasPair := goodIn_r _ [6, 7, 134, 135, 136, 137, 138, 139, 140, 141, 142, 143, 144, 145, 146, 147, 148] (by decide +kernel) (by decide +kernel)
set_option maxRecDepth 20000 in
theorem gX11_last_X4_hasPair : GoodIn wsX11_last (wsV RX11 135 RX4 yX4_hasPair wsX4_hasPair) := goodIn_app (goodIn_of _ (by decide +kernel)) ggX11_last_X4_hasPair
theorem dX11_last_0 : decode cX11_last 0 = .ok (.aload_n 0, 1) := by decide +kernel
theorem dX11_last_1 : decode cX11_last 1 = .ok (.getfield 19, 3) := by decide +kernel
theorem dX11_last_4 : decode cX11_last 4 = .ok (.iload_n 1, 1) := by decide +kernel
theorem dX11_last_5 : decode cX11_last 5 = .ok (.invokevirtual 135, 3) := by decide +kernel
theorem dX11_last_8 : decode cX11_last 8 = .ok (.ifCond .ne 6, 3) := by decide +kernel
theorem dX11_last_11 : decode cX11_last 11 = .ok (.bipush (-2), 2) := by decide +kernel
theorem dX11_last_13 : decode cX11_last 13 = .ok (.ireturn, 1) := by decide +kernel
set_option maxRecDepth 20000 in
theorem ggX11_over_X4_isThere : GoodIn wsX11_over wsX4_isThere := goodIn_r _ [8, 9, 125, 126, 127, 128, 129, 130, 131, 132, 133, 134, 135, 136, 137, 138, 139] (by decide +kernel) (by decide +kernel)
set_option maxRecDepth 20000 in
theorem gX11_over_X4_isThere : GoodIn wsX11_over (wsV RX11 220 RX4 yX4_isThere wsX4_isThere) := goodIn_app (goodIn_of _ (by decide +kernel)) ggX11_over_X4_isThere
theorem dX11_over_0 : decode cX11_over 0 = .ok (.aload_n 0, 1) := by decide +kernel
theorem dX11_over_1 : decode cX11_over 1 = .ok (.getfield 19, 3) := by decide +kernel
theorem dX11_over_4 : decode cX11_over 4 = .ok (.invokevirtual 220, 3) := by decide +kernel
theorem dX11_over_7 : decode cX11_over 7 = .ok (.ifCond .ne 6, 3) := by decide +kernel
theorem dX11_over_10 : decode cX11_over 10 = .ok (.bipush (-2), 2) := by decide +kernel
theorem dX11_over_12 : decode cX11_over 12 = .ok (.ireturn, 1) := by decide +kernel
set_option maxRecDepth 20000 in
theorem ggX11_poorest_X4_isThere : GoodIn wsX11_poorest wsX4_isThere := goodIn_r _ [7, 8, 123, 124, 125, 126, 127, 128, 129, 130, 131, 132, 133, 134, 135, 136, 137] (by decide +kernel) (by decide +kernel)
set_option maxRecDepth 20000 in
theorem gX11_poorest_X4_isThere : GoodIn wsX11_poorest (wsV RX11 220 RX4 yX4_isThere wsX4_isThere) := goodIn_app (goodIn_of _ (by decide +kernel)) ggX11_poorest_X4_isThere
theorem dX11_poorest_0 : decode cX11_poorest 0 = .ok (.aload_n 0, 1) := by decide +kernel
theorem dX11_poorest_1 : decode cX11_poorest 1 = .ok (.getfield 19, 3) := by decide +kernel
theorem dX11_poorest_4 : decode cX11_poorest 4 = .ok (.invokevirtual 220, 3) := by decide +kernel
theorem dX11_poorest_7 : decode cX11_poorest 7 = .ok (.ifCond .ne 6, 3) := by decide +kernel
theorem dX11_poorest_10 : decode cX11_poorest 10 = .ok (.bipush (-2), 2) := by decide +kernel
theorem dX11_poorest_12 : decode cX11_poorest 12 = .ok (.ireturn, 1) := by decide +kernel
set_option maxRecDepth 20000 in
theorem ggX11_odds_X4_hasPair : GoodIn wsX11_odds wsX4_hasPair := goodIn_r _ [6, 7, 125, 126, 127, 128, 129, 130, 131, 132, 133, 134, 135, 136, 137, 138, 139] (by decide +kernel) (by decide +kernel)
set_option maxRecDepth 20000 in
theorem gX11_odds_X4_hasPair : GoodIn wsX11_odds (wsV RX11 135 RX4 yX4_hasPair wsX4_hasPair) := goodIn_app (goodIn_of _ (by decide +kernel)) ggX11_odds_X4_hasPair
theorem dX11_odds_0 : decode cX11_odds 0 = .ok (.aload_n 0, 1) := by decide +kernel
theorem dX11_odds_1 : decode cX11_odds 1 = .ok (.getfield 19, 3) := by decide +kernel
theorem dX11_odds_4 : decode cX11_odds 4 = .ok (.iload_n 1, 1) := by decide +kernel
theorem dX11_odds_5 : decode cX11_odds 5 = .ok (.invokevirtual 135, 3) := by decide +kernel
theorem dX11_odds_8 : decode cX11_odds 8 = .ok (.ifCond .ne 6, 3) := by decide +kernel
theorem dX11_odds_11 : decode cX11_odds 11 = .ok (.bipush (-100), 2) := by decide +kernel
theorem dX11_odds_13 : decode cX11_odds 13 = .ok (.ireturn, 1) := by decide +kernel
set_option maxRecDepth 20000 in
theorem ggX11_streak_X4_hasPair : GoodIn wsX11_streak wsX4_hasPair := goodIn_r _ [8, 9, 124, 125, 126, 127, 128, 129, 130, 131, 132, 133, 134, 135, 136, 137, 138] (by decide +kernel) (by decide +kernel)
set_option maxRecDepth 20000 in
theorem gX11_streak_X4_hasPair : GoodIn wsX11_streak (wsV RX11 135 RX4 yX4_hasPair wsX4_hasPair) := goodIn_app (goodIn_of _ (by decide +kernel)) ggX11_streak_X4_hasPair
theorem dX11_streak_0 : decode cX11_streak 0 = .ok (.aload_n 0, 1) := by decide +kernel
theorem dX11_streak_1 : decode cX11_streak 1 = .ok (.getfield 19, 3) := by decide +kernel
theorem dX11_streak_4 : decode cX11_streak 4 = .ok (.iload_n 1, 1) := by decide +kernel
theorem dX11_streak_5 : decode cX11_streak 5 = .ok (.invokevirtual 135, 3) := by decide +kernel
theorem dX11_streak_8 : decode cX11_streak 8 = .ok (.ifCond .eq 11, 3) := by decide +kernel
theorem dX11_streak_19 : decode cX11_streak 19 = .ok (.bipush (-2), 2) := by decide +kernel
theorem dX11_streak_21 : decode cX11_streak 21 = .ok (.ireturn, 1) := by decide +kernel
set_option maxRecDepth 20000 in
theorem ggX11_goes_X4_hasPair : GoodIn wsX11_goes wsX4_hasPair := goodIn_r _ [8, 9, 91, 92, 93, 94, 95, 96, 97, 98, 99, 100, 101, 102, 103, 104, 105] (by decide +kernel) (by decide +kernel)
set_option maxRecDepth 20000 in
theorem gX11_goes_X4_hasPair : GoodIn wsX11_goes (wsV RX11 135 RX4 yX4_hasPair wsX4_hasPair) := goodIn_app (goodIn_of _ (by decide +kernel)) ggX11_goes_X4_hasPair
theorem dX11_goes_0 : decode cX11_goes 0 = .ok (.aload_n 0, 1) := by decide +kernel
theorem dX11_goes_1 : decode cX11_goes 1 = .ok (.getfield 19, 3) := by decide +kernel
theorem dX11_goes_4 : decode cX11_goes 4 = .ok (.iload_n 1, 1) := by decide +kernel
theorem dX11_goes_5 : decode cX11_goes 5 = .ok (.invokevirtual 135, 3) := by decide +kernel
theorem dX11_goes_8 : decode cX11_goes 8 = .ok (.ifCond .eq 11, 3) := by decide +kernel
theorem dX11_goes_19 : decode cX11_goes 19 = .ok (.bipush (-2), 2) := by decide +kernel
theorem dX11_goes_21 : decode cX11_goes 21 = .ok (.ireturn, 1) := by decide +kernel
set_option maxRecDepth 20000 in
theorem ggX11_lost_X4_hasPair : GoodIn wsX11_lost wsX4_hasPair := goodIn_r _ [9, 10, 92, 93, 94, 95, 96, 97, 98, 99, 100, 101, 102, 103, 104, 105, 106] (by decide +kernel) (by decide +kernel)
set_option maxRecDepth 20000 in
theorem gX11_lost_X4_hasPair : GoodIn wsX11_lost (wsV RX11 135 RX4 yX4_hasPair wsX4_hasPair) := goodIn_app (goodIn_of _ (by decide +kernel)) ggX11_lost_X4_hasPair
theorem dX11_lost_0 : decode cX11_lost 0 = .ok (.aload_n 0, 1) := by decide +kernel
theorem dX11_lost_1 : decode cX11_lost 1 = .ok (.getfield 19, 3) := by decide +kernel
theorem dX11_lost_4 : decode cX11_lost 4 = .ok (.iload_n 1, 1) := by decide +kernel
theorem dX11_lost_5 : decode cX11_lost 5 = .ok (.invokevirtual 135, 3) := by decide +kernel
theorem dX11_lost_8 : decode cX11_lost 8 = .ok (.ifCond .eq 14, 3) := by decide +kernel
theorem dX11_lost_22 : decode cX11_lost 22 = .ok (.bipush (-2), 2) := by decide +kernel
theorem dX11_lost_24 : decode cX11_lost 24 = .ok (.ireturn, 1) := by decide +kernel
set_option maxRecDepth 20000 in
theorem ggX11_back_X4_hasPair : GoodIn wsX11_back wsX4_hasPair := goodIn_r _ [10, 11, 93, 94, 95, 96, 97, 98, 99, 100, 101, 102, 103, 104, 105, 106, 107] (by decide +kernel) (by decide +kernel)
set_option maxRecDepth 20000 in
theorem gX11_back_X4_hasPair : GoodIn wsX11_back (wsV RX11 135 RX4 yX4_hasPair wsX4_hasPair) := goodIn_app (goodIn_of _ (by decide +kernel)) ggX11_back_X4_hasPair
theorem dX11_back_0 : decode cX11_back 0 = .ok (.aload_n 0, 1) := by decide +kernel
theorem dX11_back_1 : decode cX11_back 1 = .ok (.getfield 19, 3) := by decide +kernel
theorem dX11_back_4 : decode cX11_back 4 = .ok (.iload_n 1, 1) := by decide +kernel
theorem dX11_back_5 : decode cX11_back 5 = .ok (.invokevirtual 135, 3) := by decide +kernel
theorem dX11_back_8 : decode cX11_back 8 = .ok (.ifCond .eq 10, 3) := by decide +kernel
theorem dX11_back_18 : decode cX11_back 18 = .ok (.bipush (-2), 2) := by decide +kernel
theorem dX11_back_20 : decode cX11_back 20 = .ok (.ireturn, 1) := by decide +kernel
set_option maxRecDepth 20000 in
theorem ggX11_strike_X4_hasYear : GoodIn wsX11_strike wsX4_hasYear := goodIn_r _ [6, 7, 173, 174, 175, 176, 177, 178, 179, 180, 181, 182, 183, 184, 185, 186, 187] (by decide +kernel) (by decide +kernel)
set_option maxRecDepth 20000 in
theorem gX11_strike_X4_hasYear : GoodIn wsX11_strike (wsV RX11 184 RX4 yX4_hasYear wsX4_hasYear) := goodIn_app (goodIn_of _ (by decide +kernel)) ggX11_strike_X4_hasYear
theorem dX11_strike_0 : decode cX11_strike 0 = .ok (.aload_n 0, 1) := by decide +kernel
theorem dX11_strike_1 : decode cX11_strike 1 = .ok (.getfield 19, 3) := by decide +kernel
theorem dX11_strike_4 : decode cX11_strike 4 = .ok (.iload_n 1, 1) := by decide +kernel
theorem dX11_strike_5 : decode cX11_strike 5 = .ok (.invokevirtual 184, 3) := by decide +kernel
theorem dX11_strike_8 : decode cX11_strike 8 = .ok (.ifCond .eq 12, 3) := by decide +kernel
theorem dX11_strike_20 : decode cX11_strike 20 = .ok (.bipush (-2), 2) := by decide +kernel
theorem dX11_strike_22 : decode cX11_strike 22 = .ok (.ireturn, 1) := by decide +kernel
set_option maxRecDepth 20000 in
theorem ggX11_saves_X4_hasYear : GoodIn wsX11_saves wsX4_hasYear := goodIn_r _ [6, 7, 173, 174, 175, 176, 177, 178, 179, 180, 181, 182, 183, 184, 185, 186, 187] (by decide +kernel) (by decide +kernel)
set_option maxRecDepth 20000 in
theorem gX11_saves_X4_hasYear : GoodIn wsX11_saves (wsV RX11 184 RX4 yX4_hasYear wsX4_hasYear) := goodIn_app (goodIn_of _ (by decide +kernel)) ggX11_saves_X4_hasYear
theorem dX11_saves_0 : decode cX11_saves 0 = .ok (.aload_n 0, 1) := by decide +kernel
theorem dX11_saves_1 : decode cX11_saves 1 = .ok (.getfield 19, 3) := by decide +kernel
theorem dX11_saves_4 : decode cX11_saves 4 = .ok (.iload_n 1, 1) := by decide +kernel
theorem dX11_saves_5 : decode cX11_saves 5 = .ok (.invokevirtual 184, 3) := by decide +kernel
theorem dX11_saves_8 : decode cX11_saves 8 = .ok (.ifCond .eq 12, 3) := by decide +kernel
theorem dX11_saves_20 : decode cX11_saves 20 = .ok (.bipush (-2), 2) := by decide +kernel
theorem dX11_saves_22 : decode cX11_saves 22 = .ok (.ireturn, 1) := by decide +kernel
set_option maxRecDepth 20000 in
theorem ggX11_mildest_X4_isThere : GoodIn wsX11_mildest wsX4_isThere := goodIn_r _ [7, 8, 175, 176, 177, 178, 179, 180, 181, 182, 183, 184, 185, 186, 187, 188, 189] (by decide +kernel) (by decide +kernel)
set_option maxRecDepth 20000 in
theorem gX11_mildest_X4_isThere : GoodIn wsX11_mildest (wsV RX11 220 RX4 yX4_isThere wsX4_isThere) := goodIn_app (goodIn_of _ (by decide +kernel)) ggX11_mildest_X4_isThere
theorem dX11_mildest_0 : decode cX11_mildest 0 = .ok (.aload_n 0, 1) := by decide +kernel
theorem dX11_mildest_1 : decode cX11_mildest 1 = .ok (.getfield 19, 3) := by decide +kernel
theorem dX11_mildest_4 : decode cX11_mildest 4 = .ok (.invokevirtual 220, 3) := by decide +kernel
theorem dX11_mildest_7 : decode cX11_mildest 7 = .ok (.ifCond .ne 6, 3) := by decide +kernel
theorem dX11_mildest_10 : decode cX11_mildest 10 = .ok (.bipush (-2), 2) := by decide +kernel
theorem dX11_mildest_12 : decode cX11_mildest 12 = .ok (.ireturn, 1) := by decide +kernel
set_option maxRecDepth 20000 in
theorem ggX11_alive_X11_isChance : GoodIn wsX11_alive wsX11_isChance := goodIn_r _ [9, 3, 10, 11, 12, 13, 14, 15, 16, 17, 8, 18, 96, 97, 98, 99, 100, 101, 102, 103, 104, 105, 106, 116, 117, 118, 119, 120, 121, 122, 123, 124, 125, 126, 127, 128, 129, 130] (by decide +kernel) (by decide +kernel)
set_option maxRecDepth 20000 in
theorem gX11_alive_X11_isChance : GoodIn wsX11_alive (wsV RX11 272 RX11 yX11_isChance wsX11_isChance) := goodIn_app (goodIn_of _ (by decide +kernel)) ggX11_alive_X11_isChance
theorem dX11_alive_0 : decode cX11_alive 0 = .ok (.aload_n 0, 1) := by decide +kernel
theorem dX11_alive_1 : decode cX11_alive 1 = .ok (.iload_n 1, 1) := by decide +kernel
theorem dX11_alive_2 : decode cX11_alive 2 = .ok (.iload_n 2, 1) := by decide +kernel
theorem dX11_alive_3 : decode cX11_alive 3 = .ok (.iload_n 3, 1) := by decide +kernel
theorem dX11_alive_4 : decode cX11_alive 4 = .ok (.invokevirtual 272, 3) := by decide +kernel
theorem dX11_alive_7 : decode cX11_alive 7 = .ok (.ifCond .ne 7, 3) := by decide +kernel
theorem dX11_alive_10 : decode cX11_alive 10 = .ok (.ldc2_w 275, 3) := by decide +kernel
theorem dX11_alive_13 : decode cX11_alive 13 = .ok (.lreturn, 1) := by decide +kernel
set_option maxRecDepth 20000 in
theorem ggX11_both_X11_isChance : GoodIn wsX11_both wsX11_isChance := goodIn_r _ [9, 3, 10, 11, 12, 13, 14, 15, 16, 17, 8, 18, 96, 97, 98, 99, 100, 101, 102, 103, 104, 105, 106, 116, 117, 118, 119, 120, 121, 122, 123, 124, 125, 126, 127, 128, 129, 130] (by decide +kernel) (by decide +kernel)
set_option maxRecDepth 20000 in
theorem gX11_both_X11_isChance : GoodIn wsX11_both (wsV RX11 272 RX11 yX11_isChance wsX11_isChance) := goodIn_app (goodIn_of _ (by decide +kernel)) ggX11_both_X11_isChance
theorem dX11_both_0 : decode cX11_both 0 = .ok (.aload_n 0, 1) := by decide +kernel
theorem dX11_both_1 : decode cX11_both 1 = .ok (.iload_n 1, 1) := by decide +kernel
theorem dX11_both_2 : decode cX11_both 2 = .ok (.iload_n 2, 1) := by decide +kernel
theorem dX11_both_3 : decode cX11_both 3 = .ok (.iload_n 3, 1) := by decide +kernel
theorem dX11_both_4 : decode cX11_both 4 = .ok (.invokevirtual 272, 3) := by decide +kernel
theorem dX11_both_7 : decode cX11_both 7 = .ok (.ifCond .ne 7, 3) := by decide +kernel
theorem dX11_both_10 : decode cX11_both 10 = .ok (.ldc2_w 275, 3) := by decide +kernel
theorem dX11_both_13 : decode cX11_both 13 = .ok (.lreturn, 1) := by decide +kernel
set_option maxRecDepth 20000 in
theorem ggX11_mean_X11_isChance : GoodIn wsX11_mean wsX11_isChance := goodIn_r _ [9, 3, 10, 11, 12, 13, 14, 15, 16, 17, 8, 18, 96, 97, 98, 99, 100, 101, 102, 103, 104, 105, 106, 116, 117, 118, 119, 120, 121, 122, 123, 124, 125, 126, 127, 128, 129, 130] (by decide +kernel) (by decide +kernel)
set_option maxRecDepth 20000 in
theorem gX11_mean_X11_isChance : GoodIn wsX11_mean (wsV RX11 272 RX11 yX11_isChance wsX11_isChance) := goodIn_app (goodIn_of _ (by decide +kernel)) ggX11_mean_X11_isChance
theorem dX11_mean_0 : decode cX11_mean 0 = .ok (.aload_n 0, 1) := by decide +kernel
theorem dX11_mean_1 : decode cX11_mean 1 = .ok (.iload_n 1, 1) := by decide +kernel
theorem dX11_mean_2 : decode cX11_mean 2 = .ok (.iload_n 2, 1) := by decide +kernel
theorem dX11_mean_3 : decode cX11_mean 3 = .ok (.iload_n 3, 1) := by decide +kernel
theorem dX11_mean_4 : decode cX11_mean 4 = .ok (.invokevirtual 272, 3) := by decide +kernel
theorem dX11_mean_7 : decode cX11_mean 7 = .ok (.ifCond .ne 7, 3) := by decide +kernel
theorem dX11_mean_10 : decode cX11_mean 10 = .ok (.ldc2_w 275, 3) := by decide +kernel
theorem dX11_mean_13 : decode cX11_mean 13 = .ok (.lreturn, 1) := by decide +kernel
set_option maxRecDepth 20000 in
theorem ggX11_ending_X11_isWill : GoodIn wsX11_ending wsX11_isWill := goodIn_r _ [8, 2, 9, 10, 11, 12, 13, 14, 15, 16, 7, 17, 131, 132, 133, 134, 135, 136, 137, 138, 139, 140, 141, 142, 143, 144, 145, 146, 147, 148, 149, 150, 151, 152, 153, 154, 155, 156] (by decide +kernel) (by decide +kernel)
set_option maxRecDepth 20000 in
theorem gX11_ending_X11_isWill : GoodIn wsX11_ending (wsV RX11 295 RX11 yX11_isWill wsX11_isWill) := goodIn_app (goodIn_of _ (by decide +kernel)) ggX11_ending_X11_isWill
theorem dX11_ending_0 : decode cX11_ending 0 = .ok (.aload_n 0, 1) := by decide +kernel
theorem dX11_ending_1 : decode cX11_ending 1 = .ok (.iload_n 1, 1) := by decide +kernel
theorem dX11_ending_2 : decode cX11_ending 2 = .ok (.iload_n 2, 1) := by decide +kernel
theorem dX11_ending_3 : decode cX11_ending 3 = .ok (.iload_n 3, 1) := by decide +kernel
theorem dX11_ending_4 : decode cX11_ending 4 = .ok (.invokevirtual 295, 3) := by decide +kernel
theorem dX11_ending_7 : decode cX11_ending 7 = .ok (.ifCond .ne 6, 3) := by decide +kernel
theorem dX11_ending_10 : decode cX11_ending 10 = .ok (.bipush (-2), 2) := by decide +kernel
theorem dX11_ending_12 : decode cX11_ending 12 = .ok (.ireturn, 1) := by decide +kernel
set_option maxRecDepth 20000 in
theorem ggX11_step_X11_isWill : GoodIn wsX11_step wsX11_isWill := goodIn_r _ [8, 2, 9, 10, 11, 12, 13, 14, 15, 16, 7, 17, 142, 143, 144, 145, 146, 147, 148, 149, 150, 151, 152, 153, 154, 155, 156, 157, 158, 159, 160, 161, 162, 163, 164, 165, 166, 167] (by decide +kernel) (by decide +kernel)
set_option maxRecDepth 20000 in
theorem gX11_step_X11_isWill : GoodIn wsX11_step (wsV RX11 295 RX11 yX11_isWill wsX11_isWill) := goodIn_app (goodIn_of _ (by decide +kernel)) ggX11_step_X11_isWill
theorem dX11_step_0 : decode cX11_step 0 = .ok (.aload_n 0, 1) := by decide +kernel
theorem dX11_step_1 : decode cX11_step 1 = .ok (.iload_n 1, 1) := by decide +kernel
theorem dX11_step_2 : decode cX11_step 2 = .ok (.iload_n 2, 1) := by decide +kernel
theorem dX11_step_3 : decode cX11_step 3 = .ok (.iload_n 3, 1) := by decide +kernel
theorem dX11_step_4 : decode cX11_step 4 = .ok (.invokevirtual 295, 3) := by decide +kernel
theorem dX11_step_7 : decode cX11_step 7 = .ok (.ifCond .eq 12, 3) := by decide +kernel
theorem dX11_step_19 : decode cX11_step 19 = .ok (.bipush (-2), 2) := by decide +kernel
theorem dX11_step_21 : decode cX11_step 21 = .ok (.ireturn, 1) := by decide +kernel
set_option maxRecDepth 20000 in
theorem ggX11_keeping_X11_isWill : GoodIn wsX11_keeping wsX11_isWill := goodIn_r _ [7, 2, 8, 9, 10, 11, 12, 13, 14, 15, 6, 16, 100, 101, 102, 103, 104, 105, 106, 107, 108, 109, 110, 111, 112, 113, 114, 115, 116, 117, 118, 119, 120, 121, 122, 123, 124, 125] (by decide +kernel) (by decide +kernel)
set_option maxRecDepth 20000 in
theorem gX11_keeping_X11_isWill : GoodIn wsX11_keeping (wsV RX11 295 RX11 yX11_isWill wsX11_isWill) := goodIn_app (goodIn_of _ (by decide +kernel)) ggX11_keeping_X11_isWill
theorem dX11_keeping_0 : decode cX11_keeping 0 = .ok (.aload_n 0, 1) := by decide +kernel
theorem dX11_keeping_1 : decode cX11_keeping 1 = .ok (.iload_n 1, 1) := by decide +kernel
theorem dX11_keeping_2 : decode cX11_keeping 2 = .ok (.iload_n 2, 1) := by decide +kernel
theorem dX11_keeping_3 : decode cX11_keeping 3 = .ok (.iload_n 3, 1) := by decide +kernel
theorem dX11_keeping_4 : decode cX11_keeping 4 = .ok (.invokevirtual 295, 3) := by decide +kernel
theorem dX11_keeping_7 : decode cX11_keeping 7 = .ok (.ifCond .ne 6, 3) := by decide +kernel
theorem dX11_keeping_10 : decode cX11_keeping 10 = .ok (.bipush (-2), 2) := by decide +kernel
theorem dX11_keeping_12 : decode cX11_keeping 12 = .ok (.ireturn, 1) := by decide +kernel
set_option maxRecDepth 20000 in
theorem ggX11_pen_X11_isWill : GoodIn wsX11_pen wsX11_isWill := goodIn_r _ [7, 2, 8, 9, 10, 11, 12, 13, 14, 15, 6, 16, 111, 112, 113, 114, 115, 116, 117, 118, 119, 120, 121, 122, 123, 124, 125, 126, 127, 128, 129, 130, 131, 132, 133, 134, 135, 136] (by decide +kernel) (by decide +kernel)
set_option maxRecDepth 20000 in
theorem gX11_pen_X11_isWill : GoodIn wsX11_pen (wsV RX11 295 RX11 yX11_isWill wsX11_isWill) := goodIn_app (goodIn_of _ (by decide +kernel)) ggX11_pen_X11_isWill
theorem dX11_pen_0 : decode cX11_pen 0 = .ok (.aload_n 0, 1) := by decide +kernel
theorem dX11_pen_1 : decode cX11_pen 1 = .ok (.iload_n 1, 1) := by decide +kernel
theorem dX11_pen_2 : decode cX11_pen 2 = .ok (.iload_n 2, 1) := by decide +kernel
theorem dX11_pen_3 : decode cX11_pen 3 = .ok (.iload_n 3, 1) := by decide +kernel
theorem dX11_pen_4 : decode cX11_pen 4 = .ok (.invokevirtual 295, 3) := by decide +kernel
theorem dX11_pen_7 : decode cX11_pen 7 = .ok (.ifCond .eq 12, 3) := by decide +kernel
theorem dX11_pen_19 : decode cX11_pen 19 = .ok (.bipush (-2), 2) := by decide +kernel
theorem dX11_pen_21 : decode cX11_pen 21 = .ok (.ireturn, 1) := by decide +kernel
set_option maxRecDepth 20000 in
theorem ggX11_quit_X11_hasYearOf : GoodIn wsX11_quit wsX11_hasYearOf := goodIn_r _ [5, 6, 7, 8, 9, 10, 11, 12, 13, 14, 4, 15, 16, 17, 18, 19, 20, 108, 109, 110, 111, 112, 113, 114, 115, 116, 117, 118, 119, 120, 121, 122, 123, 124, 125, 126, 127, 128, 129, 130, 131, 132, 133] (by decide +kernel) (by decide +kernel)
set_option maxRecDepth 20000 in
theorem gX11_quit_X11_hasYearOf : GoodIn wsX11_quit (wsV RX11 155 RX11 yX11_hasYearOf wsX11_hasYearOf) := goodIn_app (goodIn_of _ (by decide +kernel)) ggX11_quit_X11_hasYearOf
theorem dX11_quit_0 : decode cX11_quit 0 = .ok (.aload_n 0, 1) := by decide +kernel
theorem dX11_quit_1 : decode cX11_quit 1 = .ok (.iload_n 1, 1) := by decide +kernel
theorem dX11_quit_2 : decode cX11_quit 2 = .ok (.iload_n 2, 1) := by decide +kernel
theorem dX11_quit_3 : decode cX11_quit 3 = .ok (.iload_n 3, 1) := by decide +kernel
theorem dX11_quit_4 : decode cX11_quit 4 = .ok (.invokevirtual 155, 3) := by decide +kernel
theorem dX11_quit_7 : decode cX11_quit 7 = .ok (.ifCond .ne 6, 3) := by decide +kernel
theorem dX11_quit_10 : decode cX11_quit 10 = .ok (.bipush (-2), 2) := by decide +kernel
theorem dX11_quit_12 : decode cX11_quit 12 = .ok (.ireturn, 1) := by decide +kernel
set_option maxRecDepth 20000 in
theorem ggX11_when_X4_hasPair : GoodIn wsX11_when wsX4_hasPair := goodIn_r _ [7, 8, 112, 113, 114, 115, 116, 117, 118, 119, 120, 121, 122, 123, 124, 125, 126] (by decide +kernel) (by decide +kernel)
set_option maxRecDepth 20000 in
theorem gX11_when_X4_hasPair : GoodIn wsX11_when (wsV RX11 135 RX4 yX4_hasPair wsX4_hasPair) := goodIn_app (goodIn_of _ (by decide +kernel)) ggX11_when_X4_hasPair
theorem dX11_when_0 : decode cX11_when 0 = .ok (.aload_n 0, 1) := by decide +kernel
theorem dX11_when_1 : decode cX11_when 1 = .ok (.getfield 19, 3) := by decide +kernel
theorem dX11_when_4 : decode cX11_when 4 = .ok (.iload_n 1, 1) := by decide +kernel
theorem dX11_when_5 : decode cX11_when 5 = .ok (.invokevirtual 135, 3) := by decide +kernel
theorem dX11_when_8 : decode cX11_when 8 = .ok (.ifCond .eq 10, 3) := by decide +kernel
theorem dX11_when_18 : decode cX11_when 18 = .ok (.bipush (-2), 2) := by decide +kernel
theorem dX11_when_20 : decode cX11_when 20 = .ok (.ireturn, 1) := by decide +kernel
set_option maxRecDepth 20000 in
theorem ggX11_best_X4_hasPerson : GoodIn wsX11_best wsX4_hasPerson := goodIn_r _ [6, 7, 121, 122, 123, 124, 125, 126, 127, 128, 129, 130, 131, 132, 133, 134, 135] (by decide +kernel) (by decide +kernel)
set_option maxRecDepth 20000 in
theorem gX11_best_X4_hasPerson : GoodIn wsX11_best (wsV RX11 115 RX4 yX4_hasPerson wsX4_hasPerson) := goodIn_app (goodIn_of _ (by decide +kernel)) ggX11_best_X4_hasPerson
theorem dX11_best_0 : decode cX11_best 0 = .ok (.aload_n 0, 1) := by decide +kernel
theorem dX11_best_1 : decode cX11_best 1 = .ok (.getfield 19, 3) := by decide +kernel
theorem dX11_best_4 : decode cX11_best 4 = .ok (.iload_n 1, 1) := by decide +kernel
theorem dX11_best_5 : decode cX11_best 5 = .ok (.invokevirtual 115, 3) := by decide +kernel
theorem dX11_best_8 : decode cX11_best 8 = .ok (.ifCond .eq 13, 3) := by decide +kernel
theorem dX11_best_21 : decode cX11_best 21 = .ok (.bipush (-2), 2) := by decide +kernel
theorem dX11_best_23 : decode cX11_best 23 = .ok (.ireturn, 1) := by decide +kernel
set_option maxRecDepth 20000 in
theorem ggX11_bestCost_X4_hasPerson : GoodIn wsX11_bestCost wsX4_hasPerson := goodIn_r _ [6, 7, 121, 122, 123, 124, 125, 126, 127, 128, 129, 130, 131, 132, 133, 134, 135] (by decide +kernel) (by decide +kernel)
set_option maxRecDepth 20000 in
theorem gX11_bestCost_X4_hasPerson : GoodIn wsX11_bestCost (wsV RX11 115 RX4 yX4_hasPerson wsX4_hasPerson) := goodIn_app (goodIn_of _ (by decide +kernel)) ggX11_bestCost_X4_hasPerson
theorem dX11_bestCost_0 : decode cX11_bestCost 0 = .ok (.aload_n 0, 1) := by decide +kernel
theorem dX11_bestCost_1 : decode cX11_bestCost 1 = .ok (.getfield 19, 3) := by decide +kernel
theorem dX11_bestCost_4 : decode cX11_bestCost 4 = .ok (.iload_n 1, 1) := by decide +kernel
theorem dX11_bestCost_5 : decode cX11_bestCost 5 = .ok (.invokevirtual 115, 3) := by decide +kernel
theorem dX11_bestCost_8 : decode cX11_bestCost 8 = .ok (.ifCond .eq 20, 3) := by decide +kernel
theorem dX11_bestCost_28 : decode cX11_bestCost 28 = .ok (.bipush (-2), 2) := by decide +kernel
theorem dX11_bestCost_30 : decode cX11_bestCost 30 = .ok (.ireturn, 1) := by decide +kernel
set_option maxRecDepth 20000 in
theorem ggX11_family_X4_hasSet : GoodIn wsX11_family wsX4_hasSet := goodIn_r _ [6, 7, 121, 122, 123, 124, 125, 126, 127, 128, 129, 130, 131, 132, 133, 134, 135] (by decide +kernel) (by decide +kernel)
set_option maxRecDepth 20000 in
theorem gX11_family_X4_hasSet : GoodIn wsX11_family (wsV RX11 322 RX4 yX4_hasSet wsX4_hasSet) := goodIn_app (goodIn_of _ (by decide +kernel)) ggX11_family_X4_hasSet
theorem dX11_family_0 : decode cX11_family 0 = .ok (.aload_n 0, 1) := by decide +kernel
theorem dX11_family_1 : decode cX11_family 1 = .ok (.getfield 19, 3) := by decide +kernel
theorem dX11_family_4 : decode cX11_family 4 = .ok (.iload_n 1, 1) := by decide +kernel
theorem dX11_family_5 : decode cX11_family 5 = .ok (.invokevirtual 322, 3) := by decide +kernel
theorem dX11_family_8 : decode cX11_family 8 = .ok (.ifCond .eq 11, 3) := by decide +kernel
theorem dX11_family_19 : decode cX11_family 19 = .ok (.bipush (-2), 2) := by decide +kernel
theorem dX11_family_21 : decode cX11_family 21 = .ok (.ireturn, 1) := by decide +kernel
set_option maxRecDepth 20000 in
theorem ggX11_together_X4_hasSet : GoodIn wsX11_together wsX4_hasSet := goodIn_r _ [6, 7, 121, 122, 123, 124, 125, 126, 127, 128, 129, 130, 131, 132, 133, 134, 135] (by decide +kernel) (by decide +kernel)
set_option maxRecDepth 20000 in
theorem gX11_together_X4_hasSet : GoodIn wsX11_together (wsV RX11 322 RX4 yX4_hasSet wsX4_hasSet) := goodIn_app (goodIn_of _ (by decide +kernel)) ggX11_together_X4_hasSet
theorem dX11_together_0 : decode cX11_together 0 = .ok (.aload_n 0, 1) := by decide +kernel
theorem dX11_together_1 : decode cX11_together 1 = .ok (.getfield 19, 3) := by decide +kernel
theorem dX11_together_4 : decode cX11_together 4 = .ok (.iload_n 1, 1) := by decide +kernel
theorem dX11_together_5 : decode cX11_together 5 = .ok (.invokevirtual 322, 3) := by decide +kernel
theorem dX11_together_8 : decode cX11_together 8 = .ok (.ifCond .eq 16, 3) := by decide +kernel
theorem dX11_together_24 : decode cX11_together 24 = .ok (.bipush (-2), 2) := by decide +kernel
theorem dX11_together_26 : decode cX11_together 26 = .ok (.ireturn, 1) := by decide +kernel
set_option maxRecDepth 20000 in
theorem ggX11_fits_X11_readSeen : GoodIn wsX11_fits wsX11_readSeen := goodIn_r _ [8, 2, 9, 3, 10, 11, 12, 7, 13, 14, 15, 16, 17, 18, 19, 20, 21, 22, 23, 24, 25, 26, 27, 28, 29, 30, 31, 32, 33, 34, 35, 36, 37, 38, 39, 40, 41, 42, 43, 44, 45, 46, 128, 129, 130, 131, 132, 133, 134, 135, 136, 137, 138, 139, 140, 141, 142, 143, 144, 145, 146, 147, 148, 149, 150, 151, 152, 153, 154, 155, 156, 157, 158, 159, 160] (by decide +kernel) (by decide +kernel)
set_option maxRecDepth 20000 in
theorem gX11_fits_X11_readSeen : GoodIn wsX11_fits (wsV RX11 325 RX11 yX11_readSeen wsX11_readSeen) := goodIn_app (goodIn_of _ (by decide +kernel)) ggX11_fits_X11_readSeen
theorem dX11_fits_0 : decode cX11_fits 0 = .ok (.aload_n 0, 1) := by decide +kernel
theorem dX11_fits_1 : decode cX11_fits 1 = .ok (.iload_n 1, 1) := by decide +kernel
theorem dX11_fits_2 : decode cX11_fits 2 = .ok (.iload_n 2, 1) := by decide +kernel
theorem dX11_fits_3 : decode cX11_fits 3 = .ok (.invokevirtual 325, 3) := by decide +kernel
theorem dX11_fits_6 : decode cX11_fits 6 = .ok (.istore_n 3, 1) := by decide +kernel
theorem dX11_fits_7 : decode cX11_fits 7 = .ok (.iload_n 3, 1) := by decide +kernel
theorem dX11_fits_8 : decode cX11_fits 8 = .ok (.ifCond .eq 5, 3) := by decide +kernel
theorem dX11_fits_11 : decode cX11_fits 11 = .ok (.iload_n 3, 1) := by decide +kernel
theorem dX11_fits_12 : decode cX11_fits 12 = .ok (.ireturn, 1) := by decide +kernel
set_option maxRecDepth 20000 in
theorem ggX11_which_X11_isBit : GoodIn wsX11_which wsX11_isBit := goodIn_r _ [8] (by decide +kernel) (by decide +kernel)
set_option maxRecDepth 20000 in
theorem gX11_which_X11_isBit : GoodIn wsX11_which (va_wsS RX11 152 yX11_isBit wsX11_isBit) := goodIn_app (goodIn_of _ (by decide +kernel)) ggX11_which_X11_isBit
set_option maxRecDepth 20000 in
theorem ggX11_which_X11_readSeen : GoodIn wsX11_which wsX11_readSeen := goodIn_r _ [12, 3, 13, 4, 14, 15, 16, 7, 17, 18, 19, 20, 21, 22, 23, 24, 25, 26, 27, 28, 29, 30, 31, 32, 33, 34, 35, 36, 37, 38, 39, 40, 41, 42, 43, 44, 45, 46, 47, 48, 49, 50, 133, 134, 135, 136, 137, 138, 139, 140, 141, 142, 143, 144, 145, 146, 147, 148, 149, 150, 151, 152, 153, 154, 155, 156, 157, 158, 159, 160, 161, 162, 163, 164, 165] (by decide +kernel) (by decide +kernel)
set_option maxRecDepth 20000 in
theorem gX11_which_X11_readSeen : GoodIn wsX11_which (wsV RX11 325 RX11 yX11_readSeen wsX11_readSeen) := goodIn_app (goodIn_of _ (by decide +kernel)) ggX11_which_X11_readSeen
theorem dX11_which_0 : decode cX11_which 0 = .ok (.iload_n 3, 1) := by decide +kernel
theorem dX11_which_1 : decode cX11_which 1 = .ok (.invokestatic 152, 3) := by decide +kernel
theorem dX11_which_4 : decode cX11_which 4 = .ok (.ifCond .ne 7, 3) := by decide +kernel
theorem dX11_which_7 : decode cX11_which 7 = .ok (.ldc2_w 275, 3) := by decide +kernel
theorem dX11_which_10 : decode cX11_which 10 = .ok (.lreturn, 1) := by decide +kernel
theorem dX11_which_11 : decode cX11_which 11 = .ok (.aload_n 0, 1) := by decide +kernel
theorem dX11_which_12 : decode cX11_which 12 = .ok (.iload_n 1, 1) := by decide +kernel
theorem dX11_which_13 : decode cX11_which 13 = .ok (.iload_n 2, 1) := by decide +kernel
theorem dX11_which_14 : decode cX11_which 14 = .ok (.invokevirtual 325, 3) := by decide +kernel
theorem dX11_which_17 : decode cX11_which 17 = .ok (.istore 4, 2) := by decide +kernel
theorem dX11_which_19 : decode cX11_which 19 = .ok (.iload 4, 2) := by decide +kernel
theorem dX11_which_21 : decode cX11_which 21 = .ok (.ifCond .eq 7, 3) := by decide +kernel
theorem dX11_which_24 : decode cX11_which 24 = .ok (.iload 4, 2) := by decide +kernel
theorem dX11_which_26 : decode cX11_which 26 = .ok (.i2l, 1) := by decide +kernel
theorem dX11_which_27 : decode cX11_which 27 = .ok (.lreturn, 1) := by decide +kernel
set_option maxRecDepth 20000 in
theorem ggX11_begun_X11_readSeen : GoodIn wsX11_begun wsX11_readSeen := goodIn_r _ [10, 2, 11, 4, 12, 13, 14, 9, 15, 16, 17, 18, 19, 20, 21, 22, 23, 24, 25, 26, 27, 28, 29, 30, 31, 32, 33, 34, 35, 36, 37, 38, 39, 40, 41, 42, 43, 44, 45, 46, 47, 48, 130, 131, 132, 133, 134, 135, 136, 137, 138, 139, 140, 149, 150, 151, 152, 153, 154, 155, 156, 157, 158, 159, 160, 161, 162, 163, 164, 165, 166, 167, 168, 169, 170] (by decide +kernel) (by decide +kernel)
set_option maxRecDepth 20000 in
theorem gX11_begun_X11_readSeen : GoodIn wsX11_begun (wsV RX11 325 RX11 yX11_readSeen wsX11_readSeen) := goodIn_app (goodIn_of _ (by decide +kernel)) ggX11_begun_X11_readSeen
theorem dX11_begun_0 : decode cX11_begun 0 = .ok (.aload_n 0, 1) := by decide +kernel
theorem dX11_begun_1 : decode cX11_begun 1 = .ok (.iload_n 1, 1) := by decide +kernel
theorem dX11_begun_2 : decode cX11_begun 2 = .ok (.iload_n 2, 1) := by decide +kernel
theorem dX11_begun_3 : decode cX11_begun 3 = .ok (.invokevirtual 325, 3) := by decide +kernel
theorem dX11_begun_6 : decode cX11_begun 6 = .ok (.istore_n 3, 1) := by decide +kernel
theorem dX11_begun_7 : decode cX11_begun 7 = .ok (.iload_n 3, 1) := by decide +kernel
theorem dX11_begun_8 : decode cX11_begun 8 = .ok (.ifCond .eq 5, 3) := by decide +kernel
theorem dX11_begun_11 : decode cX11_begun 11 = .ok (.iload_n 3, 1) := by decide +kernel
theorem dX11_begun_12 : decode cX11_begun 12 = .ok (.ireturn, 1) := by decide +kernel
set_option maxRecDepth 20000 in
theorem ggX11_odd_X11_readSeen : GoodIn wsX11_odd wsX11_readSeen := goodIn_r _ [8, 9, 1, 10, 11, 12, 13, 7, 14, 15, 16, 17, 18, 19, 20, 21, 22, 23, 24, 25, 26, 27, 28, 29, 30, 31, 32, 33, 34, 35, 36, 37, 38, 39, 40, 41, 42, 43, 44, 45, 46, 47, 142, 143, 144, 145, 146, 147, 148, 149, 150, 151, 152, 160, 161, 162, 163, 164, 165, 166, 167, 168, 169, 170, 171, 172, 173, 174, 153, 154, 155, 175, 176, 177, 178] (by decide +kernel) (by decide +kernel)
set_option maxRecDepth 20000 in
theorem gX11_odd_X11_readSeen : GoodIn wsX11_odd (wsV RX11 325 RX11 yX11_readSeen wsX11_readSeen) := goodIn_app (goodIn_of _ (by decide +kernel)) ggX11_odd_X11_readSeen
theorem dX11_odd_0 : decode cX11_odd 0 = .ok (.aload_n 0, 1) := by decide +kernel
theorem dX11_odd_1 : decode cX11_odd 1 = .ok (.iload_n 1, 1) := by decide +kernel
theorem dX11_odd_2 : decode cX11_odd 2 = .ok (.iload_n 2, 1) := by decide +kernel
theorem dX11_odd_3 : decode cX11_odd 3 = .ok (.invokevirtual 325, 3) := by decide +kernel
theorem dX11_odd_6 : decode cX11_odd 6 = .ok (.istore_n 3, 1) := by decide +kernel
theorem dX11_odd_7 : decode cX11_odd 7 = .ok (.iload_n 3, 1) := by decide +kernel
theorem dX11_odd_8 : decode cX11_odd 8 = .ok (.ifCond .eq 5, 3) := by decide +kernel
theorem dX11_odd_11 : decode cX11_odd 11 = .ok (.iload_n 3, 1) := by decide +kernel
theorem dX11_odd_12 : decode cX11_odd 12 = .ok (.ireturn, 1) := by decide +kernel
set_option maxRecDepth 20000 in
theorem ggX11_life_X4_isThere : GoodIn wsX11_life wsX4_isThere := goodIn_r _ [9, 10, 124, 125, 126, 127, 128, 129, 130, 131, 132, 133, 134, 135, 136, 137, 138] (by decide +kernel) (by decide +kernel)
set_option maxRecDepth 20000 in
theorem gX11_life_X4_isThere : GoodIn wsX11_life (wsV RX11 220 RX4 yX4_isThere wsX4_isThere) := goodIn_app (goodIn_of _ (by decide +kernel)) ggX11_life_X4_isThere
theorem dX11_life_0 : decode cX11_life 0 = .ok (.aload_n 0, 1) := by decide +kernel
theorem dX11_life_1 : decode cX11_life 1 = .ok (.getfield 19, 3) := by decide +kernel
theorem dX11_life_4 : decode cX11_life 4 = .ok (.invokevirtual 220, 3) := by decide +kernel
theorem dX11_life_7 : decode cX11_life 7 = .ok (.ifCond .eq 18, 3) := by decide +kernel
theorem dX11_life_25 : decode cX11_life 25 = .ok (.bipush (-2), 2) := by decide +kernel
theorem dX11_life_27 : decode cX11_life 27 = .ok (.ireturn, 1) := by decide +kernel
set_option maxRecDepth 20000 in
theorem ggX11_lives_X4_hasPair : GoodIn wsX11_lives wsX4_hasPair := goodIn_r _ [8, 9, 116, 117, 118, 119, 120, 121, 122, 123, 124, 125, 126, 127, 128, 129, 130] (by decide +kernel) (by decide +kernel)
set_option maxRecDepth 20000 in
theorem gX11_lives_X4_hasPair : GoodIn wsX11_lives (wsV RX11 135 RX4 yX4_hasPair wsX4_hasPair) := goodIn_app (goodIn_of _ (by decide +kernel)) ggX11_lives_X4_hasPair
theorem dX11_lives_0 : decode cX11_lives 0 = .ok (.aload_n 0, 1) := by decide +kernel
theorem dX11_lives_1 : decode cX11_lives 1 = .ok (.getfield 19, 3) := by decide +kernel
theorem dX11_lives_4 : decode cX11_lives 4 = .ok (.iload_n 2, 1) := by decide +kernel
theorem dX11_lives_5 : decode cX11_lives 5 = .ok (.invokevirtual 135, 3) := by decide +kernel
theorem dX11_lives_8 : decode cX11_lives 8 = .ok (.ifCond .eq 10, 3) := by decide +kernel
theorem dX11_lives_18 : decode cX11_lives 18 = .ok (.bipush (-2), 2) := by decide +kernel
theorem dX11_lives_20 : decode cX11_lives 20 = .ok (.ireturn, 1) := by decide +kernel
set_option maxRecDepth 20000 in
theorem ggX11_lasts_X4_hasPair : GoodIn wsX11_lasts wsX4_hasPair := goodIn_r _ [9, 10, 117, 118, 119, 120, 121, 122, 123, 124, 125, 126, 127, 128, 129, 130, 131] (by decide +kernel) (by decide +kernel)
set_option maxRecDepth 20000 in
theorem gX11_lasts_X4_hasPair : GoodIn wsX11_lasts (wsV RX11 135 RX4 yX4_hasPair wsX4_hasPair) := goodIn_app (goodIn_of _ (by decide +kernel)) ggX11_lasts_X4_hasPair
theorem dX11_lasts_0 : decode cX11_lasts 0 = .ok (.aload_n 0, 1) := by decide +kernel
theorem dX11_lasts_1 : decode cX11_lasts 1 = .ok (.getfield 19, 3) := by decide +kernel
theorem dX11_lasts_4 : decode cX11_lasts 4 = .ok (.iload_n 3, 1) := by decide +kernel
theorem dX11_lasts_5 : decode cX11_lasts 5 = .ok (.invokevirtual 135, 3) := by decide +kernel
theorem dX11_lasts_8 : decode cX11_lasts 8 = .ok (.ifCond .eq 21, 3) := by decide +kernel
theorem dX11_lasts_29 : decode cX11_lasts 29 = .ok (.bipush (-2), 2) := by decide +kernel
theorem dX11_lasts_31 : decode cX11_lasts 31 = .ok (.ireturn, 1) := by decide +kernel
set_option maxRecDepth 20000 in
theorem ggX11_train_X4_hasPerson : GoodIn wsX11_train wsX4_hasPerson := goodIn_r _ [9, 10, 29, 30, 31, 32, 33, 34, 35, 36, 37, 38, 39, 40, 41, 42, 43] (by decide +kernel) (by decide +kernel)
set_option maxRecDepth 20000 in
theorem gX11_train_X4_hasPerson : GoodIn wsX11_train (wsV RX11 115 RX4 yX4_hasPerson wsX4_hasPerson) := goodIn_app (goodIn_of _ (by decide +kernel)) ggX11_train_X4_hasPerson
theorem dX11_train_0 : decode cX11_train 0 = .ok (.aload_n 0, 1) := by decide +kernel
theorem dX11_train_1 : decode cX11_train 1 = .ok (.getfield 19, 3) := by decide +kernel
theorem dX11_train_4 : decode cX11_train 4 = .ok (.iload_n 1, 1) := by decide +kernel
theorem dX11_train_5 : decode cX11_train 5 = .ok (.invokevirtual 115, 3) := by decide +kernel
theorem dX11_train_8 : decode cX11_train 8 = .ok (.ifCond .ne 6, 3) := by decide +kernel
theorem dX11_train_11 : decode cX11_train 11 = .ok (.bipush (-2), 2) := by decide +kernel
theorem dX11_train_13 : decode cX11_train 13 = .ok (.ireturn, 1) := by decide +kernel
set_option maxRecDepth 20000 in
theorem ggX11_begin_X4_hasPair : GoodIn wsX11_begin wsX4_hasPair := goodIn_r _ [7, 8, 27, 28, 29, 30, 31, 32, 33, 34, 35, 36, 37, 38, 39, 40, 41] (by decide +kernel) (by decide +kernel)
set_option maxRecDepth 20000 in
theorem gX11_begin_X4_hasPair : GoodIn wsX11_begin (wsV RX11 135 RX4 yX4_hasPair wsX4_hasPair) := goodIn_app (goodIn_of _ (by decide +kernel)) ggX11_begin_X4_hasPair
theorem dX11_begin_0 : decode cX11_begin 0 = .ok (.aload_n 0, 1) := by decide +kernel
theorem dX11_begin_1 : decode cX11_begin 1 = .ok (.getfield 19, 3) := by decide +kernel
theorem dX11_begin_4 : decode cX11_begin 4 = .ok (.iload_n 1, 1) := by decide +kernel
theorem dX11_begin_5 : decode cX11_begin 5 = .ok (.invokevirtual 135, 3) := by decide +kernel
theorem dX11_begin_8 : decode cX11_begin 8 = .ok (.ifCond .ne 6, 3) := by decide +kernel
theorem dX11_begin_11 : decode cX11_begin 11 = .ok (.bipush (-2), 2) := by decide +kernel
theorem dX11_begin_13 : decode cX11_begin 13 = .ok (.ireturn, 1) := by decide +kernel
set_option maxRecDepth 20000 in
theorem ggX11_lose_X11_hasYearOf : GoodIn wsX11_lose wsX11_hasYearOf := goodIn_r _ [9, 1, 10, 11, 12, 13, 14, 15, 16, 17, 8, 18, 19, 20, 21, 22, 23, 31, 32, 33, 34, 35, 36, 37, 38, 39, 40, 41, 42, 43, 44, 45, 46, 47, 48, 49, 50, 51, 52, 53, 54, 55, 56] (by decide +kernel) (by decide +kernel)
set_option maxRecDepth 20000 in
theorem gX11_lose_X11_hasYearOf : GoodIn wsX11_lose (wsV RX11 155 RX11 yX11_hasYearOf wsX11_hasYearOf) := goodIn_app (goodIn_of _ (by decide +kernel)) ggX11_lose_X11_hasYearOf
theorem dX11_lose_0 : decode cX11_lose 0 = .ok (.aload_n 0, 1) := by decide +kernel
theorem dX11_lose_1 : decode cX11_lose 1 = .ok (.iload_n 1, 1) := by decide +kernel
theorem dX11_lose_2 : decode cX11_lose 2 = .ok (.iload_n 2, 1) := by decide +kernel
theorem dX11_lose_3 : decode cX11_lose 3 = .ok (.iload_n 3, 1) := by decide +kernel
theorem dX11_lose_4 : decode cX11_lose 4 = .ok (.invokevirtual 155, 3) := by decide +kernel
theorem dX11_lose_7 : decode cX11_lose 7 = .ok (.ifCond .eq 11, 3) := by decide +kernel
theorem dX11_lose_18 : decode cX11_lose 18 = .ok (.bipush (-2), 2) := by decide +kernel
theorem dX11_lose_20 : decode cX11_lose 20 = .ok (.ireturn, 1) := by decide +kernel
set_option maxRecDepth 20000 in
theorem ggX11_calls_X4_hasYear : GoodIn wsX11_calls wsX4_hasYear := goodIn_r _ [9, 10, 33, 34, 35, 36, 37, 38, 39, 40, 41, 42, 43, 44, 45, 46, 47] (by decide +kernel) (by decide +kernel)
set_option maxRecDepth 20000 in
theorem gX11_calls_X4_hasYear : GoodIn wsX11_calls (wsV RX11 184 RX4 yX4_hasYear wsX4_hasYear) := goodIn_app (goodIn_of _ (by decide +kernel)) ggX11_calls_X4_hasYear
theorem dX11_calls_0 : decode cX11_calls 0 = .ok (.aload_n 0, 1) := by decide +kernel
theorem dX11_calls_1 : decode cX11_calls 1 = .ok (.getfield 19, 3) := by decide +kernel
theorem dX11_calls_4 : decode cX11_calls 4 = .ok (.iload_n 1, 1) := by decide +kernel
theorem dX11_calls_5 : decode cX11_calls 5 = .ok (.invokevirtual 184, 3) := by decide +kernel
theorem dX11_calls_8 : decode cX11_calls 8 = .ok (.ifCond .eq 10, 3) := by decide +kernel
theorem dX11_calls_18 : decode cX11_calls 18 = .ok (.bipush (-2), 2) := by decide +kernel
theorem dX11_calls_20 : decode cX11_calls 20 = .ok (.ireturn, 1) := by decide +kernel
