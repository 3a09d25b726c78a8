def v_X5_goThrough : List Cond := .code yX5_goThrough cX5_goThrough 11 none :: (([.methodLink RX5 62 yX4_ruleOfSide, .instanceMethod yX4_ruleOfSide, .selects RX4 yX4_ruleOfSide yX4_ruleOfSide, .initialized RX4, .fieldLink RX5 18 "CardsAtYule$Lives" "may" "[J", .methodLink RX5 66 yX2_sidesOf, .static yX2_sidesOf, .initialized RX2, .fieldLink RX5 22 "CardsAtYule$Lives" "reach" "[J", .fieldLink RX5 15 "CardsAtYule$Lives" "states" "[I", .methodLink RX5 72 yX10_firsts, .static yX10_firsts, .initialized RX10, .methodLink RX5 78 yX5_mindful, .instanceMethod yX5_mindful, .selects RX5 yX5_mindful yX5_mindful, .initialized RX5, .methodLink RX5 82 yX10_returning, .static yX10_returning, .methodLink RX5 85 yX10_backs, .static yX10_backs, .fieldLink RX5 29 "CardsAtYule$Lives" "sent" "I", .methodLink RX5 88 yJ6_bitCount_0f7a4, .static yJ6_bitCount_0f7a4, .initialized RJ6, .methodLink RX5 94 yX10_swapped, .static yX10_swapped, .methodLink RX5 97 yX10_after, .static yX10_after, .fieldLink RX5 9 "CardsAtYule$Lives" "lastSent" "[I"] : List Cond) ++ (v_X4_ruleOfSide ++ (v_X2_sidesOf ++ (v_X10_firsts ++ (v_X5_mindful ++ (v_X10_returning ++ (v_X10_backs ++ (v_J6_bitCount_0f7a4 ++ (v_X10_swapped ++ (v_X10_after ++ (wsX50 ++ ([] : List Cond))))))))))))
theorem good_v_X5_goThrough : v_X5_goThrough.all goodWord = true := ga_c (by decide +kernel) (ga_a (by decide +kernel) (ga_a good_v_X4_ruleOfSide (ga_a good_v_X2_sidesOf (ga_a good_v_X10_firsts (ga_a good_v_X5_mindful (ga_a good_v_X10_returning (ga_a good_v_X10_backs (ga_a good_v_J6_bitCount_0f7a4 (ga_a good_v_X10_swapped (ga_a good_v_X10_after (ga_a good_wsX50 rfl)))))))))))
set_option maxHeartbeats 4000000 in
set_option maxRecDepth 100000 in
theorem q_X5_goThrough (l : Launch) (g : va_G) (cI cJ cB cZ cL : ClassId) (p1 : Int32) (p2 : Int32) (dr : Nat) (ld : Nat) (ld_lines : Int32) (ld_years : Int32) (ld_card : Int32) (ld_hurt : Int32) (ld_people : Int32) (ld_pairs : Int32) (ld_strikes : Int64) (ld_rule : Nat) (ld_returns : Nat) (ld_forgets : Nat) (ld_death : Nat) (ld_move : Nat) (ld_begun : Nat) (ld_who : Nat) (ld_lost : Nat) (ld_who_c : Nat → Int32) (ld_rule_c : Nat → Int32) (ld_returns_c : Nat → Int32) (dr_sent : Int32) (dr_forgot : Int32) (dr_lastSent : Nat) (dr_x : Int64) (dr_states : Nat) (dr_may : Nat) (dr_reach : Nat) (dr_may_c : Nat → Int64) (dr_reach_c : Nat → Int64) (dr_states_c : Nat → Int32) (ld_forgets_c : Nat → Int32) (dr_lastSent_c : Nat → Int32) (sz : Nat) (hv_p1 : ir p1.toInt 0 15) (hv_ld_years : ir ld_years.toInt 0 40) (hv_ld_people : ir ld_people.toInt 0 10) (hv_ld_pairs : ir ld_pairs.toInt 0 16) (ha_ld_who_c : ar ld_who_c 32 0 9) : Met l yX5_goThrough v_X5_goThrough ({ frames := 2, cells := 0, slots := 0, locals := 45 }) (va_Pc [.ref dr, .ref ld, .int p1, .int p2] (pRW g (tyT cI cJ cB cZ cL) [(ld, .inr (4, [.int ld_lines, .int ld_years, .int ld_card, .int ld_hurt, .int ld_people, .int ld_pairs, .long ld_strikes, .ref ld_rule, .ref ld_returns, .ref ld_forgets, .ref ld_death, .ref ld_move, .ref ld_begun, .ref ld_who, .ref ld_lost])), (ld_who, .inl (cI, 32, .inl ld_who_c)), (ld_rule, .inl (cI, 10, .inl ld_rule_c)), (ld_returns, .inl (cI, 10, .inl ld_returns_c)), (dr, .inr (5, [.int dr_sent, .int dr_forgot, .ref dr_lastSent, .long dr_x, .ref dr_states, .ref dr_may, .ref dr_reach])), (dr_may, .inl (cJ, 32, .inr (.inl dr_may_c))), (dr_reach, .inl (cJ, 32, .inr (.inl dr_reach_c))), (dr_states, .inl (cI, 16, .inl dr_states_c)), (ld_forgets, .inl (cI, 10, .inl ld_forgets_c)), (dr_lastSent, .inl (cI, 16, .inl dr_lastSent_c))] sz)) (va_Qv (fun (u : Int32 × Int32 × Int64 × (Nat → Int32) × (Nat → Int32)) => match u with | (n_dr_sent, n_dr_forgot, n_dr_x, n_dr_states_c, n_dr_lastSent_c) => True) (fun (u : Int32 × Int32 × Int64 × (Nat → Int32) × (Nat → Int32)) (t : State) => bRW g (tyT cI cJ cB cZ cL) (va_A [(ld, .inr (4, [.int ld_lines, .int ld_years, .int ld_card, .int ld_hurt, .int ld_people, .int ld_pairs, .long ld_strikes, .ref ld_rule, .ref ld_returns, .ref ld_forgets, .ref ld_death, .ref ld_move, .ref ld_begun, .ref ld_who, .ref ld_lost])), (ld_who, .inl (cI, 32, .inl ld_who_c)), (ld_rule, .inl (cI, 10, .inl ld_rule_c)), (ld_returns, .inl (cI, 10, .inl ld_returns_c)), (dr, .inr (5, [.int dr_sent, .int dr_forgot, .ref dr_lastSent, .long dr_x, .ref dr_states, .ref dr_may, .ref dr_reach])), (dr_may, .inl (cJ, 32, .inr (.inl dr_may_c))), (dr_reach, .inl (cJ, 32, .inr (.inl dr_reach_c))), (dr_states, .inl (cI, 16, .inl dr_states_c)), (ld_forgets, .inl (cI, 10, .inl ld_forgets_c)), (dr_lastSent, .inl (cI, 16, .inl dr_lastSent_c))] sz) (match u with | (n_dr_sent, n_dr_forgot, n_dr_x, n_dr_states_c, n_dr_lastSent_c) => [(ld, .inr (4, [.int ld_lines, .int ld_years, .int ld_card, .int ld_hurt, .int ld_people, .int ld_pairs, .long ld_strikes, .ref ld_rule, .ref ld_returns, .ref ld_forgets, .ref ld_death, .ref ld_move, .ref ld_begun, .ref ld_who, .ref ld_lost])), (ld_who, .inl (cI, 32, .inl ld_who_c)), (ld_rule, .inl (cI, 10, .inl ld_rule_c)), (ld_returns, .inl (cI, 10, .inl ld_returns_c)), (dr, .inr (5, [.int n_dr_sent, .int n_dr_forgot, .ref dr_lastSent, .long n_dr_x, .ref dr_states, .ref dr_may, .ref dr_reach])), (dr_may, .inl (cJ, 32, .inr (.inl dr_may_c))), (dr_reach, .inl (cJ, 32, .inr (.inl dr_reach_c))), (dr_states, .inl (cI, 16, .inl n_dr_states_c)), (ld_forgets, .inl (cI, 10, .inl ld_forgets_c)), (dr_lastSent, .inl (cI, 16, .inl n_dr_lastSent_c))]) t) (va_A [(ld, .inr (4, [.int ld_lines, .int ld_years, .int ld_card, .int ld_hurt, .int ld_people, .int ld_pairs, .long ld_strikes, .ref ld_rule, .ref ld_returns, .ref ld_forgets, .ref ld_death, .ref ld_move, .ref ld_begun, .ref ld_who, .ref ld_lost])), (ld_who, .inl (cI, 32, .inl ld_who_c)), (ld_rule, .inl (cI, 10, .inl ld_rule_c)), (ld_returns, .inl (cI, 10, .inl ld_returns_c)), (dr, .inr (5, [.int dr_sent, .int dr_forgot, .ref dr_lastSent, .long dr_x, .ref dr_states, .ref dr_may, .ref dr_reach])), (dr_may, .inl (cJ, 32, .inr (.inl dr_may_c))), (dr_reach, .inl (cJ, 32, .inr (.inl dr_reach_c))), (dr_states, .inl (cI, 16, .inl dr_states_c)), (ld_forgets, .inl (cI, 10, .inl ld_forgets_c)), (dr_lastSent, .inl (cI, 16, .inl dr_lastSent_c))] sz)) 0 0 (va_A [(ld, .inr (4, [.int ld_lines, .int ld_years, .int ld_card, .int ld_hurt, .int ld_people, .int ld_pairs, .long ld_strikes, .ref ld_rule, .ref ld_returns, .ref ld_forgets, .ref ld_death, .ref ld_move, .ref ld_begun, .ref ld_who, .ref ld_lost])), (ld_who, .inl (cI, 32, .inl ld_who_c)), (ld_rule, .inl (cI, 10, .inl ld_rule_c)), (ld_returns, .inl (cI, 10, .inl ld_returns_c)), (dr, .inr (5, [.int dr_sent, .int dr_forgot, .ref dr_lastSent, .long dr_x, .ref dr_states, .ref dr_may, .ref dr_reach])), (dr_may, .inl (cJ, 32, .inr (.inl dr_may_c))), (dr_reach, .inl (cJ, 32, .inr (.inl dr_reach_c))), (dr_states, .inl (cI, 16, .inl dr_states_c)), (ld_forgets, .inl (cI, 10, .inl ld_forgets_c)), (dr_lastSent, .inl (cI, 16, .inl dr_lastSent_c))] sz) := by
  refine Met.ofW (cc := cX5_goThrough) (maxL := 11) (ret := none) (by decide) rfl ?_
  intro p e s m args below meth c s₁ B hml hv
  obtain ⟨rfl, hsz, hP, hK, hD0⟩ := hv
  have hx := B.exec
  have hb := B.bytes
  have hr := B.returns
  have hts := atoms_spec (ws := v_X5_goThrough) B.pre
  have hown : s.vm.findClass RX5 = some m.cls := findClass_of_methodNamed B.named
  have hlocks := B.notSynchronized
  clear B
  subst hsz
  have iX5 : ∀ w ∈ wsX50, w ∈ v_X5_goThrough := (fun _ h => List.mem_cons_of_mem _ (List.mem_append_right _ (List.mem_append_right _ (List.mem_append_right _ (List.mem_append_right _ (List.mem_append_right _ (List.mem_append_right _ (List.mem_append_right _ (List.mem_append_right _ (List.mem_append_right _ (List.mem_append_right _ (List.mem_append_left _ h))))))))))))
  have hD := hD0.self (sz := s.heap.size)
  generalize hAe : (va_A [(ld, .inr (4, [.int ld_lines, .int ld_years, .int ld_card, .int ld_hurt, .int ld_people, .int ld_pairs, .long ld_strikes, .ref ld_rule, .ref ld_returns, .ref ld_forgets, .ref ld_death, .ref ld_move, .ref ld_begun, .ref ld_who, .ref ld_lost])), (ld_who, .inl (cI, 32, .inl ld_who_c)), (ld_rule, .inl (cI, 10, .inl ld_rule_c)), (ld_returns, .inl (cI, 10, .inl ld_returns_c)), (dr, .inr (5, [.int dr_sent, .int dr_forgot, .ref dr_lastSent, .long dr_x, .ref dr_states, .ref dr_may, .ref dr_reach])), (dr_may, .inl (cJ, 32, .inr (.inl dr_may_c))), (dr_reach, .inl (cJ, 32, .inr (.inl dr_reach_c))), (dr_states, .inl (cI, 16, .inl dr_states_c)), (ld_forgets, .inl (cI, 10, .inl ld_forgets_c)), (dr_lastSent, .inl (cI, 16, .inl dr_lastSent_c))] s.heap.size) = A at hD ⊢
  have hA : ∀ q : Nat, s.heap.size ≤ q → A q := fun q h => by rw [← hAe]; exact Or.inr h
  have hS : va_S A s.heap s.heap [] := va_S.rf
  have hl := lv_entry ([.ref dr, .ref ld, .int p1, .int p2]) (n := 11) (Nat.le_of_ble_eq_true rfl)
  rw [lg_entry_eq]
  generalize (lg_sl ([.ref dr, .ref ld, .int p1, .int p2]) ++ List.replicate (11 - (lg_sl ([.ref dr, .ref ld, .int p1, .int p2])).length) Slot.unset).toArray = ls at hl ⊢
  generalize ([.ref dr, .ref ld, .int p1, .int p2] : List Value).toArray = av at hts ⊢
  generalize hQ : MQ below _ av s _ _ A = QQ
  have hl : lv_has ls 11 [(0, .ref dr), (1, .ref ld), (2, .int p1), (3, .int p2)] := hl
  have hP : va_P g vwCl [(ld, .inr (4, [.int ld_lines, .int ld_years, .int ld_card, .int ld_hurt, .int ld_people, .int ld_pairs, .long ld_strikes, .ref ld_rule, .ref ld_returns, .ref ld_forgets, .ref ld_death, .ref ld_move, .ref ld_begun, .ref ld_who, .ref ld_lost])), (ld_who, .inl (cI, 32, .inl ld_who_c)), (ld_rule, .inl (cI, 10, .inl ld_rule_c)), (ld_returns, .inl (cI, 10, .inl ld_returns_c)), (dr, .inr (5, [.int dr_sent, .int dr_forgot, .ref dr_lastSent, .long dr_x, .ref dr_states, .ref dr_may, .ref dr_reach])), (dr_may, .inl (cJ, 32, .inr (.inl dr_may_c))), (dr_reach, .inl (cJ, 32, .inr (.inl dr_reach_c))), (dr_states, .inl (cI, 16, .inl dr_states_c)), (ld_forgets, .inl (cI, 10, .inl ld_forgets_c)), (dr_lastSent, .inl (cI, 16, .inl dr_lastSent_c))] s.heap := hP
  refine lv_aload_n hx hb dX5_goThrough_0 rfl (lv_at hl 1 rfl) ?_
  refine lv_iload_n hx hb dX5_goThrough_1 rfl (lv_at hl 2 rfl) ?_
  refine lv_iconst (v := 0) hx hb dX5_goThrough_2 (by decide) ?_
  refine ro_i (va_runV (As := [.int p1, .int 0]) (rest := []) ⟨hx, hb, hml, hown, hts⟩ (q_X4_ruleOfSide l g cI cJ cB cZ cL p1 0 ld ld_lines ld_years ld_card ld_hurt ld_people ld_pairs ld_strikes ld_rule ld_returns ld_forgets ld_death ld_move ld_begun ld_who ld_lost ld_who_c ld_rule_c ld_returns_c s.heap.size hv_p1 (by decide) hv_ld_years hv_ld_people hv_ld_pairs ha_ld_who_c) (cwV 2 hts (goodIn_app (g_4 (List.mem_cons_of_mem _ (List.mem_append_left _ (List.mem_of_getElem? (i := 0) rfl))) (List.mem_cons_of_mem _ (List.mem_append_left _ (List.mem_of_getElem? (i := 1) rfl))) (List.mem_cons_of_mem _ (List.mem_append_left _ (List.mem_of_getElem? (i := 2) rfl))) (List.mem_cons_of_mem _ (List.mem_append_left _ (List.mem_of_getElem? (i := 3) rfl))) (by decide +kernel)) (goodIn_sub (fun _ h => List.mem_cons_of_mem _ (List.mem_append_right _ (List.mem_append_left _ h))) good_v_X4_ruleOfSide)) rfl rfl rfl (by decide +kernel) ⟨Nat.le_of_ble_eq_true rfl, Nat.le_of_ble_eq_true rfl⟩) (pv_RO (q := (RX4, TX4, 15)) (ci := 4) (q0 := 0) (wc := [(ld, .inr (4, [.int ld_lines, .int ld_years, .int ld_card, .int ld_hurt, .int ld_people, .int ld_pairs, .long ld_strikes, .ref ld_rule, .ref ld_returns, .ref ld_forgets, .ref ld_death, .ref ld_move, .ref ld_begun, .ref ld_who, .ref ld_lost])), (ld_who, .inl (cI, 32, .inl ld_who_c)), (ld_rule, .inl (cI, 10, .inl ld_rule_c)), (ld_returns, .inl (cI, 10, .inl ld_returns_c))]) hK hP [0, 1, 2, 3] rfl rfl rfl) rfl rfl hl.1 rfl (lv_room (Nat.le_of_ble_eq_true rfl)) dX5_goThrough_3 ⟨Nat.le_of_ble_eq_true rfl, Nat.le_of_ble_eq_true rfl⟩) hS hA hP (fun r3 u3 H locs hw3 hP hS => ?_)
  refine lv_istore (lv' := [(4, .int r3), (0, .ref dr), (1, .ref ld), (2, .int p1), (3, .int p2)]) hx hb dX5_goThrough_6 hl (by decide) rfl (fun ls hl => ?_)
  refine lv_aload_n hx hb dX5_goThrough_8 rfl (lv_at hl 2 rfl) ?_
  refine lv_iload_n hx hb dX5_goThrough_9 rfl (lv_at hl 3 rfl) ?_
  refine lv_iconst (v := 1) hx hb dX5_goThrough_10 (by decide) ?_
  refine ro_i (va_runV (As := [.int p1, .int 1]) (rest := []) ⟨hx, hb, hml, hown, hts⟩ (q_X4_ruleOfSide l g cI cJ cB cZ cL p1 1 ld ld_lines ld_years ld_card ld_hurt ld_people ld_pairs ld_strikes ld_rule ld_returns ld_forgets ld_death ld_move ld_begun ld_who ld_lost ld_who_c ld_rule_c ld_returns_c H.size hv_p1 (by decide) hv_ld_years hv_ld_people hv_ld_pairs ha_ld_who_c) (cwV 2 hts (goodIn_app (g_4 (List.mem_cons_of_mem _ (List.mem_append_left _ (List.mem_of_getElem? (i := 0) rfl))) (List.mem_cons_of_mem _ (List.mem_append_left _ (List.mem_of_getElem? (i := 1) rfl))) (List.mem_cons_of_mem _ (List.mem_append_left _ (List.mem_of_getElem? (i := 2) rfl))) (List.mem_cons_of_mem _ (List.mem_append_left _ (List.mem_of_getElem? (i := 3) rfl))) (by decide +kernel)) (goodIn_sub (fun _ h => List.mem_cons_of_mem _ (List.mem_append_right _ (List.mem_append_left _ h))) good_v_X4_ruleOfSide)) rfl rfl rfl (by decide +kernel) ⟨Nat.le_of_ble_eq_true rfl, Nat.le_of_ble_eq_true rfl⟩) (pv_RO (q := (RX4, TX4, 15)) (ci := 4) (q0 := 0) (wc := [(ld, .inr (4, [.int ld_lines, .int ld_years, .int ld_card, .int ld_hurt, .int ld_people, .int ld_pairs, .long ld_strikes, .ref ld_rule, .ref ld_returns, .ref ld_forgets, .ref ld_death, .ref ld_move, .ref ld_begun, .ref ld_who, .ref ld_lost])), (ld_who, .inl (cI, 32, .inl ld_who_c)), (ld_rule, .inl (cI, 10, .inl ld_rule_c)), (ld_returns, .inl (cI, 10, .inl ld_returns_c))]) hK hP [0, 1, 2, 3] rfl rfl rfl) rfl rfl hl.1 rfl (lv_room (Nat.le_of_ble_eq_true rfl)) dX5_goThrough_11 ⟨Nat.le_of_ble_eq_true rfl, Nat.le_of_ble_eq_true rfl⟩) hS hA hP (fun r11 u11 H locs hw11 hP hS => ?_)
  refine lv_istore (lv' := [(5, .int r11), (4, .int r3), (0, .ref dr), (1, .ref ld), (2, .int p1), (3, .int p2)]) hx hb dX5_goThrough_14 hl (by decide) rfl (fun ls hl => ?_)
  refine lv_aload_n hx hb dX5_goThrough_16 rfl (lv_at hl 2 rfl) ?_
  refine va_get (D := g) (ci := 5) (v := .ref dr_may) (C := RX5) (T := TX5) (N := 7) hx hb hts iX5 hown hK hP 4 rfl rfl 5 (by decide) (hts (.fieldLink RX5 18 "CardsAtYule$Lives" "may" "[J") (List.mem_cons_of_mem _ (List.mem_append_left _ (List.mem_of_getElem? (i := 4) rfl)))) (fun _ h9 => h9) rfl dX5_goThrough_17 ?_
  refine lv_iconst (v := 2) hx hb dX5_goThrough_20 (by decide) ?_
  refine lv_iload_n hx hb dX5_goThrough_21 rfl (lv_at hl 4 rfl) ?_
  refine lv_imul hx hb dX5_goThrough_22 ?_
  refine lv_topi (fun y22 e22 => ?_)
  have q22 : y22.toInt = 2 * p1.toInt := by rw [e22]; exact mu_z rfl rfl (ir_c 2) hv_p1 (by decide) (by decide) (by decide)
  have r22 : ir y22.toInt 0 30 := mu_r q22 (ir_c 2) hv_p1 (by decide) (by decide) (by decide) (by decide)
  refine va_lald (D := g) hx hb hK hP 5 1 rfl rfl (vi_rg rfl r22 (by decide) (by decide)) dX5_goThrough_23 ?_
  refine lv_topl (fun y23 e23 => ?_)
  refine lv_aload_n hx hb dX5_goThrough_24 rfl (lv_at hl 2 rfl) ?_
  refine va_get (D := g) (ci := 5) (v := .ref dr_may) (C := RX5) (T := TX5) (N := 7) hx hb hts iX5 hown hK hP 4 rfl rfl 5 (by decide) (hts (.fieldLink RX5 18 "CardsAtYule$Lives" "may" "[J") (List.mem_cons_of_mem _ (List.mem_append_left _ (List.mem_of_getElem? (i := 4) rfl)))) (fun _ h9 => h9) rfl dX5_goThrough_25 ?_
  refine lv_iconst (v := 2) hx hb dX5_goThrough_28 (by decide) ?_
  refine lv_iload_n hx hb dX5_goThrough_29 rfl (lv_at hl 4 rfl) ?_
  refine lv_imul hx hb dX5_goThrough_30 ?_
  refine lv_topi (fun y30 e30 => ?_)
  have q30 : y30.toInt = 2 * p1.toInt := by rw [e30]; exact mu_z rfl rfl (ir_c 2) hv_p1 (by decide) (by decide) (by decide)
  have r30 : ir y30.toInt 0 30 := mu_r q30 (ir_c 2) hv_p1 (by decide) (by decide) (by decide) (by decide)
  refine lv_iconst (v := 1) hx hb dX5_goThrough_31 (by decide) ?_
  refine lv_iadd hx hb dX5_goThrough_32 ?_
  refine lv_topi (fun y32 e32 => ?_)
  have q32 : y32.toInt = y30.toInt + 1 := by rw [e32]; exact ad_z rfl rfl r30 (ir_c 1) (by decide) (by decide)
  have r32 : ir y32.toInt 1 31 := ad_r q32 r30 (ir_c 1) (by decide) (by decide)
  refine va_lald (D := g) hx hb hK hP 5 1 rfl rfl (vi_rg rfl r32 (by decide) (by decide)) dX5_goThrough_33 ?_
  refine lv_topl (fun y33 e33 => ?_)
  refine lv_iload_n hx hb dX5_goThrough_34 rfl (lv_at hl 5 rfl) ?_
  refine ro_i (va_runS (As := [.long y23, .long y33, .int p2]) (rest := []) ⟨hx, hb, hml, hown, hts⟩ (q_X2_sidesOf l g cI cJ cB cZ cL y23 y33 p2 H.size ) (va_cwS 3 hts (goodIn_app (g_3 (List.mem_cons_of_mem _ (List.mem_append_left _ (List.mem_of_getElem? (i := 5) rfl))) (List.mem_cons_of_mem _ (List.mem_append_left _ (List.mem_of_getElem? (i := 6) rfl))) (List.mem_cons_of_mem _ (List.mem_append_left _ (List.mem_of_getElem? (i := 7) rfl))) (by decide +kernel)) (goodIn_sub (fun _ h => List.mem_cons_of_mem _ (List.mem_append_right _ (List.mem_append_right _ (List.mem_append_left _ h)))) good_v_X2_sidesOf)) rfl rfl rfl (by decide +kernel) ⟨Nat.le_of_ble_eq_true rfl, Nat.le_of_ble_eq_true rfl⟩) (ps_RO (wc := []) hK hP [] rfl) rfl rfl hl.1 rfl (lv_room (Nat.le_of_ble_eq_true rfl)) dX5_goThrough_35 ⟨Nat.le_of_ble_eq_true rfl, Nat.le_of_ble_eq_true rfl⟩) hS hA hP (fun r35 u35 H locs hw35 hP hS => ?_)
  have hw35_0 := hw35
  refine lv_istore (lv' := [(6, .int r35), (5, .int r11), (4, .int r3), (0, .ref dr), (1, .ref ld), (2, .int p1), (3, .int p2)]) hx hb dX5_goThrough_38 hl (by decide) rfl (fun ls hl => ?_)
  refine lv_aload_n hx hb dX5_goThrough_40 rfl (lv_at hl 3 rfl) ?_
  refine va_get (D := g) (ci := 5) (v := .ref dr_reach) (C := RX5) (T := TX5) (N := 7) hx hb hts iX5 hown hK hP 4 rfl rfl 6 (by decide) (hts (.fieldLink RX5 22 "CardsAtYule$Lives" "reach" "[J") (List.mem_cons_of_mem _ (List.mem_append_left _ (List.mem_of_getElem? (i := 8) rfl)))) (fun _ h9 => h9) rfl dX5_goThrough_41 ?_
  refine lv_iconst (v := 2) hx hb dX5_goThrough_44 (by decide) ?_
  refine lv_iload_n hx hb dX5_goThrough_45 rfl (lv_at hl 5 rfl) ?_
  refine lv_imul hx hb dX5_goThrough_46 ?_
  refine lv_topi (fun y46 e46 => ?_)
  have q46 : y46.toInt = 2 * p1.toInt := by rw [e46]; exact mu_z rfl rfl (ir_c 2) hv_p1 (by decide) (by decide) (by decide)
  have r46 : ir y46.toInt 0 30 := mu_r q46 (ir_c 2) hv_p1 (by decide) (by decide) (by decide) (by decide)
  refine va_lald (D := g) hx hb hK hP 6 1 rfl rfl (vi_rg rfl r46 (by decide) (by decide)) dX5_goThrough_47 ?_
  refine lv_topl (fun y47 e47 => ?_)
  refine lv_aload_n hx hb dX5_goThrough_48 rfl (lv_at hl 3 rfl) ?_
  refine va_get (D := g) (ci := 5) (v := .ref dr_reach) (C := RX5) (T := TX5) (N := 7) hx hb hts iX5 hown hK hP 4 rfl rfl 6 (by decide) (hts (.fieldLink RX5 22 "CardsAtYule$Lives" "reach" "[J") (List.mem_cons_of_mem _ (List.mem_append_left _ (List.mem_of_getElem? (i := 8) rfl)))) (fun _ h9 => h9) rfl dX5_goThrough_49 ?_
  refine lv_iconst (v := 2) hx hb dX5_goThrough_52 (by decide) ?_
  refine lv_iload_n hx hb dX5_goThrough_53 rfl (lv_at hl 5 rfl) ?_
  refine lv_imul hx hb dX5_goThrough_54 ?_
  refine lv_topi (fun y54 e54 => ?_)
  have q54 : y54.toInt = 2 * p1.toInt := by rw [e54]; exact mu_z rfl rfl (ir_c 2) hv_p1 (by decide) (by decide) (by decide)
  have r54 : ir y54.toInt 0 30 := mu_r q54 (ir_c 2) hv_p1 (by decide) (by decide) (by decide) (by decide)
  refine lv_iconst (v := 1) hx hb dX5_goThrough_55 (by decide) ?_
  refine lv_iadd hx hb dX5_goThrough_56 ?_
  refine lv_topi (fun y56 e56 => ?_)
  have q56 : y56.toInt = y54.toInt + 1 := by rw [e56]; exact ad_z rfl rfl r54 (ir_c 1) (by decide) (by decide)
  have r56 : ir y56.toInt 1 31 := ad_r q56 r54 (ir_c 1) (by decide) (by decide)
  refine va_lald (D := g) hx hb hK hP 6 1 rfl rfl (vi_rg rfl r56 (by decide) (by decide)) dX5_goThrough_57 ?_
  refine lv_topl (fun y57 e57 => ?_)
  refine lv_iload_n hx hb dX5_goThrough_58 rfl (lv_at hl 6 rfl) ?_
  refine ro_i (va_runS (As := [.long y47, .long y57, .int p2]) (rest := []) ⟨hx, hb, hml, hown, hts⟩ (q_X2_sidesOf l g cI cJ cB cZ cL y47 y57 p2 H.size ) (va_cwS 3 hts (goodIn_app (g_3 (List.mem_cons_of_mem _ (List.mem_append_left _ (List.mem_of_getElem? (i := 5) rfl))) (List.mem_cons_of_mem _ (List.mem_append_left _ (List.mem_of_getElem? (i := 6) rfl))) (List.mem_cons_of_mem _ (List.mem_append_left _ (List.mem_of_getElem? (i := 7) rfl))) (by decide +kernel)) (goodIn_sub (fun _ h => List.mem_cons_of_mem _ (List.mem_append_right _ (List.mem_append_right _ (List.mem_append_left _ h)))) good_v_X2_sidesOf)) rfl rfl rfl (by decide +kernel) ⟨Nat.le_of_ble_eq_true rfl, Nat.le_of_ble_eq_true rfl⟩) (ps_RO (wc := []) hK hP [] rfl) rfl rfl hl.1 rfl (lv_room (Nat.le_of_ble_eq_true rfl)) dX5_goThrough_59 ⟨Nat.le_of_ble_eq_true rfl, Nat.le_of_ble_eq_true rfl⟩) hS hA hP (fun r59 u59 H locs hw59 hP hS => ?_)
  have hw59_0 := hw59
  refine lv_istore (lv' := [(7, .int r59), (6, .int r35), (5, .int r11), (4, .int r3), (0, .ref dr), (1, .ref ld), (2, .int p1), (3, .int p2)]) hx hb dX5_goThrough_62 hl (by decide) rfl (fun ls hl => ?_)
  refine lv_aload_n hx hb dX5_goThrough_64 rfl (lv_at hl 4 rfl) ?_
  refine lv_aload_n hx hb dX5_goThrough_65 rfl (lv_at hl 5 rfl) ?_
  refine lv_iload_n hx hb dX5_goThrough_66 rfl (lv_at hl 6 rfl) ?_
  refine lv_iload hx hb dX5_goThrough_67 (lv_at hl 3 rfl) ?_
  refine lv_iload hx hb dX5_goThrough_69 (lv_at hl 2 rfl) ?_
  refine lv_aload_n hx hb dX5_goThrough_71 rfl (lv_at hl 4 rfl) ?_
  refine va_get (D := g) (ci := 5) (v := .ref dr_states) (C := RX5) (T := TX5) (N := 7) hx hb hts iX5 hown hK hP 4 rfl rfl 4 (by decide) (hts (.fieldLink RX5 15 "CardsAtYule$Lives" "states" "[I") (List.mem_cons_of_mem _ (List.mem_append_left _ (List.mem_of_getElem? (i := 9) rfl)))) (fun _ h9 => h9) rfl dX5_goThrough_72 ?_
  refine lv_iload_n hx hb dX5_goThrough_75 rfl (lv_at hl 6 rfl) ?_
  refine va_iald (D := g) hx hb hK hP 7 0 rfl rfl (vi_rg rfl hv_p1 (by decide) (by decide)) dX5_goThrough_76 ?_
  refine lv_topi (fun y76 e76 => ?_)
  refine ro_i (va_runS (As := [.int r3, .int r11, .int y76]) (rest := [.int p1, .ref ld, .ref dr]) ⟨hx, hb, hml, hown, hts⟩ (q_X10_firsts l g cI cJ cB cZ cL r3 r11 y76 H.size ) (va_cwS 3 hts (goodIn_app (g_3 (List.mem_cons_of_mem _ (List.mem_append_left _ (List.mem_of_getElem? (i := 10) rfl))) (List.mem_cons_of_mem _ (List.mem_append_left _ (List.mem_of_getElem? (i := 11) rfl))) (List.mem_cons_of_mem _ (List.mem_append_left _ (List.mem_of_getElem? (i := 12) rfl))) (by decide +kernel)) (goodIn_sub (fun _ h => List.mem_cons_of_mem _ (List.mem_append_right _ (List.mem_append_right _ (List.mem_append_right _ (List.mem_append_left _ h))))) good_v_X10_firsts)) rfl rfl rfl (by decide +kernel) ⟨Nat.le_of_ble_eq_true rfl, Nat.le_of_ble_eq_true rfl⟩) (ps_RO (wc := []) hK hP [] rfl) rfl rfl hl.1 rfl (lv_room (Nat.le_of_ble_eq_true rfl)) dX5_goThrough_77 ⟨Nat.le_of_ble_eq_true rfl, Nat.le_of_ble_eq_true rfl⟩) hS hA hP (fun r77 u77 H locs hw77 hP hS => ?_)
  have hw77_0 := hw77
  refine lv_iload hx hb dX5_goThrough_80 (lv_at hl 1 rfl) ?_
  refine lv_iand hx hb dX5_goThrough_82 ?_
  refine lv_topi (fun y82 e82 => ?_)
  have r82 : ir y82.toInt 0 3 := by rw [e82]; exact an_y rfl hw35_0 (by decide)
  refine rw_i (wr := [(ld_rule, .inl (cI, 10, .inl ld_rule_c)), (ld_returns, .inl (cI, 10, .inl ld_returns_c)), (dr_may, .inl (cJ, 32, .inr (.inl dr_may_c))), (dr_reach, .inl (cJ, 32, .inr (.inl dr_reach_c))), (dr_states, .inl (cI, 16, .inl dr_states_c)), (dr_lastSent, .inl (cI, 16, .inl dr_lastSent_c))]) (va_runV (As := [.ref ld, .int p1, .int y82]) (rest := []) ⟨hx, hb, hml, hown, hts⟩ (q_X5_mindful l g cI cJ cB cZ cL p1 y82 dr ld dr_sent dr_forgot dr_lastSent dr_x dr_states dr_may dr_reach ld_lines ld_years ld_card ld_hurt ld_people ld_pairs ld_strikes ld_rule ld_returns ld_forgets ld_death ld_move ld_begun ld_who ld_lost ld_who_c ld_forgets_c H.size hv_p1 hv_ld_years hv_ld_people hv_ld_pairs ha_ld_who_c) (cwV 3 hts (goodIn_app (g_4 (List.mem_cons_of_mem _ (List.mem_append_left _ (List.mem_of_getElem? (i := 13) rfl))) (List.mem_cons_of_mem _ (List.mem_append_left _ (List.mem_of_getElem? (i := 14) rfl))) (List.mem_cons_of_mem _ (List.mem_append_left _ (List.mem_of_getElem? (i := 15) rfl))) (List.mem_cons_of_mem _ (List.mem_append_left _ (List.mem_of_getElem? (i := 16) rfl))) (by decide +kernel)) (goodIn_sub (fun _ h => List.mem_cons_of_mem _ (List.mem_append_right _ (List.mem_append_right _ (List.mem_append_right _ (List.mem_append_right _ (List.mem_append_left _ h)))))) good_v_X5_mindful)) rfl rfl rfl (by decide +kernel) ⟨Nat.le_of_ble_eq_true rfl, Nat.le_of_ble_eq_true rfl⟩) (pv_RW (q := (RX5, TX5, 7)) (ci := 5) (q0 := 0) (wc := [(dr, .inr (5, [.int dr_sent, .int dr_forgot, .ref dr_lastSent, .long dr_x, .ref dr_states, .ref dr_may, .ref dr_reach])), (ld, .inr (4, [.int ld_lines, .int ld_years, .int ld_card, .int ld_hurt, .int ld_people, .int ld_pairs, .long ld_strikes, .ref ld_rule, .ref ld_returns, .ref ld_forgets, .ref ld_death, .ref ld_move, .ref ld_begun, .ref ld_who, .ref ld_lost])), (ld_who, .inl (cI, 32, .inl ld_who_c)), (ld_forgets, .inl (cI, 10, .inl ld_forgets_c))]) hK hP hD [4, 0, 1, 8] (by decide) rfl rfl rfl) rfl rfl hl.1 rfl (lv_room (Nat.le_of_ble_eq_true rfl)) dX5_goThrough_83 ⟨Nat.le_of_ble_eq_true rfl, Nat.le_of_ble_eq_true rfl⟩) hS hA hP hD [4, 0, 1, 8] [2, 3, 5, 6, 7, 9] rfl rfl (by decide) (by decide) (fun r83 u83 H locs hw83 hP hD hS => ?_)
  obtain ⟨n_dr_forgot_83, n_dr_x_83⟩ := u83
  have hP : va_P g vwCl [(ld_rule, .inl (cI, 10, .inl ld_rule_c)), (ld_returns, .inl (cI, 10, .inl ld_returns_c)), (dr_may, .inl (cJ, 32, .inr (.inl dr_may_c))), (dr_reach, .inl (cJ, 32, .inr (.inl dr_reach_c))), (dr_states, .inl (cI, 16, .inl dr_states_c)), (dr_lastSent, .inl (cI, 16, .inl dr_lastSent_c)), (dr, .inr (5, [.int dr_sent, .int n_dr_forgot_83, .ref dr_lastSent, .long n_dr_x_83, .ref dr_states, .ref dr_may, .ref dr_reach])), (ld, .inr (4, [.int ld_lines, .int ld_years, .int ld_card, .int ld_hurt, .int ld_people, .int ld_pairs, .long ld_strikes, .ref ld_rule, .ref ld_returns, .ref ld_forgets, .ref ld_death, .ref ld_move, .ref ld_begun, .ref ld_who, .ref ld_lost])), (ld_who, .inl (cI, 32, .inl ld_who_c)), (ld_forgets, .inl (cI, 10, .inl ld_forgets_c))] H := hP
  have hD : va_D A [(ld_rule, .inl (cI, 10, .inl ld_rule_c)), (ld_returns, .inl (cI, 10, .inl ld_returns_c)), (dr_may, .inl (cJ, 32, .inr (.inl dr_may_c))), (dr_reach, .inl (cJ, 32, .inr (.inl dr_reach_c))), (dr_states, .inl (cI, 16, .inl dr_states_c)), (dr_lastSent, .inl (cI, 16, .inl dr_lastSent_c)), (dr, .inr (5, [.int dr_sent, .int n_dr_forgot_83, .ref dr_lastSent, .long n_dr_x_83, .ref dr_states, .ref dr_may, .ref dr_reach])), (ld, .inr (4, [.int ld_lines, .int ld_years, .int ld_card, .int ld_hurt, .int ld_people, .int ld_pairs, .long ld_strikes, .ref ld_rule, .ref ld_returns, .ref ld_forgets, .ref ld_death, .ref ld_move, .ref ld_begun, .ref ld_who, .ref ld_lost])), (ld_who, .inl (cI, 32, .inl ld_who_c)), (ld_forgets, .inl (cI, 10, .inl ld_forgets_c))] := hD
  refine lv_istore (lv' := [(8, .int r83), (7, .int r59), (6, .int r35), (5, .int r11), (4, .int r3), (0, .ref dr), (1, .ref ld), (2, .int p1), (3, .int p2)]) hx hb dX5_goThrough_86 hl (by decide) rfl (fun ls hl => ?_)
  refine lv_iload hx hb dX5_goThrough_88 (lv_at hl 0 rfl) ?_
  refine lv_iload hx hb dX5_goThrough_90 (lv_at hl 4 rfl) ?_
  refine lv_iload hx hb dX5_goThrough_92 (lv_at hl 3 rfl) ?_
  refine ro_i (va_runS (As := [.int r3, .int r11]) (rest := [.int r83]) ⟨hx, hb, hml, hown, hts⟩ (q_X10_returning l g cI cJ cB cZ cL r3 r11 H.size ) (va_cwS 2 hts (goodIn_app (g_3 (List.mem_cons_of_mem _ (List.mem_append_left _ (List.mem_of_getElem? (i := 17) rfl))) (List.mem_cons_of_mem _ (List.mem_append_left _ (List.mem_of_getElem? (i := 18) rfl))) (List.mem_cons_of_mem _ (List.mem_append_left _ (List.mem_of_getElem? (i := 12) rfl))) (by decide +kernel)) (goodIn_sub (fun _ h => List.mem_cons_of_mem _ (List.mem_append_right _ (List.mem_append_right _ (List.mem_append_right _ (List.mem_append_right _ (List.mem_append_right _ (List.mem_append_left _ h))))))) good_v_X10_returning)) rfl rfl rfl (by decide +kernel) ⟨Nat.le_of_ble_eq_true rfl, Nat.le_of_ble_eq_true rfl⟩) (ps_RO (wc := []) hK hP [] rfl) rfl rfl hl.1 rfl (lv_room (Nat.le_of_ble_eq_true rfl)) dX5_goThrough_94 ⟨Nat.le_of_ble_eq_true rfl, Nat.le_of_ble_eq_true rfl⟩) hS hA hP (fun r94 u94 H locs hw94 hP hS => ?_)
  have hw94_0 := hw94
  refine lv_iload hx hb dX5_goThrough_97 (lv_at hl 2 rfl) ?_
  refine lv_iand hx hb dX5_goThrough_99 ?_
  refine lv_topi (fun y99 e99 => ?_)
  have r99 : ir y99.toInt 0 3 := by rw [e99]; exact an_y rfl hw35_0 (by decide)
  refine lv_iload hx hb dX5_goThrough_100 (lv_at hl 1 rfl) ?_
  refine ro_i (va_runS (As := [.int r83, .int y99, .int r59]) (rest := []) ⟨hx, hb, hml, hown, hts⟩ (q_X10_backs l g cI cJ cB cZ cL r83 y99 r59 H.size r99) (va_cwS 3 hts (goodIn_app (g_3 (List.mem_cons_of_mem _ (List.mem_append_left _ (List.mem_of_getElem? (i := 19) rfl))) (List.mem_cons_of_mem _ (List.mem_append_left _ (List.mem_of_getElem? (i := 20) rfl))) (List.mem_cons_of_mem _ (List.mem_append_left _ (List.mem_of_getElem? (i := 12) rfl))) (by decide +kernel)) (goodIn_sub (fun _ h => List.mem_cons_of_mem _ (List.mem_append_right _ (List.mem_append_right _ (List.mem_append_right _ (List.mem_append_right _ (List.mem_append_right _ (List.mem_append_right _ (List.mem_append_left _ h)))))))) good_v_X10_backs)) rfl rfl rfl (by decide +kernel) ⟨Nat.le_of_ble_eq_true rfl, Nat.le_of_ble_eq_true rfl⟩) (ps_RO (wc := []) hK hP [] rfl) rfl rfl hl.1 rfl (lv_room (Nat.le_of_ble_eq_true rfl)) dX5_goThrough_102 ⟨Nat.le_of_ble_eq_true rfl, Nat.le_of_ble_eq_true rfl⟩) hS hA hP (fun r102 u102 H locs hw102 hP hS => ?_)
  have hw102_0 := hw102
  refine lv_istore (lv' := [(9, .int r102), (8, .int r83), (7, .int r59), (6, .int r35), (5, .int r11), (4, .int r3), (0, .ref dr), (1, .ref ld), (2, .int p1), (3, .int p2)]) hx hb dX5_goThrough_105 hl (by decide) rfl (fun ls hl => ?_)
  refine lv_iload hx hb dX5_goThrough_107 (lv_at hl 1 rfl) ?_
  refine lv_aload_n hx hb dX5_goThrough_109 rfl (lv_at hl 6 rfl) ?_
  refine lv_aload_n hx hb dX5_goThrough_110 rfl (lv_at hl 7 rfl) ?_
  refine lv_iload_n hx hb dX5_goThrough_111 rfl (lv_at hl 8 rfl) ?_
  refine lv_iload hx hb dX5_goThrough_112 (lv_at hl 0 rfl) ?_
  refine rw_i (wr := [(ld_rule, .inl (cI, 10, .inl ld_rule_c)), (ld_returns, .inl (cI, 10, .inl ld_returns_c)), (dr_may, .inl (cJ, 32, .inr (.inl dr_may_c))), (dr_reach, .inl (cJ, 32, .inr (.inl dr_reach_c))), (dr_states, .inl (cI, 16, .inl dr_states_c)), (dr_lastSent, .inl (cI, 16, .inl dr_lastSent_c))]) (va_runV (As := [.ref ld, .int p1, .int r102]) (rest := [.int r83]) ⟨hx, hb, hml, hown, hts⟩ (q_X5_mindful l g cI cJ cB cZ cL p1 r102 dr ld dr_sent n_dr_forgot_83 dr_lastSent n_dr_x_83 dr_states dr_may dr_reach ld_lines ld_years ld_card ld_hurt ld_people ld_pairs ld_strikes ld_rule ld_returns ld_forgets ld_death ld_move ld_begun ld_who ld_lost ld_who_c ld_forgets_c H.size hv_p1 hv_ld_years hv_ld_people hv_ld_pairs ha_ld_who_c) (cwV 3 hts (goodIn_app (g_4 (List.mem_cons_of_mem _ (List.mem_append_left _ (List.mem_of_getElem? (i := 13) rfl))) (List.mem_cons_of_mem _ (List.mem_append_left _ (List.mem_of_getElem? (i := 14) rfl))) (List.mem_cons_of_mem _ (List.mem_append_left _ (List.mem_of_getElem? (i := 15) rfl))) (List.mem_cons_of_mem _ (List.mem_append_left _ (List.mem_of_getElem? (i := 16) rfl))) (by decide +kernel)) (goodIn_sub (fun _ h => List.mem_cons_of_mem _ (List.mem_append_right _ (List.mem_append_right _ (List.mem_append_right _ (List.mem_append_right _ (List.mem_append_left _ h)))))) good_v_X5_mindful)) rfl rfl rfl (by decide +kernel) ⟨Nat.le_of_ble_eq_true rfl, Nat.le_of_ble_eq_true rfl⟩) (pv_RW (q := (RX5, TX5, 7)) (ci := 5) (q0 := 0) (wc := [(dr, .inr (5, [.int dr_sent, .int n_dr_forgot_83, .ref dr_lastSent, .long n_dr_x_83, .ref dr_states, .ref dr_may, .ref dr_reach])), (ld, .inr (4, [.int ld_lines, .int ld_years, .int ld_card, .int ld_hurt, .int ld_people, .int ld_pairs, .long ld_strikes, .ref ld_rule, .ref ld_returns, .ref ld_forgets, .ref ld_death, .ref ld_move, .ref ld_begun, .ref ld_who, .ref ld_lost])), (ld_who, .inl (cI, 32, .inl ld_who_c)), (ld_forgets, .inl (cI, 10, .inl ld_forgets_c))]) hK hP hD [6, 7, 8, 9] (by decide) rfl rfl rfl) rfl rfl hl.1 rfl (lv_room (Nat.le_of_ble_eq_true rfl)) dX5_goThrough_114 ⟨Nat.le_of_ble_eq_true rfl, Nat.le_of_ble_eq_true rfl⟩) hS hA hP hD [6, 7, 8, 9] [0, 1, 2, 3, 4, 5] rfl rfl (by decide) (by decide) (fun r114 u114 H locs hw114 hP hD hS => ?_)
  obtain ⟨n_dr_forgot_114, n_dr_x_114⟩ := u114
  have hP : va_P g vwCl [(ld_rule, .inl (cI, 10, .inl ld_rule_c)), (ld_returns, .inl (cI, 10, .inl ld_returns_c)), (dr_may, .inl (cJ, 32, .inr (.inl dr_may_c))), (dr_reach, .inl (cJ, 32, .inr (.inl dr_reach_c))), (dr_states, .inl (cI, 16, .inl dr_states_c)), (dr_lastSent, .inl (cI, 16, .inl dr_lastSent_c)), (dr, .inr (5, [.int dr_sent, .int n_dr_forgot_114, .ref dr_lastSent, .long n_dr_x_114, .ref dr_states, .ref dr_may, .ref dr_reach])), (ld, .inr (4, [.int ld_lines, .int ld_years, .int ld_card, .int ld_hurt, .int ld_people, .int ld_pairs, .long ld_strikes, .ref ld_rule, .ref ld_returns, .ref ld_forgets, .ref ld_death, .ref ld_move, .ref ld_begun, .ref ld_who, .ref ld_lost])), (ld_who, .inl (cI, 32, .inl ld_who_c)), (ld_forgets, .inl (cI, 10, .inl ld_forgets_c))] H := hP
  have hD : va_D A [(ld_rule, .inl (cI, 10, .inl ld_rule_c)), (ld_returns, .inl (cI, 10, .inl ld_returns_c)), (dr_may, .inl (cJ, 32, .inr (.inl dr_may_c))), (dr_reach, .inl (cJ, 32, .inr (.inl dr_reach_c))), (dr_states, .inl (cI, 16, .inl dr_states_c)), (dr_lastSent, .inl (cI, 16, .inl dr_lastSent_c)), (dr, .inr (5, [.int dr_sent, .int n_dr_forgot_114, .ref dr_lastSent, .long n_dr_x_114, .ref dr_states, .ref dr_may, .ref dr_reach])), (ld, .inr (4, [.int ld_lines, .int ld_years, .int ld_card, .int ld_hurt, .int ld_people, .int ld_pairs, .long ld_strikes, .ref ld_rule, .ref ld_returns, .ref ld_forgets, .ref ld_death, .ref ld_move, .ref ld_begun, .ref ld_who, .ref ld_lost])), (ld_who, .inl (cI, 32, .inl ld_who_c)), (ld_forgets, .inl (cI, 10, .inl ld_forgets_c))] := hD
  refine lv_ior hx hb dX5_goThrough_117 ?_
  refine lv_topi (fun y117 e117 => ?_)
  refine lv_istore (lv' := [(10, .int y117), (9, .int r102), (8, .int r83), (7, .int r59), (6, .int r35), (5, .int r11), (4, .int r3), (0, .ref dr), (1, .ref ld), (2, .int p1), (3, .int p2)]) hx hb dX5_goThrough_118 hl (by decide) rfl (fun ls hl => ?_)
  refine lv_iload hx hb dX5_goThrough_120 (lv_at hl 0 rfl) ?_
  have J132 : ∀ (j132_dr_lastSent_c : Nat → Int32) (H : Heap) (locs : List Loc) (ls : Array Slot), va_P g vwCl [(ld_rule, .inl (cI, 10, .inl ld_rule_c)), (ld_returns, .inl (cI, 10, .inl ld_returns_c)), (dr_may, .inl (cJ, 32, .inr (.inl dr_may_c))), (dr_reach, .inl (cJ, 32, .inr (.inl dr_reach_c))), (dr_states, .inl (cI, 16, .inl dr_states_c)), (dr_lastSent, .inl (cI, 16, .inl j132_dr_lastSent_c)), (dr, .inr (5, [.int dr_sent, .int n_dr_forgot_114, .ref dr_lastSent, .long n_dr_x_114, .ref dr_states, .ref dr_may, .ref dr_reach])), (ld, .inr (4, [.int ld_lines, .int ld_years, .int ld_card, .int ld_hurt, .int ld_people, .int ld_pairs, .long ld_strikes, .ref ld_rule, .ref ld_returns, .ref ld_forgets, .ref ld_death, .ref ld_move, .ref ld_begun, .ref ld_who, .ref ld_lost])), (ld_who, .inl (cI, 32, .inl ld_who_c)), (ld_forgets, .inl (cI, 10, .inl ld_forgets_c))] H → va_D A [(ld_rule, .inl (cI, 10, .inl ld_rule_c)), (ld_returns, .inl (cI, 10, .inl ld_returns_c)), (dr_may, .inl (cJ, 32, .inr (.inl dr_may_c))), (dr_reach, .inl (cJ, 32, .inr (.inl dr_reach_c))), (dr_states, .inl (cI, 16, .inl dr_states_c)), (dr_lastSent, .inl (cI, 16, .inl j132_dr_lastSent_c)), (dr, .inr (5, [.int dr_sent, .int n_dr_forgot_114, .ref dr_lastSent, .long n_dr_x_114, .ref dr_states, .ref dr_may, .ref dr_reach])), (ld, .inr (4, [.int ld_lines, .int ld_years, .int ld_card, .int ld_hurt, .int ld_people, .int ld_pairs, .long ld_strikes, .ref ld_rule, .ref ld_returns, .ref ld_forgets, .ref ld_death, .ref ld_move, .ref ld_begun, .ref ld_who, .ref ld_lost])), (ld_who, .inl (cI, 32, .inl ld_who_c)), (ld_forgets, .inl (cI, 10, .inl ld_forgets_c))] → va_S A s.heap H locs → lv_has ls 11 [(0, .ref dr), (2, .int p1), (7, .int r59), (10, .int y117)] → W p l e (headSpec v_X5_goThrough ({ frames := 2, cells := 0, slots := 0, locals := 45 })).room s m av below meth c H locs 0 0 QQ (F0 m 132 ls []) := by
    intro j132_dr_lastSent_c H locs ls  hP hD hS hl
    refine lv_aload_n hx hb dX5_goThrough_132 rfl (lv_at hl 0 rfl) ?_
    refine lv_dup hx hb dX5_goThrough_133 rfl ?_
    refine va_get (D := g) (ci := 5) (v := .int dr_sent) (C := RX5) (T := TX5) (N := 7) hx hb hts iX5 hown hK hP 6 rfl rfl 0 (by decide) (hts (.fieldLink RX5 29 "CardsAtYule$Lives" "sent" "I") (List.mem_cons_of_mem _ (List.mem_append_left _ (List.mem_of_getElem? (i := 21) rfl)))) (fun _ h9 => h9) rfl dX5_goThrough_134 ?_
    refine lv_iload hx hb dX5_goThrough_137 (lv_at hl 3 rfl) ?_
    refine ro_i (va_runS (As := [.int y117]) (rest := [.int dr_sent, .ref dr]) ⟨hx, hb, hml, hown, hts⟩ (q_J6_bitCount_0f7a4 l g cI cJ cB cZ cL y117 H.size ) (va_cwS 1 hts (goodIn_app (g_3 (List.mem_cons_of_mem _ (List.mem_append_left _ (List.mem_of_getElem? (i := 22) rfl))) (List.mem_cons_of_mem _ (List.mem_append_left _ (List.mem_of_getElem? (i := 23) rfl))) (List.mem_cons_of_mem _ (List.mem_append_left _ (List.mem_of_getElem? (i := 24) rfl))) (by decide +kernel)) (goodIn_sub (fun _ h => List.mem_cons_of_mem _ (List.mem_append_right _ (List.mem_append_right _ (List.mem_append_right _ (List.mem_append_right _ (List.mem_append_right _ (List.mem_append_right _ (List.mem_append_right _ (List.mem_append_left _ h))))))))) good_v_J6_bitCount_0f7a4)) rfl rfl rfl (by decide +kernel) ⟨Nat.le_of_ble_eq_true rfl, Nat.le_of_ble_eq_true rfl⟩) (ps_RO (wc := []) hK hP [] rfl) rfl rfl hl.1 rfl (lv_room (Nat.le_of_ble_eq_true rfl)) dX5_goThrough_139 ⟨Nat.le_of_ble_eq_true rfl, Nat.le_of_ble_eq_true rfl⟩) hS hA hP (fun r139 u139 H locs hw139 hP hS => ?_)
    have hw139_0 := hw139
    refine lv_iadd hx hb dX5_goThrough_142 ?_
    refine lv_topi (fun y142 e142 => ?_)
    refine va_put (D := g) (ci := 5) (v := .int y142) (ty := .int) (C := RX5) (T := TX5) (N := 7) hx hb hts iX5 tyX5 tyX5_ok nmX5 hown hK hP hD hS 6 rfl rfl 0 (by decide) (hts (.fieldLink RX5 29 "CardsAtYule$Lives" "sent" "I") (List.mem_cons_of_mem _ (List.mem_append_left _ (List.mem_of_getElem? (i := 21) rfl)))) (fun _ h9 => h9) rfl (by decide +kernel) rfl rfl (Nat.le_of_ble_eq_true rfl) dX5_goThrough_143 (fun H locs hP hD hS => ?_)
    have hP : va_P g vwCl [(ld_rule, .inl (cI, 10, .inl ld_rule_c)), (ld_returns, .inl (cI, 10, .inl ld_returns_c)), (dr_may, .inl (cJ, 32, .inr (.inl dr_may_c))), (dr_reach, .inl (cJ, 32, .inr (.inl dr_reach_c))), (dr_states, .inl (cI, 16, .inl dr_states_c)), (dr_lastSent, .inl (cI, 16, .inl j132_dr_lastSent_c)), (dr, .inr (5, [.int y142, .int n_dr_forgot_114, .ref dr_lastSent, .long n_dr_x_114, .ref dr_states, .ref dr_may, .ref dr_reach])), (ld, .inr (4, [.int ld_lines, .int ld_years, .int ld_card, .int ld_hurt, .int ld_people, .int ld_pairs, .long ld_strikes, .ref ld_rule, .ref ld_returns, .ref ld_forgets, .ref ld_death, .ref ld_move, .ref ld_begun, .ref ld_who, .ref ld_lost])), (ld_who, .inl (cI, 32, .inl ld_who_c)), (ld_forgets, .inl (cI, 10, .inl ld_forgets_c))] H := hP
    have hD : va_D A [(ld_rule, .inl (cI, 10, .inl ld_rule_c)), (ld_returns, .inl (cI, 10, .inl ld_returns_c)), (dr_may, .inl (cJ, 32, .inr (.inl dr_may_c))), (dr_reach, .inl (cJ, 32, .inr (.inl dr_reach_c))), (dr_states, .inl (cI, 16, .inl dr_states_c)), (dr_lastSent, .inl (cI, 16, .inl j132_dr_lastSent_c)), (dr, .inr (5, [.int y142, .int n_dr_forgot_114, .ref dr_lastSent, .long n_dr_x_114, .ref dr_states, .ref dr_may, .ref dr_reach])), (ld, .inr (4, [.int ld_lines, .int ld_years, .int ld_card, .int ld_hurt, .int ld_people, .int ld_pairs, .long ld_strikes, .ref ld_rule, .ref ld_returns, .ref ld_forgets, .ref ld_death, .ref ld_move, .ref ld_begun, .ref ld_who, .ref ld_lost])), (ld_who, .inl (cI, 32, .inl ld_who_c)), (ld_forgets, .inl (cI, 10, .inl ld_forgets_c))] := hD
    refine lv_aload_n hx hb dX5_goThrough_146 rfl (lv_at hl 0 rfl) ?_
    refine va_get (D := g) (ci := 5) (v := .ref dr_states) (C := RX5) (T := TX5) (N := 7) hx hb hts iX5 hown hK hP 6 rfl rfl 4 (by decide) (hts (.fieldLink RX5 15 "CardsAtYule$Lives" "states" "[I") (List.mem_cons_of_mem _ (List.mem_append_left _ (List.mem_of_getElem? (i := 9) rfl)))) (fun _ h9 => h9) rfl dX5_goThrough_147 ?_
    refine lv_iload_n hx hb dX5_goThrough_150 rfl (lv_at hl 1 rfl) ?_
    refine lv_aload_n hx hb dX5_goThrough_151 rfl (lv_at hl 0 rfl) ?_
    refine va_get (D := g) (ci := 5) (v := .ref dr_states) (C := RX5) (T := TX5) (N := 7) hx hb hts iX5 hown hK hP 6 rfl rfl 4 (by decide) (hts (.fieldLink RX5 15 "CardsAtYule$Lives" "states" "[I") (List.mem_cons_of_mem _ (List.mem_append_left _ (List.mem_of_getElem? (i := 9) rfl)))) (fun _ h9 => h9) rfl dX5_goThrough_152 ?_
    refine lv_iload_n hx hb dX5_goThrough_155 rfl (lv_at hl 1 rfl) ?_
    refine va_iald (D := g) hx hb hK hP 4 0 rfl rfl (vi_rg rfl hv_p1 (by decide) (by decide)) dX5_goThrough_156 ?_
    refine lv_topi (fun y156 e156 => ?_)
    refine lv_iload hx hb dX5_goThrough_157 (lv_at hl 3 rfl) ?_
    refine lv_iload hx hb dX5_goThrough_159 (lv_at hl 2 rfl) ?_
    refine lv_iand hx hb dX5_goThrough_161 ?_
    refine lv_topi (fun y161 e161 => ?_)
    have r161 : ir y161.toInt 0 3 := by rw [e161]; exact an_y rfl hw59_0 (by decide)
    refine ro_i (va_runS (As := [.int y161]) (rest := [.int y156, .int p1, .ref dr_states]) ⟨hx, hb, hml, hown, hts⟩ (q_X10_swapped l g cI cJ cB cZ cL y161 H.size ) (va_cwS 1 hts (goodIn_app (g_3 (List.mem_cons_of_mem _ (List.mem_append_left _ (List.mem_of_getElem? (i := 25) rfl))) (List.mem_cons_of_mem _ (List.mem_append_left _ (List.mem_of_getElem? (i := 26) rfl))) (List.mem_cons_of_mem _ (List.mem_append_left _ (List.mem_of_getElem? (i := 12) rfl))) (by decide +kernel)) (goodIn_sub (fun _ h => List.mem_cons_of_mem _ (List.mem_append_right _ (List.mem_append_right _ (List.mem_append_right _ (List.mem_append_right _ (List.mem_append_right _ (List.mem_append_right _ (List.mem_append_right _ (List.mem_append_right _ (List.mem_append_left _ h)))))))))) good_v_X10_swapped)) rfl rfl rfl (by decide +kernel) ⟨Nat.le_of_ble_eq_true rfl, Nat.le_of_ble_eq_true rfl⟩) (ps_RO (wc := []) hK hP [] rfl) rfl rfl hl.1 rfl (lv_room (Nat.le_of_ble_eq_true rfl)) dX5_goThrough_162 ⟨Nat.le_of_ble_eq_true rfl, Nat.le_of_ble_eq_true rfl⟩) hS hA hP (fun r162 u162 H locs hw162 hP hS => ?_)
    have hw162_0 := hw162
    refine ro_i (va_runS (As := [.int y156, .int r162]) (rest := [.int p1, .ref dr_states]) ⟨hx, hb, hml, hown, hts⟩ (q_X10_after l g cI cJ cB cZ cL y156 r162 H.size ) (va_cwS 2 hts (goodIn_app (g_3 (List.mem_cons_of_mem _ (List.mem_append_left _ (List.mem_of_getElem? (i := 27) rfl))) (List.mem_cons_of_mem _ (List.mem_append_left _ (List.mem_of_getElem? (i := 28) rfl))) (List.mem_cons_of_mem _ (List.mem_append_left _ (List.mem_of_getElem? (i := 12) rfl))) (by decide +kernel)) (goodIn_sub (fun _ h => List.mem_cons_of_mem _ (List.mem_append_right _ (List.mem_append_right _ (List.mem_append_right _ (List.mem_append_right _ (List.mem_append_right _ (List.mem_append_right _ (List.mem_append_right _ (List.mem_append_right _ (List.mem_append_right _ (List.mem_append_left _ h))))))))))) good_v_X10_after)) rfl rfl rfl (by decide +kernel) ⟨Nat.le_of_ble_eq_true rfl, Nat.le_of_ble_eq_true rfl⟩) (ps_RO (wc := []) hK hP [] rfl) rfl rfl hl.1 rfl (lv_room (Nat.le_of_ble_eq_true rfl)) dX5_goThrough_165 ⟨Nat.le_of_ble_eq_true rfl, Nat.le_of_ble_eq_true rfl⟩) hS hA hP (fun r165 u165 H locs hw165 hP hS => ?_)
    have hw165_0 := hw165
    refine va_iast (D := g) hx hb hK hP hD hS 4 0 rfl rfl (vi_rg rfl hv_p1 (by decide) (by decide)) dX5_goThrough_168 (fun H locs hP hD hS => ?_)
    obtain ⟨g168, e168⟩ : ∃ z, z = upd dr_states_c p1.toNatClampNeg r165 := ⟨_, rfl⟩
    have hP : va_P g vwCl [(ld_rule, .inl (cI, 10, .inl ld_rule_c)), (ld_returns, .inl (cI, 10, .inl ld_returns_c)), (dr_may, .inl (cJ, 32, .inr (.inl dr_may_c))), (dr_reach, .inl (cJ, 32, .inr (.inl dr_reach_c))), (dr_states, .inl (cI, 16, .inl (upd dr_states_c p1.toNatClampNeg r165))), (dr_lastSent, .inl (cI, 16, .inl j132_dr_lastSent_c)), (dr, .inr (5, [.int y142, .int n_dr_forgot_114, .ref dr_lastSent, .long n_dr_x_114, .ref dr_states, .ref dr_may, .ref dr_reach])), (ld, .inr (4, [.int ld_lines, .int ld_years, .int ld_card, .int ld_hurt, .int ld_people, .int ld_pairs, .long ld_strikes, .ref ld_rule, .ref ld_returns, .ref ld_forgets, .ref ld_death, .ref ld_move, .ref ld_begun, .ref ld_who, .ref ld_lost])), (ld_who, .inl (cI, 32, .inl ld_who_c)), (ld_forgets, .inl (cI, 10, .inl ld_forgets_c))] H := hP
    have hD : va_D A [(ld_rule, .inl (cI, 10, .inl ld_rule_c)), (ld_returns, .inl (cI, 10, .inl ld_returns_c)), (dr_may, .inl (cJ, 32, .inr (.inl dr_may_c))), (dr_reach, .inl (cJ, 32, .inr (.inl dr_reach_c))), (dr_states, .inl (cI, 16, .inl (upd dr_states_c p1.toNatClampNeg r165))), (dr_lastSent, .inl (cI, 16, .inl j132_dr_lastSent_c)), (dr, .inr (5, [.int y142, .int n_dr_forgot_114, .ref dr_lastSent, .long n_dr_x_114, .ref dr_states, .ref dr_may, .ref dr_reach])), (ld, .inr (4, [.int ld_lines, .int ld_years, .int ld_card, .int ld_hurt, .int ld_people, .int ld_pairs, .long ld_strikes, .ref ld_rule, .ref ld_returns, .ref ld_forgets, .ref ld_death, .ref ld_move, .ref ld_begun, .ref ld_who, .ref ld_lost])), (ld_who, .inl (cI, 32, .inl ld_who_c)), (ld_forgets, .inl (cI, 10, .inl ld_forgets_c))] := hD
    rw [← e168] at hP hD
    subst hQ
    have hP9 := hP.sub (ws' := [(ld, .inr (4, [.int ld_lines, .int ld_years, .int ld_card, .int ld_hurt, .int ld_people, .int ld_pairs, .long ld_strikes, .ref ld_rule, .ref ld_returns, .ref ld_forgets, .ref ld_death, .ref ld_move, .ref ld_begun, .ref ld_who, .ref ld_lost])), (ld_who, .inl (cI, 32, .inl ld_who_c)), (ld_rule, .inl (cI, 10, .inl ld_rule_c)), (ld_returns, .inl (cI, 10, .inl ld_returns_c)), (dr, .inr (5, [.int y142, .int n_dr_forgot_114, .ref dr_lastSent, .long n_dr_x_114, .ref dr_states, .ref dr_may, .ref dr_reach])), (dr_may, .inl (cJ, 32, .inr (.inl dr_may_c))), (dr_reach, .inl (cJ, 32, .inr (.inl dr_reach_c))), (dr_states, .inl (cI, 16, .inl g168)), (ld_forgets, .inl (cI, 10, .inl ld_forgets_c)), (dr_lastSent, .inl (cI, 16, .inl j132_dr_lastSent_c))]) [7, 8, 0, 1, 6, 2, 3, 4, 9, 5] rfl
    have hD9 := hD.sub (ws' := [(ld, .inr (4, [.int ld_lines, .int ld_years, .int ld_card, .int ld_hurt, .int ld_people, .int ld_pairs, .long ld_strikes, .ref ld_rule, .ref ld_returns, .ref ld_forgets, .ref ld_death, .ref ld_move, .ref ld_begun, .ref ld_who, .ref ld_lost])), (ld_who, .inl (cI, 32, .inl ld_who_c)), (ld_rule, .inl (cI, 10, .inl ld_rule_c)), (ld_returns, .inl (cI, 10, .inl ld_returns_c)), (dr, .inr (5, [.int y142, .int n_dr_forgot_114, .ref dr_lastSent, .long n_dr_x_114, .ref dr_states, .ref dr_may, .ref dr_reach])), (dr_may, .inl (cJ, 32, .inr (.inl dr_may_c))), (dr_reach, .inl (cJ, 32, .inr (.inl dr_reach_c))), (dr_states, .inl (cI, 16, .inl g168)), (ld_forgets, .inl (cI, 10, .inl ld_forgets_c)), (dr_lastSent, .inl (cI, 16, .inl j132_dr_lastSent_c))]) [7, 8, 0, 1, 6, 2, 3, 4, 9, 5] (by decide) rfl
    exact W.vret hx hb hr (fun t ht hW => ⟨⟨(y142, n_dr_forgot_114, n_dr_x_114, g168, j132_dr_lastSent_c), rfl, trivial, ⟨by rw [ht]; exact hP9, va_K.moved hW.alike hK, hD9⟩⟩, hS.F ht⟩) hS.2.2 dX5_goThrough_169
  refine lv_if_eq (tgt := 132) hx hb dX5_goThrough_122 (by decide) (fun c122 => ?_) (fun c122 => ?_)
  · have f122 := (show y117.toInt = 0 from z_eq rfl rfl c122)
    have r122a : ir y117.toInt 0 0 := ir_eqa f122 (rg_all y117) (ir_c 0) (by decide) (by decide)
    exact J132 dr_lastSent_c _ _ _  (hP.sub [0, 1, 2, 3, 4, 5, 6, 7, 8, 9] rfl) (hD.sub [0, 1, 2, 3, 4, 5, 6, 7, 8, 9] (by decide) rfl) hS (lv_sub hl [7, 9, 3, 0] rfl)
  have f122 := (show y117.toInt ≠ 0 from z_ne rfl rfl c122)
  refine lv_aload_n hx hb dX5_goThrough_125 rfl (lv_at hl 7 rfl) ?_
  refine va_get (D := g) (ci := 5) (v := .ref dr_lastSent) (C := RX5) (T := TX5) (N := 7) hx hb hts iX5 hown hK hP 6 rfl rfl 2 (by decide) (hts (.fieldLink RX5 9 "CardsAtYule$Lives" "lastSent" "[I") (List.mem_cons_of_mem _ (List.mem_append_left _ (List.mem_of_getElem? (i := 29) rfl)))) (fun _ h9 => h9) rfl dX5_goThrough_126 ?_
  refine lv_iload_n hx hb dX5_goThrough_129 rfl (lv_at hl 9 rfl) ?_
  refine lv_iload_n hx hb dX5_goThrough_130 rfl (lv_at hl 10 rfl) ?_
  refine va_iast (D := g) hx hb hK hP hD hS 5 0 rfl rfl (vi_rg rfl hv_p1 (by decide) (by decide)) dX5_goThrough_131 (fun H locs hP hD hS => ?_)
  obtain ⟨g131, e131⟩ : ∃ z, z = upd dr_lastSent_c p1.toNatClampNeg p2 := ⟨_, rfl⟩
  have hP : va_P g vwCl [(ld_rule, .inl (cI, 10, .inl ld_rule_c)), (ld_returns, .inl (cI, 10, .inl ld_returns_c)), (dr_may, .inl (cJ, 32, .inr (.inl dr_may_c))), (dr_reach, .inl (cJ, 32, .inr (.inl dr_reach_c))), (dr_states, .inl (cI, 16, .inl dr_states_c)), (dr_lastSent, .inl (cI, 16, .inl (upd dr_lastSent_c p1.toNatClampNeg p2))), (dr, .inr (5, [.int dr_sent, .int n_dr_forgot_114, .ref dr_lastSent, .long n_dr_x_114, .ref dr_states, .ref dr_may, .ref dr_reach])), (ld, .inr (4, [.int ld_lines, .int ld_years, .int ld_card, .int ld_hurt, .int ld_people, .int ld_pairs, .long ld_strikes, .ref ld_rule, .ref ld_returns, .ref ld_forgets, .ref ld_death, .ref ld_move, .ref ld_begun, .ref ld_who, .ref ld_lost])), (ld_who, .inl (cI, 32, .inl ld_who_c)), (ld_forgets, .inl (cI, 10, .inl ld_forgets_c))] H := hP
  have hD : va_D A [(ld_rule, .inl (cI, 10, .inl ld_rule_c)), (ld_returns, .inl (cI, 10, .inl ld_returns_c)), (dr_may, .inl (cJ, 32, .inr (.inl dr_may_c))), (dr_reach, .inl (cJ, 32, .inr (.inl dr_reach_c))), (dr_states, .inl (cI, 16, .inl dr_states_c)), (dr_lastSent, .inl (cI, 16, .inl (upd dr_lastSent_c p1.toNatClampNeg p2))), (dr, .inr (5, [.int dr_sent, .int n_dr_forgot_114, .ref dr_lastSent, .long n_dr_x_114, .ref dr_states, .ref dr_may, .ref dr_reach])), (ld, .inr (4, [.int ld_lines, .int ld_years, .int ld_card, .int ld_hurt, .int ld_people, .int ld_pairs, .long ld_strikes, .ref ld_rule, .ref ld_returns, .ref ld_forgets, .ref ld_death, .ref ld_move, .ref ld_begun, .ref ld_who, .ref ld_lost])), (ld_who, .inl (cI, 32, .inl ld_who_c)), (ld_forgets, .inl (cI, 10, .inl ld_forgets_c))] := hD
  rw [← e131] at hP hD
  exact J132 g131 _ _ _  (hP.sub [0, 1, 2, 3, 4, 5, 6, 7, 8, 9] rfl) (hD.sub [0, 1, 2, 3, 4, 5, 6, 7, 8, 9] (by decide) rfl) hS (lv_sub hl [7, 9, 3, 0] rfl)
def v_X5_draw : List Cond := .code yX5_draw cX5_draw 5 none :: (([.fieldLink RX5 25 "CardsAtYule$Lives" "x" "J", .fieldLink RX5 29 "CardsAtYule$Lives" "sent" "I", .fieldLink RX5 33 "CardsAtYule$Lives" "forgot" "I", .fieldLink RX5 36 "CardsAtYule$Land" "pairs" "I", .fieldLink RX5 55 "CardsAtYule$Land" "years" "I", .methodLink RX5 58 yX5_goThrough, .instanceMethod yX5_goThrough, .selects RX5 yX5_goThrough yX5_goThrough, .initialized RX5, .fieldLink RX5 9 "CardsAtYule$Lives" "lastSent" "[I", .fieldLink RX5 15 "CardsAtYule$Lives" "states" "[I", .fieldLink RX5 41 "CardsAtYule$Land" "begun" "[I", .fieldLink RX5 18 "CardsAtYule$Lives" "may" "[J", .fieldLink RX5 44 "CardsAtYule$Land" "who" "[I", .methodLink RX5 47 yX4_livingYears, .instanceMethod yX4_livingYears, .selects RX4 yX4_livingYears yX4_livingYears, .initialized RX4, .fieldLink RX5 22 "CardsAtYule$Lives" "reach" "[J", .methodLink RX5 51 yX4_reachOf, .instanceMethod yX4_reachOf, .selects RX4 yX4_reachOf yX4_reachOf] : List Cond) ++ (v_X5_goThrough ++ (v_X4_livingYears ++ (v_X4_reachOf ++ (wsX50 ++ (wsX40 ++ ([] : List Cond)))))))
theorem good_v_X5_draw : v_X5_draw.all goodWord = true := ga_c (by decide +kernel) (ga_a (by decide +kernel) (ga_a good_v_X5_goThrough (ga_a good_v_X4_livingYears (ga_a good_v_X4_reachOf (ga_a good_wsX50 (ga_a good_wsX40 rfl))))))
set_option maxHeartbeats 4000000 in
set_option maxRecDepth 100000 in
theorem q_X5_draw (l : Launch) (g : va_G) (cI cJ cB cZ cL : ClassId) (p1 : Int32) (dr : Nat) (ld : Nat) (dr_sent : Int32) (dr_forgot : Int32) (dr_lastSent : Nat) (dr_x : Int64) (dr_states : Nat) (dr_may : Nat) (dr_reach : Nat) (ld_lines : Int32) (ld_years : Int32) (ld_card : Int32) (ld_hurt : Int32) (ld_people : Int32) (ld_pairs : Int32) (ld_strikes : Int64) (ld_rule : Nat) (ld_returns : Nat) (ld_forgets : Nat) (ld_death : Nat) (ld_move : Nat) (ld_begun : Nat) (ld_who : Nat) (ld_lost : Nat) (dr_lastSent_c : Nat → Int32) (ld_begun_c : Nat → Int32) (dr_states_c : Nat → Int32) (ld_who_c : Nat → Int32) (ld_death_c : Nat → Int32) (dr_may_c : Nat → Int64) (ld_move_c : Nat → Int32) (ld_lost_c : Nat → Int64) (dr_reach_c : Nat → Int64) (ld_rule_c : Nat → Int32) (ld_returns_c : Nat → Int32) (ld_forgets_c : Nat → Int32) (sz : Nat) (hv_ld_years : ir ld_years.toInt 0 40) (hv_ld_people : ir ld_people.toInt 0 10) (hv_ld_pairs : ir ld_pairs.toInt 0 16) (ha_ld_begun_c : ar ld_begun_c 16 0 15) (ha_ld_who_c : ar ld_who_c 32 0 9) : Met l yX5_draw v_X5_draw ({ frames := 3, cells := 0, slots := 0, locals := 75 }) (va_Pc [.ref dr, .ref ld, .int p1] (pRW g (tyT cI cJ cB cZ cL) [(dr, .inr (5, [.int dr_sent, .int dr_forgot, .ref dr_lastSent, .long dr_x, .ref dr_states, .ref dr_may, .ref dr_reach])), (ld, .inr (4, [.int ld_lines, .int ld_years, .int ld_card, .int ld_hurt, .int ld_people, .int ld_pairs, .long ld_strikes, .ref ld_rule, .ref ld_returns, .ref ld_forgets, .ref ld_death, .ref ld_move, .ref ld_begun, .ref ld_who, .ref ld_lost])), (dr_lastSent, .inl (cI, 16, .inl dr_lastSent_c)), (ld_begun, .inl (cI, 16, .inl ld_begun_c)), (dr_states, .inl (cI, 16, .inl dr_states_c)), (ld_who, .inl (cI, 32, .inl ld_who_c)), (ld_death, .inl (cI, 10, .inl ld_death_c)), (dr_may, .inl (cJ, 32, .inr (.inl dr_may_c))), (ld_move, .inl (cI, 10, .inl ld_move_c)), (ld_lost, .inl (cJ, 32, .inr (.inl ld_lost_c))), (dr_reach, .inl (cJ, 32, .inr (.inl dr_reach_c))), (ld_rule, .inl (cI, 10, .inl ld_rule_c)), (ld_returns, .inl (cI, 10, .inl ld_returns_c)), (ld_forgets, .inl (cI, 10, .inl ld_forgets_c))] sz)) (va_Qv (fun (u : Int32 × Int32 × Int64 × (Nat → Int32) × (Nat → Int32) × (Nat → Int64) × (Nat → Int64)) => match u with | (n_dr_sent, n_dr_forgot, n_dr_x, n_dr_lastSent_c, n_dr_states_c, n_dr_may_c, n_dr_reach_c) => True) (fun (u : Int32 × Int32 × Int64 × (Nat → Int32) × (Nat → Int32) × (Nat → Int64) × (Nat → Int64)) (t : State) => bRW g (tyT cI cJ cB cZ cL) (va_A [(dr, .inr (5, [.int dr_sent, .int dr_forgot, .ref dr_lastSent, .long dr_x, .ref dr_states, .ref dr_may, .ref dr_reach])), (ld, .inr (4, [.int ld_lines, .int ld_years, .int ld_card, .int ld_hurt, .int ld_people, .int ld_pairs, .long ld_strikes, .ref ld_rule, .ref ld_returns, .ref ld_forgets, .ref ld_death, .ref ld_move, .ref ld_begun, .ref ld_who, .ref ld_lost])), (dr_lastSent, .inl (cI, 16, .inl dr_lastSent_c)), (ld_begun, .inl (cI, 16, .inl ld_begun_c)), (dr_states, .inl (cI, 16, .inl dr_states_c)), (ld_who, .inl (cI, 32, .inl ld_who_c)), (ld_death, .inl (cI, 10, .inl ld_death_c)), (dr_may, .inl (cJ, 32, .inr (.inl dr_may_c))), (ld_move, .inl (cI, 10, .inl ld_move_c)), (ld_lost, .inl (cJ, 32, .inr (.inl ld_lost_c))), (dr_reach, .inl (cJ, 32, .inr (.inl dr_reach_c))), (ld_rule, .inl (cI, 10, .inl ld_rule_c)), (ld_returns, .inl (cI, 10, .inl ld_returns_c)), (ld_forgets, .inl (cI, 10, .inl ld_forgets_c))] sz) (match u with | (n_dr_sent, n_dr_forgot, n_dr_x, n_dr_lastSent_c, n_dr_states_c, n_dr_may_c, n_dr_reach_c) => [(dr, .inr (5, [.int n_dr_sent, .int n_dr_forgot, .ref dr_lastSent, .long n_dr_x, .ref dr_states, .ref dr_may, .ref dr_reach])), (ld, .inr (4, [.int ld_lines, .int ld_years, .int ld_card, .int ld_hurt, .int ld_people, .int ld_pairs, .long ld_strikes, .ref ld_rule, .ref ld_returns, .ref ld_forgets, .ref ld_death, .ref ld_move, .ref ld_begun, .ref ld_who, .ref ld_lost])), (dr_lastSent, .inl (cI, 16, .inl n_dr_lastSent_c)), (ld_begun, .inl (cI, 16, .inl ld_begun_c)), (dr_states, .inl (cI, 16, .inl n_dr_states_c)), (ld_who, .inl (cI, 32, .inl ld_who_c)), (ld_death, .inl (cI, 10, .inl ld_death_c)), (dr_may, .inl (cJ, 32, .inr (.inl n_dr_may_c))), (ld_move, .inl (cI, 10, .inl ld_move_c)), (ld_lost, .inl (cJ, 32, .inr (.inl ld_lost_c))), (dr_reach, .inl (cJ, 32, .inr (.inl n_dr_reach_c))), (ld_rule, .inl (cI, 10, .inl ld_rule_c)), (ld_returns, .inl (cI, 10, .inl ld_returns_c)), (ld_forgets, .inl (cI, 10, .inl ld_forgets_c))]) t) (va_A [(dr, .inr (5, [.int dr_sent, .int dr_forgot, .ref dr_lastSent, .long dr_x, .ref dr_states, .ref dr_may, .ref dr_reach])), (ld, .inr (4, [.int ld_lines, .int ld_years, .int ld_card, .int ld_hurt, .int ld_people, .int ld_pairs, .long ld_strikes, .ref ld_rule, .ref ld_returns, .ref ld_forgets, .ref ld_death, .ref ld_move, .ref ld_begun, .ref ld_who, .ref ld_lost])), (dr_lastSent, .inl (cI, 16, .inl dr_lastSent_c)), (ld_begun, .inl (cI, 16, .inl ld_begun_c)), (dr_states, .inl (cI, 16, .inl dr_states_c)), (ld_who, .inl (cI, 32, .inl ld_who_c)), (ld_death, .inl (cI, 10, .inl ld_death_c)), (dr_may, .inl (cJ, 32, .inr (.inl dr_may_c))), (ld_move, .inl (cI, 10, .inl ld_move_c)), (ld_lost, .inl (cJ, 32, .inr (.inl ld_lost_c))), (dr_reach, .inl (cJ, 32, .inr (.inl dr_reach_c))), (ld_rule, .inl (cI, 10, .inl ld_rule_c)), (ld_returns, .inl (cI, 10, .inl ld_returns_c)), (ld_forgets, .inl (cI, 10, .inl ld_forgets_c))] sz)) 0 0 (va_A [(dr, .inr (5, [.int dr_sent, .int dr_forgot, .ref dr_lastSent, .long dr_x, .ref dr_states, .ref dr_may, .ref dr_reach])), (ld, .inr (4, [.int ld_lines, .int ld_years, .int ld_card, .int ld_hurt, .int ld_people, .int ld_pairs, .long ld_strikes, .ref ld_rule, .ref ld_returns, .ref ld_forgets, .ref ld_death, .ref ld_move, .ref ld_begun, .ref ld_who, .ref ld_lost])), (dr_lastSent, .inl (cI, 16, .inl dr_lastSent_c)), (ld_begun, .inl (cI, 16, .inl ld_begun_c)), (dr_states, .inl (cI, 16, .inl dr_states_c)), (ld_who, .inl (cI, 32, .inl ld_who_c)), (ld_death, .inl (cI, 10, .inl ld_death_c)), (dr_may, .inl (cJ, 32, .inr (.inl dr_may_c))), (ld_move, .inl (cI, 10, .inl ld_move_c)), (ld_lost, .inl (cJ, 32, .inr (.inl ld_lost_c))), (dr_reach, .inl (cJ, 32, .inr (.inl dr_reach_c))), (ld_rule, .inl (cI, 10, .inl ld_rule_c)), (ld_returns, .inl (cI, 10, .inl ld_returns_c)), (ld_forgets, .inl (cI, 10, .inl ld_forgets_c))] sz) := by
  refine Met.ofW (cc := cX5_draw) (maxL := 5) (ret := none) (by decide) rfl ?_
  intro p e s m args below meth c s₁ B hml hv
  obtain ⟨rfl, hsz, hP, hK, hD0⟩ := hv
  have hx := B.exec
  have hb := B.bytes
  have hr := B.returns
  have hts := atoms_spec (ws := v_X5_draw) B.pre
  have hown : s.vm.findClass RX5 = some m.cls := findClass_of_methodNamed B.named
  have hlocks := B.notSynchronized
  clear B
  subst hsz
  have iX5 : ∀ w ∈ wsX50, w ∈ v_X5_draw := (fun _ h => List.mem_cons_of_mem _ (List.mem_append_right _ (List.mem_append_right _ (List.mem_append_right _ (List.mem_append_right _ (List.mem_append_left _ h))))))
  have iX4 : ∀ w ∈ wsX40, w ∈ v_X5_draw := (fun _ h => List.mem_cons_of_mem _ (List.mem_append_right _ (List.mem_append_right _ (List.mem_append_right _ (List.mem_append_right _ (List.mem_append_right _ (List.mem_append_left _ h)))))))
  have hD := hD0.self (sz := s.heap.size)
  generalize hAe : (va_A [(dr, .inr (5, [.int dr_sent, .int dr_forgot, .ref dr_lastSent, .long dr_x, .ref dr_states, .ref dr_may, .ref dr_reach])), (ld, .inr (4, [.int ld_lines, .int ld_years, .int ld_card, .int ld_hurt, .int ld_people, .int ld_pairs, .long ld_strikes, .ref ld_rule, .ref ld_returns, .ref ld_forgets, .ref ld_death, .ref ld_move, .ref ld_begun, .ref ld_who, .ref ld_lost])), (dr_lastSent, .inl (cI, 16, .inl dr_lastSent_c)), (ld_begun, .inl (cI, 16, .inl ld_begun_c)), (dr_states, .inl (cI, 16, .inl dr_states_c)), (ld_who, .inl (cI, 32, .inl ld_who_c)), (ld_death, .inl (cI, 10, .inl ld_death_c)), (dr_may, .inl (cJ, 32, .inr (.inl dr_may_c))), (ld_move, .inl (cI, 10, .inl ld_move_c)), (ld_lost, .inl (cJ, 32, .inr (.inl ld_lost_c))), (dr_reach, .inl (cJ, 32, .inr (.inl dr_reach_c))), (ld_rule, .inl (cI, 10, .inl ld_rule_c)), (ld_returns, .inl (cI, 10, .inl ld_returns_c)), (ld_forgets, .inl (cI, 10, .inl ld_forgets_c))] s.heap.size) = A at hD ⊢
  have hA : ∀ q : Nat, s.heap.size ≤ q → A q := fun q h => by rw [← hAe]; exact Or.inr h
  have hS : va_S A s.heap s.heap [] := va_S.rf
  have hl := lv_entry ([.ref dr, .ref ld, .int p1]) (n := 5) (Nat.le_of_ble_eq_true rfl)
  rw [lg_entry_eq]
  generalize (lg_sl ([.ref dr, .ref ld, .int p1]) ++ List.replicate (5 - (lg_sl ([.ref dr, .ref ld, .int p1])).length) Slot.unset).toArray = ls at hl ⊢
  generalize ([.ref dr, .ref ld, .int p1] : List Value).toArray = av at hts ⊢
  generalize hQ : MQ below _ av s _ _ A = QQ
  have hl : lv_has ls 5 [(0, .ref dr), (1, .ref ld), (2, .int p1)] := hl
  have hP : va_P g vwCl [(dr, .inr (5, [.int dr_sent, .int dr_forgot, .ref dr_lastSent, .long dr_x, .ref dr_states, .ref dr_may, .ref dr_reach])), (ld, .inr (4, [.int ld_lines, .int ld_years, .int ld_card, .int ld_hurt, .int ld_people, .int ld_pairs, .long ld_strikes, .ref ld_rule, .ref ld_returns, .ref ld_forgets, .ref ld_death, .ref ld_move, .ref ld_begun, .ref ld_who, .ref ld_lost])), (dr_lastSent, .inl (cI, 16, .inl dr_lastSent_c)), (ld_begun, .inl (cI, 16, .inl ld_begun_c)), (dr_states, .inl (cI, 16, .inl dr_states_c)), (ld_who, .inl (cI, 32, .inl ld_who_c)), (ld_death, .inl (cI, 10, .inl ld_death_c)), (dr_may, .inl (cJ, 32, .inr (.inl dr_may_c))), (ld_move, .inl (cI, 10, .inl ld_move_c)), (ld_lost, .inl (cJ, 32, .inr (.inl ld_lost_c))), (dr_reach, .inl (cJ, 32, .inr (.inl dr_reach_c))), (ld_rule, .inl (cI, 10, .inl ld_rule_c)), (ld_returns, .inl (cI, 10, .inl ld_returns_c)), (ld_forgets, .inl (cI, 10, .inl ld_forgets_c))] s.heap := hP
  refine lv_aload_n hx hb dX5_draw_0 rfl (lv_at hl 0 rfl) ?_
  refine lv_iload_n hx hb dX5_draw_1 rfl (lv_at hl 2 rfl) ?_
  refine lv_i2l (v := p1.toInt64) hx hb dX5_draw_2 rfl ?_
  refine va_put (D := g) (ci := 5) (v := .long p1.toInt64) (ty := .long) (C := RX5) (T := TX5) (N := 7) hx hb hts iX5 tyX5 tyX5_ok nmX5 hown hK hP hD hS 0 rfl rfl 3 (by decide) (hts (.fieldLink RX5 25 "CardsAtYule$Lives" "x" "J") (List.mem_cons_of_mem _ (List.mem_append_left _ (List.mem_of_getElem? (i := 0) rfl)))) (fun _ h9 => h9) rfl (by decide +kernel) rfl rfl (Nat.le_of_ble_eq_true rfl) dX5_draw_3 (fun H locs hP hD hS => ?_)
  have hP : va_P g vwCl [(dr, .inr (5, [.int dr_sent, .int dr_forgot, .ref dr_lastSent, .long p1.toInt64, .ref dr_states, .ref dr_may, .ref dr_reach])), (ld, .inr (4, [.int ld_lines, .int ld_years, .int ld_card, .int ld_hurt, .int ld_people, .int ld_pairs, .long ld_strikes, .ref ld_rule, .ref ld_returns, .ref ld_forgets, .ref ld_death, .ref ld_move, .ref ld_begun, .ref ld_who, .ref ld_lost])), (dr_lastSent, .inl (cI, 16, .inl dr_lastSent_c)), (ld_begun, .inl (cI, 16, .inl ld_begun_c)), (dr_states, .inl (cI, 16, .inl dr_states_c)), (ld_who, .inl (cI, 32, .inl ld_who_c)), (ld_death, .inl (cI, 10, .inl ld_death_c)), (dr_may, .inl (cJ, 32, .inr (.inl dr_may_c))), (ld_move, .inl (cI, 10, .inl ld_move_c)), (ld_lost, .inl (cJ, 32, .inr (.inl ld_lost_c))), (dr_reach, .inl (cJ, 32, .inr (.inl dr_reach_c))), (ld_rule, .inl (cI, 10, .inl ld_rule_c)), (ld_returns, .inl (cI, 10, .inl ld_returns_c)), (ld_forgets, .inl (cI, 10, .inl ld_forgets_c))] H := hP
  have hD : va_D A [(dr, .inr (5, [.int dr_sent, .int dr_forgot, .ref dr_lastSent, .long p1.toInt64, .ref dr_states, .ref dr_may, .ref dr_reach])), (ld, .inr (4, [.int ld_lines, .int ld_years, .int ld_card, .int ld_hurt, .int ld_people, .int ld_pairs, .long ld_strikes, .ref ld_rule, .ref ld_returns, .ref ld_forgets, .ref ld_death, .ref ld_move, .ref ld_begun, .ref ld_who, .ref ld_lost])), (dr_lastSent, .inl (cI, 16, .inl dr_lastSent_c)), (ld_begun, .inl (cI, 16, .inl ld_begun_c)), (dr_states, .inl (cI, 16, .inl dr_states_c)), (ld_who, .inl (cI, 32, .inl ld_who_c)), (ld_death, .inl (cI, 10, .inl ld_death_c)), (dr_may, .inl (cJ, 32, .inr (.inl dr_may_c))), (ld_move, .inl (cI, 10, .inl ld_move_c)), (ld_lost, .inl (cJ, 32, .inr (.inl ld_lost_c))), (dr_reach, .inl (cJ, 32, .inr (.inl dr_reach_c))), (ld_rule, .inl (cI, 10, .inl ld_rule_c)), (ld_returns, .inl (cI, 10, .inl ld_returns_c)), (ld_forgets, .inl (cI, 10, .inl ld_forgets_c))] := hD
  refine lv_aload_n hx hb dX5_draw_6 rfl (lv_at hl 0 rfl) ?_
  refine lv_iconst (v := 0) hx hb dX5_draw_7 (by decide) ?_
  refine va_put (D := g) (ci := 5) (v := .int 0) (ty := .int) (C := RX5) (T := TX5) (N := 7) hx hb hts iX5 tyX5 tyX5_ok nmX5 hown hK hP hD hS 0 rfl rfl 0 (by decide) (hts (.fieldLink RX5 29 "CardsAtYule$Lives" "sent" "I") (List.mem_cons_of_mem _ (List.mem_append_left _ (List.mem_of_getElem? (i := 1) rfl)))) (fun _ h9 => h9) rfl (by decide +kernel) rfl rfl (Nat.le_of_ble_eq_true rfl) dX5_draw_8 (fun H locs hP hD hS => ?_)
  have hP : va_P g vwCl [(dr, .inr (5, [.int 0, .int dr_forgot, .ref dr_lastSent, .long p1.toInt64, .ref dr_states, .ref dr_may, .ref dr_reach])), (ld, .inr (4, [.int ld_lines, .int ld_years, .int ld_card, .int ld_hurt, .int ld_people, .int ld_pairs, .long ld_strikes, .ref ld_rule, .ref ld_returns, .ref ld_forgets, .ref ld_death, .ref ld_move, .ref ld_begun, .ref ld_who, .ref ld_lost])), (dr_lastSent, .inl (cI, 16, .inl dr_lastSent_c)), (ld_begun, .inl (cI, 16, .inl ld_begun_c)), (dr_states, .inl (cI, 16, .inl dr_states_c)), (ld_who, .inl (cI, 32, .inl ld_who_c)), (ld_death, .inl (cI, 10, .inl ld_death_c)), (dr_may, .inl (cJ, 32, .inr (.inl dr_may_c))), (ld_move, .inl (cI, 10, .inl ld_move_c)), (ld_lost, .inl (cJ, 32, .inr (.inl ld_lost_c))), (dr_reach, .inl (cJ, 32, .inr (.inl dr_reach_c))), (ld_rule, .inl (cI, 10, .inl ld_rule_c)), (ld_returns, .inl (cI, 10, .inl ld_returns_c)), (ld_forgets, .inl (cI, 10, .inl ld_forgets_c))] H := hP
  have hD : va_D A [(dr, .inr (5, [.int 0, .int dr_forgot, .ref dr_lastSent, .long p1.toInt64, .ref dr_states, .ref dr_may, .ref dr_reach])), (ld, .inr (4, [.int ld_lines, .int ld_years, .int ld_card, .int ld_hurt, .int ld_people, .int ld_pairs, .long ld_strikes, .ref ld_rule, .ref ld_returns, .ref ld_forgets, .ref ld_death, .ref ld_move, .ref ld_begun, .ref ld_who, .ref ld_lost])), (dr_lastSent, .inl (cI, 16, .inl dr_lastSent_c)), (ld_begun, .inl (cI, 16, .inl ld_begun_c)), (dr_states, .inl (cI, 16, .inl dr_states_c)), (ld_who, .inl (cI, 32, .inl ld_who_c)), (ld_death, .inl (cI, 10, .inl ld_death_c)), (dr_may, .inl (cJ, 32, .inr (.inl dr_may_c))), (ld_move, .inl (cI, 10, .inl ld_move_c)), (ld_lost, .inl (cJ, 32, .inr (.inl ld_lost_c))), (dr_reach, .inl (cJ, 32, .inr (.inl dr_reach_c))), (ld_rule, .inl (cI, 10, .inl ld_rule_c)), (ld_returns, .inl (cI, 10, .inl ld_returns_c)), (ld_forgets, .inl (cI, 10, .inl ld_forgets_c))] := hD
  refine lv_aload_n hx hb dX5_draw_11 rfl (lv_at hl 0 rfl) ?_
  refine lv_iconst (v := 0) hx hb dX5_draw_12 (by decide) ?_
  refine va_put (D := g) (ci := 5) (v := .int 0) (ty := .int) (C := RX5) (T := TX5) (N := 7) hx hb hts iX5 tyX5 tyX5_ok nmX5 hown hK hP hD hS 0 rfl rfl 1 (by decide) (hts (.fieldLink RX5 33 "CardsAtYule$Lives" "forgot" "I") (List.mem_cons_of_mem _ (List.mem_append_left _ (List.mem_of_getElem? (i := 2) rfl)))) (fun _ h9 => h9) rfl (by decide +kernel) rfl rfl (Nat.le_of_ble_eq_true rfl) dX5_draw_13 (fun H locs hP hD hS => ?_)
  have hP : va_P g vwCl [(dr, .inr (5, [.int 0, .int 0, .ref dr_lastSent, .long p1.toInt64, .ref dr_states, .ref dr_may, .ref dr_reach])), (ld, .inr (4, [.int ld_lines, .int ld_years, .int ld_card, .int ld_hurt, .int ld_people, .int ld_pairs, .long ld_strikes, .ref ld_rule, .ref ld_returns, .ref ld_forgets, .ref ld_death, .ref ld_move, .ref ld_begun, .ref ld_who, .ref ld_lost])), (dr_lastSent, .inl (cI, 16, .inl dr_lastSent_c)), (ld_begun, .inl (cI, 16, .inl ld_begun_c)), (dr_states, .inl (cI, 16, .inl dr_states_c)), (ld_who, .inl (cI, 32, .inl ld_who_c)), (ld_death, .inl (cI, 10, .inl ld_death_c)), (dr_may, .inl (cJ, 32, .inr (.inl dr_may_c))), (ld_move, .inl (cI, 10, .inl ld_move_c)), (ld_lost, .inl (cJ, 32, .inr (.inl ld_lost_c))), (dr_reach, .inl (cJ, 32, .inr (.inl dr_reach_c))), (ld_rule, .inl (cI, 10, .inl ld_rule_c)), (ld_returns, .inl (cI, 10, .inl ld_returns_c)), (ld_forgets, .inl (cI, 10, .inl ld_forgets_c))] H := hP
  have hD : va_D A [(dr, .inr (5, [.int 0, .int 0, .ref dr_lastSent, .long p1.toInt64, .ref dr_states, .ref dr_may, .ref dr_reach])), (ld, .inr (4, [.int ld_lines, .int ld_years, .int ld_card, .int ld_hurt, .int ld_people, .int ld_pairs, .long ld_strikes, .ref ld_rule, .ref ld_returns, .ref ld_forgets, .ref ld_death, .ref ld_move, .ref ld_begun, .ref ld_who, .ref ld_lost])), (dr_lastSent, .inl (cI, 16, .inl dr_lastSent_c)), (ld_begun, .inl (cI, 16, .inl ld_begun_c)), (dr_states, .inl (cI, 16, .inl dr_states_c)), (ld_who, .inl (cI, 32, .inl ld_who_c)), (ld_death, .inl (cI, 10, .inl ld_death_c)), (dr_may, .inl (cJ, 32, .inr (.inl dr_may_c))), (ld_move, .inl (cI, 10, .inl ld_move_c)), (ld_lost, .inl (cJ, 32, .inr (.inl ld_lost_c))), (dr_reach, .inl (cJ, 32, .inr (.inl dr_reach_c))), (ld_rule, .inl (cI, 10, .inl ld_rule_c)), (ld_returns, .inl (cI, 10, .inl ld_returns_c)), (ld_forgets, .inl (cI, 10, .inl ld_forgets_c))] := hD
  refine lv_iconst (v := 0) hx hb dX5_draw_16 (by decide) ?_
  refine lv_istore_n (lv' := [(3, .int 0), (0, .ref dr), (1, .ref ld), (2, .int p1)]) hx hb dX5_draw_17 rfl hl (by decide) rfl (fun ls hl => ?_)
  have J18 : ∀ (n18 : Nat) (j18_l3 : Int32) (j18_dr_lastSent_c : Nat → Int32) (j18_dr_states_c : Nat → Int32) (j18_dr_may_c : Nat → Int64) (j18_dr_reach_c : Nat → Int64) (H : Heap) (locs : List Loc) (ls : Array Slot), (17 - j18_l3.toInt).toNat < n18 → (ir j18_l3.toInt 0 16) → va_P g vwCl [(dr, .inr (5, [.int 0, .int 0, .ref dr_lastSent, .long p1.toInt64, .ref dr_states, .ref dr_may, .ref dr_reach])), (ld, .inr (4, [.int ld_lines, .int ld_years, .int ld_card, .int ld_hurt, .int ld_people, .int ld_pairs, .long ld_strikes, .ref ld_rule, .ref ld_returns, .ref ld_forgets, .ref ld_death, .ref ld_move, .ref ld_begun, .ref ld_who, .ref ld_lost])), (dr_lastSent, .inl (cI, 16, .inl j18_dr_lastSent_c)), (ld_begun, .inl (cI, 16, .inl ld_begun_c)), (dr_states, .inl (cI, 16, .inl j18_dr_states_c)), (ld_who, .inl (cI, 32, .inl ld_who_c)), (ld_death, .inl (cI, 10, .inl ld_death_c)), (dr_may, .inl (cJ, 32, .inr (.inl j18_dr_may_c))), (ld_move, .inl (cI, 10, .inl ld_move_c)), (ld_lost, .inl (cJ, 32, .inr (.inl ld_lost_c))), (dr_reach, .inl (cJ, 32, .inr (.inl j18_dr_reach_c))), (ld_rule, .inl (cI, 10, .inl ld_rule_c)), (ld_returns, .inl (cI, 10, .inl ld_returns_c)), (ld_forgets, .inl (cI, 10, .inl ld_forgets_c))] H → va_D A [(dr, .inr (5, [.int 0, .int 0, .ref dr_lastSent, .long p1.toInt64, .ref dr_states, .ref dr_may, .ref dr_reach])), (ld, .inr (4, [.int ld_lines, .int ld_years, .int ld_card, .int ld_hurt, .int ld_people, .int ld_pairs, .long ld_strikes, .ref ld_rule, .ref ld_returns, .ref ld_forgets, .ref ld_death, .ref ld_move, .ref ld_begun, .ref ld_who, .ref ld_lost])), (dr_lastSent, .inl (cI, 16, .inl j18_dr_lastSent_c)), (ld_begun, .inl (cI, 16, .inl ld_begun_c)), (dr_states, .inl (cI, 16, .inl j18_dr_states_c)), (ld_who, .inl (cI, 32, .inl ld_who_c)), (ld_death, .inl (cI, 10, .inl ld_death_c)), (dr_may, .inl (cJ, 32, .inr (.inl j18_dr_may_c))), (ld_move, .inl (cI, 10, .inl ld_move_c)), (ld_lost, .inl (cJ, 32, .inr (.inl ld_lost_c))), (dr_reach, .inl (cJ, 32, .inr (.inl j18_dr_reach_c))), (ld_rule, .inl (cI, 10, .inl ld_rule_c)), (ld_returns, .inl (cI, 10, .inl ld_returns_c)), (ld_forgets, .inl (cI, 10, .inl ld_forgets_c))] → va_S A s.heap H locs → lv_has ls 5 [(0, .ref dr), (1, .ref ld), (3, .int j18_l3)] → W p l e (headSpec v_X5_draw ({ frames := 3, cells := 0, slots := 0, locals := 75 })).room s m av below meth c H locs 0 0 QQ (F0 m 18 ls []) := by
    intro n18
    induction n18 with
    | zero => exact fun j18_l3 j18_dr_lastSent_c j18_dr_states_c j18_dr_may_c j18_dr_reach_c H locs ls hn => absurd hn (Nat.not_lt_zero _)
    | succ n18 ih18 =>
      intro j18_l3 j18_dr_lastSent_c j18_dr_states_c j18_dr_may_c j18_dr_reach_c H locs ls hn18 hj18_l3 hP hD hS hl
      refine lv_iload_n hx hb dX5_draw_18 rfl (lv_at hl 2 rfl) ?_
      refine lv_aload_n hx hb dX5_draw_19 rfl (lv_at hl 1 rfl) ?_
      refine va_get (D := g) (ci := 4) (v := .int ld_pairs) (C := RX4) (T := TX4) (N := 15) hx hb hts iX4 hown hK hP 1 rfl rfl 5 (by decide) (hts (.fieldLink RX5 36 "CardsAtYule$Land" "pairs" "I") (List.mem_cons_of_mem _ (List.mem_append_left _ (List.mem_of_getElem? (i := 3) rfl)))) (fun _ h9 => h9) rfl dX5_draw_20 ?_
      refine lv_icmp_ge (tgt := 110) hx hb dX5_draw_23 (by decide) (fun c23 => ?_) (fun c23 => ?_)
      · have f23 := (show ld_pairs.toInt ≤ j18_l3.toInt from z_le rfl rfl c23)
        refine lv_iconst (v := 0) hx hb dX5_draw_110 (by decide) ?_
        refine lv_istore_n (lv' := [(3, .int 0), (0, .ref dr), (1, .ref ld)]) hx hb dX5_draw_111 rfl hl (by decide) rfl (fun ls hl => ?_)
        have J112 : ∀ (n112 : Nat) (j112_l3 : Int32) (j112_dr_sent : Int32) (j112_dr_forgot : Int32) (j112_dr_x : Int64) (j112_dr_lastSent_c : Nat → Int32) (j112_dr_states_c : Nat → Int32) (H : Heap) (locs : List Loc) (ls : Array Slot), (41 - j112_l3.toInt).toNat < n112 → (ir j112_l3.toInt 0 40) → va_P g vwCl [(dr, .inr (5, [.int j112_dr_sent, .int j112_dr_forgot, .ref dr_lastSent, .long j112_dr_x, .ref dr_states, .ref dr_may, .ref dr_reach])), (ld, .inr (4, [.int ld_lines, .int ld_years, .int ld_card, .int ld_hurt, .int ld_people, .int ld_pairs, .long ld_strikes, .ref ld_rule, .ref ld_returns, .ref ld_forgets, .ref ld_death, .ref ld_move, .ref ld_begun, .ref ld_who, .ref ld_lost])), (dr_lastSent, .inl (cI, 16, .inl j112_dr_lastSent_c)), (ld_begun, .inl (cI, 16, .inl ld_begun_c)), (dr_states, .inl (cI, 16, .inl j112_dr_states_c)), (ld_who, .inl (cI, 32, .inl ld_who_c)), (ld_death, .inl (cI, 10, .inl ld_death_c)), (dr_may, .inl (cJ, 32, .inr (.inl j18_dr_may_c))), (ld_move, .inl (cI, 10, .inl ld_move_c)), (ld_lost, .inl (cJ, 32, .inr (.inl ld_lost_c))), (dr_reach, .inl (cJ, 32, .inr (.inl j18_dr_reach_c))), (ld_rule, .inl (cI, 10, .inl ld_rule_c)), (ld_returns, .inl (cI, 10, .inl ld_returns_c)), (ld_forgets, .inl (cI, 10, .inl ld_forgets_c))] H → va_D A [(dr, .inr (5, [.int j112_dr_sent, .int j112_dr_forgot, .ref dr_lastSent, .long j112_dr_x, .ref dr_states, .ref dr_may, .ref dr_reach])), (ld, .inr (4, [.int ld_lines, .int ld_years, .int ld_card, .int ld_hurt, .int ld_people, .int ld_pairs, .long ld_strikes, .ref ld_rule, .ref ld_returns, .ref ld_forgets, .ref ld_death, .ref ld_move, .ref ld_begun, .ref ld_who, .ref ld_lost])), (dr_lastSent, .inl (cI, 16, .inl j112_dr_lastSent_c)), (ld_begun, .inl (cI, 16, .inl ld_begun_c)), (dr_states, .inl (cI, 16, .inl j112_dr_states_c)), (ld_who, .inl (cI, 32, .inl ld_who_c)), (ld_death, .inl (cI, 10, .inl ld_death_c)), (dr_may, .inl (cJ, 32, .inr (.inl j18_dr_may_c))), (ld_move, .inl (cI, 10, .inl ld_move_c)), (ld_lost, .inl (cJ, 32, .inr (.inl ld_lost_c))), (dr_reach, .inl (cJ, 32, .inr (.inl j18_dr_reach_c))), (ld_rule, .inl (cI, 10, .inl ld_rule_c)), (ld_returns, .inl (cI, 10, .inl ld_returns_c)), (ld_forgets, .inl (cI, 10, .inl ld_forgets_c))] → va_S A s.heap H locs → lv_has ls 5 [(0, .ref dr), (1, .ref ld), (3, .int j112_l3)] → W p l e (headSpec v_X5_draw ({ frames := 3, cells := 0, slots := 0, locals := 75 })).room s m av below meth c H locs 0 0 QQ (F0 m 112 ls []) := by
          intro n112
          induction n112 with
          | zero => exact fun j112_l3 j112_dr_sent j112_dr_forgot j112_dr_x j112_dr_lastSent_c j112_dr_states_c H locs ls hn => absurd hn (Nat.not_lt_zero _)
          | succ n112 ih112 =>
            intro j112_l3 j112_dr_sent j112_dr_forgot j112_dr_x j112_dr_lastSent_c j112_dr_states_c H locs ls hn112 hj112_l3 hP hD hS hl
            refine lv_iload_n hx hb dX5_draw_112 rfl (lv_at hl 2 rfl) ?_
            refine lv_aload_n hx hb dX5_draw_113 rfl (lv_at hl 1 rfl) ?_
            refine va_get (D := g) (ci := 4) (v := .int ld_years) (C := RX4) (T := TX4) (N := 15) hx hb hts iX4 hown hK hP 1 rfl rfl 1 (by decide) (hts (.fieldLink RX5 55 "CardsAtYule$Land" "years" "I") (List.mem_cons_of_mem _ (List.mem_append_left _ (List.mem_of_getElem? (i := 4) rfl)))) (fun _ h9 => h9) rfl dX5_draw_114 ?_
            refine lv_icmp_ge (tgt := 152) hx hb dX5_draw_117 (by decide) (fun c117 => ?_) (fun c117 => ?_)
            · have f117 := (show ld_years.toInt ≤ j112_l3.toInt from z_le rfl rfl c117)
              subst hQ
              have hP9 := hP.sub (ws' := [(dr, .inr (5, [.int j112_dr_sent, .int j112_dr_forgot, .ref dr_lastSent, .long j112_dr_x, .ref dr_states, .ref dr_may, .ref dr_reach])), (ld, .inr (4, [.int ld_lines, .int ld_years, .int ld_card, .int ld_hurt, .int ld_people, .int ld_pairs, .long ld_strikes, .ref ld_rule, .ref ld_returns, .ref ld_forgets, .ref ld_death, .ref ld_move, .ref ld_begun, .ref ld_who, .ref ld_lost])), (dr_lastSent, .inl (cI, 16, .inl j112_dr_lastSent_c)), (ld_begun, .inl (cI, 16, .inl ld_begun_c)), (dr_states, .inl (cI, 16, .inl j112_dr_states_c)), (ld_who, .inl (cI, 32, .inl ld_who_c)), (ld_death, .inl (cI, 10, .inl ld_death_c)), (dr_may, .inl (cJ, 32, .inr (.inl j18_dr_may_c))), (ld_move, .inl (cI, 10, .inl ld_move_c)), (ld_lost, .inl (cJ, 32, .inr (.inl ld_lost_c))), (dr_reach, .inl (cJ, 32, .inr (.inl j18_dr_reach_c))), (ld_rule, .inl (cI, 10, .inl ld_rule_c)), (ld_returns, .inl (cI, 10, .inl ld_returns_c)), (ld_forgets, .inl (cI, 10, .inl ld_forgets_c))]) [0, 1, 2, 3, 4, 5, 6, 7, 8, 9, 10, 11, 12, 13] rfl
              have hD9 := hD.sub (ws' := [(dr, .inr (5, [.int j112_dr_sent, .int j112_dr_forgot, .ref dr_lastSent, .long j112_dr_x, .ref dr_states, .ref dr_may, .ref dr_reach])), (ld, .inr (4, [.int ld_lines, .int ld_years, .int ld_card, .int ld_hurt, .int ld_people, .int ld_pairs, .long ld_strikes, .ref ld_rule, .ref ld_returns, .ref ld_forgets, .ref ld_death, .ref ld_move, .ref ld_begun, .ref ld_who, .ref ld_lost])), (dr_lastSent, .inl (cI, 16, .inl j112_dr_lastSent_c)), (ld_begun, .inl (cI, 16, .inl ld_begun_c)), (dr_states, .inl (cI, 16, .inl j112_dr_states_c)), (ld_who, .inl (cI, 32, .inl ld_who_c)), (ld_death, .inl (cI, 10, .inl ld_death_c)), (dr_may, .inl (cJ, 32, .inr (.inl j18_dr_may_c))), (ld_move, .inl (cI, 10, .inl ld_move_c)), (ld_lost, .inl (cJ, 32, .inr (.inl ld_lost_c))), (dr_reach, .inl (cJ, 32, .inr (.inl j18_dr_reach_c))), (ld_rule, .inl (cI, 10, .inl ld_rule_c)), (ld_returns, .inl (cI, 10, .inl ld_returns_c)), (ld_forgets, .inl (cI, 10, .inl ld_forgets_c))]) [0, 1, 2, 3, 4, 5, 6, 7, 8, 9, 10, 11, 12, 13] (by decide) rfl
              exact W.vret hx hb hr (fun t ht hW => ⟨⟨(j112_dr_sent, j112_dr_forgot, j112_dr_x, j112_dr_lastSent_c, j112_dr_states_c, j18_dr_may_c, j18_dr_reach_c), rfl, trivial, ⟨by rw [ht]; exact hP9, va_K.moved hW.alike hK, hD9⟩⟩, hS.F ht⟩) hS.2.2 dX5_draw_152
            have f117 := (show j112_l3.toInt < ld_years.toInt from z_nle rfl rfl c117)
            have r117a : ir j112_l3.toInt 0 39 := ir_lta f117 hj112_l3 hv_ld_years (by decide)
            have r117b : ir ld_years.toInt 1 40 := ir_ltb f117 hj112_l3 hv_ld_years (by decide)
            refine lv_iconst (v := 0) hx hb dX5_draw_120 (by decide) ?_
            refine lv_istore (lv' := [(4, .int 0), (0, .ref dr), (1, .ref ld), (3, .int j112_l3)]) hx hb dX5_draw_121 hl (by decide) rfl (fun ls hl => ?_)
            have J123 : ∀ (n123 : Nat) (j123_l4 : Int32) (j123_dr_sent : Int32) (j123_dr_forgot : Int32) (j123_dr_x : Int64) (j123_dr_lastSent_c : Nat → Int32) (j123_dr_states_c : Nat → Int32) (H : Heap) (locs : List Loc) (ls : Array Slot), (17 - j123_l4.toInt).toNat < n123 → (ir j123_l4.toInt 0 16) → va_P g vwCl [(dr, .inr (5, [.int j123_dr_sent, .int j123_dr_forgot, .ref dr_lastSent, .long j123_dr_x, .ref dr_states, .ref dr_may, .ref dr_reach])), (ld, .inr (4, [.int ld_lines, .int ld_years, .int ld_card, .int ld_hurt, .int ld_people, .int ld_pairs, .long ld_strikes, .ref ld_rule, .ref ld_returns, .ref ld_forgets, .ref ld_death, .ref ld_move, .ref ld_begun, .ref ld_who, .ref ld_lost])), (dr_lastSent, .inl (cI, 16, .inl j123_dr_lastSent_c)), (ld_begun, .inl (cI, 16, .inl ld_begun_c)), (dr_states, .inl (cI, 16, .inl j123_dr_states_c)), (ld_who, .inl (cI, 32, .inl ld_who_c)), (ld_death, .inl (cI, 10, .inl ld_death_c)), (dr_may, .inl (cJ, 32, .inr (.inl j18_dr_may_c))), (ld_move, .inl (cI, 10, .inl ld_move_c)), (ld_lost, .inl (cJ, 32, .inr (.inl ld_lost_c))), (dr_reach, .inl (cJ, 32, .inr (.inl j18_dr_reach_c))), (ld_rule, .inl (cI, 10, .inl ld_rule_c)), (ld_returns, .inl (cI, 10, .inl ld_returns_c)), (ld_forgets, .inl (cI, 10, .inl ld_forgets_c))] H → va_D A [(dr, .inr (5, [.int j123_dr_sent, .int j123_dr_forgot, .ref dr_lastSent, .long j123_dr_x, .ref dr_states, .ref dr_may, .ref dr_reach])), (ld, .inr (4, [.int ld_lines, .int ld_years, .int ld_card, .int ld_hurt, .int ld_people, .int ld_pairs, .long ld_strikes, .ref ld_rule, .ref ld_returns, .ref ld_forgets, .ref ld_death, .ref ld_move, .ref ld_begun, .ref ld_who, .ref ld_lost])), (dr_lastSent, .inl (cI, 16, .inl j123_dr_lastSent_c)), (ld_begun, .inl (cI, 16, .inl ld_begun_c)), (dr_states, .inl (cI, 16, .inl j123_dr_states_c)), (ld_who, .inl (cI, 32, .inl ld_who_c)), (ld_death, .inl (cI, 10, .inl ld_death_c)), (dr_may, .inl (cJ, 32, .inr (.inl j18_dr_may_c))), (ld_move, .inl (cI, 10, .inl ld_move_c)), (ld_lost, .inl (cJ, 32, .inr (.inl ld_lost_c))), (dr_reach, .inl (cJ, 32, .inr (.inl j18_dr_reach_c))), (ld_rule, .inl (cI, 10, .inl ld_rule_c)), (ld_returns, .inl (cI, 10, .inl ld_returns_c)), (ld_forgets, .inl (cI, 10, .inl ld_forgets_c))] → va_S A s.heap H locs → lv_has ls 5 [(0, .ref dr), (1, .ref ld), (3, .int j112_l3), (4, .int j123_l4)] → W p l e (headSpec v_X5_draw ({ frames := 3, cells := 0, slots := 0, locals := 75 })).room s m av below meth c H locs 0 0 QQ (F0 m 123 ls []) := by
              intro n123
              induction n123 with
              | zero => exact fun j123_l4 j123_dr_sent j123_dr_forgot j123_dr_x j123_dr_lastSent_c j123_dr_states_c H locs ls hn => absurd hn (Nat.not_lt_zero _)
              | succ n123 ih123 =>
                intro j123_l4 j123_dr_sent j123_dr_forgot j123_dr_x j123_dr_lastSent_c j123_dr_states_c H locs ls hn123 hj123_l4 hP hD hS hl
                refine lv_iload hx hb dX5_draw_123 (lv_at hl 3 rfl) ?_
                refine lv_aload_n hx hb dX5_draw_125 rfl (lv_at hl 1 rfl) ?_
                refine va_get (D := g) (ci := 4) (v := .int ld_pairs) (C := RX4) (T := TX4) (N := 15) hx hb hts iX4 hown hK hP 1 rfl rfl 5 (by decide) (hts (.fieldLink RX5 36 "CardsAtYule$Land" "pairs" "I") (List.mem_cons_of_mem _ (List.mem_append_left _ (List.mem_of_getElem? (i := 3) rfl)))) (fun _ h9 => h9) rfl dX5_draw_126 ?_
                refine lv_icmp_ge (tgt := 146) hx hb dX5_draw_129 (by decide) (fun c129 => ?_) (fun c129 => ?_)
                · have f129 := (show ld_pairs.toInt ≤ j123_l4.toInt from z_le rfl rfl c129)
                  obtain ⟨y146, e146⟩ : ∃ y : Int32, y = j112_l3 + 1 := ⟨_, rfl⟩
                  have q146 : y146.toInt = j112_l3.toInt + 1 := by rw [e146]; exact ad_z rfl rfl r117a (ir_c 1) (by decide) (by decide)
                  have r146 : ir y146.toInt 1 40 := ad_r q146 r117a (ir_c 1) (by decide) (by decide)
                  refine lv_iinc (v := y146) (lv' := [(3, .int y146), (0, .ref dr), (1, .ref ld), (4, .int j123_l4)]) hx hb dX5_draw_146 hl (k := 2) rfl e146.symm (by decide) rfl (fun ls hl => ?_)
                  refine lv_goto (tgt := 112) hx hb dX5_draw_149 (by decide) ?_
                  exact ih112 y146 j123_dr_sent j123_dr_forgot j123_dr_x j123_dr_lastSent_c j123_dr_states_c _ _ _ (by omega) (ir_w r146 (by decide) (by decide)) (hP.sub [0, 1, 2, 3, 4, 5, 6, 7, 8, 9, 10, 11, 12, 13] rfl) (hD.sub [0, 1, 2, 3, 4, 5, 6, 7, 8, 9, 10, 11, 12, 13] (by decide) rfl) hS (lv_sub hl [1, 2, 0] rfl)
                have f129 := (show j123_l4.toInt < ld_pairs.toInt from z_nle rfl rfl c129)
                have r129a : ir j123_l4.toInt 0 15 := ir_lta f129 hj123_l4 hv_ld_pairs (by decide)
                have r129b : ir ld_pairs.toInt 1 16 := ir_ltb f129 hj123_l4 hv_ld_pairs (by decide)
                refine lv_aload_n hx hb dX5_draw_132 rfl (lv_at hl 0 rfl) ?_
                refine lv_aload_n hx hb dX5_draw_133 rfl (lv_at hl 1 rfl) ?_
                refine lv_iload hx hb dX5_draw_134 (lv_at hl 3 rfl) ?_
                refine lv_iload_n hx hb dX5_draw_136 rfl (lv_at hl 2 rfl) ?_
                refine rw_v (wr := [(ld_begun, .inl (cI, 16, .inl ld_begun_c)), (ld_death, .inl (cI, 10, .inl ld_death_c)), (ld_move, .inl (cI, 10, .inl ld_move_c)), (ld_lost, .inl (cJ, 32, .inr (.inl ld_lost_c)))]) (va_runV (As := [.ref ld, .int j123_l4, .int j112_l3]) (rest := []) ⟨hx, hb, hml, hown, hts⟩ (q_X5_goThrough l g cI cJ cB cZ cL j123_l4 j112_l3 dr ld ld_lines ld_years ld_card ld_hurt ld_people ld_pairs ld_strikes ld_rule ld_returns ld_forgets ld_death ld_move ld_begun ld_who ld_lost ld_who_c ld_rule_c ld_returns_c j123_dr_sent j123_dr_forgot dr_lastSent j123_dr_x dr_states dr_may dr_reach j18_dr_may_c j18_dr_reach_c j123_dr_states_c ld_forgets_c j123_dr_lastSent_c H.size r129a (ir_w r117b (by decide) (by decide)) hv_ld_people (ir_w r129b (by decide) (by decide)) ha_ld_who_c) (cwV 3 hts (goodIn_app (g_4 (List.mem_cons_of_mem _ (List.mem_append_left _ (List.mem_of_getElem? (i := 5) rfl))) (List.mem_cons_of_mem _ (List.mem_append_left _ (List.mem_of_getElem? (i := 6) rfl))) (List.mem_cons_of_mem _ (List.mem_append_left _ (List.mem_of_getElem? (i := 7) rfl))) (List.mem_cons_of_mem _ (List.mem_append_left _ (List.mem_of_getElem? (i := 8) rfl))) (by decide +kernel)) (goodIn_sub (fun _ h => List.mem_cons_of_mem _ (List.mem_append_right _ (List.mem_append_left _ h))) good_v_X5_goThrough)) rfl rfl rfl (by decide +kernel) ⟨Nat.le_of_ble_eq_true rfl, Nat.le_of_ble_eq_true rfl⟩) (pv_RW (q := (RX5, TX5, 7)) (ci := 5) (q0 := 4) (wc := [(ld, .inr (4, [.int ld_lines, .int ld_years, .int ld_card, .int ld_hurt, .int ld_people, .int ld_pairs, .long ld_strikes, .ref ld_rule, .ref ld_returns, .ref ld_forgets, .ref ld_death, .ref ld_move, .ref ld_begun, .ref ld_who, .ref ld_lost])), (ld_who, .inl (cI, 32, .inl ld_who_c)), (ld_rule, .inl (cI, 10, .inl ld_rule_c)), (ld_returns, .inl (cI, 10, .inl ld_returns_c)), (dr, .inr (5, [.int j123_dr_sent, .int j123_dr_forgot, .ref dr_lastSent, .long j123_dr_x, .ref dr_states, .ref dr_may, .ref dr_reach])), (dr_may, .inl (cJ, 32, .inr (.inl j18_dr_may_c))), (dr_reach, .inl (cJ, 32, .inr (.inl j18_dr_reach_c))), (dr_states, .inl (cI, 16, .inl j123_dr_states_c)), (ld_forgets, .inl (cI, 10, .inl ld_forgets_c)), (dr_lastSent, .inl (cI, 16, .inl j123_dr_lastSent_c))]) hK hP hD [1, 5, 11, 12, 0, 7, 10, 4, 13, 2] (by decide) rfl rfl rfl) rfl rfl hl.1 rfl (lv_room (Nat.le_of_ble_eq_true rfl)) dX5_draw_137 ⟨Nat.le_of_ble_eq_true rfl, Nat.le_of_ble_eq_true rfl⟩) hS hA hP hD [1, 5, 11, 12, 0, 7, 10, 4, 13, 2] [3, 6, 8, 9] rfl rfl (by decide) (by decide) (fun u137 H locs hw137 hP hD hS => ?_)
                obtain ⟨n_dr_sent_137, n_dr_forgot_137, n_dr_x_137, n_dr_states_c_137, n_dr_lastSent_c_137⟩ := u137
                have hP : va_P g vwCl [(ld_begun, .inl (cI, 16, .inl ld_begun_c)), (ld_death, .inl (cI, 10, .inl ld_death_c)), (ld_move, .inl (cI, 10, .inl ld_move_c)), (ld_lost, .inl (cJ, 32, .inr (.inl ld_lost_c))), (ld, .inr (4, [.int ld_lines, .int ld_years, .int ld_card, .int ld_hurt, .int ld_people, .int ld_pairs, .long ld_strikes, .ref ld_rule, .ref ld_returns, .ref ld_forgets, .ref ld_death, .ref ld_move, .ref ld_begun, .ref ld_who, .ref ld_lost])), (ld_who, .inl (cI, 32, .inl ld_who_c)), (ld_rule, .inl (cI, 10, .inl ld_rule_c)), (ld_returns, .inl (cI, 10, .inl ld_returns_c)), (dr, .inr (5, [.int n_dr_sent_137, .int n_dr_forgot_137, .ref dr_lastSent, .long n_dr_x_137, .ref dr_states, .ref dr_may, .ref dr_reach])), (dr_may, .inl (cJ, 32, .inr (.inl j18_dr_may_c))), (dr_reach, .inl (cJ, 32, .inr (.inl j18_dr_reach_c))), (dr_states, .inl (cI, 16, .inl n_dr_states_c_137)), (ld_forgets, .inl (cI, 10, .inl ld_forgets_c)), (dr_lastSent, .inl (cI, 16, .inl n_dr_lastSent_c_137))] H := hP
                have hD : va_D A [(ld_begun, .inl (cI, 16, .inl ld_begun_c)), (ld_death, .inl (cI, 10, .inl ld_death_c)), (ld_move, .inl (cI, 10, .inl ld_move_c)), (ld_lost, .inl (cJ, 32, .inr (.inl ld_lost_c))), (ld, .inr (4, [.int ld_lines, .int ld_years, .int ld_card, .int ld_hurt, .int ld_people, .int ld_pairs, .long ld_strikes, .ref ld_rule, .ref ld_returns, .ref ld_forgets, .ref ld_death, .ref ld_move, .ref ld_begun, .ref ld_who, .ref ld_lost])), (ld_who, .inl (cI, 32, .inl ld_who_c)), (ld_rule, .inl (cI, 10, .inl ld_rule_c)), (ld_returns, .inl (cI, 10, .inl ld_returns_c)), (dr, .inr (5, [.int n_dr_sent_137, .int n_dr_forgot_137, .ref dr_lastSent, .long n_dr_x_137, .ref dr_states, .ref dr_may, .ref dr_reach])), (dr_may, .inl (cJ, 32, .inr (.inl j18_dr_may_c))), (dr_reach, .inl (cJ, 32, .inr (.inl j18_dr_reach_c))), (dr_states, .inl (cI, 16, .inl n_dr_states_c_137)), (ld_forgets, .inl (cI, 10, .inl ld_forgets_c)), (dr_lastSent, .inl (cI, 16, .inl n_dr_lastSent_c_137))] := hD
                obtain ⟨y140, e140⟩ : ∃ y : Int32, y = j123_l4 + 1 := ⟨_, rfl⟩
                have q140 : y140.toInt = j123_l4.toInt + 1 := by rw [e140]; exact ad_z rfl rfl r129a (ir_c 1) (by decide) (by decide)
                have r140 : ir y140.toInt 1 16 := ad_r q140 r129a (ir_c 1) (by decide) (by decide)
                refine lv_iinc (v := y140) (lv' := [(4, .int y140), (0, .ref dr), (1, .ref ld), (3, .int j112_l3)]) hx hb dX5_draw_140 hl (k := 3) rfl e140.symm (by decide) rfl (fun ls hl => ?_)
                refine lv_goto (tgt := 123) hx hb dX5_draw_143 (by decide) ?_
                exact ih123 y140 n_dr_sent_137 n_dr_forgot_137 n_dr_x_137 n_dr_lastSent_c_137 n_dr_states_c_137 _ _ _ (by omega) (ir_w r140 (by decide) (by decide)) (hP.sub [8, 4, 13, 0, 11, 5, 1, 9, 2, 3, 10, 6, 7, 12] rfl) (hD.sub [8, 4, 13, 0, 11, 5, 1, 9, 2, 3, 10, 6, 7, 12] (by decide) rfl) hS (lv_sub hl [1, 2, 3, 0] rfl)
            exact J123 _ 0 j112_dr_sent j112_dr_forgot j112_dr_x j112_dr_lastSent_c j112_dr_states_c _ _ _ (Nat.lt_succ_self _) (by decide) (hP.sub [0, 1, 2, 3, 4, 5, 6, 7, 8, 9, 10, 11, 12, 13] rfl) (hD.sub [0, 1, 2, 3, 4, 5, 6, 7, 8, 9, 10, 11, 12, 13] (by decide) rfl) hS (lv_sub hl [1, 2, 3, 0] rfl)
        exact J112 _ 0 0 0 p1.toInt64 j18_dr_lastSent_c j18_dr_states_c _ _ _ (Nat.lt_succ_self _) (by decide) (hP.sub [0, 1, 2, 3, 4, 5, 6, 7, 8, 9, 10, 11, 12, 13] rfl) (hD.sub [0, 1, 2, 3, 4, 5, 6, 7, 8, 9, 10, 11, 12, 13] (by decide) rfl) hS (lv_sub hl [1, 2, 0] rfl)
      have f23 := (show j18_l3.toInt < ld_pairs.toInt from z_nle rfl rfl c23)
      have r23a : ir j18_l3.toInt 0 15 := ir_lta f23 hj18_l3 hv_ld_pairs (by decide)
      have r23b : ir ld_pairs.toInt 1 16 := ir_ltb f23 hj18_l3 hv_ld_pairs (by decide)
      refine lv_aload_n hx hb dX5_draw_26 rfl (lv_at hl 0 rfl) ?_
      refine va_get (D := g) (ci := 5) (v := .ref dr_lastSent) (C := RX5) (T := TX5) (N := 7) hx hb hts iX5 hown hK hP 0 rfl rfl 2 (by decide) (hts (.fieldLink RX5 9 "CardsAtYule$Lives" "lastSent" "[I") (List.mem_cons_of_mem _ (List.mem_append_left _ (List.mem_of_getElem? (i := 9) rfl)))) (fun _ h9 => h9) rfl dX5_draw_27 ?_
      refine lv_iload_n hx hb dX5_draw_30 rfl (lv_at hl 2 rfl) ?_
      refine lv_iconst (v := (-1)) hx hb dX5_draw_31 (by decide) ?_
      refine va_iast (D := g) hx hb hK hP hD hS 2 0 rfl rfl (vi_rg rfl r23a (by decide) (by decide)) dX5_draw_32 (fun H locs hP hD hS => ?_)
      obtain ⟨g32, e32⟩ : ∃ z, z = upd j18_dr_lastSent_c j18_l3.toNatClampNeg ((-1) : Int32) := ⟨_, rfl⟩
      have hP : va_P g vwCl [(dr, .inr (5, [.int 0, .int 0, .ref dr_lastSent, .long p1.toInt64, .ref dr_states, .ref dr_may, .ref dr_reach])), (ld, .inr (4, [.int ld_lines, .int ld_years, .int ld_card, .int ld_hurt, .int ld_people, .int ld_pairs, .long ld_strikes, .ref ld_rule, .ref ld_returns, .ref ld_forgets, .ref ld_death, .ref ld_move, .ref ld_begun, .ref ld_who, .ref ld_lost])), (dr_lastSent, .inl (cI, 16, .inl (upd j18_dr_lastSent_c j18_l3.toNatClampNeg ((-1) : Int32)))), (ld_begun, .inl (cI, 16, .inl ld_begun_c)), (dr_states, .inl (cI, 16, .inl j18_dr_states_c)), (ld_who, .inl (cI, 32, .inl ld_who_c)), (ld_death, .inl (cI, 10, .inl ld_death_c)), (dr_may, .inl (cJ, 32, .inr (.inl j18_dr_may_c))), (ld_move, .inl (cI, 10, .inl ld_move_c)), (ld_lost, .inl (cJ, 32, .inr (.inl ld_lost_c))), (dr_reach, .inl (cJ, 32, .inr (.inl j18_dr_reach_c))), (ld_rule, .inl (cI, 10, .inl ld_rule_c)), (ld_returns, .inl (cI, 10, .inl ld_returns_c)), (ld_forgets, .inl (cI, 10, .inl ld_forgets_c))] H := hP
      have hD : va_D A [(dr, .inr (5, [.int 0, .int 0, .ref dr_lastSent, .long p1.toInt64, .ref dr_states, .ref dr_may, .ref dr_reach])), (ld, .inr (4, [.int ld_lines, .int ld_years, .int ld_card, .int ld_hurt, .int ld_people, .int ld_pairs, .long ld_strikes, .ref ld_rule, .ref ld_returns, .ref ld_forgets, .ref ld_death, .ref ld_move, .ref ld_begun, .ref ld_who, .ref ld_lost])), (dr_lastSent, .inl (cI, 16, .inl (upd j18_dr_lastSent_c j18_l3.toNatClampNeg ((-1) : Int32)))), (ld_begun, .inl (cI, 16, .inl ld_begun_c)), (dr_states, .inl (cI, 16, .inl j18_dr_states_c)), (ld_who, .inl (cI, 32, .inl ld_who_c)), (ld_death, .inl (cI, 10, .inl ld_death_c)), (dr_may, .inl (cJ, 32, .inr (.inl j18_dr_may_c))), (ld_move, .inl (cI, 10, .inl ld_move_c)), (ld_lost, .inl (cJ, 32, .inr (.inl ld_lost_c))), (dr_reach, .inl (cJ, 32, .inr (.inl j18_dr_reach_c))), (ld_rule, .inl (cI, 10, .inl ld_rule_c)), (ld_returns, .inl (cI, 10, .inl ld_returns_c)), (ld_forgets, .inl (cI, 10, .inl ld_forgets_c))] := hD
      rw [← e32] at hP hD
      refine lv_aload_n hx hb dX5_draw_33 rfl (lv_at hl 0 rfl) ?_
      refine va_get (D := g) (ci := 5) (v := .ref dr_states) (C := RX5) (T := TX5) (N := 7) hx hb hts iX5 hown hK hP 0 rfl rfl 4 (by decide) (hts (.fieldLink RX5 15 "CardsAtYule$Lives" "states" "[I") (List.mem_cons_of_mem _ (List.mem_append_left _ (List.mem_of_getElem? (i := 10) rfl)))) (fun _ h9 => h9) rfl dX5_draw_34 ?_
      refine lv_iload_n hx hb dX5_draw_37 rfl (lv_at hl 2 rfl) ?_
      refine lv_aload_n hx hb dX5_draw_38 rfl (lv_at hl 1 rfl) ?_
      refine va_get (D := g) (ci := 4) (v := .ref ld_begun) (C := RX4) (T := TX4) (N := 15) hx hb hts iX4 hown hK hP 1 rfl rfl 12 (by decide) (hts (.fieldLink RX5 41 "CardsAtYule$Land" "begun" "[I") (List.mem_cons_of_mem _ (List.mem_append_left _ (List.mem_of_getElem? (i := 11) rfl)))) (fun _ h9 => h9) rfl dX5_draw_39 ?_
      refine lv_iload_n hx hb dX5_draw_42 rfl (lv_at hl 2 rfl) ?_
      refine va_iald (D := g) hx hb hK hP 3 0 rfl rfl (vi_rg rfl r23a (by decide) (by decide)) dX5_draw_43 ?_
      refine lv_topi (fun y43 e43 => ?_)
      have r43 : ir y43.toInt 0 15 := by rw [e43]; exact ha_ld_begun_c _ (vi_cl (vi_rg rfl r23a (by decide) (by decide)))
      refine va_iast (D := g) hx hb hK hP hD hS 4 0 rfl rfl (vi_rg rfl r23a (by decide) (by decide)) dX5_draw_44 (fun H locs hP hD hS => ?_)
      obtain ⟨g44, e44⟩ : ∃ z, z = upd j18_dr_states_c j18_l3.toNatClampNeg y43 := ⟨_, rfl⟩
      have hP : va_P g vwCl [(dr, .inr (5, [.int 0, .int 0, .ref dr_lastSent, .long p1.toInt64, .ref dr_states, .ref dr_may, .ref dr_reach])), (ld, .inr (4, [.int ld_lines, .int ld_years, .int ld_card, .int ld_hurt, .int ld_people, .int ld_pairs, .long ld_strikes, .ref ld_rule, .ref ld_returns, .ref ld_forgets, .ref ld_death, .ref ld_move, .ref ld_begun, .ref ld_who, .ref ld_lost])), (dr_lastSent, .inl (cI, 16, .inl g32)), (ld_begun, .inl (cI, 16, .inl ld_begun_c)), (dr_states, .inl (cI, 16, .inl (upd j18_dr_states_c j18_l3.toNatClampNeg y43))), (ld_who, .inl (cI, 32, .inl ld_who_c)), (ld_death, .inl (cI, 10, .inl ld_death_c)), (dr_may, .inl (cJ, 32, .inr (.inl j18_dr_may_c))), (ld_move, .inl (cI, 10, .inl ld_move_c)), (ld_lost, .inl (cJ, 32, .inr (.inl ld_lost_c))), (dr_reach, .inl (cJ, 32, .inr (.inl j18_dr_reach_c))), (ld_rule, .inl (cI, 10, .inl ld_rule_c)), (ld_returns, .inl (cI, 10, .inl ld_returns_c)), (ld_forgets, .inl (cI, 10, .inl ld_forgets_c))] H := hP
      have hD : va_D A [(dr, .inr (5, [.int 0, .int 0, .ref dr_lastSent, .long p1.toInt64, .ref dr_states, .ref dr_may, .ref dr_reach])), (ld, .inr (4, [.int ld_lines, .int ld_years, .int ld_card, .int ld_hurt, .int ld_people, .int ld_pairs, .long ld_strikes, .ref ld_rule, .ref ld_returns, .ref ld_forgets, .ref ld_death, .ref ld_move, .ref ld_begun, .ref ld_who, .ref ld_lost])), (dr_lastSent, .inl (cI, 16, .inl g32)), (ld_begun, .inl (cI, 16, .inl ld_begun_c)), (dr_states, .inl (cI, 16, .inl (upd j18_dr_states_c j18_l3.toNatClampNeg y43))), (ld_who, .inl (cI, 32, .inl ld_who_c)), (ld_death, .inl (cI, 10, .inl ld_death_c)), (dr_may, .inl (cJ, 32, .inr (.inl j18_dr_may_c))), (ld_move, .inl (cI, 10, .inl ld_move_c)), (ld_lost, .inl (cJ, 32, .inr (.inl ld_lost_c))), (dr_reach, .inl (cJ, 32, .inr (.inl j18_dr_reach_c))), (ld_rule, .inl (cI, 10, .inl ld_rule_c)), (ld_returns, .inl (cI, 10, .inl ld_returns_c)), (ld_forgets, .inl (cI, 10, .inl ld_forgets_c))] := hD
      rw [← e44] at hP hD
      refine lv_iconst (v := 0) hx hb dX5_draw_45 (by decide) ?_
      refine lv_istore (lv' := [(4, .int 0), (0, .ref dr), (1, .ref ld), (3, .int j18_l3)]) hx hb dX5_draw_46 hl (by decide) rfl (fun ls hl => ?_)
      have J48 : ∀ (n48 : Nat) (j48_l4 : Int32) (j48_dr_may_c : Nat → Int64) (j48_dr_reach_c : Nat → Int64) (H : Heap) (locs : List Loc) (ls : Array Slot), (3 - j48_l4.toInt).toNat < n48 → (ir j48_l4.toInt 0 2) → va_P g vwCl [(dr, .inr (5, [.int 0, .int 0, .ref dr_lastSent, .long p1.toInt64, .ref dr_states, .ref dr_may, .ref dr_reach])), (ld, .inr (4, [.int ld_lines, .int ld_years, .int ld_card, .int ld_hurt, .int ld_people, .int ld_pairs, .long ld_strikes, .ref ld_rule, .ref ld_returns, .ref ld_forgets, .ref ld_death, .ref ld_move, .ref ld_begun, .ref ld_who, .ref ld_lost])), (dr_lastSent, .inl (cI, 16, .inl g32)), (ld_begun, .inl (cI, 16, .inl ld_begun_c)), (dr_states, .inl (cI, 16, .inl g44)), (ld_who, .inl (cI, 32, .inl ld_who_c)), (ld_death, .inl (cI, 10, .inl ld_death_c)), (dr_may, .inl (cJ, 32, .inr (.inl j48_dr_may_c))), (ld_move, .inl (cI, 10, .inl ld_move_c)), (ld_lost, .inl (cJ, 32, .inr (.inl ld_lost_c))), (dr_reach, .inl (cJ, 32, .inr (.inl j48_dr_reach_c))), (ld_rule, .inl (cI, 10, .inl ld_rule_c)), (ld_returns, .inl (cI, 10, .inl ld_returns_c)), (ld_forgets, .inl (cI, 10, .inl ld_forgets_c))] H → va_D A [(dr, .inr (5, [.int 0, .int 0, .ref dr_lastSent, .long p1.toInt64, .ref dr_states, .ref dr_may, .ref dr_reach])), (ld, .inr (4, [.int ld_lines, .int ld_years, .int ld_card, .int ld_hurt, .int ld_people, .int ld_pairs, .long ld_strikes, .ref ld_rule, .ref ld_returns, .ref ld_forgets, .ref ld_death, .ref ld_move, .ref ld_begun, .ref ld_who, .ref ld_lost])), (dr_lastSent, .inl (cI, 16, .inl g32)), (ld_begun, .inl (cI, 16, .inl ld_begun_c)), (dr_states, .inl (cI, 16, .inl g44)), (ld_who, .inl (cI, 32, .inl ld_who_c)), (ld_death, .inl (cI, 10, .inl ld_death_c)), (dr_may, .inl (cJ, 32, .inr (.inl j48_dr_may_c))), (ld_move, .inl (cI, 10, .inl ld_move_c)), (ld_lost, .inl (cJ, 32, .inr (.inl ld_lost_c))), (dr_reach, .inl (cJ, 32, .inr (.inl j48_dr_reach_c))), (ld_rule, .inl (cI, 10, .inl ld_rule_c)), (ld_returns, .inl (cI, 10, .inl ld_returns_c)), (ld_forgets, .inl (cI, 10, .inl ld_forgets_c))] → va_S A s.heap H locs → lv_has ls 5 [(0, .ref dr), (1, .ref ld), (3, .int j18_l3), (4, .int j48_l4)] → W p l e (headSpec v_X5_draw ({ frames := 3, cells := 0, slots := 0, locals := 75 })).room s m av below meth c H locs 0 0 QQ (F0 m 48 ls []) := by
        intro n48
        induction n48 with
        | zero => exact fun j48_l4 j48_dr_may_c j48_dr_reach_c H locs ls hn => absurd hn (Nat.not_lt_zero _)
        | succ n48 ih48 =>
          intro j48_l4 j48_dr_may_c j48_dr_reach_c H locs ls hn48 hj48_l4 hP hD hS hl
          refine lv_iload hx hb dX5_draw_48 (lv_at hl 3 rfl) ?_
          refine lv_iconst (v := 2) hx hb dX5_draw_50 (by decide) ?_
          refine lv_icmp_ge (tgt := 104) hx hb dX5_draw_51 (by decide) (fun c51 => ?_) (fun c51 => ?_)
          · have f51 := (show 2 ≤ j48_l4.toInt from z_le rfl rfl c51)
            have r51a : ir j48_l4.toInt 2 2 := ir_leb f51 (ir_c 2) hj48_l4 (by decide)
            obtain ⟨y104, e104⟩ : ∃ y : Int32, y = j18_l3 + 1 := ⟨_, rfl⟩
            have q104 : y104.toInt = j18_l3.toInt + 1 := by rw [e104]; exact ad_z rfl rfl r23a (ir_c 1) (by decide) (by decide)
            have r104 : ir y104.toInt 1 16 := ad_r q104 r23a (ir_c 1) (by decide) (by decide)
            refine lv_iinc (v := y104) (lv' := [(3, .int y104), (0, .ref dr), (1, .ref ld), (4, .int j48_l4)]) hx hb dX5_draw_104 hl (k := 2) rfl e104.symm (by decide) rfl (fun ls hl => ?_)
            refine lv_goto (tgt := 18) hx hb dX5_draw_107 (by decide) ?_
            exact ih18 y104 g32 g44 j48_dr_may_c j48_dr_reach_c _ _ _ (by omega) (ir_w r104 (by decide) (by decide)) (hP.sub [0, 1, 2, 3, 4, 5, 6, 7, 8, 9, 10, 11, 12, 13] rfl) (hD.sub [0, 1, 2, 3, 4, 5, 6, 7, 8, 9, 10, 11, 12, 13] (by decide) rfl) hS (lv_sub hl [1, 2, 0] rfl)
          have f51 := (show j48_l4.toInt < 2 from z_nle rfl rfl c51)
          have r51a : ir j48_l4.toInt 0 1 := ir_lta f51 hj48_l4 (ir_c 2) (by decide)
          refine lv_aload_n hx hb dX5_draw_54 rfl (lv_at hl 0 rfl) ?_
          refine va_get (D := g) (ci := 5) (v := .ref dr_may) (C := RX5) (T := TX5) (N := 7) hx hb hts iX5 hown hK hP 0 rfl rfl 5 (by decide) (hts (.fieldLink RX5 18 "CardsAtYule$Lives" "may" "[J") (List.mem_cons_of_mem _ (List.mem_append_left _ (List.mem_of_getElem? (i := 12) rfl)))) (fun _ h9 => h9) rfl dX5_draw_55 ?_
          refine lv_iconst (v := 2) hx hb dX5_draw_58 (by decide) ?_
          refine lv_iload_n hx hb dX5_draw_59 rfl (lv_at hl 2 rfl) ?_
          refine lv_imul hx hb dX5_draw_60 ?_
          refine lv_topi (fun y60 e60 => ?_)
          have q60 : y60.toInt = 2 * j18_l3.toInt := by rw [e60]; exact mu_z rfl rfl (ir_c 2) r23a (by decide) (by decide) (by decide)
          have r60 : ir y60.toInt 0 30 := mu_r q60 (ir_c 2) r23a (by decide) (by decide) (by decide) (by decide)
          refine lv_iload hx hb dX5_draw_61 (lv_at hl 3 rfl) ?_
          refine lv_iadd hx hb dX5_draw_63 ?_
          refine lv_topi (fun y63 e63 => ?_)
          have q63 : y63.toInt = y60.toInt + j48_l4.toInt := by rw [e63]; exact ad_z rfl rfl r60 r51a (by decide) (by decide)
          have r63 : ir y63.toInt 0 31 := ad_r q63 r60 r51a (by decide) (by decide)
          refine lv_aload_n hx hb dX5_draw_64 rfl (lv_at hl 1 rfl) ?_
          refine lv_aload_n hx hb dX5_draw_65 rfl (lv_at hl 1 rfl) ?_
          refine va_get (D := g) (ci := 4) (v := .ref ld_who) (C := RX4) (T := TX4) (N := 15) hx hb hts iX4 hown hK hP 1 rfl rfl 13 (by decide) (hts (.fieldLink RX5 44 "CardsAtYule$Land" "who" "[I") (List.mem_cons_of_mem _ (List.mem_append_left _ (List.mem_of_getElem? (i := 13) rfl)))) (fun _ h9 => h9) rfl dX5_draw_66 ?_
          refine lv_iconst (v := 2) hx hb dX5_draw_69 (by decide) ?_
          refine lv_iload_n hx hb dX5_draw_70 rfl (lv_at hl 2 rfl) ?_
          refine lv_imul hx hb dX5_draw_71 ?_
          refine lv_topi (fun y71 e71 => ?_)
          have q71 : y71.toInt = 2 * j18_l3.toInt := by rw [e71]; exact mu_z rfl rfl (ir_c 2) r23a (by decide) (by decide) (by decide)
          have r71 : ir y71.toInt 0 30 := mu_r q71 (ir_c 2) r23a (by decide) (by decide) (by decide) (by decide)
          refine lv_iload hx hb dX5_draw_72 (lv_at hl 3 rfl) ?_
          refine lv_iadd hx hb dX5_draw_74 ?_
          refine lv_topi (fun y74 e74 => ?_)
          have q74 : y74.toInt = y71.toInt + j48_l4.toInt := by rw [e74]; exact ad_z rfl rfl r71 r51a (by decide) (by decide)
          have r74 : ir y74.toInt 0 31 := ad_r q74 r71 r51a (by decide) (by decide)
          refine va_iald (D := g) hx hb hK hP 5 0 rfl rfl (vi_rg rfl r74 (by decide) (by decide)) dX5_draw_75 ?_
          refine lv_topi (fun y75 e75 => ?_)
          have r75 : ir y75.toInt 0 9 := by rw [e75]; exact ha_ld_who_c _ (vi_cl (vi_rg rfl r74 (by decide) (by decide)))
          refine ro_l (va_runV (As := [.int y75]) (rest := [.int y63, .ref dr_may]) ⟨hx, hb, hml, hown, hts⟩ (q_X4_livingYears l g cI cJ cB cZ cL y75 ld ld_lines ld_years ld_card ld_hurt ld_people ld_pairs ld_strikes ld_rule ld_returns ld_forgets ld_death ld_move ld_begun ld_who ld_lost ld_death_c H.size r75 hv_ld_years hv_ld_people (ir_w r23b (by decide) (by decide))) (cwV 1 hts (goodIn_app (g_4 (List.mem_cons_of_mem _ (List.mem_append_left _ (List.mem_of_getElem? (i := 14) rfl))) (List.mem_cons_of_mem _ (List.mem_append_left _ (List.mem_of_getElem? (i := 15) rfl))) (List.mem_cons_of_mem _ (List.mem_append_left _ (List.mem_of_getElem? (i := 16) rfl))) (List.mem_cons_of_mem _ (List.mem_append_left _ (List.mem_of_getElem? (i := 17) rfl))) (by decide +kernel)) (goodIn_sub (fun _ h => List.mem_cons_of_mem _ (List.mem_append_right _ (List.mem_append_right _ (List.mem_append_left _ h)))) good_v_X4_livingYears)) rfl rfl rfl (by decide +kernel) ⟨Nat.le_of_ble_eq_true rfl, Nat.le_of_ble_eq_true rfl⟩) (pv_RO (q := (RX4, TX4, 15)) (ci := 4) (q0 := 0) (wc := [(ld, .inr (4, [.int ld_lines, .int ld_years, .int ld_card, .int ld_hurt, .int ld_people, .int ld_pairs, .long ld_strikes, .ref ld_rule, .ref ld_returns, .ref ld_forgets, .ref ld_death, .ref ld_move, .ref ld_begun, .ref ld_who, .ref ld_lost])), (ld_death, .inl (cI, 10, .inl ld_death_c))]) hK hP [1, 6] rfl rfl rfl) rfl rfl hl.1 rfl (lv_room (Nat.le_of_ble_eq_true rfl)) dX5_draw_76 ⟨Nat.le_of_ble_eq_true rfl, Nat.le_of_ble_eq_true rfl⟩) hS hA hP (fun r76 u76 H locs hw76 hP hS => ?_)
          refine va_last (D := g) hx hb hK hP hD hS 7 1 rfl rfl (vi_rg rfl r63 (by decide) (by decide)) dX5_draw_79 (fun H locs hP hD hS => ?_)
          obtain ⟨g79, e79⟩ : ∃ z, z = vp_updL j48_dr_may_c y63.toNatClampNeg r76 := ⟨_, rfl⟩
          have hP : va_P g vwCl [(dr, .inr (5, [.int 0, .int 0, .ref dr_lastSent, .long p1.toInt64, .ref dr_states, .ref dr_may, .ref dr_reach])), (ld, .inr (4, [.int ld_lines, .int ld_years, .int ld_card, .int ld_hurt, .int ld_people, .int ld_pairs, .long ld_strikes, .ref ld_rule, .ref ld_returns, .ref ld_forgets, .ref ld_death, .ref ld_move, .ref ld_begun, .ref ld_who, .ref ld_lost])), (dr_lastSent, .inl (cI, 16, .inl g32)), (ld_begun, .inl (cI, 16, .inl ld_begun_c)), (dr_states, .inl (cI, 16, .inl g44)), (ld_who, .inl (cI, 32, .inl ld_who_c)), (ld_death, .inl (cI, 10, .inl ld_death_c)), (dr_may, .inl (cJ, 32, .inr (.inl (vp_updL j48_dr_may_c y63.toNatClampNeg r76)))), (ld_move, .inl (cI, 10, .inl ld_move_c)), (ld_lost, .inl (cJ, 32, .inr (.inl ld_lost_c))), (dr_reach, .inl (cJ, 32, .inr (.inl j48_dr_reach_c))), (ld_rule, .inl (cI, 10, .inl ld_rule_c)), (ld_returns, .inl (cI, 10, .inl ld_returns_c)), (ld_forgets, .inl (cI, 10, .inl ld_forgets_c))] H := hP
          have hD : va_D A [(dr, .inr (5, [.int 0, .int 0, .ref dr_lastSent, .long p1.toInt64, .ref dr_states, .ref dr_may, .ref dr_reach])), (ld, .inr (4, [.int ld_lines, .int ld_years, .int ld_card, .int ld_hurt, .int ld_people, .int ld_pairs, .long ld_strikes, .ref ld_rule, .ref ld_returns, .ref ld_forgets, .ref ld_death, .ref ld_move, .ref ld_begun, .ref ld_who, .ref ld_lost])), (dr_lastSent, .inl (cI, 16, .inl g32)), (ld_begun, .inl (cI, 16, .inl ld_begun_c)), (dr_states, .inl (cI, 16, .inl g44)), (ld_who, .inl (cI, 32, .inl ld_who_c)), (ld_death, .inl (cI, 10, .inl ld_death_c)), (dr_may, .inl (cJ, 32, .inr (.inl (vp_updL j48_dr_may_c y63.toNatClampNeg r76)))), (ld_move, .inl (cI, 10, .inl ld_move_c)), (ld_lost, .inl (cJ, 32, .inr (.inl ld_lost_c))), (dr_reach, .inl (cJ, 32, .inr (.inl j48_dr_reach_c))), (ld_rule, .inl (cI, 10, .inl ld_rule_c)), (ld_returns, .inl (cI, 10, .inl ld_returns_c)), (ld_forgets, .inl (cI, 10, .inl ld_forgets_c))] := hD
          rw [← e79] at hP hD
          refine lv_aload_n hx hb dX5_draw_80 rfl (lv_at hl 0 rfl) ?_
          refine va_get (D := g) (ci := 5) (v := .ref dr_reach) (C := RX5) (T := TX5) (N := 7) hx hb hts iX5 hown hK hP 0 rfl rfl 6 (by decide) (hts (.fieldLink RX5 22 "CardsAtYule$Lives" "reach" "[J") (List.mem_cons_of_mem _ (List.mem_append_left _ (List.mem_of_getElem? (i := 18) rfl)))) (fun _ h9 => h9) rfl dX5_draw_81 ?_
          refine lv_iconst (v := 2) hx hb dX5_draw_84 (by decide) ?_
          refine lv_iload_n hx hb dX5_draw_85 rfl (lv_at hl 2 rfl) ?_
          refine lv_imul hx hb dX5_draw_86 ?_
          refine lv_topi (fun y86 e86 => ?_)
          have q86 : y86.toInt = 2 * j18_l3.toInt := by rw [e86]; exact mu_z rfl rfl (ir_c 2) r23a (by decide) (by decide) (by decide)
          have r86 : ir y86.toInt 0 30 := mu_r q86 (ir_c 2) r23a (by decide) (by decide) (by decide) (by decide)
          refine lv_iload hx hb dX5_draw_87 (lv_at hl 3 rfl) ?_
          refine lv_iadd hx hb dX5_draw_89 ?_
          refine lv_topi (fun y89 e89 => ?_)
          have q89 : y89.toInt = y86.toInt + j48_l4.toInt := by rw [e89]; exact ad_z rfl rfl r86 r51a (by decide) (by decide)
          have r89 : ir y89.toInt 0 31 := ad_r q89 r86 r51a (by decide) (by decide)
          refine lv_aload_n hx hb dX5_draw_90 rfl (lv_at hl 1 rfl) ?_
          refine lv_iload_n hx hb dX5_draw_91 rfl (lv_at hl 2 rfl) ?_
          refine lv_iload hx hb dX5_draw_92 (lv_at hl 3 rfl) ?_
          refine ro_l (va_runV (As := [.int j18_l3, .int j48_l4]) (rest := [.int y89, .ref dr_reach]) ⟨hx, hb, hml, hown, hts⟩ (q_X4_reachOf l g cI cJ cB cZ cL j18_l3 j48_l4 ld ld_lines ld_years ld_card ld_hurt ld_people ld_pairs ld_strikes ld_rule ld_returns ld_forgets ld_death ld_move ld_begun ld_who ld_lost ld_who_c ld_move_c ld_death_c ld_lost_c H.size r23a r51a hv_ld_years hv_ld_people (ir_w r23b (by decide) (by decide)) ha_ld_who_c) (cwV 2 hts (goodIn_app (g_4 (List.mem_cons_of_mem _ (List.mem_append_left _ (List.mem_of_getElem? (i := 19) rfl))) (List.mem_cons_of_mem _ (List.mem_append_left _ (List.mem_of_getElem? (i := 20) rfl))) (List.mem_cons_of_mem _ (List.mem_append_left _ (List.mem_of_getElem? (i := 21) rfl))) (List.mem_cons_of_mem _ (List.mem_append_left _ (List.mem_of_getElem? (i := 17) rfl))) (by decide +kernel)) (goodIn_sub (fun _ h => List.mem_cons_of_mem _ (List.mem_append_right _ (List.mem_append_right _ (List.mem_append_right _ (List.mem_append_left _ h))))) good_v_X4_reachOf)) rfl rfl rfl (by decide +kernel) ⟨Nat.le_of_ble_eq_true rfl, Nat.le_of_ble_eq_true rfl⟩) (pv_RO (q := (RX4, TX4, 15)) (ci := 4) (q0 := 0) (wc := [(ld, .inr (4, [.int ld_lines, .int ld_years, .int ld_card, .int ld_hurt, .int ld_people, .int ld_pairs, .long ld_strikes, .ref ld_rule, .ref ld_returns, .ref ld_forgets, .ref ld_death, .ref ld_move, .ref ld_begun, .ref ld_who, .ref ld_lost])), (ld_who, .inl (cI, 32, .inl ld_who_c)), (ld_move, .inl (cI, 10, .inl ld_move_c)), (ld_death, .inl (cI, 10, .inl ld_death_c)), (ld_lost, .inl (cJ, 32, .inr (.inl ld_lost_c)))]) hK hP [1, 5, 8, 6, 9] rfl rfl rfl) rfl rfl hl.1 rfl (lv_room (Nat.le_of_ble_eq_true rfl)) dX5_draw_94 ⟨Nat.le_of_ble_eq_true rfl, Nat.le_of_ble_eq_true rfl⟩) hS hA hP (fun r94 u94 H locs hw94 hP hS => ?_)
          refine va_last (D := g) hx hb hK hP hD hS 10 1 rfl rfl (vi_rg rfl r89 (by decide) (by decide)) dX5_draw_97 (fun H locs hP hD hS => ?_)
          obtain ⟨g97, e97⟩ : ∃ z, z = vp_updL j48_dr_reach_c y89.toNatClampNeg r94 := ⟨_, rfl⟩
          have hP : va_P g vwCl [(dr, .inr (5, [.int 0, .int 0, .ref dr_lastSent, .long p1.toInt64, .ref dr_states, .ref dr_may, .ref dr_reach])), (ld, .inr (4, [.int ld_lines, .int ld_years, .int ld_card, .int ld_hurt, .int ld_people, .int ld_pairs, .long ld_strikes, .ref ld_rule, .ref ld_returns, .ref ld_forgets, .ref ld_death, .ref ld_move, .ref ld_begun, .ref ld_who, .ref ld_lost])), (dr_lastSent, .inl (cI, 16, .inl g32)), (ld_begun, .inl (cI, 16, .inl ld_begun_c)), (dr_states, .inl (cI, 16, .inl g44)), (ld_who, .inl (cI, 32, .inl ld_who_c)), (ld_death, .inl (cI, 10, .inl ld_death_c)), (dr_may, .inl (cJ, 32, .inr (.inl g79))), (ld_move, .inl (cI, 10, .inl ld_move_c)), (ld_lost, .inl (cJ, 32, .inr (.inl ld_lost_c))), (dr_reach, .inl (cJ, 32, .inr (.inl (vp_updL j48_dr_reach_c y89.toNatClampNeg r94)))), (ld_rule, .inl (cI, 10, .inl ld_rule_c)), (ld_returns, .inl (cI, 10, .inl ld_returns_c)), (ld_forgets, .inl (cI, 10, .inl ld_forgets_c))] H := hP
          have hD : va_D A [(dr, .inr (5, [.int 0, .int 0, .ref dr_lastSent, .long p1.toInt64, .ref dr_states, .ref dr_may, .ref dr_reach])), (ld, .inr (4, [.int ld_lines, .int ld_years, .int ld_card, .int ld_hurt, .int ld_people, .int ld_pairs, .long ld_strikes, .ref ld_rule, .ref ld_returns, .ref ld_forgets, .ref ld_death, .ref ld_move, .ref ld_begun, .ref ld_who, .ref ld_lost])), (dr_lastSent, .inl (cI, 16, .inl g32)), (ld_begun, .inl (cI, 16, .inl ld_begun_c)), (dr_states, .inl (cI, 16, .inl g44)), (ld_who, .inl (cI, 32, .inl ld_who_c)), (ld_death, .inl (cI, 10, .inl ld_death_c)), (dr_may, .inl (cJ, 32, .inr (.inl g79))), (ld_move, .inl (cI, 10, .inl ld_move_c)), (ld_lost, .inl (cJ, 32, .inr (.inl ld_lost_c))), (dr_reach, .inl (cJ, 32, .inr (.inl (vp_updL j48_dr_reach_c y89.toNatClampNeg r94)))), (ld_rule, .inl (cI, 10, .inl ld_rule_c)), (ld_returns, .inl (cI, 10, .inl ld_returns_c)), (ld_forgets, .inl (cI, 10, .inl ld_forgets_c))] := hD
          rw [← e97] at hP hD
          obtain ⟨y98, e98⟩ : ∃ y : Int32, y = j48_l4 + 1 := ⟨_, rfl⟩
          have q98 : y98.toInt = j48_l4.toInt + 1 := by rw [e98]; exact ad_z rfl rfl r51a (ir_c 1) (by decide) (by decide)
          have r98 : ir y98.toInt 1 2 := ad_r q98 r51a (ir_c 1) (by decide) (by decide)
          refine lv_iinc (v := y98) (lv' := [(4, .int y98), (0, .ref dr), (1, .ref ld), (3, .int j18_l3)]) hx hb dX5_draw_98 hl (k := 3) rfl e98.symm (by decide) rfl (fun ls hl => ?_)
          refine lv_goto (tgt := 48) hx hb dX5_draw_101 (by decide) ?_
          exact ih48 y98 g79 g97 _ _ _ (by omega) (ir_w r98 (by decide) (by decide)) (hP.sub [0, 1, 2, 3, 4, 5, 6, 7, 8, 9, 10, 11, 12, 13] rfl) (hD.sub [0, 1, 2, 3, 4, 5, 6, 7, 8, 9, 10, 11, 12, 13] (by decide) rfl) hS (lv_sub hl [1, 2, 3, 0] rfl)
      exact J48 _ 0 j18_dr_may_c j18_dr_reach_c _ _ _ (Nat.lt_succ_self _) (by decide) (hP.sub [0, 1, 2, 3, 4, 5, 6, 7, 8, 9, 10, 11, 12, 13] rfl) (hD.sub [0, 1, 2, 3, 4, 5, 6, 7, 8, 9, 10, 11, 12, 13] (by decide) rfl) hS (lv_sub hl [1, 2, 3, 0] rfl)
  exact J18 _ 0 dr_lastSent_c dr_states_c dr_may_c dr_reach_c _ _ _ (Nat.lt_succ_self _) (by decide) (hP.sub [0, 1, 2, 3, 4, 5, 6, 7, 8, 9, 10, 11, 12, 13] rfl) (hD.sub [0, 1, 2, 3, 4, 5, 6, 7, 8, 9, 10, 11, 12, 13] (by decide) rfl) hS (lv_sub hl [1, 2, 0] rfl)
def v_X5_silentAtLast : List Cond := .code yX5_silentAtLast cX5_silentAtLast 4 (some .int) :: (([.fieldLink RX5 36 "CardsAtYule$Land" "pairs" "I", .fieldLink RX5 9 "CardsAtYule$Lives" "lastSent" "[I", .fieldLink RX5 55 "CardsAtYule$Land" "years" "I"] : List Cond) ++ (wsX40 ++ (wsX50 ++ ([] : List Cond))))
theorem good_v_X5_silentAtLast : v_X5_silentAtLast.all goodWord = true := ga_c (by decide +kernel) (ga_a (by decide +kernel) (ga_a good_wsX40 (ga_a good_wsX50 rfl)))
set_option maxHeartbeats 4000000 in
set_option maxRecDepth 100000 in
theorem q_X5_silentAtLast (l : Launch) (g : va_G) (cI cJ cB cZ cL : ClassId) (dr : Nat) (ld : Nat) (ld_lines : Int32) (ld_years : Int32) (ld_card : Int32) (ld_hurt : Int32) (ld_people : Int32) (ld_pairs : Int32) (ld_strikes : Int64) (ld_rule : Nat) (ld_returns : Nat) (ld_forgets : Nat) (ld_death : Nat) (ld_move : Nat) (ld_begun : Nat) (ld_who : Nat) (ld_lost : Nat) (dr_sent : Int32) (dr_forgot : Int32) (dr_lastSent : Nat) (dr_x : Int64) (dr_states : Nat) (dr_may : Nat) (dr_reach : Nat) (dr_lastSent_c : Nat → Int32) (sz : Nat) (hv_ld_years : ir ld_years.toInt 0 40) (hv_ld_people : ir ld_people.toInt 0 10) (hv_ld_pairs : ir ld_pairs.toInt 0 16) : Met l yX5_silentAtLast v_X5_silentAtLast ({ frames := 0, cells := 0, slots := 0, locals := 0 }) (va_Pc [.ref dr, .ref ld] (pRO g (tyT cI cJ cB cZ cL) [(ld, .inr (4, [.int ld_lines, .int ld_years, .int ld_card, .int ld_hurt, .int ld_people, .int ld_pairs, .long ld_strikes, .ref ld_rule, .ref ld_returns, .ref ld_forgets, .ref ld_death, .ref ld_move, .ref ld_begun, .ref ld_who, .ref ld_lost])), (dr, .inr (5, [.int dr_sent, .int dr_forgot, .ref dr_lastSent, .long dr_x, .ref dr_states, .ref dr_may, .ref dr_reach])), (dr_lastSent, .inl (cI, 16, .inl dr_lastSent_c))] sz)) (va_Qi (fun (r : Int32) (u : Unit) => True) (fun (_ : Unit) (_ : State) => True) (va_A [] sz)) 0 0 (va_A [] sz) := by
  refine Met.ofW (cc := cX5_silentAtLast) (maxL := 4) (ret := (some .int)) (by decide) rfl ?_
  intro p e s m args below meth c s₁ B hml hv
  obtain ⟨rfl, hsz, hP, hK⟩ := hv
  have hx := B.exec
  have hb := B.bytes
  have hr := B.returns
  have hts := atoms_spec (ws := v_X5_silentAtLast) B.pre
  have hown : s.vm.findClass RX5 = some m.cls := findClass_of_methodNamed B.named
  have hlocks := B.notSynchronized
  clear B
  subst hsz
  have iX4 : ∀ w ∈ wsX40, w ∈ v_X5_silentAtLast := (fun _ h => List.mem_cons_of_mem _ (List.mem_append_right _ (List.mem_append_left _ h)))
  have iX5 : ∀ w ∈ wsX50, w ∈ v_X5_silentAtLast := (fun _ h => List.mem_cons_of_mem _ (List.mem_append_right _ (List.mem_append_right _ (List.mem_append_left _ h))))
  generalize hAe : (va_A [] s.heap.size) = A
  have hA : ∀ q : Nat, s.heap.size ≤ q → A q := fun q h => by rw [← hAe]; exact Or.inr h
  have hS : va_S A s.heap s.heap [] := va_S.rf
  have hl := lv_entry ([.ref dr, .ref ld]) (n := 4) (Nat.le_of_ble_eq_true rfl)
  rw [lg_entry_eq]
  generalize (lg_sl ([.ref dr, .ref ld]) ++ List.replicate (4 - (lg_sl ([.ref dr, .ref ld])).length) Slot.unset).toArray = ls at hl ⊢
  generalize ([.ref dr, .ref ld] : List Value).toArray = av at hts ⊢
  generalize hQ : MQ below _ av s _ _ A = QQ
  have hl : lv_has ls 4 [(0, .ref dr), (1, .ref ld)] := hl
  have hP : va_P g vwCl [(ld, .inr (4, [.int ld_lines, .int ld_years, .int ld_card, .int ld_hurt, .int ld_people, .int ld_pairs, .long ld_strikes, .ref ld_rule, .ref ld_returns, .ref ld_forgets, .ref ld_death, .ref ld_move, .ref ld_begun, .ref ld_who, .ref ld_lost])), (dr, .inr (5, [.int dr_sent, .int dr_forgot, .ref dr_lastSent, .long dr_x, .ref dr_states, .ref dr_may, .ref dr_reach])), (dr_lastSent, .inl (cI, 16, .inl dr_lastSent_c))] s.heap := hP
  refine lv_iconst (v := 0) hx hb dX5_silentAtLast_0 (by decide) ?_
  refine lv_istore_n (lv' := [(2, .int 0), (0, .ref dr), (1, .ref ld)]) hx hb dX5_silentAtLast_1 rfl hl (by decide) rfl (fun ls hl => ?_)
  refine lv_iconst (v := 0) hx hb dX5_silentAtLast_2 (by decide) ?_
  refine lv_istore_n (lv' := [(3, .int 0), (2, .int 0), (0, .ref dr), (1, .ref ld)]) hx hb dX5_silentAtLast_3 rfl hl (by decide) rfl (fun ls hl => ?_)
  have J4 : ∀ (n4 : Nat) (j4_l2 : Int32) (j4_l3 : Int32) (H : Heap) (locs : List Loc) (ls : Array Slot), (17 - j4_l3.toInt).toNat < n4 → (ir j4_l3.toInt 0 16) → va_P g vwCl [(ld, .inr (4, [.int ld_lines, .int ld_years, .int ld_card, .int ld_hurt, .int ld_people, .int ld_pairs, .long ld_strikes, .ref ld_rule, .ref ld_returns, .ref ld_forgets, .ref ld_death, .ref ld_move, .ref ld_begun, .ref ld_who, .ref ld_lost])), (dr, .inr (5, [.int dr_sent, .int dr_forgot, .ref dr_lastSent, .long dr_x, .ref dr_states, .ref dr_may, .ref dr_reach])), (dr_lastSent, .inl (cI, 16, .inl dr_lastSent_c))] H → va_S A s.heap H locs → lv_has ls 4 [(0, .ref dr), (1, .ref ld), (2, .int j4_l2), (3, .int j4_l3)] → W p l e (headSpec v_X5_silentAtLast ({ frames := 0, cells := 0, slots := 0, locals := 0 })).room s m av below meth c H locs 0 0 QQ (F0 m 4 ls []) := by
    intro n4
    induction n4 with
    | zero => exact fun j4_l2 j4_l3 H locs ls hn => absurd hn (Nat.not_lt_zero _)
    | succ n4 ih4 =>
      intro j4_l2 j4_l3 H locs ls hn4 hj4_l3 hP hS hl
      refine lv_iload_n hx hb dX5_silentAtLast_4 rfl (lv_at hl 3 rfl) ?_
      refine lv_aload_n hx hb dX5_silentAtLast_5 rfl (lv_at hl 1 rfl) ?_
      refine va_get (D := g) (ci := 4) (v := .int ld_pairs) (C := RX4) (T := TX4) (N := 15) hx hb hts iX4 hown hK hP 0 rfl rfl 5 (by decide) (hts (.fieldLink RX5 36 "CardsAtYule$Land" "pairs" "I") (List.mem_cons_of_mem _ (List.mem_append_left _ (List.mem_of_getElem? (i := 0) rfl)))) (fun _ h9 => h9) rfl dX5_silentAtLast_6 ?_
      refine lv_icmp_ge (tgt := 41) hx hb dX5_silentAtLast_9 (by decide) (fun c9 => ?_) (fun c9 => ?_)
      · have f9 := (show ld_pairs.toInt ≤ j4_l3.toInt from z_le rfl rfl c9)
        refine lv_iload_n hx hb dX5_silentAtLast_41 rfl (lv_at hl 2 rfl) ?_
        subst hQ
        exact W.iret (v := j4_l2) hx hb hr (fun t ht hW => ⟨⟨j4_l2, (), rfl, trivial, trivial⟩, hS.F ht⟩) hS.2.2 dX5_silentAtLast_42
      have f9 := (show j4_l3.toInt < ld_pairs.toInt from z_nle rfl rfl c9)
      have r9a : ir j4_l3.toInt 0 15 := ir_lta f9 hj4_l3 hv_ld_pairs (by decide)
      have r9b : ir ld_pairs.toInt 1 16 := ir_ltb f9 hj4_l3 hv_ld_pairs (by decide)
      refine lv_iload_n hx hb dX5_silentAtLast_12 rfl (lv_at hl 2 rfl) ?_
      refine lv_aload_n hx hb dX5_silentAtLast_13 rfl (lv_at hl 0 rfl) ?_
      refine va_get (D := g) (ci := 5) (v := .ref dr_lastSent) (C := RX5) (T := TX5) (N := 7) hx hb hts iX5 hown hK hP 1 rfl rfl 2 (by decide) (hts (.fieldLink RX5 9 "CardsAtYule$Lives" "lastSent" "[I") (List.mem_cons_of_mem _ (List.mem_append_left _ (List.mem_of_getElem? (i := 1) rfl)))) (fun _ h9 => h9) rfl dX5_silentAtLast_14 ?_
      refine lv_iload_n hx hb dX5_silentAtLast_17 rfl (lv_at hl 3 rfl) ?_
      refine va_iald (D := g) hx hb hK hP 2 0 rfl rfl (vi_rg rfl r9a (by decide) (by decide)) dX5_silentAtLast_18 ?_
      refine lv_topi (fun y18 e18 => ?_)
      refine lv_aload_n hx hb dX5_silentAtLast_19 rfl (lv_at hl 1 rfl) ?_
      refine va_get (D := g) (ci := 4) (v := .int ld_years) (C := RX4) (T := TX4) (N := 15) hx hb hts iX4 hown hK hP 0 rfl rfl 1 (by decide) (hts (.fieldLink RX5 55 "CardsAtYule$Land" "years" "I") (List.mem_cons_of_mem _ (List.mem_append_left _ (List.mem_of_getElem? (i := 2) rfl)))) (fun _ h9 => h9) rfl dX5_silentAtLast_20 ?_
      refine lv_iconst (v := 1) hx hb dX5_silentAtLast_23 (by decide) ?_
      refine lv_isub hx hb dX5_silentAtLast_24 ?_
      refine lv_topi (fun y24 e24 => ?_)
      have q24 : y24.toInt = ld_years.toInt - 1 := by rw [e24]; exact su_z rfl rfl hv_ld_years (ir_c 1) (by decide) (by decide)
      have r24 : ir y24.toInt (-1) 39 := su_r q24 hv_ld_years (ir_c 1) (by decide) (by decide)
      have J33 : ∀ (j33_s0 : Int32) (H : Heap) (locs : List Loc) (ls : Array Slot), (ir j33_s0.toInt 0 1) → va_P g vwCl [(ld, .inr (4, [.int ld_lines, .int ld_years, .int ld_card, .int ld_hurt, .int ld_people, .int ld_pairs, .long ld_strikes, .ref ld_rule, .ref ld_returns, .ref ld_forgets, .ref ld_death, .ref ld_move, .ref ld_begun, .ref ld_who, .ref ld_lost])), (dr, .inr (5, [.int dr_sent, .int dr_forgot, .ref dr_lastSent, .long dr_x, .ref dr_states, .ref dr_may, .ref dr_reach])), (dr_lastSent, .inl (cI, 16, .inl dr_lastSent_c))] H → va_S A s.heap H locs → lv_has ls 4 [(0, .ref dr), (1, .ref ld), (3, .int j4_l3)] → W p l e (headSpec v_X5_silentAtLast ({ frames := 0, cells := 0, slots := 0, locals := 0 })).room s m av below meth c H locs 0 0 QQ (F0 m 33 ls [.int j33_s0, .int j4_l2]) := by
        intro j33_s0 H locs ls hj33_s0 hP hS hl
        refine lv_iadd hx hb dX5_silentAtLast_33 ?_
        refine lv_topi (fun y33 e33 => ?_)
        refine lv_istore_n (lv' := [(2, .int y33), (0, .ref dr), (1, .ref ld), (3, .int j4_l3)]) hx hb dX5_silentAtLast_34 rfl hl (by decide) rfl (fun ls hl => ?_)
        obtain ⟨y35, e35⟩ : ∃ y : Int32, y = j4_l3 + 1 := ⟨_, rfl⟩
        have q35 : y35.toInt = j4_l3.toInt + 1 := by rw [e35]; exact ad_z rfl rfl r9a (ir_c 1) (by decide) (by decide)
        have r35 : ir y35.toInt 1 16 := ad_r q35 r9a (ir_c 1) (by decide) (by decide)
        refine lv_iinc (v := y35) (lv' := [(3, .int y35), (2, .int y33), (0, .ref dr), (1, .ref ld)]) hx hb dX5_silentAtLast_35 hl (k := 3) rfl e35.symm (by decide) rfl (fun ls hl => ?_)
        refine lv_goto (tgt := 4) hx hb dX5_silentAtLast_38 (by decide) ?_
        exact ih4 y33 y35 _ _ _ (by omega) (ir_w r35 (by decide) (by decide)) (hP.sub [0, 1, 2] rfl) hS (lv_sub hl [2, 3, 1, 0] rfl)
      refine lv_icmp_ne (tgt := 32) hx hb dX5_silentAtLast_25 (by decide) (fun c25 => ?_) (fun c25 => ?_)
      · have f25 := (show y18.toInt ≠ y24.toInt from z_ne rfl rfl c25)
        refine lv_iconst (v := 1) hx hb dX5_silentAtLast_32 (by decide) ?_
        exact J33 1 _ _ _ (by decide) (hP.sub [0, 1, 2] rfl) hS (lv_sub hl [0, 1, 3] rfl)
      have f25 := (show y18.toInt = y24.toInt from z_eq rfl rfl c25)
      have r25a : ir y18.toInt (-1) 39 := ir_eqa f25 (rg_all y18) r24 (by decide) (by decide)
      refine lv_iconst (v := 0) hx hb dX5_silentAtLast_28 (by decide) ?_
      refine lv_goto (tgt := 33) hx hb dX5_silentAtLast_29 (by decide) ?_
      exact J33 0 _ _ _ (by decide) (hP.sub [0, 1, 2] rfl) hS (lv_sub hl [0, 1, 3] rfl)
  exact J4 _ 0 0 _ _ _ (Nat.lt_succ_self _) (by decide) (hP.sub [0, 1, 2] rfl) hS (lv_sub hl [2, 3, 1, 0] rfl)
def v_X1_commonDivisor : List Cond := .code yX1_commonDivisor cX1_commonDivisor 11 (some .long) :: (([] : List Cond) ++ ([] : List Cond))
theorem good_v_X1_commonDivisor : v_X1_commonDivisor.all goodWord = true := ga_c (by decide +kernel) (ga_a (by decide +kernel) rfl)
set_option maxHeartbeats 4000000 in
set_option maxRecDepth 100000 in
theorem q_X1_commonDivisor (l : Launch) (g : va_G) (cI cJ cB cZ cL : ClassId) (p0 : Int64) (p1 : Int64) (sz : Nat)  : Met l yX1_commonDivisor v_X1_commonDivisor ({ frames := 0, cells := 0, slots := 0, locals := 0 }) (va_Pc [.long p0, .long p1] (pRO g (tyT cI cJ cB cZ cL) [] sz)) (va_Ql (fun (r : Int64) (u : Unit) => True) (fun (_ : Unit) (_ : State) => True) (va_A [] sz)) 0 0 (va_A [] sz) := by
  refine Met.ofW (cc := cX1_commonDivisor) (maxL := 11) (ret := (some .long)) (by decide) rfl ?_
  intro p e s m args below meth c s₁ B hml hv
  obtain ⟨rfl, hsz, hP, hK⟩ := hv
  have hx := B.exec
  have hb := B.bytes
  have hr := B.returns
  have hts := atoms_spec (ws := v_X1_commonDivisor) B.pre
  have hown : s.vm.findClass RX1 = some m.cls := findClass_of_methodNamed B.named
  have hlocks := B.notSynchronized
  clear B
  subst hsz
  generalize hAe : (va_A [] s.heap.size) = A
  have hA : ∀ q : Nat, s.heap.size ≤ q → A q := fun q h => by rw [← hAe]; exact Or.inr h
  have hS : va_S A s.heap s.heap [] := va_S.rf
  have hl := lv_entry ([.long p0, .long p1]) (n := 11) (Nat.le_of_ble_eq_true rfl)
  rw [lg_entry_eq]
  generalize (lg_sl ([.long p0, .long p1]) ++ List.replicate (11 - (lg_sl ([.long p0, .long p1])).length) Slot.unset).toArray = ls at hl ⊢
  generalize ([.long p0, .long p1] : List Value).toArray = av at hts ⊢
  generalize hQ : MQ below _ av s _ _ A = QQ
  have hl : lv_has ls 11 [(0, .long p0), (2, .long p1)] := hl
  have hP : va_P g vwCl [] s.heap := hP
  refine lv_lload_n hx hb dX1_commonDivisor_0 rfl (lv_at hl 0 rfl) ?_
  refine lv_lstore (lv' := [(4, .long p0), (0, .long p0), (2, .long p1)]) hx hb dX1_commonDivisor_1 hl (by decide) rfl (fun ls hl => ?_)
  refine lv_lload_n hx hb dX1_commonDivisor_3 rfl (lv_at hl 2 rfl) ?_
  refine lv_lstore (lv' := [(6, .long p1), (4, .long p0), (0, .long p0), (2, .long p1)]) hx hb dX1_commonDivisor_4 hl (by decide) rfl (fun ls hl => ?_)
  refine lv_iconst (v := 0) hx hb dX1_commonDivisor_6 (by decide) ?_
  refine lv_istore (lv' := [(8, .int 0), (6, .long p1), (4, .long p0), (0, .long p0), (2, .long p1)]) hx hb dX1_commonDivisor_7 hl (by decide) rfl (fun ls hl => ?_)
  have J9 : ∀ (n9 : Nat) (j9_l4 : Int64) (j9_l6 : Int64) (j9_l8 : Int32) (H : Heap) (locs : List Loc) (ls : Array Slot), (201 - j9_l8.toInt).toNat < n9 → (ir j9_l8.toInt 0 200) → va_P g vwCl [] H → va_S A s.heap H locs → lv_has ls 11 [(4, .long j9_l4), (6, .long j9_l6), (8, .int j9_l8)] → W p l e (headSpec v_X1_commonDivisor ({ frames := 0, cells := 0, slots := 0, locals := 0 })).room s m av below meth c H locs 0 0 QQ (F0 m 9 ls []) := by
    intro n9
    induction n9 with
    | zero => exact fun j9_l4 j9_l6 j9_l8 H locs ls hn => absurd hn (Nat.not_lt_zero _)
    | succ n9 ih9 =>
      intro j9_l4 j9_l6 j9_l8 H locs ls hn9 hj9_l8 hP hS hl
      refine lv_iload hx hb dX1_commonDivisor_9 (lv_at hl 2 rfl) ?_
      refine lv_sipush (v := 200) hx hb dX1_commonDivisor_11 (by decide) ?_
      refine lv_icmp_ge (tgt := 45) hx hb dX1_commonDivisor_14 (by decide) (fun c14 => ?_) (fun c14 => ?_)
      · have f14 := (show 200 ≤ j9_l8.toInt from z_le rfl rfl c14)
        have r14a : ir j9_l8.toInt 200 200 := ir_leb f14 (ir_c 200) hj9_l8 (by decide)
        refine lv_lload hx hb dX1_commonDivisor_45 (lv_at hl 0 rfl) ?_
        subst hQ
        exact W.lret (v := j9_l4) hx hb hr (fun t ht hW => ⟨⟨j9_l4, (), rfl, trivial, trivial⟩, hS.F ht⟩) hS.2.2 dX1_commonDivisor_47
      have f14 := (show j9_l8.toInt < 200 from z_nle rfl rfl c14)
      have r14a : ir j9_l8.toInt 0 199 := ir_lta f14 hj9_l8 (ir_c 200) (by decide)
      refine lv_lload hx hb dX1_commonDivisor_17 (lv_at hl 1 rfl) ?_
      refine lv_lconst (v := 0) hx hb dX1_commonDivisor_19 (by decide) ?_
      refine W.lcmp hx hb dX1_commonDivisor_20 ?_
      refine lv_if_eq (tgt := 45) hx hb dX1_commonDivisor_21 (by decide) (fun c21 => ?_) (fun c21 => ?_)
      · have f21 := (show j9_l6.toInt = 0 from y_eq rfl rfl c21)
        have r21a : ir j9_l6.toInt 0 0 := ir_eqa f21 (rl_all j9_l6) (ir_c 0) (by decide) (by decide)
        refine lv_lload hx hb dX1_commonDivisor_45 (lv_at hl 0 rfl) ?_
        subst hQ
        exact W.lret (v := j9_l4) hx hb hr (fun t ht hW => ⟨⟨j9_l4, (), rfl, trivial, trivial⟩, hS.F ht⟩) hS.2.2 dX1_commonDivisor_47
      have f21 := (show j9_l6.toInt ≠ 0 from y_ne rfl rfl c21)
      refine lv_lload hx hb dX1_commonDivisor_24 (lv_at hl 0 rfl) ?_
      refine lv_lload hx hb dX1_commonDivisor_26 (lv_at hl 1 rfl) ?_
      refine lv_lrem hx hb dX1_commonDivisor_28 (nz_l f21) ?_
      refine lv_topl (fun y28 e28 => ?_)
      refine lv_lstore (lv' := [(9, .long y28), (4, .long j9_l4), (6, .long j9_l6), (8, .int j9_l8)]) hx hb dX1_commonDivisor_29 hl (by decide) rfl (fun ls hl => ?_)
      refine lv_lload hx hb dX1_commonDivisor_31 (lv_at hl 2 rfl) ?_
      refine lv_lstore (lv' := [(4, .long j9_l6), (9, .long y28), (6, .long j9_l6), (8, .int j9_l8)]) hx hb dX1_commonDivisor_33 hl (by decide) rfl (fun ls hl => ?_)
      refine lv_lload hx hb dX1_commonDivisor_35 (lv_at hl 1 rfl) ?_
      refine lv_lstore (lv' := [(6, .long y28), (4, .long j9_l6), (9, .long y28), (8, .int j9_l8)]) hx hb dX1_commonDivisor_37 hl (by decide) rfl (fun ls hl => ?_)
      obtain ⟨y39, e39⟩ : ∃ y : Int32, y = j9_l8 + 1 := ⟨_, rfl⟩
      have q39 : y39.toInt = j9_l8.toInt + 1 := by rw [e39]; exact ad_z rfl rfl r14a (ir_c 1) (by decide) (by decide)
      have r39 : ir y39.toInt 1 200 := ad_r q39 r14a (ir_c 1) (by decide) (by decide)
      refine lv_iinc (v := y39) (lv' := [(8, .int y39), (6, .long y28), (4, .long j9_l6), (9, .long y28)]) hx hb dX1_commonDivisor_39 hl (k := 3) rfl e39.symm (by decide) rfl (fun ls hl => ?_)
      refine lv_goto (tgt := 9) hx hb dX1_commonDivisor_42 (by decide) ?_
      exact ih9 j9_l6 y28 y39 _ _ _ (by omega) (ir_w r39 (by decide) (by decide)) (hP.sub [] rfl) hS (lv_sub hl [2, 1, 0] rfl)
  exact J9 _ p0 p1 0 _ _ _ (Nat.lt_succ_self _) (by decide) (hP.sub [] rfl) hS (lv_sub hl [2, 1, 0] rfl)
def v_X1_fraction : List Cond := .code yX1_fraction cX1_fraction 6 (some .long) :: (([.fieldLink RX1 39 "CardsAtYule$Chances" "below" "J", .methodLink RX1 103 yX1_commonDivisor, .static yX1_commonDivisor, .initialized RX1, .constantLong RX1 107 (-2)] : List Cond) ++ (v_X1_commonDivisor ++ (wsX10 ++ ([] : List Cond))))
theorem good_v_X1_fraction : v_X1_fraction.all goodWord = true := ga_c (by decide +kernel) (ga_a (by decide +kernel) (ga_a good_v_X1_commonDivisor (ga_a good_wsX10 rfl)))
set_option maxHeartbeats 4000000 in
set_option maxRecDepth 100000 in
theorem q_X1_fraction (l : Launch) (g : va_G) (cI cJ cB cZ cL : ClassId) (p0 : Int64) (p1 : Int32) (ch : Nat) (ch_any : Int64) (ch_bothSend : Int64) (ch_cardsSent : Int64) (ch_below : Int64) (ch_rule0 : Int32) (ch_rule1 : Int32) (ch_forgets : Nat) (ch_now : Nat) (ch_then : Nat) (sz : Nat)  : Met l yX1_fraction v_X1_fraction ({ frames := 1, cells := 0, slots := 0, locals := 30 }) (va_Pc [.ref ch, .long p0, .int p1] (pRO g (tyT cI cJ cB cZ cL) [(ch, .inr (1, [.long ch_any, .long ch_bothSend, .long ch_cardsSent, .long ch_below, .int ch_rule0, .int ch_rule1, .ref ch_forgets, .ref ch_now, .ref ch_then]))] sz)) (va_Ql (fun (r : Int64) (u : Unit) => True) (fun (_ : Unit) (_ : State) => True) (va_A [] sz)) 0 0 (va_A [] sz) := by
  refine Met.ofW (cc := cX1_fraction) (maxL := 6) (ret := (some .long)) (by decide) rfl ?_
  intro p e s m args below meth c s₁ B hml hv
  obtain ⟨rfl, hsz, hP, hK⟩ := hv
  have hx := B.exec
  have hb := B.bytes
  have hr := B.returns
  have hts := atoms_spec (ws := v_X1_fraction) B.pre
  have hown : s.vm.findClass RX1 = some m.cls := findClass_of_methodNamed B.named
  have hlocks := B.notSynchronized
  clear B
  subst hsz
  have iX1 : ∀ w ∈ wsX10, w ∈ v_X1_fraction := (fun _ h => List.mem_cons_of_mem _ (List.mem_append_right _ (List.mem_append_right _ (List.mem_append_left _ h))))
  generalize hAe : (va_A [] s.heap.size) = A
  have hA : ∀ q : Nat, s.heap.size ≤ q → A q := fun q h => by rw [← hAe]; exact Or.inr h
  have hS : va_S A s.heap s.heap [] := va_S.rf
  have hl := lv_entry ([.ref ch, .long p0, .int p1]) (n := 6) (Nat.le_of_ble_eq_true rfl)
  rw [lg_entry_eq]
  generalize (lg_sl ([.ref ch, .long p0, .int p1]) ++ List.replicate (6 - (lg_sl ([.ref ch, .long p0, .int p1])).length) Slot.unset).toArray = ls at hl ⊢
  generalize ([.ref ch, .long p0, .int p1] : List Value).toArray = av at hts ⊢
  generalize hQ : MQ below _ av s _ _ A = QQ
  have hl : lv_has ls 6 [(0, .ref ch), (1, .long p0), (3, .int p1)] := hl
  have hP : va_P g vwCl [(ch, .inr (1, [.long ch_any, .long ch_bothSend, .long ch_cardsSent, .long ch_below, .int ch_rule0, .int ch_rule1, .ref ch_forgets, .ref ch_now, .ref ch_then]))] s.heap := hP
  refine lv_lload_n hx hb dX1_fraction_0 rfl (lv_at hl 1 rfl) ?_
  refine lv_aload_n hx hb dX1_fraction_1 rfl (lv_at hl 0 rfl) ?_
  refine va_get (D := g) (ci := 1) (v := .long ch_below) (C := RX1) (T := TX1) (N := 9) hx hb hts iX1 hown hK hP 0 rfl rfl 3 (by decide) (hts (.fieldLink RX1 39 "CardsAtYule$Chances" "below" "J") (List.mem_cons_of_mem _ (List.mem_append_left _ (List.mem_of_getElem? (i := 0) rfl)))) (fun _ h9 => h9) rfl dX1_fraction_2 ?_
  refine ro_l (va_runS (As := [.long p0, .long ch_below]) (rest := []) ⟨hx, hb, hml, hown, hts⟩ (q_X1_commonDivisor l g cI cJ cB cZ cL p0 ch_below s.heap.size ) (va_cwS 2 hts (goodIn_app (g_3 (List.mem_cons_of_mem _ (List.mem_append_left _ (List.mem_of_getElem? (i := 1) rfl))) (List.mem_cons_of_mem _ (List.mem_append_left _ (List.mem_of_getElem? (i := 2) rfl))) (List.mem_cons_of_mem _ (List.mem_append_left _ (List.mem_of_getElem? (i := 3) rfl))) (by decide +kernel)) (goodIn_sub (fun _ h => List.mem_cons_of_mem _ (List.mem_append_right _ (List.mem_append_left _ h))) good_v_X1_commonDivisor)) rfl rfl rfl (by decide +kernel) ⟨Nat.le_of_ble_eq_true rfl, Nat.le_of_ble_eq_true rfl⟩) (ps_RO (wc := []) hK hP [] rfl) rfl rfl hl.1 rfl (lv_room (Nat.le_of_ble_eq_true rfl)) dX1_fraction_5 ⟨Nat.le_of_ble_eq_true rfl, Nat.le_of_ble_eq_true rfl⟩) hS hA hP (fun r5 u5 H locs hw5 hP hS => ?_)
  refine lv_lstore (lv' := [(4, .long r5), (0, .ref ch), (1, .long p0), (3, .int p1)]) hx hb dX1_fraction_8 hl (by decide) rfl (fun ls hl => ?_)
  refine lv_lload hx hb dX1_fraction_10 (lv_at hl 0 rfl) ?_
  refine lv_lconst (v := 0) hx hb dX1_fraction_12 (by decide) ?_
  refine W.lcmp hx hb dX1_fraction_13 ?_
  refine lv_if_ne (tgt := 21) hx hb dX1_fraction_14 (by decide) (fun c14 => ?_) (fun c14 => ?_)
  rotate_left 1
  · have f14 := (show r5.toInt = 0 from y_eq rfl rfl c14)
    have r14a : ir r5.toInt 0 0 := ir_eqa f14 (rl_all r5) (ir_c 0) (by decide) (by decide)
    refine lv_ldc2 (v := (-2)) hx hb hown (hts (.constantLong RX1 107 (-2)) (List.mem_cons_of_mem _ (List.mem_append_left _ (List.mem_of_getElem? (i := 4) rfl)))) dX1_fraction_17 ?_
    subst hQ
    exact W.lret (v := (-2)) hx hb hr (fun t ht hW => ⟨⟨(-2), (), rfl, trivial, trivial⟩, hS.F ht⟩) hS.2.2 dX1_fraction_20
  have f14 := (show r5.toInt ≠ 0 from y_ne rfl rfl c14)
  refine lv_iload_n hx hb dX1_fraction_21 rfl (lv_at hl 3 rfl) ?_
  refine lv_if_ne (tgt := 29) hx hb dX1_fraction_22 (by decide) (fun c22 => ?_) (fun c22 => ?_)
  · have f22 := (show p1.toInt ≠ 0 from z_ne rfl rfl c22)
    refine lv_aload_n hx hb dX1_fraction_29 rfl (lv_at hl 1 rfl) ?_
    refine va_get (D := g) (ci := 1) (v := .long ch_below) (C := RX1) (T := TX1) (N := 9) hx hb hts iX1 hown hK hP 0 rfl rfl 3 (by decide) (hts (.fieldLink RX1 39 "CardsAtYule$Chances" "below" "J") (List.mem_cons_of_mem _ (List.mem_append_left _ (List.mem_of_getElem? (i := 0) rfl)))) (fun _ h9 => h9) rfl dX1_fraction_30 ?_
    refine lv_lload hx hb dX1_fraction_33 (lv_at hl 0 rfl) ?_
    refine lv_ldiv hx hb dX1_fraction_35 (nz_l f14) ?_
    refine lv_topl (fun y35 e35 => ?_)
    subst hQ
    exact W.lret (v := y35) hx hb hr (fun t ht hW => ⟨⟨y35, (), rfl, trivial, trivial⟩, hS.F ht⟩) hS.2.2 dX1_fraction_36
  have f22 := (show p1.toInt = 0 from z_eq rfl rfl c22)
  have r22a : ir p1.toInt 0 0 := ir_eqa f22 (rg_all p1) (ir_c 0) (by decide) (by decide)
  refine lv_lload_n hx hb dX1_fraction_25 rfl (lv_at hl 2 rfl) ?_
  refine lv_goto (tgt := 33) hx hb dX1_fraction_26 (by decide) ?_
  refine lv_lload hx hb dX1_fraction_33 (lv_at hl 0 rfl) ?_
  refine lv_ldiv hx hb dX1_fraction_35 (nz_l f14) ?_
  refine lv_topl (fun y35 e35 => ?_)
  subst hQ
  exact W.lret (v := y35) hx hb hr (fun t ht hW => ⟨⟨y35, (), rfl, trivial, trivial⟩, hS.F ht⟩) hS.2.2 dX1_fraction_36
def v_X1_note : List Cond := .code yX1_note cX1_note 5 none :: (([.fieldLink RX1 58 "CardsAtYule$Chances" "any" "J", .fieldLink RX1 61 "CardsAtYule$Chances" "bothSend" "J", .fieldLink RX1 43 "CardsAtYule$Chances" "cardsSent" "J", .methodLink RX1 91 yJ6_bitCount_0f7a4, .static yJ6_bitCount_0f7a4, .initialized RJ6, .fieldLink RX1 19 "CardsAtYule$Chances" "then" "[J", .methodLink RX1 97 yX10_swapped, .static yX10_swapped, .initialized RX10, .methodLink RX1 100 yX10_after, .static yX10_after] : List Cond) ++ (v_J6_bitCount_0f7a4 ++ (v_X10_swapped ++ (v_X10_after ++ (wsX10 ++ ([] : List Cond))))))
theorem good_v_X1_note : v_X1_note.all goodWord = true := ga_c (by decide +kernel) (ga_a (by decide +kernel) (ga_a good_v_J6_bitCount_0f7a4 (ga_a good_v_X10_swapped (ga_a good_v_X10_after (ga_a good_wsX10 rfl)))))
set_option maxHeartbeats 4000000 in
set_option maxRecDepth 100000 in
theorem q_X1_note (l : Launch) (g : va_G) (cI cJ cB cZ cL : ClassId) (p0 : Int32) (p1 : Int32) (p2 : Int64) (ch : Nat) (ch_any : Int64) (ch_bothSend : Int64) (ch_cardsSent : Int64) (ch_below : Int64) (ch_rule0 : Int32) (ch_rule1 : Int32) (ch_forgets : Nat) (ch_now : Nat) (ch_then : Nat) (ch_then_c : Nat → Int64) (sz : Nat)  : Met l yX1_note v_X1_note ({ frames := 1, cells := 0, slots := 0, locals := 21 }) (va_Pc [.ref ch, .int p0, .int p1, .long p2] (pRW g (tyT cI cJ cB cZ cL) [(ch, .inr (1, [.long ch_any, .long ch_bothSend, .long ch_cardsSent, .long ch_below, .int ch_rule0, .int ch_rule1, .ref ch_forgets, .ref ch_now, .ref ch_then])), (ch_then, .inl (cJ, 16, .inr (.inl ch_then_c)))] sz)) (va_Qv (fun (u : Int64 × Int64 × Int64 × (Nat → Int64)) => match u with | (n_ch_any, n_ch_bothSend, n_ch_cardsSent, n_ch_then_c) => True) (fun (u : Int64 × Int64 × Int64 × (Nat → Int64)) (t : State) => bRW g (tyT cI cJ cB cZ cL) (va_A [(ch, .inr (1, [.long ch_any, .long ch_bothSend, .long ch_cardsSent, .long ch_below, .int ch_rule0, .int ch_rule1, .ref ch_forgets, .ref ch_now, .ref ch_then])), (ch_then, .inl (cJ, 16, .inr (.inl ch_then_c)))] sz) (match u with | (n_ch_any, n_ch_bothSend, n_ch_cardsSent, n_ch_then_c) => [(ch, .inr (1, [.long n_ch_any, .long n_ch_bothSend, .long n_ch_cardsSent, .long ch_below, .int ch_rule0, .int ch_rule1, .ref ch_forgets, .ref ch_now, .ref ch_then])), (ch_then, .inl (cJ, 16, .inr (.inl n_ch_then_c)))]) t) (va_A [(ch, .inr (1, [.long ch_any, .long ch_bothSend, .long ch_cardsSent, .long ch_below, .int ch_rule0, .int ch_rule1, .ref ch_forgets, .ref ch_now, .ref ch_then])), (ch_then, .inl (cJ, 16, .inr (.inl ch_then_c)))] sz)) 0 0 (va_A [(ch, .inr (1, [.long ch_any, .long ch_bothSend, .long ch_cardsSent, .long ch_below, .int ch_rule0, .int ch_rule1, .ref ch_forgets, .ref ch_now, .ref ch_then])), (ch_then, .inl (cJ, 16, .inr (.inl ch_then_c)))] sz) := by
  refine Met.ofW (cc := cX1_note) (maxL := 5) (ret := none) (by decide) rfl ?_
  intro p e s m args below meth c s₁ B hml hv
  obtain ⟨rfl, hsz, hP, hK, hD0⟩ := hv
  have hx := B.exec
  have hb := B.bytes
  have hr := B.returns
  have hts := atoms_spec (ws := v_X1_note) B.pre
  have hown : s.vm.findClass RX1 = some m.cls := findClass_of_methodNamed B.named
  have hlocks := B.notSynchronized
  clear B
  subst hsz
  have iX1 : ∀ w ∈ wsX10, w ∈ v_X1_note := (fun _ h => List.mem_cons_of_mem _ (List.mem_append_right _ (List.mem_append_right _ (List.mem_append_right _ (List.mem_append_right _ (List.mem_append_left _ h))))))
  have hD := hD0.self (sz := s.heap.size)
  generalize hAe : (va_A [(ch, .inr (1, [.long ch_any, .long ch_bothSend, .long ch_cardsSent, .long ch_below, .int ch_rule0, .int ch_rule1, .ref ch_forgets, .ref ch_now, .ref ch_then])), (ch_then, .inl (cJ, 16, .inr (.inl ch_then_c)))] s.heap.size) = A at hD ⊢
  have hA : ∀ q : Nat, s.heap.size ≤ q → A q := fun q h => by rw [← hAe]; exact Or.inr h
  have hS : va_S A s.heap s.heap [] := va_S.rf
  have hl := lv_entry ([.ref ch, .int p0, .int p1, .long p2]) (n := 5) (Nat.le_of_ble_eq_true rfl)
  rw [lg_entry_eq]
  generalize (lg_sl ([.ref ch, .int p0, .int p1, .long p2]) ++ List.replicate (5 - (lg_sl ([.ref ch, .int p0, .int p1, .long p2])).length) Slot.unset).toArray = ls at hl ⊢
  generalize ([.ref ch, .int p0, .int p1, .long p2] : List Value).toArray = av at hts ⊢
  generalize hQ : MQ below _ av s _ _ A = QQ
  have hl : lv_has ls 5 [(0, .ref ch), (1, .int p0), (2, .int p1), (3, .long p2)] := hl
  have hP : va_P g vwCl [(ch, .inr (1, [.long ch_any, .long ch_bothSend, .long ch_cardsSent, .long ch_below, .int ch_rule0, .int ch_rule1, .ref ch_forgets, .ref ch_now, .ref ch_then])), (ch_then, .inl (cJ, 16, .inr (.inl ch_then_c)))] s.heap := hP
  refine lv_aload_n hx hb dX1_note_0 rfl (lv_at hl 0 rfl) ?_
  refine lv_dup hx hb dX1_note_1 rfl ?_
  refine va_get (D := g) (ci := 1) (v := .long ch_any) (C := RX1) (T := TX1) (N := 9) hx hb hts iX1 hown hK hP 0 rfl rfl 0 (by decide) (hts (.fieldLink RX1 58 "CardsAtYule$Chances" "any" "J") (List.mem_cons_of_mem _ (List.mem_append_left _ (List.mem_of_getElem? (i := 0) rfl)))) (fun _ h9 => h9) rfl dX1_note_2 ?_
  refine lv_iload_n hx hb dX1_note_5 rfl (lv_at hl 2 rfl) ?_
  have J14 : ∀ (j14_s0 : Int64) (H : Heap) (locs : List Loc) (ls : Array Slot), va_P g vwCl [(ch, .inr (1, [.long ch_any, .long ch_bothSend, .long ch_cardsSent, .long ch_below, .int ch_rule0, .int ch_rule1, .ref ch_forgets, .ref ch_now, .ref ch_then])), (ch_then, .inl (cJ, 16, .inr (.inl ch_then_c)))] H → va_D A [(ch, .inr (1, [.long ch_any, .long ch_bothSend, .long ch_cardsSent, .long ch_below, .int ch_rule0, .int ch_rule1, .ref ch_forgets, .ref ch_now, .ref ch_then])), (ch_then, .inl (cJ, 16, .inr (.inl ch_then_c)))] → va_S A s.heap H locs → lv_has ls 5 [(0, .ref ch), (1, .int p0), (2, .int p1), (3, .long p2)] → W p l e (headSpec v_X1_note ({ frames := 1, cells := 0, slots := 0, locals := 21 })).room s m av below meth c H locs 0 0 QQ (F0 m 14 ls [.long j14_s0, .long ch_any, .ref ch]) := by
    intro j14_s0 H locs ls  hP hD hS hl
    refine lv_ladd hx hb dX1_note_14 ?_
    refine lv_topl (fun y14 e14 => ?_)
    refine va_put (D := g) (ci := 1) (v := .long y14) (ty := .long) (C := RX1) (T := TX1) (N := 9) hx hb hts iX1 tyX1 tyX1_ok nmX1 hown hK hP hD hS 0 rfl rfl 0 (by decide) (hts (.fieldLink RX1 58 "CardsAtYule$Chances" "any" "J") (List.mem_cons_of_mem _ (List.mem_append_left _ (List.mem_of_getElem? (i := 0) rfl)))) (fun _ h9 => h9) rfl (by decide +kernel) rfl rfl (Nat.le_of_ble_eq_true rfl) dX1_note_15 (fun H locs hP hD hS => ?_)
    have hP : va_P g vwCl [(ch, .inr (1, [.long y14, .long ch_bothSend, .long ch_cardsSent, .long ch_below, .int ch_rule0, .int ch_rule1, .ref ch_forgets, .ref ch_now, .ref ch_then])), (ch_then, .inl (cJ, 16, .inr (.inl ch_then_c)))] H := hP
    have hD : va_D A [(ch, .inr (1, [.long y14, .long ch_bothSend, .long ch_cardsSent, .long ch_below, .int ch_rule0, .int ch_rule1, .ref ch_forgets, .ref ch_now, .ref ch_then])), (ch_then, .inl (cJ, 16, .inr (.inl ch_then_c)))] := hD
    refine lv_aload_n hx hb dX1_note_18 rfl (lv_at hl 0 rfl) ?_
    refine lv_dup hx hb dX1_note_19 rfl ?_
    refine va_get (D := g) (ci := 1) (v := .long ch_bothSend) (C := RX1) (T := TX1) (N := 9) hx hb hts iX1 hown hK hP 0 rfl rfl 1 (by decide) (hts (.fieldLink RX1 61 "CardsAtYule$Chances" "bothSend" "J") (List.mem_cons_of_mem _ (List.mem_append_left _ (List.mem_of_getElem? (i := 1) rfl)))) (fun _ h9 => h9) rfl dX1_note_20 ?_
    refine lv_iload_n hx hb dX1_note_23 rfl (lv_at hl 2 rfl) ?_
    refine lv_iconst (v := 3) hx hb dX1_note_24 (by decide) ?_
    have J33 : ∀ (j33_s0 : Int64) (H : Heap) (locs : List Loc) (ls : Array Slot), va_P g vwCl [(ch, .inr (1, [.long y14, .long ch_bothSend, .long ch_cardsSent, .long ch_below, .int ch_rule0, .int ch_rule1, .ref ch_forgets, .ref ch_now, .ref ch_then])), (ch_then, .inl (cJ, 16, .inr (.inl ch_then_c)))] H → va_D A [(ch, .inr (1, [.long y14, .long ch_bothSend, .long ch_cardsSent, .long ch_below, .int ch_rule0, .int ch_rule1, .ref ch_forgets, .ref ch_now, .ref ch_then])), (ch_then, .inl (cJ, 16, .inr (.inl ch_then_c)))] → va_S A s.heap H locs → lv_has ls 5 [(0, .ref ch), (1, .int p0), (2, .int p1), (3, .long p2)] → W p l e (headSpec v_X1_note ({ frames := 1, cells := 0, slots := 0, locals := 21 })).room s m av below meth c H locs 0 0 QQ (F0 m 33 ls [.long j33_s0, .long ch_bothSend, .ref ch]) := by
      intro j33_s0 H locs ls  hP hD hS hl
      refine lv_ladd hx hb dX1_note_33 ?_
      refine lv_topl (fun y33 e33 => ?_)
      refine va_put (D := g) (ci := 1) (v := .long y33) (ty := .long) (C := RX1) (T := TX1) (N := 9) hx hb hts iX1 tyX1 tyX1_ok nmX1 hown hK hP hD hS 0 rfl rfl 1 (by decide) (hts (.fieldLink RX1 61 "CardsAtYule$Chances" "bothSend" "J") (List.mem_cons_of_mem _ (List.mem_append_left _ (List.mem_of_getElem? (i := 1) rfl)))) (fun _ h9 => h9) rfl (by decide +kernel) rfl rfl (Nat.le_of_ble_eq_true rfl) dX1_note_34 (fun H locs hP hD hS => ?_)
      have hP : va_P g vwCl [(ch, .inr (1, [.long y14, .long y33, .long ch_cardsSent, .long ch_below, .int ch_rule0, .int ch_rule1, .ref ch_forgets, .ref ch_now, .ref ch_then])), (ch_then, .inl (cJ, 16, .inr (.inl ch_then_c)))] H := hP
      have hD : va_D A [(ch, .inr (1, [.long y14, .long y33, .long ch_cardsSent, .long ch_below, .int ch_rule0, .int ch_rule1, .ref ch_forgets, .ref ch_now, .ref ch_then])), (ch_then, .inl (cJ, 16, .inr (.inl ch_then_c)))] := hD
      refine lv_aload_n hx hb dX1_note_37 rfl (lv_at hl 0 rfl) ?_
      refine lv_dup hx hb dX1_note_38 rfl ?_
      refine va_get (D := g) (ci := 1) (v := .long ch_cardsSent) (C := RX1) (T := TX1) (N := 9) hx hb hts iX1 hown hK hP 0 rfl rfl 2 (by decide) (hts (.fieldLink RX1 43 "CardsAtYule$Chances" "cardsSent" "J") (List.mem_cons_of_mem _ (List.mem_append_left _ (List.mem_of_getElem? (i := 2) rfl)))) (fun _ h9 => h9) rfl dX1_note_39 ?_
      refine lv_iload_n hx hb dX1_note_42 rfl (lv_at hl 2 rfl) ?_
      refine ro_i (va_runS (As := [.int p1]) (rest := [.long ch_cardsSent, .ref ch]) ⟨hx, hb, hml, hown, hts⟩ (q_J6_bitCount_0f7a4 l g cI cJ cB cZ cL p1 H.size ) (va_cwS 1 hts (goodIn_app (g_3 (List.mem_cons_of_mem _ (List.mem_append_left _ (List.mem_of_getElem? (i := 3) rfl))) (List.mem_cons_of_mem _ (List.mem_append_left _ (List.mem_of_getElem? (i := 4) rfl))) (List.mem_cons_of_mem _ (List.mem_append_left _ (List.mem_of_getElem? (i := 5) rfl))) (by decide +kernel)) (goodIn_sub (fun _ h => List.mem_cons_of_mem _ (List.mem_append_right _ (List.mem_append_left _ h))) good_v_J6_bitCount_0f7a4)) rfl rfl rfl (by decide +kernel) ⟨Nat.le_of_ble_eq_true rfl, Nat.le_of_ble_eq_true rfl⟩) (ps_RO (wc := []) hK hP [] rfl) rfl rfl hl.1 rfl (lv_room (Nat.le_of_ble_eq_true rfl)) dX1_note_43 ⟨Nat.le_of_ble_eq_true rfl, Nat.le_of_ble_eq_true rfl⟩) hS hA hP (fun r43 u43 H locs hw43 hP hS => ?_)
      have hw43_0 := hw43
      refine lv_i2l (v := r43.toInt64) hx hb dX1_note_46 rfl ?_
      refine lv_lload_n hx hb dX1_note_47 rfl (lv_at hl 3 rfl) ?_
      refine lv_lmul hx hb dX1_note_48 ?_
      refine lv_topl (fun y48 e48 => ?_)
      refine lv_ladd hx hb dX1_note_49 ?_
      refine lv_topl (fun y49 e49 => ?_)
      refine va_put (D := g) (ci := 1) (v := .long y49) (ty := .long) (C := RX1) (T := TX1) (N := 9) hx hb hts iX1 tyX1 tyX1_ok nmX1 hown hK hP hD hS 0 rfl rfl 2 (by decide) (hts (.fieldLink RX1 43 "CardsAtYule$Chances" "cardsSent" "J") (List.mem_cons_of_mem _ (List.mem_append_left _ (List.mem_of_getElem? (i := 2) rfl)))) (fun _ h9 => h9) rfl (by decide +kernel) rfl rfl (Nat.le_of_ble_eq_true rfl) dX1_note_50 (fun H locs hP hD hS => ?_)
      have hP : va_P g vwCl [(ch, .inr (1, [.long y14, .long y33, .long y49, .long ch_below, .int ch_rule0, .int ch_rule1, .ref ch_forgets, .ref ch_now, .ref ch_then])), (ch_then, .inl (cJ, 16, .inr (.inl ch_then_c)))] H := hP
      have hD : va_D A [(ch, .inr (1, [.long y14, .long y33, .long y49, .long ch_below, .int ch_rule0, .int ch_rule1, .ref ch_forgets, .ref ch_now, .ref ch_then])), (ch_then, .inl (cJ, 16, .inr (.inl ch_then_c)))] := hD
      refine lv_aload_n hx hb dX1_note_53 rfl (lv_at hl 0 rfl) ?_
      refine va_get (D := g) (ci := 1) (v := .ref ch_then) (C := RX1) (T := TX1) (N := 9) hx hb hts iX1 hown hK hP 0 rfl rfl 8 (by decide) (hts (.fieldLink RX1 19 "CardsAtYule$Chances" "then" "[J") (List.mem_cons_of_mem _ (List.mem_append_left _ (List.mem_of_getElem? (i := 6) rfl)))) (fun _ h9 => h9) rfl dX1_note_54 ?_
      refine lv_iload_n hx hb dX1_note_57 rfl (lv_at hl 1 rfl) ?_
      refine lv_iload_n hx hb dX1_note_58 rfl (lv_at hl 2 rfl) ?_
      refine ro_i (va_runS (As := [.int p1]) (rest := [.int p0, .ref ch_then]) ⟨hx, hb, hml, hown, hts⟩ (q_X10_swapped l g cI cJ cB cZ cL p1 H.size ) (va_cwS 1 hts (goodIn_app (g_3 (List.mem_cons_of_mem _ (List.mem_append_left _ (List.mem_of_getElem? (i := 7) rfl))) (List.mem_cons_of_mem _ (List.mem_append_left _ (List.mem_of_getElem? (i := 8) rfl))) (List.mem_cons_of_mem _ (List.mem_append_left _ (List.mem_of_getElem? (i := 9) rfl))) (by decide +kernel)) (goodIn_sub (fun _ h => List.mem_cons_of_mem _ (List.mem_append_right _ (List.mem_append_right _ (List.mem_append_left _ h)))) good_v_X10_swapped)) rfl rfl rfl (by decide +kernel) ⟨Nat.le_of_ble_eq_true rfl, Nat.le_of_ble_eq_true rfl⟩) (ps_RO (wc := []) hK hP [] rfl) rfl rfl hl.1 rfl (lv_room (Nat.le_of_ble_eq_true rfl)) dX1_note_59 ⟨Nat.le_of_ble_eq_true rfl, Nat.le_of_ble_eq_true rfl⟩) hS hA hP (fun r59 u59 H locs hw59 hP hS => ?_)
      have hw59_0 := hw59
      refine ro_i (va_runS (As := [.int p0, .int r59]) (rest := [.ref ch_then]) ⟨hx, hb, hml, hown, hts⟩ (q_X10_after l g cI cJ cB cZ cL p0 r59 H.size ) (va_cwS 2 hts (goodIn_app (g_3 (List.mem_cons_of_mem _ (List.mem_append_left _ (List.mem_of_getElem? (i := 10) rfl))) (List.mem_cons_of_mem _ (List.mem_append_left _ (List.mem_of_getElem? (i := 11) rfl))) (List.mem_cons_of_mem _ (List.mem_append_left _ (List.mem_of_getElem? (i := 9) rfl))) (by decide +kernel)) (goodIn_sub (fun _ h => List.mem_cons_of_mem _ (List.mem_append_right _ (List.mem_append_right _ (List.mem_append_right _ (List.mem_append_left _ h))))) good_v_X10_after)) rfl rfl rfl (by decide +kernel) ⟨Nat.le_of_ble_eq_true rfl, Nat.le_of_ble_eq_true rfl⟩) (ps_RO (wc := []) hK hP [] rfl) rfl rfl hl.1 rfl (lv_room (Nat.le_of_ble_eq_true rfl)) dX1_note_62 ⟨Nat.le_of_ble_eq_true rfl, Nat.le_of_ble_eq_true rfl⟩) hS hA hP (fun r62 u62 H locs hw62 hP hS => ?_)
      have hw62_0 := hw62
      refine lv_dup2_11 hx hb dX1_note_65 rfl rfl ?_
      refine va_lald (D := g) hx hb hK hP 1 1 rfl rfl (vi_rg rfl hw62_0 (by decide) (by decide)) dX1_note_66 ?_
      refine lv_topl (fun y66 e66 => ?_)
      refine lv_lload_n hx hb dX1_note_67 rfl (lv_at hl 3 rfl) ?_
      refine lv_ladd hx hb dX1_note_68 ?_
      refine lv_topl (fun y68 e68 => ?_)
      refine va_last (D := g) hx hb hK hP hD hS 1 1 rfl rfl (vi_rg rfl hw62_0 (by decide) (by decide)) dX1_note_69 (fun H locs hP hD hS => ?_)
      obtain ⟨g69, e69⟩ : ∃ z, z = vp_updL ch_then_c r62.toNatClampNeg y68 := ⟨_, rfl⟩
      have hP : va_P g vwCl [(ch, .inr (1, [.long y14, .long y33, .long y49, .long ch_below, .int ch_rule0, .int ch_rule1, .ref ch_forgets, .ref ch_now, .ref ch_then])), (ch_then, .inl (cJ, 16, .inr (.inl (vp_updL ch_then_c r62.toNatClampNeg y68))))] H := hP
      have hD : va_D A [(ch, .inr (1, [.long y14, .long y33, .long y49, .long ch_below, .int ch_rule0, .int ch_rule1, .ref ch_forgets, .ref ch_now, .ref ch_then])), (ch_then, .inl (cJ, 16, .inr (.inl (vp_updL ch_then_c r62.toNatClampNeg y68))))] := hD
      rw [← e69] at hP hD
      subst hQ
      have hP9 := hP.sub (ws' := [(ch, .inr (1, [.long y14, .long y33, .long y49, .long ch_below, .int ch_rule0, .int ch_rule1, .ref ch_forgets, .ref ch_now, .ref ch_then])), (ch_then, .inl (cJ, 16, .inr (.inl g69)))]) [0, 1] rfl
      have hD9 := hD.sub (ws' := [(ch, .inr (1, [.long y14, .long y33, .long y49, .long ch_below, .int ch_rule0, .int ch_rule1, .ref ch_forgets, .ref ch_now, .ref ch_then])), (ch_then, .inl (cJ, 16, .inr (.inl g69)))]) [0, 1] (by decide) rfl
      exact W.vret hx hb hr (fun t ht hW => ⟨⟨(y14, y33, y49, g69), rfl, trivial, ⟨by rw [ht]; exact hP9, va_K.moved hW.alike hK, hD9⟩⟩, hS.F ht⟩) hS.2.2 dX1_note_70
    refine lv_icmp_ne (tgt := 32) hx hb dX1_note_25 (by decide) (fun c25 => ?_) (fun c25 => ?_)
    · have f25 := (show p1.toInt ≠ 3 from z_ne rfl rfl c25)
      refine lv_lconst (v := 0) hx hb dX1_note_32 (by decide) ?_
      exact J33 0 _ _ _  (hP.sub [0, 1] rfl) (hD.sub [0, 1] (by decide) rfl) hS (lv_sub hl [0, 1, 2, 3] rfl)
    have f25 := (show p1.toInt = 3 from z_eq rfl rfl c25)
    have r25a : ir p1.toInt 3 3 := ir_eqa f25 (rg_all p1) (ir_c 3) (by decide) (by decide)
    refine lv_lload_n hx hb dX1_note_28 rfl (lv_at hl 3 rfl) ?_
    refine lv_goto (tgt := 33) hx hb dX1_note_29 (by decide) ?_
    exact J33 p2 _ _ _  (hP.sub [0, 1] rfl) (hD.sub [0, 1] (by decide) rfl) hS (lv_sub hl [0, 1, 2, 3] rfl)
  refine lv_if_ne (tgt := 13) hx hb dX1_note_6 (by decide) (fun c6 => ?_) (fun c6 => ?_)
  · have f6 := (show p1.toInt ≠ 0 from z_ne rfl rfl c6)
    refine lv_lload_n hx hb dX1_note_13 rfl (lv_at hl 3 rfl) ?_
    exact J14 p2 _ _ _  (hP.sub [0, 1] rfl) (hD.sub [0, 1] (by decide) rfl) hS (lv_sub hl [0, 1, 2, 3] rfl)
  have f6 := (show p1.toInt = 0 from z_eq rfl rfl c6)
  have r6a : ir p1.toInt 0 0 := ir_eqa f6 (rg_all p1) (ir_c 0) (by decide) (by decide)
  refine lv_lconst (v := 0) hx hb dX1_note_9 (by decide) ?_
  refine lv_goto (tgt := 14) hx hb dX1_note_10 (by decide) ?_
  exact J14 0 _ _ _  (hP.sub [0, 1] rfl) (hD.sub [0, 1] (by decide) rfl) hS (lv_sub hl [0, 1, 2, 3] rfl)
def v_X1_hundredths : List Cond := .code yX1_hundredths cX1_hundredths 5 (some .int) :: (([.fieldLink RX1 9 "CardsAtYule$Chances" "forgets" "[I"] : List Cond) ++ (wsX10 ++ ([] : List Cond)))
theorem good_v_X1_hundredths : v_X1_hundredths.all goodWord = true := ga_c (by decide +kernel) (ga_a (by decide +kernel) (ga_a good_wsX10 rfl))
set_option maxHeartbeats 4000000 in
set_option maxRecDepth 100000 in
theorem q_X1_hundredths (l : Launch) (g : va_G) (cI cJ cB cZ cL : ClassId) (p0 : Int32) (p1 : Int32) (p2 : Int32) (ch : Nat) (ch_any : Int64) (ch_bothSend : Int64) (ch_cardsSent : Int64) (ch_below : Int64) (ch_rule0 : Int32) (ch_rule1 : Int32) (ch_forgets : Nat) (ch_now : Nat) (ch_then : Nat) (ch_forgets_c : Nat → Int32) (sz : Nat) (hv_p2 : ir p2.toInt 0 1) : Met l yX1_hundredths v_X1_hundredths ({ frames := 0, cells := 0, slots := 0, locals := 0 }) (va_Pc [.ref ch, .int p0, .int p1, .int p2] (pRO g (tyT cI cJ cB cZ cL) [(ch, .inr (1, [.long ch_any, .long ch_bothSend, .long ch_cardsSent, .long ch_below, .int ch_rule0, .int ch_rule1, .ref ch_forgets, .ref ch_now, .ref ch_then])), (ch_forgets, .inl (cI, 2, .inl ch_forgets_c))] sz)) (va_Qi (fun (r : Int32) (u : Unit) => True) (fun (_ : Unit) (_ : State) => True) (va_A [] sz)) 0 0 (va_A [] sz) := by
  refine Met.ofW (cc := cX1_hundredths) (maxL := 5) (ret := (some .int)) (by decide) rfl ?_
  intro p e s m args below meth c s₁ B hml hv
  obtain ⟨rfl, hsz, hP, hK⟩ := hv
  have hx := B.exec
  have hb := B.bytes
  have hr := B.returns
  have hts := atoms_spec (ws := v_X1_hundredths) B.pre
  have hown : s.vm.findClass RX1 = some m.cls := findClass_of_methodNamed B.named
  have hlocks := B.notSynchronized
  clear B
  subst hsz
  have iX1 : ∀ w ∈ wsX10, w ∈ v_X1_hundredths := (fun _ h => List.mem_cons_of_mem _ (List.mem_append_right _ (List.mem_append_left _ h)))
  generalize hAe : (va_A [] s.heap.size) = A
  have hA : ∀ q : Nat, s.heap.size ≤ q → A q := fun q h => by rw [← hAe]; exact Or.inr h
  have hS : va_S A s.heap s.heap [] := va_S.rf
  have hl := lv_entry ([.ref ch, .int p0, .int p1, .int p2]) (n := 5) (Nat.le_of_ble_eq_true rfl)
  rw [lg_entry_eq]
  generalize (lg_sl ([.ref ch, .int p0, .int p1, .int p2]) ++ List.replicate (5 - (lg_sl ([.ref ch, .int p0, .int p1, .int p2])).length) Slot.unset).toArray = ls at hl ⊢
  generalize ([.ref ch, .int p0, .int p1, .int p2] : List Value).toArray = av at hts ⊢
  generalize hQ : MQ below _ av s _ _ A = QQ
  have hl : lv_has ls 5 [(0, .ref ch), (1, .int p0), (2, .int p1), (3, .int p2)] := hl
  have hP : va_P g vwCl [(ch, .inr (1, [.long ch_any, .long ch_bothSend, .long ch_cardsSent, .long ch_below, .int ch_rule0, .int ch_rule1, .ref ch_forgets, .ref ch_now, .ref ch_then])), (ch_forgets, .inl (cI, 2, .inl ch_forgets_c))] s.heap := hP
  refine lv_iload_n hx hb dX1_hundredths_0 rfl (lv_at hl 1 rfl) ?_
  refine lv_iload_n hx hb dX1_hundredths_1 rfl (lv_at hl 3 rfl) ?_
  refine lv_ishr hx hb dX1_hundredths_2 ?_
  refine lv_topi (fun y2 e2 => ?_)
  refine lv_iconst (v := 1) hx hb dX1_hundredths_3 (by decide) ?_
  refine lv_iand hx hb dX1_hundredths_4 ?_
  refine lv_topi (fun y4 e4 => ?_)
  have r4 : ir y4.toInt 0 1 := by rw [e4]; exact an_y rfl (ir_c 1) (by decide)
  refine lv_iconst (v := 1) hx hb dX1_hundredths_5 (by decide) ?_
  have J22 : ∀ (j22_s0 : Int32) (H : Heap) (locs : List Loc) (ls : Array Slot), va_P g vwCl [(ch, .inr (1, [.long ch_any, .long ch_bothSend, .long ch_cardsSent, .long ch_below, .int ch_rule0, .int ch_rule1, .ref ch_forgets, .ref ch_now, .ref ch_then])), (ch_forgets, .inl (cI, 2, .inl ch_forgets_c))] H → va_S A s.heap H locs → lv_has ls 5 [(2, .int p1), (3, .int p2)] → W p l e (headSpec v_X1_hundredths ({ frames := 0, cells := 0, slots := 0, locals := 0 })).room s m av below meth c H locs 0 0 QQ (F0 m 22 ls [.int j22_s0]) := by
    intro j22_s0 H locs ls  hP hS hl
    refine lv_istore (lv' := [(4, .int j22_s0), (2, .int p1), (3, .int p2)]) hx hb dX1_hundredths_22 hl (by decide) rfl (fun ls hl => ?_)
    refine lv_iload_n hx hb dX1_hundredths_24 rfl (lv_at hl 1 rfl) ?_
    refine lv_iload_n hx hb dX1_hundredths_25 rfl (lv_at hl 2 rfl) ?_
    refine lv_ishr hx hb dX1_hundredths_26 ?_
    refine lv_topi (fun y26 e26 => ?_)
    refine lv_iconst (v := 1) hx hb dX1_hundredths_27 (by decide) ?_
    refine lv_iand hx hb dX1_hundredths_28 ?_
    refine lv_topi (fun y28 e28 => ?_)
    have r28 : ir y28.toInt 0 1 := by rw [e28]; exact an_y rfl (ir_c 1) (by decide)
    refine lv_iconst (v := 1) hx hb dX1_hundredths_29 (by decide) ?_
    refine lv_icmp_ne (tgt := 38) hx hb dX1_hundredths_30 (by decide) (fun c30 => ?_) (fun c30 => ?_)
    rotate_left 1
    · have f30 := (show y28.toInt = 1 from z_eq rfl rfl c30)
      have r30a : ir y28.toInt 1 1 := ir_eqa f30 r28 (ir_c 1) (by decide) (by decide)
      refine lv_iload hx hb dX1_hundredths_33 (lv_at hl 0 rfl) ?_
      refine lv_goto (tgt := 43) hx hb dX1_hundredths_35 (by decide) ?_
      subst hQ
      exact W.iret (v := j22_s0) hx hb hr (fun t ht hW => ⟨⟨j22_s0, (), rfl, trivial, trivial⟩, hS.F ht⟩) hS.2.2 dX1_hundredths_43
    have f30 := (show y28.toInt ≠ 1 from z_ne rfl rfl c30)
    have r30a : ir y28.toInt 0 0 := ir_neh f30 r28 (by decide) (by decide)
    refine lv_bipush (v := 100) hx hb dX1_hundredths_38 (by decide) ?_
    refine lv_iload hx hb dX1_hundredths_40 (lv_at hl 0 rfl) ?_
    refine lv_isub hx hb dX1_hundredths_42 ?_
    refine lv_topi (fun y42 e42 => ?_)
    subst hQ
    exact W.iret (v := y42) hx hb hr (fun t ht hW => ⟨⟨y42, (), rfl, trivial, trivial⟩, hS.F ht⟩) hS.2.2 dX1_hundredths_43
  refine lv_icmp_ne (tgt := 21) hx hb dX1_hundredths_6 (by decide) (fun c6 => ?_) (fun c6 => ?_)
  · have f6 := (show y4.toInt ≠ 1 from z_ne rfl rfl c6)
    have r6a : ir y4.toInt 0 0 := ir_neh f6 r4 (by decide) (by decide)
    refine lv_iconst (v := 0) hx hb dX1_hundredths_21 (by decide) ?_
    exact J22 0 _ _ _  (hP.sub [0, 1] rfl) hS (lv_sub hl [2, 3] rfl)
  have f6 := (show y4.toInt = 1 from z_eq rfl rfl c6)
  have r6a : ir y4.toInt 1 1 := ir_eqa f6 r4 (ir_c 1) (by decide) (by decide)
  refine lv_bipush (v := 100) hx hb dX1_hundredths_9 (by decide) ?_
  refine lv_aload_n hx hb dX1_hundredths_11 rfl (lv_at hl 0 rfl) ?_
  refine va_get (D := g) (ci := 1) (v := .ref ch_forgets) (C := RX1) (T := TX1) (N := 9) hx hb hts iX1 hown hK hP 0 rfl rfl 6 (by decide) (hts (.fieldLink RX1 9 "CardsAtYule$Chances" "forgets" "[I") (List.mem_cons_of_mem _ (List.mem_append_left _ (List.mem_of_getElem? (i := 0) rfl)))) (fun _ h9 => h9) rfl dX1_hundredths_12 ?_
  refine lv_iload_n hx hb dX1_hundredths_15 rfl (lv_at hl 3 rfl) ?_
  refine va_iald (D := g) hx hb hK hP 1 0 rfl rfl (vi_rg rfl hv_p2 (by decide) (by decide)) dX1_hundredths_16 ?_
  refine lv_topi (fun y16 e16 => ?_)
  refine lv_isub hx hb dX1_hundredths_17 ?_
  refine lv_topi (fun y17 e17 => ?_)
  refine lv_goto (tgt := 22) hx hb dX1_hundredths_18 (by decide) ?_
  exact J22 y17 _ _ _  (hP.sub [0, 1] rfl) hS (lv_sub hl [2, 3] rfl)
def v_X1_goOnFrom : List Cond := .code yX1_goOnFrom cX1_goOnFrom 8 none :: (([.fieldLink RX1 28 "CardsAtYule$Chances" "rule0" "I", .fieldLink RX1 32 "CardsAtYule$Chances" "rule1" "I", .methodLink RX1 70 yX10_firsts, .static yX10_firsts, .initialized RX10, .fieldLink RX1 15 "CardsAtYule$Chances" "now" "[J", .methodLink RX1 76 yX1_hundredths, .instanceMethod yX1_hundredths, .selects RX1 yX1_hundredths yX1_hundredths, .initialized RX1, .methodLink RX1 79 yX10_returning, .static yX10_returning, .methodLink RX1 82 yX10_backs, .static yX10_backs, .fieldLink RX1 9 "CardsAtYule$Chances" "forgets" "[I", .methodLink RX1 87 yX1_note, .instanceMethod yX1_note, .selects RX1 yX1_note yX1_note, .constantLong RX1 85 (100)] : List Cond) ++ (v_X10_firsts ++ (v_X1_hundredths ++ (v_X10_returning ++ (v_X10_backs ++ (v_X1_note ++ (wsX10 ++ ([] : List Cond))))))))
theorem good_v_X1_goOnFrom : v_X1_goOnFrom.all goodWord = true := ga_c (by decide +kernel) (ga_a (by decide +kernel) (ga_a good_v_X10_firsts (ga_a good_v_X1_hundredths (ga_a good_v_X10_returning (ga_a good_v_X10_backs (ga_a good_v_X1_note (ga_a good_wsX10 rfl)))))))
set_option maxHeartbeats 4000000 in
set_option maxRecDepth 100000 in
theorem q_X1_goOnFrom (l : Launch) (g : va_G) (cI cJ cB cZ cL : ClassId) (p0 : Int32) (ch : Nat) (ch_any : Int64) (ch_bothSend : Int64) (ch_cardsSent : Int64) (ch_below : Int64) (ch_rule0 : Int32) (ch_rule1 : Int32) (ch_forgets : Nat) (ch_now : Nat) (ch_then : Nat) (ch_now_c : Nat → Int64) (ch_forgets_c : Nat → Int32) (ch_then_c : Nat → Int64) (sz : Nat) (hv_p0 : ir p0.toInt 0 15) : Met l yX1_goOnFrom v_X1_goOnFrom ({ frames := 2, cells := 0, slots := 0, locals := 45 }) (va_Pc [.ref ch, .int p0] (pRW g (tyT cI cJ cB cZ cL) [(ch, .inr (1, [.long ch_any, .long ch_bothSend, .long ch_cardsSent, .long ch_below, .int ch_rule0, .int ch_rule1, .ref ch_forgets, .ref ch_now, .ref ch_then])), (ch_now, .inl (cJ, 16, .inr (.inl ch_now_c))), (ch_forgets, .inl (cI, 2, .inl ch_forgets_c)), (ch_then, .inl (cJ, 16, .inr (.inl ch_then_c)))] sz)) (va_Qv (fun (u : Int64 × Int64 × Int64 × (Nat → Int64)) => match u with | (n_ch_any, n_ch_bothSend, n_ch_cardsSent, n_ch_then_c) => True) (fun (u : Int64 × Int64 × Int64 × (Nat → Int64)) (t : State) => bRW g (tyT cI cJ cB cZ cL) (va_A [(ch, .inr (1, [.long ch_any, .long ch_bothSend, .long ch_cardsSent, .long ch_below, .int ch_rule0, .int ch_rule1, .ref ch_forgets, .ref ch_now, .ref ch_then])), (ch_now, .inl (cJ, 16, .inr (.inl ch_now_c))), (ch_forgets, .inl (cI, 2, .inl ch_forgets_c)), (ch_then, .inl (cJ, 16, .inr (.inl ch_then_c)))] sz) (match u with | (n_ch_any, n_ch_bothSend, n_ch_cardsSent, n_ch_then_c) => [(ch, .inr (1, [.long n_ch_any, .long n_ch_bothSend, .long n_ch_cardsSent, .long ch_below, .int ch_rule0, .int ch_rule1, .ref ch_forgets, .ref ch_now, .ref ch_then])), (ch_now, .inl (cJ, 16, .inr (.inl ch_now_c))), (ch_forgets, .inl (cI, 2, .inl ch_forgets_c)), (ch_then, .inl (cJ, 16, .inr (.inl n_ch_then_c)))]) t) (va_A [(ch, .inr (1, [.long ch_any, .long ch_bothSend, .long ch_cardsSent, .long ch_below, .int ch_rule0, .int ch_rule1, .ref ch_forgets, .ref ch_now, .ref ch_then])), (ch_now, .inl (cJ, 16, .inr (.inl ch_now_c))), (ch_forgets, .inl (cI, 2, .inl ch_forgets_c)), (ch_then, .inl (cJ, 16, .inr (.inl ch_then_c)))] sz)) 0 0 (va_A [(ch, .inr (1, [.long ch_any, .long ch_bothSend, .long ch_cardsSent, .long ch_below, .int ch_rule0, .int ch_rule1, .ref ch_forgets, .ref ch_now, .ref ch_then])), (ch_now, .inl (cJ, 16, .inr (.inl ch_now_c))), (ch_forgets, .inl (cI, 2, .inl ch_forgets_c)), (ch_then, .inl (cJ, 16, .inr (.inl ch_then_c)))] sz) := by
  refine Met.ofW (cc := cX1_goOnFrom) (maxL := 8) (ret := none) (by decide) rfl ?_
  intro p e s m args below meth c s₁ B hml hv
  obtain ⟨rfl, hsz, hP, hK, hD0⟩ := hv
  have hx := B.exec
  have hb := B.bytes
  have hr := B.returns
  have hts := atoms_spec (ws := v_X1_goOnFrom) B.pre
  have hown : s.vm.findClass RX1 = some m.cls := findClass_of_methodNamed B.named
  have hlocks := B.notSynchronized
  clear B
  subst hsz
  have iX1 : ∀ w ∈ wsX10, w ∈ v_X1_goOnFrom := (fun _ h => List.mem_cons_of_mem _ (List.mem_append_right _ (List.mem_append_right _ (List.mem_append_right _ (List.mem_append_right _ (List.mem_append_right _ (List.mem_append_right _ (List.mem_append_left _ h))))))))
  have hD := hD0.self (sz := s.heap.size)
  generalize hAe : (va_A [(ch, .inr (1, [.long ch_any, .long ch_bothSend, .long ch_cardsSent, .long ch_below, .int ch_rule0, .int ch_rule1, .ref ch_forgets, .ref ch_now, .ref ch_then])), (ch_now, .inl (cJ, 16, .inr (.inl ch_now_c))), (ch_forgets, .inl (cI, 2, .inl ch_forgets_c)), (ch_then, .inl (cJ, 16, .inr (.inl ch_then_c)))] s.heap.size) = A at hD ⊢
  have hA : ∀ q : Nat, s.heap.size ≤ q → A q := fun q h => by rw [← hAe]; exact Or.inr h
  have hS : va_S A s.heap s.heap [] := va_S.rf
  have hl := lv_entry ([.ref ch, .int p0]) (n := 8) (Nat.le_of_ble_eq_true rfl)
  rw [lg_entry_eq]
  generalize (lg_sl ([.ref ch, .int p0]) ++ List.replicate (8 - (lg_sl ([.ref ch, .int p0])).length) Slot.unset).toArray = ls at hl ⊢
  generalize ([.ref ch, .int p0] : List Value).toArray = av at hts ⊢
  generalize hQ : MQ below _ av s _ _ A = QQ
  have hl : lv_has ls 8 [(0, .ref ch), (1, .int p0)] := hl
  have hP : va_P g vwCl [(ch, .inr (1, [.long ch_any, .long ch_bothSend, .long ch_cardsSent, .long ch_below, .int ch_rule0, .int ch_rule1, .ref ch_forgets, .ref ch_now, .ref ch_then])), (ch_now, .inl (cJ, 16, .inr (.inl ch_now_c))), (ch_forgets, .inl (cI, 2, .inl ch_forgets_c)), (ch_then, .inl (cJ, 16, .inr (.inl ch_then_c)))] s.heap := hP
  refine lv_aload_n hx hb dX1_goOnFrom_0 rfl (lv_at hl 0 rfl) ?_
  refine va_get (D := g) (ci := 1) (v := .int ch_rule0) (C := RX1) (T := TX1) (N := 9) hx hb hts iX1 hown hK hP 0 rfl rfl 4 (by decide) (hts (.fieldLink RX1 28 "CardsAtYule$Chances" "rule0" "I") (List.mem_cons_of_mem _ (List.mem_append_left _ (List.mem_of_getElem? (i := 0) rfl)))) (fun _ h9 => h9) rfl dX1_goOnFrom_1 ?_
  refine lv_aload_n hx hb dX1_goOnFrom_4 rfl (lv_at hl 0 rfl) ?_
  refine va_get (D := g) (ci := 1) (v := .int ch_rule1) (C := RX1) (T := TX1) (N := 9) hx hb hts iX1 hown hK hP 0 rfl rfl 5 (by decide) (hts (.fieldLink RX1 32 "CardsAtYule$Chances" "rule1" "I") (List.mem_cons_of_mem _ (List.mem_append_left _ (List.mem_of_getElem? (i := 1) rfl)))) (fun _ h9 => h9) rfl dX1_goOnFrom_5 ?_
  refine lv_iload_n hx hb dX1_goOnFrom_8 rfl (lv_at hl 1 rfl) ?_
  refine ro_i (va_runS (As := [.int ch_rule0, .int ch_rule1, .int p0]) (rest := []) ⟨hx, hb, hml, hown, hts⟩ (q_X10_firsts l g cI cJ cB cZ cL ch_rule0 ch_rule1 p0 s.heap.size ) (va_cwS 3 hts (goodIn_app (g_3 (List.mem_cons_of_mem _ (List.mem_append_left _ (List.mem_of_getElem? (i := 2) rfl))) (List.mem_cons_of_mem _ (List.mem_append_left _ (List.mem_of_getElem? (i := 3) rfl))) (List.mem_cons_of_mem _ (List.mem_append_left _ (List.mem_of_getElem? (i := 4) rfl))) (by decide +kernel)) (goodIn_sub (fun _ h => List.mem_cons_of_mem _ (List.mem_append_right _ (List.mem_append_left _ h))) good_v_X10_firsts)) rfl rfl rfl (by decide +kernel) ⟨Nat.le_of_ble_eq_true rfl, Nat.le_of_ble_eq_true rfl⟩) (ps_RO (wc := []) hK hP [] rfl) rfl rfl hl.1 rfl (lv_room (Nat.le_of_ble_eq_true rfl)) dX1_goOnFrom_9 ⟨Nat.le_of_ble_eq_true rfl, Nat.le_of_ble_eq_true rfl⟩) hS hA hP (fun r9 u9 H locs hw9 hP hS => ?_)
  have hw9_0 := hw9
  refine lv_istore_n (lv' := [(2, .int r9), (0, .ref ch), (1, .int p0)]) hx hb dX1_goOnFrom_12 rfl hl (by decide) rfl (fun ls hl => ?_)
  refine lv_iconst (v := 0) hx hb dX1_goOnFrom_13 (by decide) ?_
  refine lv_istore_n (lv' := [(3, .int 0), (2, .int r9), (0, .ref ch), (1, .int p0)]) hx hb dX1_goOnFrom_14 rfl hl (by decide) rfl (fun ls hl => ?_)
  have J15 : ∀ (n15 : Nat) (j15_l3 : Int32) (j15_ch_any : Int64) (j15_ch_bothSend : Int64) (j15_ch_cardsSent : Int64) (j15_ch_then_c : Nat → Int64) (H : Heap) (locs : List Loc) (ls : Array Slot), (5 - j15_l3.toInt).toNat < n15 → (ir j15_l3.toInt 0 4) → va_P g vwCl [(ch, .inr (1, [.long j15_ch_any, .long j15_ch_bothSend, .long j15_ch_cardsSent, .long ch_below, .int ch_rule0, .int ch_rule1, .ref ch_forgets, .ref ch_now, .ref ch_then])), (ch_now, .inl (cJ, 16, .inr (.inl ch_now_c))), (ch_forgets, .inl (cI, 2, .inl ch_forgets_c)), (ch_then, .inl (cJ, 16, .inr (.inl j15_ch_then_c)))] H → va_D A [(ch, .inr (1, [.long j15_ch_any, .long j15_ch_bothSend, .long j15_ch_cardsSent, .long ch_below, .int ch_rule0, .int ch_rule1, .ref ch_forgets, .ref ch_now, .ref ch_then])), (ch_now, .inl (cJ, 16, .inr (.inl ch_now_c))), (ch_forgets, .inl (cI, 2, .inl ch_forgets_c)), (ch_then, .inl (cJ, 16, .inr (.inl j15_ch_then_c)))] → va_S A s.heap H locs → lv_has ls 8 [(0, .ref ch), (1, .int p0), (2, .int r9), (3, .int j15_l3)] → W p l e (headSpec v_X1_goOnFrom ({ frames := 2, cells := 0, slots := 0, locals := 45 })).room s m av below meth c H locs 0 0 QQ (F0 m 15 ls []) := by
    intro n15
    induction n15 with
    | zero => exact fun j15_l3 j15_ch_any j15_ch_bothSend j15_ch_cardsSent j15_ch_then_c H locs ls hn => absurd hn (Nat.not_lt_zero _)
    | succ n15 ih15 =>
      intro j15_l3 j15_ch_any j15_ch_bothSend j15_ch_cardsSent j15_ch_then_c H locs ls hn15 hj15_l3 hP hD hS hl
      refine lv_iload_n hx hb dX1_goOnFrom_15 rfl (lv_at hl 3 rfl) ?_
      refine lv_iconst (v := 3) hx hb dX1_goOnFrom_16 (by decide) ?_
      refine lv_icmp_gt (tgt := 131) hx hb dX1_goOnFrom_17 (by decide) (fun c17 => ?_) (fun c17 => ?_)
      · have f17 := (show 3 < j15_l3.toInt from z_lt rfl rfl c17)
        have r17a : ir j15_l3.toInt 4 4 := ir_ltb f17 (ir_c 3) hj15_l3 (by decide)
        subst hQ
        have hP9 := hP.sub (ws' := [(ch, .inr (1, [.long j15_ch_any, .long j15_ch_bothSend, .long j15_ch_cardsSent, .long ch_below, .int ch_rule0, .int ch_rule1, .ref ch_forgets, .ref ch_now, .ref ch_then])), (ch_now, .inl (cJ, 16, .inr (.inl ch_now_c))), (ch_forgets, .inl (cI, 2, .inl ch_forgets_c)), (ch_then, .inl (cJ, 16, .inr (.inl j15_ch_then_c)))]) [0, 1, 2, 3] rfl
        have hD9 := hD.sub (ws' := [(ch, .inr (1, [.long j15_ch_any, .long j15_ch_bothSend, .long j15_ch_cardsSent, .long ch_below, .int ch_rule0, .int ch_rule1, .ref ch_forgets, .ref ch_now, .ref ch_then])), (ch_now, .inl (cJ, 16, .inr (.inl ch_now_c))), (ch_forgets, .inl (cI, 2, .inl ch_forgets_c)), (ch_then, .inl (cJ, 16, .inr (.inl j15_ch_then_c)))]) [0, 1, 2, 3] (by decide) rfl
        exact W.vret hx hb hr (fun t ht hW => ⟨⟨(j15_ch_any, j15_ch_bothSend, j15_ch_cardsSent, j15_ch_then_c), rfl, trivial, ⟨by rw [ht]; exact hP9, va_K.moved hW.alike hK, hD9⟩⟩, hS.F ht⟩) hS.2.2 dX1_goOnFrom_131
      have f17 := (show j15_l3.toInt ≤ 3 from z_nlt rfl rfl c17)
      have r17a : ir j15_l3.toInt 0 3 := ir_lea f17 hj15_l3 (ir_c 3) (by decide)
      refine lv_aload_n hx hb dX1_goOnFrom_20 rfl (lv_at hl 0 rfl) ?_
      refine va_get (D := g) (ci := 1) (v := .ref ch_now) (C := RX1) (T := TX1) (N := 9) hx hb hts iX1 hown hK hP 0 rfl rfl 7 (by decide) (hts (.fieldLink RX1 15 "CardsAtYule$Chances" "now" "[J") (List.mem_cons_of_mem _ (List.mem_append_left _ (List.mem_of_getElem? (i := 5) rfl)))) (fun _ h9 => h9) rfl dX1_goOnFrom_21 ?_
      refine lv_iload_n hx hb dX1_goOnFrom_24 rfl (lv_at hl 1 rfl) ?_
      refine va_lald (D := g) hx hb hK hP 1 1 rfl rfl (vi_rg rfl hv_p0 (by decide) (by decide)) dX1_goOnFrom_25 ?_
      refine lv_topl (fun y25 e25 => ?_)
      refine lv_aload_n hx hb dX1_goOnFrom_26 rfl (lv_at hl 0 rfl) ?_
      refine lv_iload_n hx hb dX1_goOnFrom_27 rfl (lv_at hl 2 rfl) ?_
      refine lv_iload_n hx hb dX1_goOnFrom_28 rfl (lv_at hl 3 rfl) ?_
      refine lv_iconst (v := 0) hx hb dX1_goOnFrom_29 (by decide) ?_
      refine ro_i (va_runV (As := [.int r9, .int j15_l3, .int 0]) (rest := [.long y25]) ⟨hx, hb, hml, hown, hts⟩ (q_X1_hundredths l g cI cJ cB cZ cL r9 j15_l3 0 ch j15_ch_any j15_ch_bothSend j15_ch_cardsSent ch_below ch_rule0 ch_rule1 ch_forgets ch_now ch_then ch_forgets_c H.size (by decide)) (cwV 3 hts (goodIn_app (g_4 (List.mem_cons_of_mem _ (List.mem_append_left _ (List.mem_of_getElem? (i := 6) rfl))) (List.mem_cons_of_mem _ (List.mem_append_left _ (List.mem_of_getElem? (i := 7) rfl))) (List.mem_cons_of_mem _ (List.mem_append_left _ (List.mem_of_getElem? (i := 8) rfl))) (List.mem_cons_of_mem _ (List.mem_append_left _ (List.mem_of_getElem? (i := 9) rfl))) (by decide +kernel)) (goodIn_sub (fun _ h => List.mem_cons_of_mem _ (List.mem_append_right _ (List.mem_append_right _ (List.mem_append_left _ h)))) good_v_X1_hundredths)) rfl rfl rfl (by decide +kernel) ⟨Nat.le_of_ble_eq_true rfl, Nat.le_of_ble_eq_true rfl⟩) (pv_RO (q := (RX1, TX1, 9)) (ci := 1) (q0 := 0) (wc := [(ch, .inr (1, [.long j15_ch_any, .long j15_ch_bothSend, .long j15_ch_cardsSent, .long ch_below, .int ch_rule0, .int ch_rule1, .ref ch_forgets, .ref ch_now, .ref ch_then])), (ch_forgets, .inl (cI, 2, .inl ch_forgets_c))]) hK hP [0, 2] rfl rfl rfl) rfl rfl hl.1 rfl (lv_room (Nat.le_of_ble_eq_true rfl)) dX1_goOnFrom_30 ⟨Nat.le_of_ble_eq_true rfl, Nat.le_of_ble_eq_true rfl⟩) hS hA hP (fun r30 u30 H locs hw30 hP hS => ?_)
      refine lv_i2l (v := r30.toInt64) hx hb dX1_goOnFrom_33 rfl ?_
      refine lv_lmul hx hb dX1_goOnFrom_34 ?_
      refine lv_topl (fun y34 e34 => ?_)
      refine lv_aload_n hx hb dX1_goOnFrom_35 rfl (lv_at hl 0 rfl) ?_
      refine lv_iload_n hx hb dX1_goOnFrom_36 rfl (lv_at hl 2 rfl) ?_
      refine lv_iload_n hx hb dX1_goOnFrom_37 rfl (lv_at hl 3 rfl) ?_
      refine lv_iconst (v := 1) hx hb dX1_goOnFrom_38 (by decide) ?_
      refine ro_i (va_runV (As := [.int r9, .int j15_l3, .int 1]) (rest := [.long y34]) ⟨hx, hb, hml, hown, hts⟩ (q_X1_hundredths l g cI cJ cB cZ cL r9 j15_l3 1 ch j15_ch_any j15_ch_bothSend j15_ch_cardsSent ch_below ch_rule0 ch_rule1 ch_forgets ch_now ch_then ch_forgets_c H.size (by decide)) (cwV 3 hts (goodIn_app (g_4 (List.mem_cons_of_mem _ (List.mem_append_left _ (List.mem_of_getElem? (i := 6) rfl))) (List.mem_cons_of_mem _ (List.mem_append_left _ (List.mem_of_getElem? (i := 7) rfl))) (List.mem_cons_of_mem _ (List.mem_append_left _ (List.mem_of_getElem? (i := 8) rfl))) (List.mem_cons_of_mem _ (List.mem_append_left _ (List.mem_of_getElem? (i := 9) rfl))) (by decide +kernel)) (goodIn_sub (fun _ h => List.mem_cons_of_mem _ (List.mem_append_right _ (List.mem_append_right _ (List.mem_append_left _ h)))) good_v_X1_hundredths)) rfl rfl rfl (by decide +kernel) ⟨Nat.le_of_ble_eq_true rfl, Nat.le_of_ble_eq_true rfl⟩) (pv_RO (q := (RX1, TX1, 9)) (ci := 1) (q0 := 0) (wc := [(ch, .inr (1, [.long j15_ch_any, .long j15_ch_bothSend, .long j15_ch_cardsSent, .long ch_below, .int ch_rule0, .int ch_rule1, .ref ch_forgets, .ref ch_now, .ref ch_then])), (ch_forgets, .inl (cI, 2, .inl ch_forgets_c))]) hK hP [0, 2] rfl rfl rfl) rfl rfl hl.1 rfl (lv_room (Nat.le_of_ble_eq_true rfl)) dX1_goOnFrom_39 ⟨Nat.le_of_ble_eq_true rfl, Nat.le_of_ble_eq_true rfl⟩) hS hA hP (fun r39 u39 H locs hw39 hP hS => ?_)
      refine lv_i2l (v := r39.toInt64) hx hb dX1_goOnFrom_42 rfl ?_
      refine lv_lmul hx hb dX1_goOnFrom_43 ?_
      refine lv_topl (fun y43 e43 => ?_)
      refine lv_lstore (lv' := [(4, .long y43), (0, .ref ch), (1, .int p0), (2, .int r9), (3, .int j15_l3)]) hx hb dX1_goOnFrom_44 hl (by decide) rfl (fun ls hl => ?_)
      refine lv_iload_n hx hb dX1_goOnFrom_46 rfl (lv_at hl 4 rfl) ?_
      refine lv_aload_n hx hb dX1_goOnFrom_47 rfl (lv_at hl 1 rfl) ?_
      refine va_get (D := g) (ci := 1) (v := .int ch_rule0) (C := RX1) (T := TX1) (N := 9) hx hb hts iX1 hown hK hP 0 rfl rfl 4 (by decide) (hts (.fieldLink RX1 28 "CardsAtYule$Chances" "rule0" "I") (List.mem_cons_of_mem _ (List.mem_append_left _ (List.mem_of_getElem? (i := 0) rfl)))) (fun _ h9 => h9) rfl dX1_goOnFrom_48 ?_
      refine lv_aload_n hx hb dX1_goOnFrom_51 rfl (lv_at hl 1 rfl) ?_
      refine va_get (D := g) (ci := 1) (v := .int ch_rule1) (C := RX1) (T := TX1) (N := 9) hx hb hts iX1 hown hK hP 0 rfl rfl 5 (by decide) (hts (.fieldLink RX1 32 "CardsAtYule$Chances" "rule1" "I") (List.mem_cons_of_mem _ (List.mem_append_left _ (List.mem_of_getElem? (i := 1) rfl)))) (fun _ h9 => h9) rfl dX1_goOnFrom_52 ?_
      refine ro_i (va_runS (As := [.int ch_rule0, .int ch_rule1]) (rest := [.int j15_l3]) ⟨hx, hb, hml, hown, hts⟩ (q_X10_returning l g cI cJ cB cZ cL ch_rule0 ch_rule1 H.size ) (va_cwS 2 hts (goodIn_app (g_3 (List.mem_cons_of_mem _ (List.mem_append_left _ (List.mem_of_getElem? (i := 10) rfl))) (List.mem_cons_of_mem _ (List.mem_append_left _ (List.mem_of_getElem? (i := 11) rfl))) (List.mem_cons_of_mem _ (List.mem_append_left _ (List.mem_of_getElem? (i := 4) rfl))) (by decide +kernel)) (goodIn_sub (fun _ h => List.mem_cons_of_mem _ (List.mem_append_right _ (List.mem_append_right _ (List.mem_append_right _ (List.mem_append_left _ h))))) good_v_X10_returning)) rfl rfl rfl (by decide +kernel) ⟨Nat.le_of_ble_eq_true rfl, Nat.le_of_ble_eq_true rfl⟩) (ps_RO (wc := []) hK hP [] rfl) rfl rfl hl.1 rfl (lv_room (Nat.le_of_ble_eq_true rfl)) dX1_goOnFrom_55 ⟨Nat.le_of_ble_eq_true rfl, Nat.le_of_ble_eq_true rfl⟩) hS hA hP (fun r55 u55 H locs hw55 hP hS => ?_)
      have hw55_0 := hw55
      refine lv_iconst (v := 3) hx hb dX1_goOnFrom_58 (by decide) ?_
      refine ro_i (va_runS (As := [.int j15_l3, .int r55, .int 3]) (rest := []) ⟨hx, hb, hml, hown, hts⟩ (q_X10_backs l g cI cJ cB cZ cL j15_l3 r55 3 H.size hw55_0) (va_cwS 3 hts (goodIn_app (g_3 (List.mem_cons_of_mem _ (List.mem_append_left _ (List.mem_of_getElem? (i := 12) rfl))) (List.mem_cons_of_mem _ (List.mem_append_left _ (List.mem_of_getElem? (i := 13) rfl))) (List.mem_cons_of_mem _ (List.mem_append_left _ (List.mem_of_getElem? (i := 4) rfl))) (by decide +kernel)) (goodIn_sub (fun _ h => List.mem_cons_of_mem _ (List.mem_append_right _ (List.mem_append_right _ (List.mem_append_right _ (List.mem_append_right _ (List.mem_append_left _ h)))))) good_v_X10_backs)) rfl rfl rfl (by decide +kernel) ⟨Nat.le_of_ble_eq_true rfl, Nat.le_of_ble_eq_true rfl⟩) (ps_RO (wc := []) hK hP [] rfl) rfl rfl hl.1 rfl (lv_room (Nat.le_of_ble_eq_true rfl)) dX1_goOnFrom_59 ⟨Nat.le_of_ble_eq_true rfl, Nat.le_of_ble_eq_true rfl⟩) hS hA hP (fun r59 u59 H locs hw59 hP hS => ?_)
      have hw59_0 := hw59
      refine lv_istore (lv' := [(6, .int r59), (4, .long y43), (0, .ref ch), (1, .int p0), (2, .int r9), (3, .int j15_l3)]) hx hb dX1_goOnFrom_62 hl (by decide) rfl (fun ls hl => ?_)
      refine lv_iload hx hb dX1_goOnFrom_64 (lv_at hl 0 rfl) ?_
      have J125 : ∀ (j125_ch_any : Int64) (j125_ch_bothSend : Int64) (j125_ch_cardsSent : Int64) (j125_ch_then_c : Nat → Int64) (H : Heap) (locs : List Loc) (ls : Array Slot), va_P g vwCl [(ch, .inr (1, [.long j125_ch_any, .long j125_ch_bothSend, .long j125_ch_cardsSent, .long ch_below, .int ch_rule0, .int ch_rule1, .ref ch_forgets, .ref ch_now, .ref ch_then])), (ch_now, .inl (cJ, 16, .inr (.inl ch_now_c))), (ch_forgets, .inl (cI, 2, .inl ch_forgets_c)), (ch_then, .inl (cJ, 16, .inr (.inl j125_ch_then_c)))] H → va_D A [(ch, .inr (1, [.long j125_ch_any, .long j125_ch_bothSend, .long j125_ch_cardsSent, .long ch_below, .int ch_rule0, .int ch_rule1, .ref ch_forgets, .ref ch_now, .ref ch_then])), (ch_now, .inl (cJ, 16, .inr (.inl ch_now_c))), (ch_forgets, .inl (cI, 2, .inl ch_forgets_c)), (ch_then, .inl (cJ, 16, .inr (.inl j125_ch_then_c)))] → va_S A s.heap H locs → lv_has ls 8 [(0, .ref ch), (1, .int p0), (2, .int r9), (3, .int j15_l3)] → W p l e (headSpec v_X1_goOnFrom ({ frames := 2, cells := 0, slots := 0, locals := 45 })).room s m av below meth c H locs 0 0 QQ (F0 m 125 ls []) := by
        intro j125_ch_any j125_ch_bothSend j125_ch_cardsSent j125_ch_then_c H locs ls  hP hD hS hl
        obtain ⟨y125, e125⟩ : ∃ y : Int32, y = j15_l3 + 1 := ⟨_, rfl⟩
        have q125 : y125.toInt = j15_l3.toInt + 1 := by rw [e125]; exact ad_z rfl rfl r17a (ir_c 1) (by decide) (by decide)
        have r125 : ir y125.toInt 1 4 := ad_r q125 r17a (ir_c 1) (by decide) (by decide)
        refine lv_iinc (v := y125) (lv' := [(3, .int y125), (0, .ref ch), (1, .int p0), (2, .int r9)]) hx hb dX1_goOnFrom_125 hl (k := 3) rfl e125.symm (by decide) rfl (fun ls hl => ?_)
        refine lv_goto (tgt := 15) hx hb dX1_goOnFrom_128 (by decide) ?_
        exact ih15 y125 j125_ch_any j125_ch_bothSend j125_ch_cardsSent j125_ch_then_c _ _ _ (by omega) (ir_w r125 (by decide) (by decide)) (hP.sub [0, 1, 2, 3] rfl) (hD.sub [0, 1, 2, 3] (by decide) rfl) hS (lv_sub hl [1, 2, 3, 0] rfl)
      refine lv_if_ne (tgt := 84) hx hb dX1_goOnFrom_66 (by decide) (fun c66 => ?_) (fun c66 => ?_)
      rotate_left 1
      · have f66 := (show r59.toInt = 0 from z_eq rfl rfl c66)
        have r66a : ir r59.toInt 0 0 := ir_eqa f66 hw59_0 (ir_c 0) (by decide) (by decide)
        refine lv_aload_n hx hb dX1_goOnFrom_69 rfl (lv_at hl 2 rfl) ?_
        refine lv_iload_n hx hb dX1_goOnFrom_70 rfl (lv_at hl 3 rfl) ?_
        refine lv_iload_n hx hb dX1_goOnFrom_71 rfl (lv_at hl 5 rfl) ?_
        refine lv_lload hx hb dX1_goOnFrom_72 (lv_at hl 1 rfl) ?_
        refine lv_ldc2 (v := 100) hx hb hown (hts (.constantLong RX1 85 (100)) (List.mem_cons_of_mem _ (List.mem_append_left _ (List.mem_of_getElem? (i := 18) rfl)))) dX1_goOnFrom_74 ?_
        refine lv_lmul hx hb dX1_goOnFrom_77 ?_
        refine lv_topl (fun y77 e77 => ?_)
        refine rw_v (wr := [(ch_now, .inl (cJ, 16, .inr (.inl ch_now_c))), (ch_forgets, .inl (cI, 2, .inl ch_forgets_c))]) (va_runV (As := [.int p0, .int j15_l3, .long y77]) (rest := []) ⟨hx, hb, hml, hown, hts⟩ (q_X1_note l g cI cJ cB cZ cL p0 j15_l3 y77 ch j15_ch_any j15_ch_bothSend j15_ch_cardsSent ch_below ch_rule0 ch_rule1 ch_forgets ch_now ch_then j15_ch_then_c H.size ) (cwV 3 hts (goodIn_app (g_4 (List.mem_cons_of_mem _ (List.mem_append_left _ (List.mem_of_getElem? (i := 15) rfl))) (List.mem_cons_of_mem _ (List.mem_append_left _ (List.mem_of_getElem? (i := 16) rfl))) (List.mem_cons_of_mem _ (List.mem_append_left _ (List.mem_of_getElem? (i := 17) rfl))) (List.mem_cons_of_mem _ (List.mem_append_left _ (List.mem_of_getElem? (i := 9) rfl))) (by decide +kernel)) (goodIn_sub (fun _ h => List.mem_cons_of_mem _ (List.mem_append_right _ (List.mem_append_right _ (List.mem_append_right _ (List.mem_append_right _ (List.mem_append_right _ (List.mem_append_left _ h))))))) good_v_X1_note)) rfl rfl rfl (by decide +kernel) ⟨Nat.le_of_ble_eq_true rfl, Nat.le_of_ble_eq_true rfl⟩) (pv_RW (q := (RX1, TX1, 9)) (ci := 1) (q0 := 0) (wc := [(ch, .inr (1, [.long j15_ch_any, .long j15_ch_bothSend, .long j15_ch_cardsSent, .long ch_below, .int ch_rule0, .int ch_rule1, .ref ch_forgets, .ref ch_now, .ref ch_then])), (ch_then, .inl (cJ, 16, .inr (.inl j15_ch_then_c)))]) hK hP hD [0, 3] (by decide) rfl rfl rfl) rfl rfl hl.1 rfl (lv_room (Nat.le_of_ble_eq_true rfl)) dX1_goOnFrom_78 ⟨Nat.le_of_ble_eq_true rfl, Nat.le_of_ble_eq_true rfl⟩) hS hA hP hD [0, 3] [1, 2] rfl rfl (by decide) (by decide) (fun u78 H locs hw78 hP hD hS => ?_)
        obtain ⟨n_ch_any_78, n_ch_bothSend_78, n_ch_cardsSent_78, n_ch_then_c_78⟩ := u78
        have hP : va_P g vwCl [(ch_now, .inl (cJ, 16, .inr (.inl ch_now_c))), (ch_forgets, .inl (cI, 2, .inl ch_forgets_c)), (ch, .inr (1, [.long n_ch_any_78, .long n_ch_bothSend_78, .long n_ch_cardsSent_78, .long ch_below, .int ch_rule0, .int ch_rule1, .ref ch_forgets, .ref ch_now, .ref ch_then])), (ch_then, .inl (cJ, 16, .inr (.inl n_ch_then_c_78)))] H := hP
        have hD : va_D A [(ch_now, .inl (cJ, 16, .inr (.inl ch_now_c))), (ch_forgets, .inl (cI, 2, .inl ch_forgets_c)), (ch, .inr (1, [.long n_ch_any_78, .long n_ch_bothSend_78, .long n_ch_cardsSent_78, .long ch_below, .int ch_rule0, .int ch_rule1, .ref ch_forgets, .ref ch_now, .ref ch_then])), (ch_then, .inl (cJ, 16, .inr (.inl n_ch_then_c_78)))] := hD
        refine lv_goto (tgt := 125) hx hb dX1_goOnFrom_81 (by decide) ?_
        exact J125 n_ch_any_78 n_ch_bothSend_78 n_ch_cardsSent_78 n_ch_then_c_78 _ _ _  (hP.sub [2, 0, 1, 3] rfl) (hD.sub [2, 0, 1, 3] (by decide) rfl) hS (lv_sub hl [2, 3, 4, 5] rfl)
      have f66 := (show r59.toInt ≠ 0 from z_ne rfl rfl c66)
      have r66a : ir r59.toInt 1 3 := ir_nel f66 hw59_0 (by decide) (by decide)
      refine lv_aload_n hx hb dX1_goOnFrom_84 rfl (lv_at hl 2 rfl) ?_
      refine va_get (D := g) (ci := 1) (v := .ref ch_forgets) (C := RX1) (T := TX1) (N := 9) hx hb hts iX1 hown hK hP 0 rfl rfl 6 (by decide) (hts (.fieldLink RX1 9 "CardsAtYule$Chances" "forgets" "[I") (List.mem_cons_of_mem _ (List.mem_append_left _ (List.mem_of_getElem? (i := 14) rfl)))) (fun _ h9 => h9) rfl dX1_goOnFrom_85 ?_
      refine lv_iload hx hb dX1_goOnFrom_88 (lv_at hl 0 rfl) ?_
      refine lv_iconst (v := 1) hx hb dX1_goOnFrom_90 (by decide) ?_
      refine lv_ishr hx hb dX1_goOnFrom_91 ?_
      refine lv_topi (fun y91 e91 => ?_)
      have r91 : ir y91.toInt 0 1 := by rw [e91]; exact sr_r 1 rfl r66a (by decide) (by decide) (by decide) (by decide)
      refine va_iald (D := g) hx hb hK hP 2 0 rfl rfl (vi_rg rfl r91 (by decide) (by decide)) dX1_goOnFrom_92 ?_
      refine lv_topi (fun y92 e92 => ?_)
      refine lv_istore (lv' := [(7, .int y92), (6, .int r59), (4, .long y43), (0, .ref ch), (1, .int p0), (2, .int r9), (3, .int j15_l3)]) hx hb dX1_goOnFrom_93 hl (by decide) rfl (fun ls hl => ?_)
      refine lv_aload_n hx hb dX1_goOnFrom_95 rfl (lv_at hl 3 rfl) ?_
      refine lv_iload_n hx hb dX1_goOnFrom_96 rfl (lv_at hl 4 rfl) ?_
      refine lv_iload_n hx hb dX1_goOnFrom_97 rfl (lv_at hl 6 rfl) ?_
      refine lv_lload hx hb dX1_goOnFrom_98 (lv_at hl 2 rfl) ?_
      refine lv_iload hx hb dX1_goOnFrom_100 (lv_at hl 0 rfl) ?_
      refine lv_i2l (v := y92.toInt64) hx hb dX1_goOnFrom_102 rfl ?_
      refine lv_lmul hx hb dX1_goOnFrom_103 ?_
      refine lv_topl (fun y103 e103 => ?_)
      refine rw_v (wr := [(ch_now, .inl (cJ, 16, .inr (.inl ch_now_c))), (ch_forgets, .inl (cI, 2, .inl ch_forgets_c))]) (va_runV (As := [.int p0, .int j15_l3, .long y103]) (rest := []) ⟨hx, hb, hml, hown, hts⟩ (q_X1_note l g cI cJ cB cZ cL p0 j15_l3 y103 ch j15_ch_any j15_ch_bothSend j15_ch_cardsSent ch_below ch_rule0 ch_rule1 ch_forgets ch_now ch_then j15_ch_then_c H.size ) (cwV 3 hts (goodIn_app (g_4 (List.mem_cons_of_mem _ (List.mem_append_left _ (List.mem_of_getElem? (i := 15) rfl))) (List.mem_cons_of_mem _ (List.mem_append_left _ (List.mem_of_getElem? (i := 16) rfl))) (List.mem_cons_of_mem _ (List.mem_append_left _ (List.mem_of_getElem? (i := 17) rfl))) (List.mem_cons_of_mem _ (List.mem_append_left _ (List.mem_of_getElem? (i := 9) rfl))) (by decide +kernel)) (goodIn_sub (fun _ h => List.mem_cons_of_mem _ (List.mem_append_right _ (List.mem_append_right _ (List.mem_append_right _ (List.mem_append_right _ (List.mem_append_right _ (List.mem_append_left _ h))))))) good_v_X1_note)) rfl rfl rfl (by decide +kernel) ⟨Nat.le_of_ble_eq_true rfl, Nat.le_of_ble_eq_true rfl⟩) (pv_RW (q := (RX1, TX1, 9)) (ci := 1) (q0 := 0) (wc := [(ch, .inr (1, [.long j15_ch_any, .long j15_ch_bothSend, .long j15_ch_cardsSent, .long ch_below, .int ch_rule0, .int ch_rule1, .ref ch_forgets, .ref ch_now, .ref ch_then])), (ch_then, .inl (cJ, 16, .inr (.inl j15_ch_then_c)))]) hK hP hD [0, 3] (by decide) rfl rfl rfl) rfl rfl hl.1 rfl (lv_room (Nat.le_of_ble_eq_true rfl)) dX1_goOnFrom_104 ⟨Nat.le_of_ble_eq_true rfl, Nat.le_of_ble_eq_true rfl⟩) hS hA hP hD [0, 3] [1, 2] rfl rfl (by decide) (by decide) (fun u104 H locs hw104 hP hD hS => ?_)
      obtain ⟨n_ch_any_104, n_ch_bothSend_104, n_ch_cardsSent_104, n_ch_then_c_104⟩ := u104
      have hP : va_P g vwCl [(ch_now, .inl (cJ, 16, .inr (.inl ch_now_c))), (ch_forgets, .inl (cI, 2, .inl ch_forgets_c)), (ch, .inr (1, [.long n_ch_any_104, .long n_ch_bothSend_104, .long n_ch_cardsSent_104, .long ch_below, .int ch_rule0, .int ch_rule1, .ref ch_forgets, .ref ch_now, .ref ch_then])), (ch_then, .inl (cJ, 16, .inr (.inl n_ch_then_c_104)))] H := hP
      have hD : va_D A [(ch_now, .inl (cJ, 16, .inr (.inl ch_now_c))), (ch_forgets, .inl (cI, 2, .inl ch_forgets_c)), (ch, .inr (1, [.long n_ch_any_104, .long n_ch_bothSend_104, .long n_ch_cardsSent_104, .long ch_below, .int ch_rule0, .int ch_rule1, .ref ch_forgets, .ref ch_now, .ref ch_then])), (ch_then, .inl (cJ, 16, .inr (.inl n_ch_then_c_104)))] := hD
      refine lv_aload_n hx hb dX1_goOnFrom_107 rfl (lv_at hl 3 rfl) ?_
      refine lv_iload_n hx hb dX1_goOnFrom_108 rfl (lv_at hl 4 rfl) ?_
      refine lv_iload_n hx hb dX1_goOnFrom_109 rfl (lv_at hl 6 rfl) ?_
      refine lv_iload hx hb dX1_goOnFrom_110 (lv_at hl 1 rfl) ?_
      refine lv_ior hx hb dX1_goOnFrom_112 ?_
      refine lv_topi (fun y112 e112 => ?_)
      have r112 : ir y112.toInt 0 3 := by rw [e112]; exact or_r 2 rfl rfl r17a r66a (by decide) (by decide) (by decide) (by decide) (by decide)
      refine lv_lload hx hb dX1_goOnFrom_113 (lv_at hl 2 rfl) ?_
      refine lv_bipush (v := 100) hx hb dX1_goOnFrom_115 (by decide) ?_
      refine lv_iload hx hb dX1_goOnFrom_117 (lv_at hl 0 rfl) ?_
      refine lv_isub hx hb dX1_goOnFrom_119 ?_
      refine lv_topi (fun y119 e119 => ?_)
      refine lv_i2l (v := y119.toInt64) hx hb dX1_goOnFrom_120 rfl ?_
      refine lv_lmul hx hb dX1_goOnFrom_121 ?_
      refine lv_topl (fun y121 e121 => ?_)
      refine rw_v (wr := [(ch_now, .inl (cJ, 16, .inr (.inl ch_now_c))), (ch_forgets, .inl (cI, 2, .inl ch_forgets_c))]) (va_runV (As := [.int p0, .int y112, .long y121]) (rest := []) ⟨hx, hb, hml, hown, hts⟩ (q_X1_note l g cI cJ cB cZ cL p0 y112 y121 ch n_ch_any_104 n_ch_bothSend_104 n_ch_cardsSent_104 ch_below ch_rule0 ch_rule1 ch_forgets ch_now ch_then n_ch_then_c_104 H.size ) (cwV 3 hts (goodIn_app (g_4 (List.mem_cons_of_mem _ (List.mem_append_left _ (List.mem_of_getElem? (i := 15) rfl))) (List.mem_cons_of_mem _ (List.mem_append_left _ (List.mem_of_getElem? (i := 16) rfl))) (List.mem_cons_of_mem _ (List.mem_append_left _ (List.mem_of_getElem? (i := 17) rfl))) (List.mem_cons_of_mem _ (List.mem_append_left _ (List.mem_of_getElem? (i := 9) rfl))) (by decide +kernel)) (goodIn_sub (fun _ h => List.mem_cons_of_mem _ (List.mem_append_right _ (List.mem_append_right _ (List.mem_append_right _ (List.mem_append_right _ (List.mem_append_right _ (List.mem_append_left _ h))))))) good_v_X1_note)) rfl rfl rfl (by decide +kernel) ⟨Nat.le_of_ble_eq_true rfl, Nat.le_of_ble_eq_true rfl⟩) (pv_RW (q := (RX1, TX1, 9)) (ci := 1) (q0 := 0) (wc := [(ch, .inr (1, [.long n_ch_any_104, .long n_ch_bothSend_104, .long n_ch_cardsSent_104, .long ch_below, .int ch_rule0, .int ch_rule1, .ref ch_forgets, .ref ch_now, .ref ch_then])), (ch_then, .inl (cJ, 16, .inr (.inl n_ch_then_c_104)))]) hK hP hD [2, 3] (by decide) rfl rfl rfl) rfl rfl hl.1 rfl (lv_room (Nat.le_of_ble_eq_true rfl)) dX1_goOnFrom_122 ⟨Nat.le_of_ble_eq_true rfl, Nat.le_of_ble_eq_true rfl⟩) hS hA hP hD [2, 3] [0, 1] rfl rfl (by decide) (by decide) (fun u122 H locs hw122 hP hD hS => ?_)
      obtain ⟨n_ch_any_122, n_ch_bothSend_122, n_ch_cardsSent_122, n_ch_then_c_122⟩ := u122
      have hP : va_P g vwCl [(ch_now, .inl (cJ, 16, .inr (.inl ch_now_c))), (ch_forgets, .inl (cI, 2, .inl ch_forgets_c)), (ch, .inr (1, [.long n_ch_any_122, .long n_ch_bothSend_122, .long n_ch_cardsSent_122, .long ch_below, .int ch_rule0, .int ch_rule1, .ref ch_forgets, .ref ch_now, .ref ch_then])), (ch_then, .inl (cJ, 16, .inr (.inl n_ch_then_c_122)))] H := hP
      have hD : va_D A [(ch_now, .inl (cJ, 16, .inr (.inl ch_now_c))), (ch_forgets, .inl (cI, 2, .inl ch_forgets_c)), (ch, .inr (1, [.long n_ch_any_122, .long n_ch_bothSend_122, .long n_ch_cardsSent_122, .long ch_below, .int ch_rule0, .int ch_rule1, .ref ch_forgets, .ref ch_now, .ref ch_then])), (ch_then, .inl (cJ, 16, .inr (.inl n_ch_then_c_122)))] := hD
      exact J125 n_ch_any_122 n_ch_bothSend_122 n_ch_cardsSent_122 n_ch_then_c_122 _ _ _  (hP.sub [2, 0, 1, 3] rfl) (hD.sub [2, 0, 1, 3] (by decide) rfl) hS (lv_sub hl [3, 4, 5, 6] rfl)
  exact J15 _ 0 ch_any ch_bothSend ch_cardsSent ch_then_c _ _ _ (Nat.lt_succ_self _) (by decide) (hP.sub [0, 1, 2, 3] rfl) (hD.sub [0, 1, 2, 3] (by decide) rfl) hS (lv_sub hl [2, 3, 1, 0] rfl)
def v_X1_goThroughYear : List Cond := .code yX1_goThroughYear cX1_goThroughYear 2 none :: (([.fieldLink RX1 58 "CardsAtYule$Chances" "any" "J", .fieldLink RX1 61 "CardsAtYule$Chances" "bothSend" "J", .fieldLink RX1 43 "CardsAtYule$Chances" "cardsSent" "J", .constantLong RX1 64 (1000000), .fieldLink RX1 39 "CardsAtYule$Chances" "below" "J", .fieldLink RX1 19 "CardsAtYule$Chances" "then" "[J", .methodLink RX1 46 yJ7_fill_d0a16, .static yJ7_fill_d0a16, .initialized RJ7, .fieldLink RX1 15 "CardsAtYule$Chances" "now" "[J", .methodLink RX1 66 yX1_goOnFrom, .instanceMethod yX1_goOnFrom, .selects RX1 yX1_goOnFrom yX1_goOnFrom, .initialized RX1] : List Cond) ++ (v_J7_fillj16 ++ (v_X1_goOnFrom ++ (wsX10 ++ ([] : List Cond)))))
theorem good_v_X1_goThroughYear : v_X1_goThroughYear.all goodWord = true := ga_c (by decide +kernel) (ga_a (by decide +kernel) (ga_a good_v_J7_fillj16 (ga_a good_v_X1_goOnFrom (ga_a good_wsX10 rfl))))
set_option maxHeartbeats 4000000 in
set_option maxRecDepth 100000 in
theorem q_X1_goThroughYear (l : Launch) (g : va_G) (cI cJ cB cZ cL : ClassId) (ch : Nat) (ch_any : Int64) (ch_bothSend : Int64) (ch_cardsSent : Int64) (ch_below : Int64) (ch_rule0 : Int32) (ch_rule1 : Int32) (ch_forgets : Nat) (ch_now : Nat) (ch_then : Nat) (ch_then_c : Nat → Int64) (ch_now_c : Nat → Int64) (ch_forgets_c : Nat → Int32) (sz : Nat)  : Met l yX1_goThroughYear v_X1_goThroughYear ({ frames := 3, cells := 0, slots := 0, locals := 72 }) (va_Pc [.ref ch] (pRW g (tyT cI cJ cB cZ cL) [(ch, .inr (1, [.long ch_any, .long ch_bothSend, .long ch_cardsSent, .long ch_below, .int ch_rule0, .int ch_rule1, .ref ch_forgets, .ref ch_now, .ref ch_then])), (ch_then, .inl (cJ, 16, .inr (.inl ch_then_c))), (ch_now, .inl (cJ, 16, .inr (.inl ch_now_c))), (ch_forgets, .inl (cI, 2, .inl ch_forgets_c))] sz)) (va_Qv (fun (u : Int64 × Int64 × Int64 × Int64 × Nat × Nat × (Nat → Int64) × (Nat → Int64)) => match u with | (n_ch_any, n_ch_bothSend, n_ch_cardsSent, n_ch_below, n_ch_now, n_ch_then, n_ch_then_c, n_ch_now_c) => True) (fun (u : Int64 × Int64 × Int64 × Int64 × Nat × Nat × (Nat → Int64) × (Nat → Int64)) (t : State) => bRW g (tyT cI cJ cB cZ cL) (va_A [(ch, .inr (1, [.long ch_any, .long ch_bothSend, .long ch_cardsSent, .long ch_below, .int ch_rule0, .int ch_rule1, .ref ch_forgets, .ref ch_now, .ref ch_then])), (ch_then, .inl (cJ, 16, .inr (.inl ch_then_c))), (ch_now, .inl (cJ, 16, .inr (.inl ch_now_c))), (ch_forgets, .inl (cI, 2, .inl ch_forgets_c))] sz) (match u with | (n_ch_any, n_ch_bothSend, n_ch_cardsSent, n_ch_below, n_ch_now, n_ch_then, n_ch_then_c, n_ch_now_c) => [(ch, .inr (1, [.long n_ch_any, .long n_ch_bothSend, .long n_ch_cardsSent, .long n_ch_below, .int ch_rule0, .int ch_rule1, .ref ch_forgets, .ref n_ch_now, .ref n_ch_then])), (n_ch_then, .inl (cJ, 16, .inr (.inl n_ch_then_c))), (n_ch_now, .inl (cJ, 16, .inr (.inl n_ch_now_c))), (ch_forgets, .inl (cI, 2, .inl ch_forgets_c))]) t) (va_A [(ch, .inr (1, [.long ch_any, .long ch_bothSend, .long ch_cardsSent, .long ch_below, .int ch_rule0, .int ch_rule1, .ref ch_forgets, .ref ch_now, .ref ch_then])), (ch_then, .inl (cJ, 16, .inr (.inl ch_then_c))), (ch_now, .inl (cJ, 16, .inr (.inl ch_now_c))), (ch_forgets, .inl (cI, 2, .inl ch_forgets_c))] sz)) 0 0 (va_A [(ch, .inr (1, [.long ch_any, .long ch_bothSend, .long ch_cardsSent, .long ch_below, .int ch_rule0, .int ch_rule1, .ref ch_forgets, .ref ch_now, .ref ch_then])), (ch_then, .inl (cJ, 16, .inr (.inl ch_then_c))), (ch_now, .inl (cJ, 16, .inr (.inl ch_now_c))), (ch_forgets, .inl (cI, 2, .inl ch_forgets_c))] sz) := by
  refine Met.ofW (cc := cX1_goThroughYear) (maxL := 2) (ret := none) (by decide) rfl ?_
  intro p e s m args below meth c s₁ B hml hv
  obtain ⟨rfl, hsz, hP, hK, hD0⟩ := hv
  have hx := B.exec
  have hb := B.bytes
  have hr := B.returns
  have hts := atoms_spec (ws := v_X1_goThroughYear) B.pre
  have hown : s.vm.findClass RX1 = some m.cls := findClass_of_methodNamed B.named
  have hlocks := B.notSynchronized
  clear B
  subst hsz
  have iX1 : ∀ w ∈ wsX10, w ∈ v_X1_goThroughYear := (fun _ h => List.mem_cons_of_mem _ (List.mem_append_right _ (List.mem_append_right _ (List.mem_append_right _ (List.mem_append_left _ h)))))
  have hD := hD0.self (sz := s.heap.size)
  generalize hAe : (va_A [(ch, .inr (1, [.long ch_any, .long ch_bothSend, .long ch_cardsSent, .long ch_below, .int ch_rule0, .int ch_rule1, .ref ch_forgets, .ref ch_now, .ref ch_then])), (ch_then, .inl (cJ, 16, .inr (.inl ch_then_c))), (ch_now, .inl (cJ, 16, .inr (.inl ch_now_c))), (ch_forgets, .inl (cI, 2, .inl ch_forgets_c))] s.heap.size) = A at hD ⊢
  have hA : ∀ q : Nat, s.heap.size ≤ q → A q := fun q h => by rw [← hAe]; exact Or.inr h
  have hS : va_S A s.heap s.heap [] := va_S.rf
  have hl := lv_entry ([.ref ch]) (n := 2) (Nat.le_of_ble_eq_true rfl)
  rw [lg_entry_eq]
  generalize (lg_sl ([.ref ch]) ++ List.replicate (2 - (lg_sl ([.ref ch])).length) Slot.unset).toArray = ls at hl ⊢
  generalize ([.ref ch] : List Value).toArray = av at hts ⊢
  generalize hQ : MQ below _ av s _ _ A = QQ
  have hl : lv_has ls 2 [(0, .ref ch)] := hl
  have hP : va_P g vwCl [(ch, .inr (1, [.long ch_any, .long ch_bothSend, .long ch_cardsSent, .long ch_below, .int ch_rule0, .int ch_rule1, .ref ch_forgets, .ref ch_now, .ref ch_then])), (ch_then, .inl (cJ, 16, .inr (.inl ch_then_c))), (ch_now, .inl (cJ, 16, .inr (.inl ch_now_c))), (ch_forgets, .inl (cI, 2, .inl ch_forgets_c))] s.heap := hP
  refine lv_aload_n hx hb dX1_goThroughYear_0 rfl (lv_at hl 0 rfl) ?_
  refine lv_lconst (v := 0) hx hb dX1_goThroughYear_1 (by decide) ?_
  refine va_put (D := g) (ci := 1) (v := .long 0) (ty := .long) (C := RX1) (T := TX1) (N := 9) hx hb hts iX1 tyX1 tyX1_ok nmX1 hown hK hP hD hS 0 rfl rfl 0 (by decide) (hts (.fieldLink RX1 58 "CardsAtYule$Chances" "any" "J") (List.mem_cons_of_mem _ (List.mem_append_left _ (List.mem_of_getElem? (i := 0) rfl)))) (fun _ h9 => h9) rfl (by decide +kernel) rfl rfl (Nat.le_of_ble_eq_true rfl) dX1_goThroughYear_2 (fun H locs hP hD hS => ?_)
  have hP : va_P g vwCl [(ch, .inr (1, [.long 0, .long ch_bothSend, .long ch_cardsSent, .long ch_below, .int ch_rule0, .int ch_rule1, .ref ch_forgets, .ref ch_now, .ref ch_then])), (ch_then, .inl (cJ, 16, .inr (.inl ch_then_c))), (ch_now, .inl (cJ, 16, .inr (.inl ch_now_c))), (ch_forgets, .inl (cI, 2, .inl ch_forgets_c))] H := hP
  have hD : va_D A [(ch, .inr (1, [.long 0, .long ch_bothSend, .long ch_cardsSent, .long ch_below, .int ch_rule0, .int ch_rule1, .ref ch_forgets, .ref ch_now, .ref ch_then])), (ch_then, .inl (cJ, 16, .inr (.inl ch_then_c))), (ch_now, .inl (cJ, 16, .inr (.inl ch_now_c))), (ch_forgets, .inl (cI, 2, .inl ch_forgets_c))] := hD
  refine lv_aload_n hx hb dX1_goThroughYear_5 rfl (lv_at hl 0 rfl) ?_
  refine lv_lconst (v := 0) hx hb dX1_goThroughYear_6 (by decide) ?_
  refine va_put (D := g) (ci := 1) (v := .long 0) (ty := .long) (C := RX1) (T := TX1) (N := 9) hx hb hts iX1 tyX1 tyX1_ok nmX1 hown hK hP hD hS 0 rfl rfl 1 (by decide) (hts (.fieldLink RX1 61 "CardsAtYule$Chances" "bothSend" "J") (List.mem_cons_of_mem _ (List.mem_append_left _ (List.mem_of_getElem? (i := 1) rfl)))) (fun _ h9 => h9) rfl (by decide +kernel) rfl rfl (Nat.le_of_ble_eq_true rfl) dX1_goThroughYear_7 (fun H locs hP hD hS => ?_)
  have hP : va_P g vwCl [(ch, .inr (1, [.long 0, .long 0, .long ch_cardsSent, .long ch_below, .int ch_rule0, .int ch_rule1, .ref ch_forgets, .ref ch_now, .ref ch_then])), (ch_then, .inl (cJ, 16, .inr (.inl ch_then_c))), (ch_now, .inl (cJ, 16, .inr (.inl ch_now_c))), (ch_forgets, .inl (cI, 2, .inl ch_forgets_c))] H := hP
  have hD : va_D A [(ch, .inr (1, [.long 0, .long 0, .long ch_cardsSent, .long ch_below, .int ch_rule0, .int ch_rule1, .ref ch_forgets, .ref ch_now, .ref ch_then])), (ch_then, .inl (cJ, 16, .inr (.inl ch_then_c))), (ch_now, .inl (cJ, 16, .inr (.inl ch_now_c))), (ch_forgets, .inl (cI, 2, .inl ch_forgets_c))] := hD
  refine lv_aload_n hx hb dX1_goThroughYear_10 rfl (lv_at hl 0 rfl) ?_
  refine lv_dup hx hb dX1_goThroughYear_11 rfl ?_
  refine va_get (D := g) (ci := 1) (v := .long ch_cardsSent) (C := RX1) (T := TX1) (N := 9) hx hb hts iX1 hown hK hP 0 rfl rfl 2 (by decide) (hts (.fieldLink RX1 43 "CardsAtYule$Chances" "cardsSent" "J") (List.mem_cons_of_mem _ (List.mem_append_left _ (List.mem_of_getElem? (i := 2) rfl)))) (fun _ h9 => h9) rfl dX1_goThroughYear_12 ?_
  refine lv_ldc2 (v := 1000000) hx hb hown (hts (.constantLong RX1 64 (1000000)) (List.mem_cons_of_mem _ (List.mem_append_left _ (List.mem_of_getElem? (i := 3) rfl)))) dX1_goThroughYear_15 ?_
  refine lv_lmul hx hb dX1_goThroughYear_18 ?_
  refine lv_topl (fun y18 e18 => ?_)
  refine va_put (D := g) (ci := 1) (v := .long y18) (ty := .long) (C := RX1) (T := TX1) (N := 9) hx hb hts iX1 tyX1 tyX1_ok nmX1 hown hK hP hD hS 0 rfl rfl 2 (by decide) (hts (.fieldLink RX1 43 "CardsAtYule$Chances" "cardsSent" "J") (List.mem_cons_of_mem _ (List.mem_append_left _ (List.mem_of_getElem? (i := 2) rfl)))) (fun _ h9 => h9) rfl (by decide +kernel) rfl rfl (Nat.le_of_ble_eq_true rfl) dX1_goThroughYear_19 (fun H locs hP hD hS => ?_)
  have hP : va_P g vwCl [(ch, .inr (1, [.long 0, .long 0, .long y18, .long ch_below, .int ch_rule0, .int ch_rule1, .ref ch_forgets, .ref ch_now, .ref ch_then])), (ch_then, .inl (cJ, 16, .inr (.inl ch_then_c))), (ch_now, .inl (cJ, 16, .inr (.inl ch_now_c))), (ch_forgets, .inl (cI, 2, .inl ch_forgets_c))] H := hP
  have hD : va_D A [(ch, .inr (1, [.long 0, .long 0, .long y18, .long ch_below, .int ch_rule0, .int ch_rule1, .ref ch_forgets, .ref ch_now, .ref ch_then])), (ch_then, .inl (cJ, 16, .inr (.inl ch_then_c))), (ch_now, .inl (cJ, 16, .inr (.inl ch_now_c))), (ch_forgets, .inl (cI, 2, .inl ch_forgets_c))] := hD
  refine lv_aload_n hx hb dX1_goThroughYear_22 rfl (lv_at hl 0 rfl) ?_
  refine lv_dup hx hb dX1_goThroughYear_23 rfl ?_
  refine va_get (D := g) (ci := 1) (v := .long ch_below) (C := RX1) (T := TX1) (N := 9) hx hb hts iX1 hown hK hP 0 rfl rfl 3 (by decide) (hts (.fieldLink RX1 39 "CardsAtYule$Chances" "below" "J") (List.mem_cons_of_mem _ (List.mem_append_left _ (List.mem_of_getElem? (i := 4) rfl)))) (fun _ h9 => h9) rfl dX1_goThroughYear_24 ?_
  refine lv_ldc2 (v := 1000000) hx hb hown (hts (.constantLong RX1 64 (1000000)) (List.mem_cons_of_mem _ (List.mem_append_left _ (List.mem_of_getElem? (i := 3) rfl)))) dX1_goThroughYear_27 ?_
  refine lv_lmul hx hb dX1_goThroughYear_30 ?_
  refine lv_topl (fun y30 e30 => ?_)
  refine va_put (D := g) (ci := 1) (v := .long y30) (ty := .long) (C := RX1) (T := TX1) (N := 9) hx hb hts iX1 tyX1 tyX1_ok nmX1 hown hK hP hD hS 0 rfl rfl 3 (by decide) (hts (.fieldLink RX1 39 "CardsAtYule$Chances" "below" "J") (List.mem_cons_of_mem _ (List.mem_append_left _ (List.mem_of_getElem? (i := 4) rfl)))) (fun _ h9 => h9) rfl (by decide +kernel) rfl rfl (Nat.le_of_ble_eq_true rfl) dX1_goThroughYear_31 (fun H locs hP hD hS => ?_)
  have hP : va_P g vwCl [(ch, .inr (1, [.long 0, .long 0, .long y18, .long y30, .int ch_rule0, .int ch_rule1, .ref ch_forgets, .ref ch_now, .ref ch_then])), (ch_then, .inl (cJ, 16, .inr (.inl ch_then_c))), (ch_now, .inl (cJ, 16, .inr (.inl ch_now_c))), (ch_forgets, .inl (cI, 2, .inl ch_forgets_c))] H := hP
  have hD : va_D A [(ch, .inr (1, [.long 0, .long 0, .long y18, .long y30, .int ch_rule0, .int ch_rule1, .ref ch_forgets, .ref ch_now, .ref ch_then])), (ch_then, .inl (cJ, 16, .inr (.inl ch_then_c))), (ch_now, .inl (cJ, 16, .inr (.inl ch_now_c))), (ch_forgets, .inl (cI, 2, .inl ch_forgets_c))] := hD
  refine lv_aload_n hx hb dX1_goThroughYear_34 rfl (lv_at hl 0 rfl) ?_
  refine va_get (D := g) (ci := 1) (v := .ref ch_then) (C := RX1) (T := TX1) (N := 9) hx hb hts iX1 hown hK hP 0 rfl rfl 8 (by decide) (hts (.fieldLink RX1 19 "CardsAtYule$Chances" "then" "[J") (List.mem_cons_of_mem _ (List.mem_append_left _ (List.mem_of_getElem? (i := 5) rfl)))) (fun _ h9 => h9) rfl dX1_goThroughYear_35 ?_
  refine lv_lconst (v := 0) hx hb dX1_goThroughYear_38 (by decide) ?_
  refine rw_v (wr := [(ch, .inr (1, [.long 0, .long 0, .long y18, .long y30, .int ch_rule0, .int ch_rule1, .ref ch_forgets, .ref ch_now, .ref ch_then])), (ch_now, .inl (cJ, 16, .inr (.inl ch_now_c))), (ch_forgets, .inl (cI, 2, .inl ch_forgets_c))]) (va_runS (As := [.ref ch_then, .long 0]) (rest := []) ⟨hx, hb, hml, hown, hts⟩ (q_J7_fillj16 l g cI cJ cB cZ cL 0 ch_then ch_then_c H.size ) (va_cwS 2 hts (goodIn_app (g_3 (List.mem_cons_of_mem _ (List.mem_append_left _ (List.mem_of_getElem? (i := 6) rfl))) (List.mem_cons_of_mem _ (List.mem_append_left _ (List.mem_of_getElem? (i := 7) rfl))) (List.mem_cons_of_mem _ (List.mem_append_left _ (List.mem_of_getElem? (i := 8) rfl))) (by decide +kernel)) (goodIn_sub (fun _ h => List.mem_cons_of_mem _ (List.mem_append_right _ (List.mem_append_left _ h))) good_v_J7_fillj16)) rfl rfl rfl (by decide +kernel) ⟨Nat.le_of_ble_eq_true rfl, Nat.le_of_ble_eq_true rfl⟩) (ps_RW (wc := [(ch_then, .inl (cJ, 16, .inr (.inl ch_then_c)))]) hK hP hD [1] (by decide) rfl) rfl rfl hl.1 rfl (lv_room (Nat.le_of_ble_eq_true rfl)) dX1_goThroughYear_39 ⟨Nat.le_of_ble_eq_true rfl, Nat.le_of_ble_eq_true rfl⟩) hS hA hP hD [1] [0, 2, 3] rfl rfl (by decide) (by decide) (fun u39 H locs hw39 hP hD hS => ?_)
  generalize u39 = n_r0_c_39 at hw39 hP hD
  have hP : va_P g vwCl [(ch, .inr (1, [.long 0, .long 0, .long y18, .long y30, .int ch_rule0, .int ch_rule1, .ref ch_forgets, .ref ch_now, .ref ch_then])), (ch_now, .inl (cJ, 16, .inr (.inl ch_now_c))), (ch_forgets, .inl (cI, 2, .inl ch_forgets_c)), (ch_then, .inl (cJ, 16, .inr (.inl n_r0_c_39)))] H := hP
  have hD : va_D A [(ch, .inr (1, [.long 0, .long 0, .long y18, .long y30, .int ch_rule0, .int ch_rule1, .ref ch_forgets, .ref ch_now, .ref ch_then])), (ch_now, .inl (cJ, 16, .inr (.inl ch_now_c))), (ch_forgets, .inl (cI, 2, .inl ch_forgets_c)), (ch_then, .inl (cJ, 16, .inr (.inl n_r0_c_39)))] := hD
  refine lv_iconst (v := 0) hx hb dX1_goThroughYear_42 (by decide) ?_
  refine lv_istore_n (lv' := [(1, .int 0), (0, .ref ch)]) hx hb dX1_goThroughYear_43 rfl hl (by decide) rfl (fun ls hl => ?_)
  have J44 : ∀ (n44 : Nat) (j44_l1 : Int32) (j44_ch_any : Int64) (j44_ch_bothSend : Int64) (j44_ch_cardsSent : Int64) (j44_ch_then_c : Nat → Int64) (H : Heap) (locs : List Loc) (ls : Array Slot), (17 - j44_l1.toInt).toNat < n44 → (ir j44_l1.toInt 0 16) → va_P g vwCl [(ch, .inr (1, [.long j44_ch_any, .long j44_ch_bothSend, .long j44_ch_cardsSent, .long y30, .int ch_rule0, .int ch_rule1, .ref ch_forgets, .ref ch_now, .ref ch_then])), (ch_now, .inl (cJ, 16, .inr (.inl ch_now_c))), (ch_forgets, .inl (cI, 2, .inl ch_forgets_c)), (ch_then, .inl (cJ, 16, .inr (.inl j44_ch_then_c)))] H → va_D A [(ch, .inr (1, [.long j44_ch_any, .long j44_ch_bothSend, .long j44_ch_cardsSent, .long y30, .int ch_rule0, .int ch_rule1, .ref ch_forgets, .ref ch_now, .ref ch_then])), (ch_now, .inl (cJ, 16, .inr (.inl ch_now_c))), (ch_forgets, .inl (cI, 2, .inl ch_forgets_c)), (ch_then, .inl (cJ, 16, .inr (.inl j44_ch_then_c)))] → va_S A s.heap H locs → lv_has ls 2 [(0, .ref ch), (1, .int j44_l1)] → W p l e (headSpec v_X1_goThroughYear ({ frames := 3, cells := 0, slots := 0, locals := 72 })).room s m av below meth c H locs 0 0 QQ (F0 m 44 ls []) := by
    intro n44
    induction n44 with
    | zero => exact fun j44_l1 j44_ch_any j44_ch_bothSend j44_ch_cardsSent j44_ch_then_c H locs ls hn => absurd hn (Nat.not_lt_zero _)
    | succ n44 ih44 =>
      intro j44_l1 j44_ch_any j44_ch_bothSend j44_ch_cardsSent j44_ch_then_c H locs ls hn44 hj44_l1 hP hD hS hl
      refine lv_iload_n hx hb dX1_goThroughYear_44 rfl (lv_at hl 1 rfl) ?_
      refine lv_bipush (v := 16) hx hb dX1_goThroughYear_45 (by decide) ?_
      refine lv_icmp_ge (tgt := 72) hx hb dX1_goThroughYear_47 (by decide) (fun c47 => ?_) (fun c47 => ?_)
      · have f47 := (show 16 ≤ j44_l1.toInt from z_le rfl rfl c47)
        have r47a : ir j44_l1.toInt 16 16 := ir_leb f47 (ir_c 16) hj44_l1 (by decide)
        refine lv_aload_n hx hb dX1_goThroughYear_72 rfl (lv_at hl 0 rfl) ?_
        refine va_get (D := g) (ci := 1) (v := .ref ch_now) (C := RX1) (T := TX1) (N := 9) hx hb hts iX1 hown hK hP 0 rfl rfl 7 (by decide) (hts (.fieldLink RX1 15 "CardsAtYule$Chances" "now" "[J") (List.mem_cons_of_mem _ (List.mem_append_left _ (List.mem_of_getElem? (i := 9) rfl)))) (fun _ h9 => h9) rfl dX1_goThroughYear_73 ?_
        refine lv_astore_n (lv' := [(1, .ref ch_now), (0, .ref ch)]) hx hb dX1_goThroughYear_76 rfl hl (by decide) rfl (fun ls hl => ?_)
        refine lv_aload_n hx hb dX1_goThroughYear_77 rfl (lv_at hl 1 rfl) ?_
        refine lv_aload_n hx hb dX1_goThroughYear_78 rfl (lv_at hl 1 rfl) ?_
        refine va_get (D := g) (ci := 1) (v := .ref ch_then) (C := RX1) (T := TX1) (N := 9) hx hb hts iX1 hown hK hP 0 rfl rfl 8 (by decide) (hts (.fieldLink RX1 19 "CardsAtYule$Chances" "then" "[J") (List.mem_cons_of_mem _ (List.mem_append_left _ (List.mem_of_getElem? (i := 5) rfl)))) (fun _ h9 => h9) rfl dX1_goThroughYear_79 ?_
        refine va_put (D := g) (ci := 1) (v := .ref ch_then) (ty := (.array .long)) (C := RX1) (T := TX1) (N := 9) hx hb hts iX1 tyX1 tyX1_ok nmX1 hown hK hP hD hS 0 rfl rfl 7 (by decide) (hts (.fieldLink RX1 15 "CardsAtYule$Chances" "now" "[J") (List.mem_cons_of_mem _ (List.mem_append_left _ (List.mem_of_getElem? (i := 9) rfl)))) (fun _ h9 => h9) rfl (by decide +kernel) rfl rfl (Nat.le_of_ble_eq_true rfl) dX1_goThroughYear_82 (fun H locs hP hD hS => ?_)
        have hP : va_P g vwCl [(ch, .inr (1, [.long j44_ch_any, .long j44_ch_bothSend, .long j44_ch_cardsSent, .long y30, .int ch_rule0, .int ch_rule1, .ref ch_forgets, .ref ch_then, .ref ch_then])), (ch_now, .inl (cJ, 16, .inr (.inl ch_now_c))), (ch_forgets, .inl (cI, 2, .inl ch_forgets_c)), (ch_then, .inl (cJ, 16, .inr (.inl j44_ch_then_c)))] H := hP
        have hD : va_D A [(ch, .inr (1, [.long j44_ch_any, .long j44_ch_bothSend, .long j44_ch_cardsSent, .long y30, .int ch_rule0, .int ch_rule1, .ref ch_forgets, .ref ch_then, .ref ch_then])), (ch_now, .inl (cJ, 16, .inr (.inl ch_now_c))), (ch_forgets, .inl (cI, 2, .inl ch_forgets_c)), (ch_then, .inl (cJ, 16, .inr (.inl j44_ch_then_c)))] := hD
        refine lv_aload_n hx hb dX1_goThroughYear_85 rfl (lv_at hl 1 rfl) ?_
        refine lv_aload_n hx hb dX1_goThroughYear_86 rfl (lv_at hl 0 rfl) ?_
        refine va_put (D := g) (ci := 1) (v := .ref ch_now) (ty := (.array .long)) (C := RX1) (T := TX1) (N := 9) hx hb hts iX1 tyX1 tyX1_ok nmX1 hown hK hP hD hS 0 rfl rfl 8 (by decide) (hts (.fieldLink RX1 19 "CardsAtYule$Chances" "then" "[J") (List.mem_cons_of_mem _ (List.mem_append_left _ (List.mem_of_getElem? (i := 5) rfl)))) (fun _ h9 => h9) rfl (by decide +kernel) rfl rfl (Nat.le_of_ble_eq_true rfl) dX1_goThroughYear_87 (fun H locs hP hD hS => ?_)
        have hP : va_P g vwCl [(ch, .inr (1, [.long j44_ch_any, .long j44_ch_bothSend, .long j44_ch_cardsSent, .long y30, .int ch_rule0, .int ch_rule1, .ref ch_forgets, .ref ch_then, .ref ch_now])), (ch_now, .inl (cJ, 16, .inr (.inl ch_now_c))), (ch_forgets, .inl (cI, 2, .inl ch_forgets_c)), (ch_then, .inl (cJ, 16, .inr (.inl j44_ch_then_c)))] H := hP
        have hD : va_D A [(ch, .inr (1, [.long j44_ch_any, .long j44_ch_bothSend, .long j44_ch_cardsSent, .long y30, .int ch_rule0, .int ch_rule1, .ref ch_forgets, .ref ch_then, .ref ch_now])), (ch_now, .inl (cJ, 16, .inr (.inl ch_now_c))), (ch_forgets, .inl (cI, 2, .inl ch_forgets_c)), (ch_then, .inl (cJ, 16, .inr (.inl j44_ch_then_c)))] := hD
        subst hQ
        have hP9 := hP.sub (ws' := [(ch, .inr (1, [.long j44_ch_any, .long j44_ch_bothSend, .long j44_ch_cardsSent, .long y30, .int ch_rule0, .int ch_rule1, .ref ch_forgets, .ref ch_then, .ref ch_now])), (ch_now, .inl (cJ, 16, .inr (.inl ch_now_c))), (ch_then, .inl (cJ, 16, .inr (.inl j44_ch_then_c))), (ch_forgets, .inl (cI, 2, .inl ch_forgets_c))]) [0, 1, 3, 2] rfl
        have hD9 := hD.sub (ws' := [(ch, .inr (1, [.long j44_ch_any, .long j44_ch_bothSend, .long j44_ch_cardsSent, .long y30, .int ch_rule0, .int ch_rule1, .ref ch_forgets, .ref ch_then, .ref ch_now])), (ch_now, .inl (cJ, 16, .inr (.inl ch_now_c))), (ch_then, .inl (cJ, 16, .inr (.inl j44_ch_then_c))), (ch_forgets, .inl (cI, 2, .inl ch_forgets_c))]) [0, 1, 3, 2] (by decide) rfl
        exact W.vret hx hb hr (fun t ht hW => ⟨⟨(j44_ch_any, j44_ch_bothSend, j44_ch_cardsSent, y30, ch_then, ch_now, ch_now_c, j44_ch_then_c), rfl, trivial, ⟨by rw [ht]; exact hP9, va_K.moved hW.alike hK, hD9⟩⟩, hS.F ht⟩) hS.2.2 dX1_goThroughYear_90
      have f47 := (show j44_l1.toInt < 16 from z_nle rfl rfl c47)
      have r47a : ir j44_l1.toInt 0 15 := ir_lta f47 hj44_l1 (ir_c 16) (by decide)
      refine lv_aload_n hx hb dX1_goThroughYear_50 rfl (lv_at hl 0 rfl) ?_
      refine va_get (D := g) (ci := 1) (v := .ref ch_now) (C := RX1) (T := TX1) (N := 9) hx hb hts iX1 hown hK hP 0 rfl rfl 7 (by decide) (hts (.fieldLink RX1 15 "CardsAtYule$Chances" "now" "[J") (List.mem_cons_of_mem _ (List.mem_append_left _ (List.mem_of_getElem? (i := 9) rfl)))) (fun _ h9 => h9) rfl dX1_goThroughYear_51 ?_
      refine lv_iload_n hx hb dX1_goThroughYear_54 rfl (lv_at hl 1 rfl) ?_
      refine va_lald (D := g) hx hb hK hP 1 1 rfl rfl (vi_rg rfl r47a (by decide) (by decide)) dX1_goThroughYear_55 ?_
      refine lv_topl (fun y55 e55 => ?_)
      refine lv_lconst (v := 0) hx hb dX1_goThroughYear_56 (by decide) ?_
      refine W.lcmp hx hb dX1_goThroughYear_57 ?_
      have J66 : ∀ (j66_ch_any : Int64) (j66_ch_bothSend : Int64) (j66_ch_cardsSent : Int64) (j66_ch_then_c : Nat → Int64) (H : Heap) (locs : List Loc) (ls : Array Slot), va_P g vwCl [(ch, .inr (1, [.long j66_ch_any, .long j66_ch_bothSend, .long j66_ch_cardsSent, .long y30, .int ch_rule0, .int ch_rule1, .ref ch_forgets, .ref ch_now, .ref ch_then])), (ch_now, .inl (cJ, 16, .inr (.inl ch_now_c))), (ch_forgets, .inl (cI, 2, .inl ch_forgets_c)), (ch_then, .inl (cJ, 16, .inr (.inl j66_ch_then_c)))] H → va_D A [(ch, .inr (1, [.long j66_ch_any, .long j66_ch_bothSend, .long j66_ch_cardsSent, .long y30, .int ch_rule0, .int ch_rule1, .ref ch_forgets, .ref ch_now, .ref ch_then])), (ch_now, .inl (cJ, 16, .inr (.inl ch_now_c))), (ch_forgets, .inl (cI, 2, .inl ch_forgets_c)), (ch_then, .inl (cJ, 16, .inr (.inl j66_ch_then_c)))] → va_S A s.heap H locs → lv_has ls 2 [(0, .ref ch), (1, .int j44_l1)] → W p l e (headSpec v_X1_goThroughYear ({ frames := 3, cells := 0, slots := 0, locals := 72 })).room s m av below meth c H locs 0 0 QQ (F0 m 66 ls []) := by
        intro j66_ch_any j66_ch_bothSend j66_ch_cardsSent j66_ch_then_c H locs ls  hP hD hS hl
        obtain ⟨y66, e66⟩ : ∃ y : Int32, y = j44_l1 + 1 := ⟨_, rfl⟩
        have q66 : y66.toInt = j44_l1.toInt + 1 := by rw [e66]; exact ad_z rfl rfl r47a (ir_c 1) (by decide) (by decide)
        have r66 : ir y66.toInt 1 16 := ad_r q66 r47a (ir_c 1) (by decide) (by decide)
        refine lv_iinc (v := y66) (lv' := [(1, .int y66), (0, .ref ch)]) hx hb dX1_goThroughYear_66 hl (k := 1) rfl e66.symm (by decide) rfl (fun ls hl => ?_)
        refine lv_goto (tgt := 44) hx hb dX1_goThroughYear_69 (by decide) ?_
        exact ih44 y66 j66_ch_any j66_ch_bothSend j66_ch_cardsSent j66_ch_then_c _ _ _ (by omega) (ir_w r66 (by decide) (by decide)) (hP.sub [0, 1, 2, 3] rfl) (hD.sub [0, 1, 2, 3] (by decide) rfl) hS (lv_sub hl [1, 0] rfl)
      refine lv_if_eq (tgt := 66) hx hb dX1_goThroughYear_58 (by decide) (fun c58 => ?_) (fun c58 => ?_)
      · have f58 := (show y55.toInt = 0 from y_eq rfl rfl c58)
        have r58a : ir y55.toInt 0 0 := ir_eqa f58 (rl_all y55) (ir_c 0) (by decide) (by decide)
        exact J66 j44_ch_any j44_ch_bothSend j44_ch_cardsSent j44_ch_then_c _ _ _  (hP.sub [0, 1, 2, 3] rfl) (hD.sub [0, 1, 2, 3] (by decide) rfl) hS (lv_sub hl [0, 1] rfl)
      have f58 := (show y55.toInt ≠ 0 from y_ne rfl rfl c58)
      refine lv_aload_n hx hb dX1_goThroughYear_61 rfl (lv_at hl 0 rfl) ?_
      refine lv_iload_n hx hb dX1_goThroughYear_62 rfl (lv_at hl 1 rfl) ?_
      refine rw_v (wr := []) (va_runV (As := [.int j44_l1]) (rest := []) ⟨hx, hb, hml, hown, hts⟩ (q_X1_goOnFrom l g cI cJ cB cZ cL j44_l1 ch j44_ch_any j44_ch_bothSend j44_ch_cardsSent y30 ch_rule0 ch_rule1 ch_forgets ch_now ch_then ch_now_c ch_forgets_c j44_ch_then_c H.size r47a) (cwV 1 hts (goodIn_app (g_4 (List.mem_cons_of_mem _ (List.mem_append_left _ (List.mem_of_getElem? (i := 10) rfl))) (List.mem_cons_of_mem _ (List.mem_append_left _ (List.mem_of_getElem? (i := 11) rfl))) (List.mem_cons_of_mem _ (List.mem_append_left _ (List.mem_of_getElem? (i := 12) rfl))) (List.mem_cons_of_mem _ (List.mem_append_left _ (List.mem_of_getElem? (i := 13) rfl))) (by decide +kernel)) (goodIn_sub (fun _ h => List.mem_cons_of_mem _ (List.mem_append_right _ (List.mem_append_right _ (List.mem_append_left _ h)))) good_v_X1_goOnFrom)) rfl rfl rfl (by decide +kernel) ⟨Nat.le_of_ble_eq_true rfl, Nat.le_of_ble_eq_true rfl⟩) (pv_RW (q := (RX1, TX1, 9)) (ci := 1) (q0 := 0) (wc := [(ch, .inr (1, [.long j44_ch_any, .long j44_ch_bothSend, .long j44_ch_cardsSent, .long y30, .int ch_rule0, .int ch_rule1, .ref ch_forgets, .ref ch_now, .ref ch_then])), (ch_now, .inl (cJ, 16, .inr (.inl ch_now_c))), (ch_forgets, .inl (cI, 2, .inl ch_forgets_c)), (ch_then, .inl (cJ, 16, .inr (.inl j44_ch_then_c)))]) hK hP hD [0, 1, 2, 3] (by decide) rfl rfl rfl) rfl rfl hl.1 rfl (lv_room (Nat.le_of_ble_eq_true rfl)) dX1_goThroughYear_63 ⟨Nat.le_of_ble_eq_true rfl, Nat.le_of_ble_eq_true rfl⟩) hS hA hP hD [0, 1, 2, 3] [] rfl rfl (by decide) (by decide) (fun u63 H locs hw63 hP hD hS => ?_)
      obtain ⟨n_ch_any_63, n_ch_bothSend_63, n_ch_cardsSent_63, n_ch_then_c_63⟩ := u63
      have hP : va_P g vwCl [(ch, .inr (1, [.long n_ch_any_63, .long n_ch_bothSend_63, .long n_ch_cardsSent_63, .long y30, .int ch_rule0, .int ch_rule1, .ref ch_forgets, .ref ch_now, .ref ch_then])), (ch_now, .inl (cJ, 16, .inr (.inl ch_now_c))), (ch_forgets, .inl (cI, 2, .inl ch_forgets_c)), (ch_then, .inl (cJ, 16, .inr (.inl n_ch_then_c_63)))] H := hP
      have hD : va_D A [(ch, .inr (1, [.long n_ch_any_63, .long n_ch_bothSend_63, .long n_ch_cardsSent_63, .long y30, .int ch_rule0, .int ch_rule1, .ref ch_forgets, .ref ch_now, .ref ch_then])), (ch_now, .inl (cJ, 16, .inr (.inl ch_now_c))), (ch_forgets, .inl (cI, 2, .inl ch_forgets_c)), (ch_then, .inl (cJ, 16, .inr (.inl n_ch_then_c_63)))] := hD
      exact J66 n_ch_any_63 n_ch_bothSend_63 n_ch_cardsSent_63 n_ch_then_c_63 _ _ _  (hP.sub [0, 1, 2, 3] rfl) (hD.sub [0, 1, 2, 3] (by decide) rfl) hS (lv_sub hl [0, 1] rfl)
  exact J44 _ 0 0 0 y18 n_r0_c_39 _ _ _ (Nat.lt_succ_self _) (by decide) (hP.sub [0, 1, 2, 3] rfl) (hD.sub [0, 1, 2, 3] (by decide) rfl) hS (lv_sub hl [1, 0] rfl)
def v_X1_goThrough : List Cond := .code yX1_goThrough cX1_goThrough 5 none :: (([.methodLink RX1 22 yX4_ruleOfSide, .instanceMethod yX4_ruleOfSide, .selects RX4 yX4_ruleOfSide yX4_ruleOfSide, .initialized RX4, .fieldLink RX1 28 "CardsAtYule$Chances" "rule0" "I", .fieldLink RX1 32 "CardsAtYule$Chances" "rule1" "I", .fieldLink RX1 9 "CardsAtYule$Chances" "forgets" "[I", .fieldLink RX1 35 "CardsAtYule$Land" "forgets" "[I", .fieldLink RX1 36 "CardsAtYule$Land" "who" "[I", .fieldLink RX1 39 "CardsAtYule$Chances" "below" "J", .fieldLink RX1 43 "CardsAtYule$Chances" "cardsSent" "J", .fieldLink RX1 15 "CardsAtYule$Chances" "now" "[J", .methodLink RX1 46 yJ7_fill_d0a16, .static yJ7_fill_d0a16, .initialized RJ7, .fieldLink RX1 52 "CardsAtYule$Land" "begun" "[I", .methodLink RX1 55 yX1_goThroughYear, .instanceMethod yX1_goThroughYear, .selects RX1 yX1_goThroughYear yX1_goThroughYear, .initialized RX1] : List Cond) ++ (v_X4_ruleOfSide ++ (v_J7_fillj16 ++ (v_X1_goThroughYear ++ (wsX10 ++ (wsX40 ++ ([] : List Cond)))))))
theorem good_v_X1_goThrough : v_X1_goThrough.all goodWord = true := ga_c (by decide +kernel) (ga_a (by decide +kernel) (ga_a good_v_X4_ruleOfSide (ga_a good_v_J7_fillj16 (ga_a good_v_X1_goThroughYear (ga_a good_wsX10 (ga_a good_wsX40 rfl))))))
set_option maxHeartbeats 4000000 in
set_option maxRecDepth 100000 in
theorem q_X1_goThrough (l : Launch) (g : va_G) (cI cJ cB cZ cL : ClassId) (p1 : Int32) (p2 : Int32) (ch : Nat) (ld : Nat) (ld_lines : Int32) (ld_years : Int32) (ld_card : Int32) (ld_hurt : Int32) (ld_people : Int32) (ld_pairs : Int32) (ld_strikes : Int64) (ld_rule : Nat) (ld_returns : Nat) (ld_forgets : Nat) (ld_death : Nat) (ld_move : Nat) (ld_begun : Nat) (ld_who : Nat) (ld_lost : Nat) (ld_who_c : Nat → Int32) (ld_rule_c : Nat → Int32) (ld_returns_c : Nat → Int32) (ch_any : Int64) (ch_bothSend : Int64) (ch_cardsSent : Int64) (ch_below : Int64) (ch_rule0 : Int32) (ch_rule1 : Int32) (ch_forgets : Nat) (ch_now : Nat) (ch_then : Nat) (ld_forgets_c : Nat → Int32) (ch_forgets_c : Nat → Int32) (ch_now_c : Nat → Int64) (ld_begun_c : Nat → Int32) (ch_then_c : Nat → Int64) (sz : Nat) (hv_p1 : ir p1.toInt 0 15) (hv_p2 : ir p2.toInt 1 3) (hv_ld_years : ir ld_years.toInt 0 40) (hv_ld_people : ir ld_people.toInt 0 10) (hv_ld_pairs : ir ld_pairs.toInt 0 16) (ha_ld_who_c : ar ld_who_c 32 0 9) (ha_ld_begun_c : ar ld_begun_c 16 0 15) : Met l yX1_goThrough v_X1_goThrough ({ frames := 4, cells := 0, slots := 0, locals := 93 }) (va_Pc [.ref ch, .ref ld, .int p1, .int p2] (pRW g (tyT cI cJ cB cZ cL) [(ld, .inr (4, [.int ld_lines, .int ld_years, .int ld_card, .int ld_hurt, .int ld_people, .int ld_pairs, .long ld_strikes, .ref ld_rule, .ref ld_returns, .ref ld_forgets, .ref ld_death, .ref ld_move, .ref ld_begun, .ref ld_who, .ref ld_lost])), (ld_who, .inl (cI, 32, .inl ld_who_c)), (ld_rule, .inl (cI, 10, .inl ld_rule_c)), (ld_returns, .inl (cI, 10, .inl ld_returns_c)), (ch, .inr (1, [.long ch_any, .long ch_bothSend, .long ch_cardsSent, .long ch_below, .int ch_rule0, .int ch_rule1, .ref ch_forgets, .ref ch_now, .ref ch_then])), (ld_forgets, .inl (cI, 10, .inl ld_forgets_c)), (ch_forgets, .inl (cI, 2, .inl ch_forgets_c)), (ch_now, .inl (cJ, 16, .inr (.inl ch_now_c))), (ld_begun, .inl (cI, 16, .inl ld_begun_c)), (ch_then, .inl (cJ, 16, .inr (.inl ch_then_c)))] sz)) (va_Qv (fun (u : Int64 × Int64 × Int64 × Int64 × Int32 × Int32 × Nat × Nat × (Nat → Int32) × (Nat → Int64) × (Nat → Int64)) => match u with | (n_ch_any, n_ch_bothSend, n_ch_cardsSent, n_ch_below, n_ch_rule0, n_ch_rule1, n_ch_now, n_ch_then, n_ch_forgets_c, n_ch_now_c, n_ch_then_c) => True) (fun (u : Int64 × Int64 × Int64 × Int64 × Int32 × Int32 × Nat × Nat × (Nat → Int32) × (Nat → Int64) × (Nat → Int64)) (t : State) => bRW g (tyT cI cJ cB cZ cL) (va_A [(ld, .inr (4, [.int ld_lines, .int ld_years, .int ld_card, .int ld_hurt, .int ld_people, .int ld_pairs, .long ld_strikes, .ref ld_rule, .ref ld_returns, .ref ld_forgets, .ref ld_death, .ref ld_move, .ref ld_begun, .ref ld_who, .ref ld_lost])), (ld_who, .inl (cI, 32, .inl ld_who_c)), (ld_rule, .inl (cI, 10, .inl ld_rule_c)), (ld_returns, .inl (cI, 10, .inl ld_returns_c)), (ch, .inr (1, [.long ch_any, .long ch_bothSend, .long ch_cardsSent, .long ch_below, .int ch_rule0, .int ch_rule1, .ref ch_forgets, .ref ch_now, .ref ch_then])), (ld_forgets, .inl (cI, 10, .inl ld_forgets_c)), (ch_forgets, .inl (cI, 2, .inl ch_forgets_c)), (ch_now, .inl (cJ, 16, .inr (.inl ch_now_c))), (ld_begun, .inl (cI, 16, .inl ld_begun_c)), (ch_then, .inl (cJ, 16, .inr (.inl ch_then_c)))] sz) (match u with | (n_ch_any, n_ch_bothSend, n_ch_cardsSent, n_ch_below, n_ch_rule0, n_ch_rule1, n_ch_now, n_ch_then, n_ch_forgets_c, n_ch_now_c, n_ch_then_c) => [(ld, .inr (4, [.int ld_lines, .int ld_years, .int ld_card, .int ld_hurt, .int ld_people, .int ld_pairs, .long ld_strikes, .ref ld_rule, .ref ld_returns, .ref ld_forgets, .ref ld_death, .ref ld_move, .ref ld_begun, .ref ld_who, .ref ld_lost])), (ld_who, .inl (cI, 32, .inl ld_who_c)), (ld_rule, .inl (cI, 10, .inl ld_rule_c)), (ld_returns, .inl (cI, 10, .inl ld_returns_c)), (ch, .inr (1, [.long n_ch_any, .long n_ch_bothSend, .long n_ch_cardsSent, .long n_ch_below, .int n_ch_rule0, .int n_ch_rule1, .ref ch_forgets, .ref n_ch_now, .ref n_ch_then])), (ld_forgets, .inl (cI, 10, .inl ld_forgets_c)), (ch_forgets, .inl (cI, 2, .inl n_ch_forgets_c)), (n_ch_now, .inl (cJ, 16, .inr (.inl n_ch_now_c))), (ld_begun, .inl (cI, 16, .inl ld_begun_c)), (n_ch_then, .inl (cJ, 16, .inr (.inl n_ch_then_c)))]) t) (va_A [(ld, .inr (4, [.int ld_lines, .int ld_years, .int ld_card, .int ld_hurt, .int ld_people, .int ld_pairs, .long ld_strikes, .ref ld_rule, .ref ld_returns, .ref ld_forgets, .ref ld_death, .ref ld_move, .ref ld_begun, .ref ld_who, .ref ld_lost])), (ld_who, .inl (cI, 32, .inl ld_who_c)), (ld_rule, .inl (cI, 10, .inl ld_rule_c)), (ld_returns, .inl (cI, 10, .inl ld_returns_c)), (ch, .inr (1, [.long ch_any, .long ch_bothSend, .long ch_cardsSent, .long ch_below, .int ch_rule0, .int ch_rule1, .ref ch_forgets, .ref ch_now, .ref ch_then])), (ld_forgets, .inl (cI, 10, .inl ld_forgets_c)), (ch_forgets, .inl (cI, 2, .inl ch_forgets_c)), (ch_now, .inl (cJ, 16, .inr (.inl ch_now_c))), (ld_begun, .inl (cI, 16, .inl ld_begun_c)), (ch_then, .inl (cJ, 16, .inr (.inl ch_then_c)))] sz)) 0 0 (va_A [(ld, .inr (4, [.int ld_lines, .int ld_years, .int ld_card, .int ld_hurt, .int ld_people, .int ld_pairs, .long ld_strikes, .ref ld_rule, .ref ld_returns, .ref ld_forgets, .ref ld_death, .ref ld_move, .ref ld_begun, .ref ld_who, .ref ld_lost])), (ld_who, .inl (cI, 32, .inl ld_who_c)), (ld_rule, .inl (cI, 10, .inl ld_rule_c)), (ld_returns, .inl (cI, 10, .inl ld_returns_c)), (ch, .inr (1, [.long ch_any, .long ch_bothSend, .long ch_cardsSent, .long ch_below, .int ch_rule0, .int ch_rule1, .ref ch_forgets, .ref ch_now, .ref ch_then])), (ld_forgets, .inl (cI, 10, .inl ld_forgets_c)), (ch_forgets, .inl (cI, 2, .inl ch_forgets_c)), (ch_now, .inl (cJ, 16, .inr (.inl ch_now_c))), (ld_begun, .inl (cI, 16, .inl ld_begun_c)), (ch_then, .inl (cJ, 16, .inr (.inl ch_then_c)))] sz) := by
  refine Met.ofW (cc := cX1_goThrough) (maxL := 5) (ret := none) (by decide) rfl ?_
  intro p e s m args below meth c s₁ B hml hv
  obtain ⟨rfl, hsz, hP, hK, hD0⟩ := hv
  have hx := B.exec
  have hb := B.bytes
  have hr := B.returns
  have hts := atoms_spec (ws := v_X1_goThrough) B.pre
  have hown : s.vm.findClass RX1 = some m.cls := findClass_of_methodNamed B.named
  have hlocks := B.notSynchronized
  clear B
  subst hsz
  have iX1 : ∀ w ∈ wsX10, w ∈ v_X1_goThrough := (fun _ h => List.mem_cons_of_mem _ (List.mem_append_right _ (List.mem_append_right _ (List.mem_append_right _ (List.mem_append_right _ (List.mem_append_left _ h))))))
  have iX4 : ∀ w ∈ wsX40, w ∈ v_X1_goThrough := (fun _ h => List.mem_cons_of_mem _ (List.mem_append_right _ (List.mem_append_right _ (List.mem_append_right _ (List.mem_append_right _ (List.mem_append_right _ (List.mem_append_left _ h)))))))
  have hD := hD0.self (sz := s.heap.size)
  generalize hAe : (va_A [(ld, .inr (4, [.int ld_lines, .int ld_years, .int ld_card, .int ld_hurt, .int ld_people, .int ld_pairs, .long ld_strikes, .ref ld_rule, .ref ld_returns, .ref ld_forgets, .ref ld_death, .ref ld_move, .ref ld_begun, .ref ld_who, .ref ld_lost])), (ld_who, .inl (cI, 32, .inl ld_who_c)), (ld_rule, .inl (cI, 10, .inl ld_rule_c)), (ld_returns, .inl (cI, 10, .inl ld_returns_c)), (ch, .inr (1, [.long ch_any, .long ch_bothSend, .long ch_cardsSent, .long ch_below, .int ch_rule0, .int ch_rule1, .ref ch_forgets, .ref ch_now, .ref ch_then])), (ld_forgets, .inl (cI, 10, .inl ld_forgets_c)), (ch_forgets, .inl (cI, 2, .inl ch_forgets_c)), (ch_now, .inl (cJ, 16, .inr (.inl ch_now_c))), (ld_begun, .inl (cI, 16, .inl ld_begun_c)), (ch_then, .inl (cJ, 16, .inr (.inl ch_then_c)))] s.heap.size) = A at hD ⊢
  have hA : ∀ q : Nat, s.heap.size ≤ q → A q := fun q h => by rw [← hAe]; exact Or.inr h
  have hS : va_S A s.heap s.heap [] := va_S.rf
  have hl := lv_entry ([.ref ch, .ref ld, .int p1, .int p2]) (n := 5) (Nat.le_of_ble_eq_true rfl)
  rw [lg_entry_eq]
  generalize (lg_sl ([.ref ch, .ref ld, .int p1, .int p2]) ++ List.replicate (5 - (lg_sl ([.ref ch, .ref ld, .int p1, .int p2])).length) Slot.unset).toArray = ls at hl ⊢
  generalize ([.ref ch, .ref ld, .int p1, .int p2] : List Value).toArray = av at hts ⊢
  generalize hQ : MQ below _ av s _ _ A = QQ
  have hl : lv_has ls 5 [(0, .ref ch), (1, .ref ld), (2, .int p1), (3, .int p2)] := hl
  have hP : va_P g vwCl [(ld, .inr (4, [.int ld_lines, .int ld_years, .int ld_card, .int ld_hurt, .int ld_people, .int ld_pairs, .long ld_strikes, .ref ld_rule, .ref ld_returns, .ref ld_forgets, .ref ld_death, .ref ld_move, .ref ld_begun, .ref ld_who, .ref ld_lost])), (ld_who, .inl (cI, 32, .inl ld_who_c)), (ld_rule, .inl (cI, 10, .inl ld_rule_c)), (ld_returns, .inl (cI, 10, .inl ld_returns_c)), (ch, .inr (1, [.long ch_any, .long ch_bothSend, .long ch_cardsSent, .long ch_below, .int ch_rule0, .int ch_rule1, .ref ch_forgets, .ref ch_now, .ref ch_then])), (ld_forgets, .inl (cI, 10, .inl ld_forgets_c)), (ch_forgets, .inl (cI, 2, .inl ch_forgets_c)), (ch_now, .inl (cJ, 16, .inr (.inl ch_now_c))), (ld_begun, .inl (cI, 16, .inl ld_begun_c)), (ch_then, .inl (cJ, 16, .inr (.inl ch_then_c)))] s.heap := hP
  refine lv_aload_n hx hb dX1_goThrough_0 rfl (lv_at hl 0 rfl) ?_
  refine lv_aload_n hx hb dX1_goThrough_1 rfl (lv_at hl 1 rfl) ?_
  refine lv_iload_n hx hb dX1_goThrough_2 rfl (lv_at hl 2 rfl) ?_
  refine lv_iconst (v := 0) hx hb dX1_goThrough_3 (by decide) ?_
  refine ro_i (va_runV (As := [.int p1, .int 0]) (rest := [.ref ch]) ⟨hx, hb, hml, hown, hts⟩ (q_X4_ruleOfSide l g cI cJ cB cZ cL p1 0 ld ld_lines ld_years ld_card ld_hurt ld_people ld_pairs ld_strikes ld_rule ld_returns ld_forgets ld_death ld_move ld_begun ld_who ld_lost ld_who_c ld_rule_c ld_returns_c s.heap.size hv_p1 (by decide) hv_ld_years hv_ld_people hv_ld_pairs ha_ld_who_c) (cwV 2 hts (goodIn_app (g_4 (List.mem_cons_of_mem _ (List.mem_append_left _ (List.mem_of_getElem? (i := 0) rfl))) (List.mem_cons_of_mem _ (List.mem_append_left _ (List.mem_of_getElem? (i := 1) rfl))) (List.mem_cons_of_mem _ (List.mem_append_left _ (List.mem_of_getElem? (i := 2) rfl))) (List.mem_cons_of_mem _ (List.mem_append_left _ (List.mem_of_getElem? (i := 3) rfl))) (by decide +kernel)) (goodIn_sub (fun _ h => List.mem_cons_of_mem _ (List.mem_append_right _ (List.mem_append_left _ h))) good_v_X4_ruleOfSide)) rfl rfl rfl (by decide +kernel) ⟨Nat.le_of_ble_eq_true rfl, Nat.le_of_ble_eq_true rfl⟩) (pv_RO (q := (RX4, TX4, 15)) (ci := 4) (q0 := 0) (wc := [(ld, .inr (4, [.int ld_lines, .int ld_years, .int ld_card, .int ld_hurt, .int ld_people, .int ld_pairs, .long ld_strikes, .ref ld_rule, .ref ld_returns, .ref ld_forgets, .ref ld_death, .ref ld_move, .ref ld_begun, .ref ld_who, .ref ld_lost])), (ld_who, .inl (cI, 32, .inl ld_who_c)), (ld_rule, .inl (cI, 10, .inl ld_rule_c)), (ld_returns, .inl (cI, 10, .inl ld_returns_c))]) hK hP [0, 1, 2, 3] rfl rfl rfl) rfl rfl hl.1 rfl (lv_room (Nat.le_of_ble_eq_true rfl)) dX1_goThrough_4 ⟨Nat.le_of_ble_eq_true rfl, Nat.le_of_ble_eq_true rfl⟩) hS hA hP (fun r4 u4 H locs hw4 hP hS => ?_)
  refine va_put (D := g) (ci := 1) (v := .int r4) (ty := .int) (C := RX1) (T := TX1) (N := 9) hx hb hts iX1 tyX1 tyX1_ok nmX1 hown hK hP hD hS 4 rfl rfl 4 (by decide) (hts (.fieldLink RX1 28 "CardsAtYule$Chances" "rule0" "I") (List.mem_cons_of_mem _ (List.mem_append_left _ (List.mem_of_getElem? (i := 4) rfl)))) (fun _ h9 => h9) rfl (by decide +kernel) rfl rfl (Nat.le_of_ble_eq_true rfl) dX1_goThrough_7 (fun H locs hP hD hS => ?_)
  have hP : va_P g vwCl [(ld, .inr (4, [.int ld_lines, .int ld_years, .int ld_card, .int ld_hurt, .int ld_people, .int ld_pairs, .long ld_strikes, .ref ld_rule, .ref ld_returns, .ref ld_forgets, .ref ld_death, .ref ld_move, .ref ld_begun, .ref ld_who, .ref ld_lost])), (ld_who, .inl (cI, 32, .inl ld_who_c)), (ld_rule, .inl (cI, 10, .inl ld_rule_c)), (ld_returns, .inl (cI, 10, .inl ld_returns_c)), (ch, .inr (1, [.long ch_any, .long ch_bothSend, .long ch_cardsSent, .long ch_below, .int r4, .int ch_rule1, .ref ch_forgets, .ref ch_now, .ref ch_then])), (ld_forgets, .inl (cI, 10, .inl ld_forgets_c)), (ch_forgets, .inl (cI, 2, .inl ch_forgets_c)), (ch_now, .inl (cJ, 16, .inr (.inl ch_now_c))), (ld_begun, .inl (cI, 16, .inl ld_begun_c)), (ch_then, .inl (cJ, 16, .inr (.inl ch_then_c)))] H := hP
  have hD : va_D A [(ld, .inr (4, [.int ld_lines, .int ld_years, .int ld_card, .int ld_hurt, .int ld_people, .int ld_pairs, .long ld_strikes, .ref ld_rule, .ref ld_returns, .ref ld_forgets, .ref ld_death, .ref ld_move, .ref ld_begun, .ref ld_who, .ref ld_lost])), (ld_who, .inl (cI, 32, .inl ld_who_c)), (ld_rule, .inl (cI, 10, .inl ld_rule_c)), (ld_returns, .inl (cI, 10, .inl ld_returns_c)), (ch, .inr (1, [.long ch_any, .long ch_bothSend, .long ch_cardsSent, .long ch_below, .int r4, .int ch_rule1, .ref ch_forgets, .ref ch_now, .ref ch_then])), (ld_forgets, .inl (cI, 10, .inl ld_forgets_c)), (ch_forgets, .inl (cI, 2, .inl ch_forgets_c)), (ch_now, .inl (cJ, 16, .inr (.inl ch_now_c))), (ld_begun, .inl (cI, 16, .inl ld_begun_c)), (ch_then, .inl (cJ, 16, .inr (.inl ch_then_c)))] := hD
  refine lv_aload_n hx hb dX1_goThrough_10 rfl (lv_at hl 0 rfl) ?_
  refine lv_aload_n hx hb dX1_goThrough_11 rfl (lv_at hl 1 rfl) ?_
  refine lv_iload_n hx hb dX1_goThrough_12 rfl (lv_at hl 2 rfl) ?_
  refine lv_iconst (v := 1) hx hb dX1_goThrough_13 (by decide) ?_
  refine ro_i (va_runV (As := [.int p1, .int 1]) (rest := [.ref ch]) ⟨hx, hb, hml, hown, hts⟩ (q_X4_ruleOfSide l g cI cJ cB cZ cL p1 1 ld ld_lines ld_years ld_card ld_hurt ld_people ld_pairs ld_strikes ld_rule ld_returns ld_forgets ld_death ld_move ld_begun ld_who ld_lost ld_who_c ld_rule_c ld_returns_c H.size hv_p1 (by decide) hv_ld_years hv_ld_people hv_ld_pairs ha_ld_who_c) (cwV 2 hts (goodIn_app (g_4 (List.mem_cons_of_mem _ (List.mem_append_left _ (List.mem_of_getElem? (i := 0) rfl))) (List.mem_cons_of_mem _ (List.mem_append_left _ (List.mem_of_getElem? (i := 1) rfl))) (List.mem_cons_of_mem _ (List.mem_append_left _ (List.mem_of_getElem? (i := 2) rfl))) (List.mem_cons_of_mem _ (List.mem_append_left _ (List.mem_of_getElem? (i := 3) rfl))) (by decide +kernel)) (goodIn_sub (fun _ h => List.mem_cons_of_mem _ (List.mem_append_right _ (List.mem_append_left _ h))) good_v_X4_ruleOfSide)) rfl rfl rfl (by decide +kernel) ⟨Nat.le_of_ble_eq_true rfl, Nat.le_of_ble_eq_true rfl⟩) (pv_RO (q := (RX4, TX4, 15)) (ci := 4) (q0 := 0) (wc := [(ld, .inr (4, [.int ld_lines, .int ld_years, .int ld_card, .int ld_hurt, .int ld_people, .int ld_pairs, .long ld_strikes, .ref ld_rule, .ref ld_returns, .ref ld_forgets, .ref ld_death, .ref ld_move, .ref ld_begun, .ref ld_who, .ref ld_lost])), (ld_who, .inl (cI, 32, .inl ld_who_c)), (ld_rule, .inl (cI, 10, .inl ld_rule_c)), (ld_returns, .inl (cI, 10, .inl ld_returns_c))]) hK hP [0, 1, 2, 3] rfl rfl rfl) rfl rfl hl.1 rfl (lv_room (Nat.le_of_ble_eq_true rfl)) dX1_goThrough_14 ⟨Nat.le_of_ble_eq_true rfl, Nat.le_of_ble_eq_true rfl⟩) hS hA hP (fun r14 u14 H locs hw14 hP hS => ?_)
  refine va_put (D := g) (ci := 1) (v := .int r14) (ty := .int) (C := RX1) (T := TX1) (N := 9) hx hb hts iX1 tyX1 tyX1_ok nmX1 hown hK hP hD hS 4 rfl rfl 5 (by decide) (hts (.fieldLink RX1 32 "CardsAtYule$Chances" "rule1" "I") (List.mem_cons_of_mem _ (List.mem_append_left _ (List.mem_of_getElem? (i := 5) rfl)))) (fun _ h9 => h9) rfl (by decide +kernel) rfl rfl (Nat.le_of_ble_eq_true rfl) dX1_goThrough_17 (fun H locs hP hD hS => ?_)
  have hP : va_P g vwCl [(ld, .inr (4, [.int ld_lines, .int ld_years, .int ld_card, .int ld_hurt, .int ld_people, .int ld_pairs, .long ld_strikes, .ref ld_rule, .ref ld_returns, .ref ld_forgets, .ref ld_death, .ref ld_move, .ref ld_begun, .ref ld_who, .ref ld_lost])), (ld_who, .inl (cI, 32, .inl ld_who_c)), (ld_rule, .inl (cI, 10, .inl ld_rule_c)), (ld_returns, .inl (cI, 10, .inl ld_returns_c)), (ch, .inr (1, [.long ch_any, .long ch_bothSend, .long ch_cardsSent, .long ch_below, .int r4, .int r14, .ref ch_forgets, .ref ch_now, .ref ch_then])), (ld_forgets, .inl (cI, 10, .inl ld_forgets_c)), (ch_forgets, .inl (cI, 2, .inl ch_forgets_c)), (ch_now, .inl (cJ, 16, .inr (.inl ch_now_c))), (ld_begun, .inl (cI, 16, .inl ld_begun_c)), (ch_then, .inl (cJ, 16, .inr (.inl ch_then_c)))] H := hP
  have hD : va_D A [(ld, .inr (4, [.int ld_lines, .int ld_years, .int ld_card, .int ld_hurt, .int ld_people, .int ld_pairs, .long ld_strikes, .ref ld_rule, .ref ld_returns, .ref ld_forgets, .ref ld_death, .ref ld_move, .ref ld_begun, .ref ld_who, .ref ld_lost])), (ld_who, .inl (cI, 32, .inl ld_who_c)), (ld_rule, .inl (cI, 10, .inl ld_rule_c)), (ld_returns, .inl (cI, 10, .inl ld_returns_c)), (ch, .inr (1, [.long ch_any, .long ch_bothSend, .long ch_cardsSent, .long ch_below, .int r4, .int r14, .ref ch_forgets, .ref ch_now, .ref ch_then])), (ld_forgets, .inl (cI, 10, .inl ld_forgets_c)), (ch_forgets, .inl (cI, 2, .inl ch_forgets_c)), (ch_now, .inl (cJ, 16, .inr (.inl ch_now_c))), (ld_begun, .inl (cI, 16, .inl ld_begun_c)), (ch_then, .inl (cJ, 16, .inr (.inl ch_then_c)))] := hD
  refine lv_aload_n hx hb dX1_goThrough_20 rfl (lv_at hl 0 rfl) ?_
  refine va_get (D := g) (ci := 1) (v := .ref ch_forgets) (C := RX1) (T := TX1) (N := 9) hx hb hts iX1 hown hK hP 4 rfl rfl 6 (by decide) (hts (.fieldLink RX1 9 "CardsAtYule$Chances" "forgets" "[I") (List.mem_cons_of_mem _ (List.mem_append_left _ (List.mem_of_getElem? (i := 6) rfl)))) (fun _ h9 => h9) rfl dX1_goThrough_21 ?_
  refine lv_iconst (v := 0) hx hb dX1_goThrough_24 (by decide) ?_
  refine lv_aload_n hx hb dX1_goThrough_25 rfl (lv_at hl 1 rfl) ?_
  refine va_get (D := g) (ci := 4) (v := .ref ld_forgets) (C := RX4) (T := TX4) (N := 15) hx hb hts iX4 hown hK hP 0 rfl rfl 9 (by decide) (hts (.fieldLink RX1 35 "CardsAtYule$Land" "forgets" "[I") (List.mem_cons_of_mem _ (List.mem_append_left _ (List.mem_of_getElem? (i := 7) rfl)))) (fun _ h9 => h9) rfl dX1_goThrough_26 ?_
  refine lv_aload_n hx hb dX1_goThrough_29 rfl (lv_at hl 1 rfl) ?_
  refine va_get (D := g) (ci := 4) (v := .ref ld_who) (C := RX4) (T := TX4) (N := 15) hx hb hts iX4 hown hK hP 0 rfl rfl 13 (by decide) (hts (.fieldLink RX1 36 "CardsAtYule$Land" "who" "[I") (List.mem_cons_of_mem _ (List.mem_append_left _ (List.mem_of_getElem? (i := 8) rfl)))) (fun _ h9 => h9) rfl dX1_goThrough_30 ?_
  refine lv_iconst (v := 2) hx hb dX1_goThrough_33 (by decide) ?_
  refine lv_iload_n hx hb dX1_goThrough_34 rfl (lv_at hl 2 rfl) ?_
  refine lv_imul hx hb dX1_goThrough_35 ?_
  refine lv_topi (fun y35 e35 => ?_)
  have q35 : y35.toInt = 2 * p1.toInt := by rw [e35]; exact mu_z rfl rfl (ir_c 2) hv_p1 (by decide) (by decide) (by decide)
  have r35 : ir y35.toInt 0 30 := mu_r q35 (ir_c 2) hv_p1 (by decide) (by decide) (by decide) (by decide)
  refine va_iald (D := g) hx hb hK hP 1 0 rfl rfl (vi_rg rfl r35 (by decide) (by decide)) dX1_goThrough_36 ?_
  refine lv_topi (fun y36 e36 => ?_)
  have r36 : ir y36.toInt 0 9 := by rw [e36]; exact ha_ld_who_c _ (vi_cl (vi_rg rfl r35 (by decide) (by decide)))
  refine va_iald (D := g) hx hb hK hP 5 0 rfl rfl (vi_rg rfl r36 (by decide) (by decide)) dX1_goThrough_37 ?_
  refine lv_topi (fun y37 e37 => ?_)
  refine va_iast (D := g) hx hb hK hP hD hS 6 0 rfl rfl (vc_in (by decide)) dX1_goThrough_38 (fun H locs hP hD hS => ?_)
  obtain ⟨g38, e38⟩ : ∃ z, z = upd ch_forgets_c 0 y37 := ⟨_, rfl⟩
  have hP : va_P g vwCl [(ld, .inr (4, [.int ld_lines, .int ld_years, .int ld_card, .int ld_hurt, .int ld_people, .int ld_pairs, .long ld_strikes, .ref ld_rule, .ref ld_returns, .ref ld_forgets, .ref ld_death, .ref ld_move, .ref ld_begun, .ref ld_who, .ref ld_lost])), (ld_who, .inl (cI, 32, .inl ld_who_c)), (ld_rule, .inl (cI, 10, .inl ld_rule_c)), (ld_returns, .inl (cI, 10, .inl ld_returns_c)), (ch, .inr (1, [.long ch_any, .long ch_bothSend, .long ch_cardsSent, .long ch_below, .int r4, .int r14, .ref ch_forgets, .ref ch_now, .ref ch_then])), (ld_forgets, .inl (cI, 10, .inl ld_forgets_c)), (ch_forgets, .inl (cI, 2, .inl (upd ch_forgets_c 0 y37))), (ch_now, .inl (cJ, 16, .inr (.inl ch_now_c))), (ld_begun, .inl (cI, 16, .inl ld_begun_c)), (ch_then, .inl (cJ, 16, .inr (.inl ch_then_c)))] H := hP
  have hD : va_D A [(ld, .inr (4, [.int ld_lines, .int ld_years, .int ld_card, .int ld_hurt, .int ld_people, .int ld_pairs, .long ld_strikes, .ref ld_rule, .ref ld_returns, .ref ld_forgets, .ref ld_death, .ref ld_move, .ref ld_begun, .ref ld_who, .ref ld_lost])), (ld_who, .inl (cI, 32, .inl ld_who_c)), (ld_rule, .inl (cI, 10, .inl ld_rule_c)), (ld_returns, .inl (cI, 10, .inl ld_returns_c)), (ch, .inr (1, [.long ch_any, .long ch_bothSend, .long ch_cardsSent, .long ch_below, .int r4, .int r14, .ref ch_forgets, .ref ch_now, .ref ch_then])), (ld_forgets, .inl (cI, 10, .inl ld_forgets_c)), (ch_forgets, .inl (cI, 2, .inl (upd ch_forgets_c 0 y37))), (ch_now, .inl (cJ, 16, .inr (.inl ch_now_c))), (ld_begun, .inl (cI, 16, .inl ld_begun_c)), (ch_then, .inl (cJ, 16, .inr (.inl ch_then_c)))] := hD
  rw [← e38] at hP hD
  refine lv_aload_n hx hb dX1_goThrough_39 rfl (lv_at hl 0 rfl) ?_
  refine va_get (D := g) (ci := 1) (v := .ref ch_forgets) (C := RX1) (T := TX1) (N := 9) hx hb hts iX1 hown hK hP 4 rfl rfl 6 (by decide) (hts (.fieldLink RX1 9 "CardsAtYule$Chances" "forgets" "[I") (List.mem_cons_of_mem _ (List.mem_append_left _ (List.mem_of_getElem? (i := 6) rfl)))) (fun _ h9 => h9) rfl dX1_goThrough_40 ?_
  refine lv_iconst (v := 1) hx hb dX1_goThrough_43 (by decide) ?_
  refine lv_aload_n hx hb dX1_goThrough_44 rfl (lv_at hl 1 rfl) ?_
  refine va_get (D := g) (ci := 4) (v := .ref ld_forgets) (C := RX4) (T := TX4) (N := 15) hx hb hts iX4 hown hK hP 0 rfl rfl 9 (by decide) (hts (.fieldLink RX1 35 "CardsAtYule$Land" "forgets" "[I") (List.mem_cons_of_mem _ (List.mem_append_left _ (List.mem_of_getElem? (i := 7) rfl)))) (fun _ h9 => h9) rfl dX1_goThrough_45 ?_
  refine lv_aload_n hx hb dX1_goThrough_48 rfl (lv_at hl 1 rfl) ?_
  refine va_get (D := g) (ci := 4) (v := .ref ld_who) (C := RX4) (T := TX4) (N := 15) hx hb hts iX4 hown hK hP 0 rfl rfl 13 (by decide) (hts (.fieldLink RX1 36 "CardsAtYule$Land" "who" "[I") (List.mem_cons_of_mem _ (List.mem_append_left _ (List.mem_of_getElem? (i := 8) rfl)))) (fun _ h9 => h9) rfl dX1_goThrough_49 ?_
  refine lv_iconst (v := 2) hx hb dX1_goThrough_52 (by decide) ?_
  refine lv_iload_n hx hb dX1_goThrough_53 rfl (lv_at hl 2 rfl) ?_
  refine lv_imul hx hb dX1_goThrough_54 ?_
  refine lv_topi (fun y54 e54 => ?_)
  have q54 : y54.toInt = 2 * p1.toInt := by rw [e54]; exact mu_z rfl rfl (ir_c 2) hv_p1 (by decide) (by decide) (by decide)
  have r54 : ir y54.toInt 0 30 := mu_r q54 (ir_c 2) hv_p1 (by decide) (by decide) (by decide) (by decide)
  refine lv_iconst (v := 1) hx hb dX1_goThrough_55 (by decide) ?_
  refine lv_iadd hx hb dX1_goThrough_56 ?_
  refine lv_topi (fun y56 e56 => ?_)
  have q56 : y56.toInt = y54.toInt + 1 := by rw [e56]; exact ad_z rfl rfl r54 (ir_c 1) (by decide) (by decide)
  have r56 : ir y56.toInt 1 31 := ad_r q56 r54 (ir_c 1) (by decide) (by decide)
  refine va_iald (D := g) hx hb hK hP 1 0 rfl rfl (vi_rg rfl r56 (by decide) (by decide)) dX1_goThrough_57 ?_
  refine lv_topi (fun y57 e57 => ?_)
  have r57 : ir y57.toInt 0 9 := by rw [e57]; exact ha_ld_who_c _ (vi_cl (vi_rg rfl r56 (by decide) (by decide)))
  refine va_iald (D := g) hx hb hK hP 5 0 rfl rfl (vi_rg rfl r57 (by decide) (by decide)) dX1_goThrough_58 ?_
  refine lv_topi (fun y58 e58 => ?_)
  refine va_iast (D := g) hx hb hK hP hD hS 6 0 rfl rfl (vc_in (by decide)) dX1_goThrough_59 (fun H locs hP hD hS => ?_)
  obtain ⟨g59, e59⟩ : ∃ z, z = upd g38 1 y58 := ⟨_, rfl⟩
  have hP : va_P g vwCl [(ld, .inr (4, [.int ld_lines, .int ld_years, .int ld_card, .int ld_hurt, .int ld_people, .int ld_pairs, .long ld_strikes, .ref ld_rule, .ref ld_returns, .ref ld_forgets, .ref ld_death, .ref ld_move, .ref ld_begun, .ref ld_who, .ref ld_lost])), (ld_who, .inl (cI, 32, .inl ld_who_c)), (ld_rule, .inl (cI, 10, .inl ld_rule_c)), (ld_returns, .inl (cI, 10, .inl ld_returns_c)), (ch, .inr (1, [.long ch_any, .long ch_bothSend, .long ch_cardsSent, .long ch_below, .int r4, .int r14, .ref ch_forgets, .ref ch_now, .ref ch_then])), (ld_forgets, .inl (cI, 10, .inl ld_forgets_c)), (ch_forgets, .inl (cI, 2, .inl (upd g38 1 y58))), (ch_now, .inl (cJ, 16, .inr (.inl ch_now_c))), (ld_begun, .inl (cI, 16, .inl ld_begun_c)), (ch_then, .inl (cJ, 16, .inr (.inl ch_then_c)))] H := hP
  have hD : va_D A [(ld, .inr (4, [.int ld_lines, .int ld_years, .int ld_card, .int ld_hurt, .int ld_people, .int ld_pairs, .long ld_strikes, .ref ld_rule, .ref ld_returns, .ref ld_forgets, .ref ld_death, .ref ld_move, .ref ld_begun, .ref ld_who, .ref ld_lost])), (ld_who, .inl (cI, 32, .inl ld_who_c)), (ld_rule, .inl (cI, 10, .inl ld_rule_c)), (ld_returns, .inl (cI, 10, .inl ld_returns_c)), (ch, .inr (1, [.long ch_any, .long ch_bothSend, .long ch_cardsSent, .long ch_below, .int r4, .int r14, .ref ch_forgets, .ref ch_now, .ref ch_then])), (ld_forgets, .inl (cI, 10, .inl ld_forgets_c)), (ch_forgets, .inl (cI, 2, .inl (upd g38 1 y58))), (ch_now, .inl (cJ, 16, .inr (.inl ch_now_c))), (ld_begun, .inl (cI, 16, .inl ld_begun_c)), (ch_then, .inl (cJ, 16, .inr (.inl ch_then_c)))] := hD
  rw [← e59] at hP hD
  refine lv_aload_n hx hb dX1_goThrough_60 rfl (lv_at hl 0 rfl) ?_
  refine lv_lconst (v := 1) hx hb dX1_goThrough_61 (by decide) ?_
  refine va_put (D := g) (ci := 1) (v := .long 1) (ty := .long) (C := RX1) (T := TX1) (N := 9) hx hb hts iX1 tyX1 tyX1_ok nmX1 hown hK hP hD hS 4 rfl rfl 3 (by decide) (hts (.fieldLink RX1 39 "CardsAtYule$Chances" "below" "J") (List.mem_cons_of_mem _ (List.mem_append_left _ (List.mem_of_getElem? (i := 9) rfl)))) (fun _ h9 => h9) rfl (by decide +kernel) rfl rfl (Nat.le_of_ble_eq_true rfl) dX1_goThrough_62 (fun H locs hP hD hS => ?_)
  have hP : va_P g vwCl [(ld, .inr (4, [.int ld_lines, .int ld_years, .int ld_card, .int ld_hurt, .int ld_people, .int ld_pairs, .long ld_strikes, .ref ld_rule, .ref ld_returns, .ref ld_forgets, .ref ld_death, .ref ld_move, .ref ld_begun, .ref ld_who, .ref ld_lost])), (ld_who, .inl (cI, 32, .inl ld_who_c)), (ld_rule, .inl (cI, 10, .inl ld_rule_c)), (ld_returns, .inl (cI, 10, .inl ld_returns_c)), (ch, .inr (1, [.long ch_any, .long ch_bothSend, .long ch_cardsSent, .long 1, .int r4, .int r14, .ref ch_forgets, .ref ch_now, .ref ch_then])), (ld_forgets, .inl (cI, 10, .inl ld_forgets_c)), (ch_forgets, .inl (cI, 2, .inl g59)), (ch_now, .inl (cJ, 16, .inr (.inl ch_now_c))), (ld_begun, .inl (cI, 16, .inl ld_begun_c)), (ch_then, .inl (cJ, 16, .inr (.inl ch_then_c)))] H := hP
  have hD : va_D A [(ld, .inr (4, [.int ld_lines, .int ld_years, .int ld_card, .int ld_hurt, .int ld_people, .int ld_pairs, .long ld_strikes, .ref ld_rule, .ref ld_returns, .ref ld_forgets, .ref ld_death, .ref ld_move, .ref ld_begun, .ref ld_who, .ref ld_lost])), (ld_who, .inl (cI, 32, .inl ld_who_c)), (ld_rule, .inl (cI, 10, .inl ld_rule_c)), (ld_returns, .inl (cI, 10, .inl ld_returns_c)), (ch, .inr (1, [.long ch_any, .long ch_bothSend, .long ch_cardsSent, .long 1, .int r4, .int r14, .ref ch_forgets, .ref ch_now, .ref ch_then])), (ld_forgets, .inl (cI, 10, .inl ld_forgets_c)), (ch_forgets, .inl (cI, 2, .inl g59)), (ch_now, .inl (cJ, 16, .inr (.inl ch_now_c))), (ld_begun, .inl (cI, 16, .inl ld_begun_c)), (ch_then, .inl (cJ, 16, .inr (.inl ch_then_c)))] := hD
  refine lv_aload_n hx hb dX1_goThrough_65 rfl (lv_at hl 0 rfl) ?_
  refine lv_lconst (v := 0) hx hb dX1_goThrough_66 (by decide) ?_
  refine va_put (D := g) (ci := 1) (v := .long 0) (ty := .long) (C := RX1) (T := TX1) (N := 9) hx hb hts iX1 tyX1 tyX1_ok nmX1 hown hK hP hD hS 4 rfl rfl 2 (by decide) (hts (.fieldLink RX1 43 "CardsAtYule$Chances" "cardsSent" "J") (List.mem_cons_of_mem _ (List.mem_append_left _ (List.mem_of_getElem? (i := 10) rfl)))) (fun _ h9 => h9) rfl (by decide +kernel) rfl rfl (Nat.le_of_ble_eq_true rfl) dX1_goThrough_67 (fun H locs hP hD hS => ?_)
  have hP : va_P g vwCl [(ld, .inr (4, [.int ld_lines, .int ld_years, .int ld_card, .int ld_hurt, .int ld_people, .int ld_pairs, .long ld_strikes, .ref ld_rule, .ref ld_returns, .ref ld_forgets, .ref ld_death, .ref ld_move, .ref ld_begun, .ref ld_who, .ref ld_lost])), (ld_who, .inl (cI, 32, .inl ld_who_c)), (ld_rule, .inl (cI, 10, .inl ld_rule_c)), (ld_returns, .inl (cI, 10, .inl ld_returns_c)), (ch, .inr (1, [.long ch_any, .long ch_bothSend, .long 0, .long 1, .int r4, .int r14, .ref ch_forgets, .ref ch_now, .ref ch_then])), (ld_forgets, .inl (cI, 10, .inl ld_forgets_c)), (ch_forgets, .inl (cI, 2, .inl g59)), (ch_now, .inl (cJ, 16, .inr (.inl ch_now_c))), (ld_begun, .inl (cI, 16, .inl ld_begun_c)), (ch_then, .inl (cJ, 16, .inr (.inl ch_then_c)))] H := hP
  have hD : va_D A [(ld, .inr (4, [.int ld_lines, .int ld_years, .int ld_card, .int ld_hurt, .int ld_people, .int ld_pairs, .long ld_strikes, .ref ld_rule, .ref ld_returns, .ref ld_forgets, .ref ld_death, .ref ld_move, .ref ld_begun, .ref ld_who, .ref ld_lost])), (ld_who, .inl (cI, 32, .inl ld_who_c)), (ld_rule, .inl (cI, 10, .inl ld_rule_c)), (ld_returns, .inl (cI, 10, .inl ld_returns_c)), (ch, .inr (1, [.long ch_any, .long ch_bothSend, .long 0, .long 1, .int r4, .int r14, .ref ch_forgets, .ref ch_now, .ref ch_then])), (ld_forgets, .inl (cI, 10, .inl ld_forgets_c)), (ch_forgets, .inl (cI, 2, .inl g59)), (ch_now, .inl (cJ, 16, .inr (.inl ch_now_c))), (ld_begun, .inl (cI, 16, .inl ld_begun_c)), (ch_then, .inl (cJ, 16, .inr (.inl ch_then_c)))] := hD
  refine lv_aload_n hx hb dX1_goThrough_70 rfl (lv_at hl 0 rfl) ?_
  refine va_get (D := g) (ci := 1) (v := .ref ch_now) (C := RX1) (T := TX1) (N := 9) hx hb hts iX1 hown hK hP 4 rfl rfl 7 (by decide) (hts (.fieldLink RX1 15 "CardsAtYule$Chances" "now" "[J") (List.mem_cons_of_mem _ (List.mem_append_left _ (List.mem_of_getElem? (i := 11) rfl)))) (fun _ h9 => h9) rfl dX1_goThrough_71 ?_
  refine lv_lconst (v := 0) hx hb dX1_goThrough_74 (by decide) ?_
  refine rw_v (wr := [(ld, .inr (4, [.int ld_lines, .int ld_years, .int ld_card, .int ld_hurt, .int ld_people, .int ld_pairs, .long ld_strikes, .ref ld_rule, .ref ld_returns, .ref ld_forgets, .ref ld_death, .ref ld_move, .ref ld_begun, .ref ld_who, .ref ld_lost])), (ld_who, .inl (cI, 32, .inl ld_who_c)), (ld_rule, .inl (cI, 10, .inl ld_rule_c)), (ld_returns, .inl (cI, 10, .inl ld_returns_c)), (ch, .inr (1, [.long ch_any, .long ch_bothSend, .long 0, .long 1, .int r4, .int r14, .ref ch_forgets, .ref ch_now, .ref ch_then])), (ld_forgets, .inl (cI, 10, .inl ld_forgets_c)), (ch_forgets, .inl (cI, 2, .inl g59)), (ld_begun, .inl (cI, 16, .inl ld_begun_c)), (ch_then, .inl (cJ, 16, .inr (.inl ch_then_c)))]) (va_runS (As := [.ref ch_now, .long 0]) (rest := []) ⟨hx, hb, hml, hown, hts⟩ (q_J7_fillj16 l g cI cJ cB cZ cL 0 ch_now ch_now_c H.size ) (va_cwS 2 hts (goodIn_app (g_3 (List.mem_cons_of_mem _ (List.mem_append_left _ (List.mem_of_getElem? (i := 12) rfl))) (List.mem_cons_of_mem _ (List.mem_append_left _ (List.mem_of_getElem? (i := 13) rfl))) (List.mem_cons_of_mem _ (List.mem_append_left _ (List.mem_of_getElem? (i := 14) rfl))) (by decide +kernel)) (goodIn_sub (fun _ h => List.mem_cons_of_mem _ (List.mem_append_right _ (List.mem_append_right _ (List.mem_append_left _ h)))) good_v_J7_fillj16)) rfl rfl rfl (by decide +kernel) ⟨Nat.le_of_ble_eq_true rfl, Nat.le_of_ble_eq_true rfl⟩) (ps_RW (wc := [(ch_now, .inl (cJ, 16, .inr (.inl ch_now_c)))]) hK hP hD [7] (by decide) rfl) rfl rfl hl.1 rfl (lv_room (Nat.le_of_ble_eq_true rfl)) dX1_goThrough_75 ⟨Nat.le_of_ble_eq_true rfl, Nat.le_of_ble_eq_true rfl⟩) hS hA hP hD [7] [0, 1, 2, 3, 4, 5, 6, 8, 9] rfl rfl (by decide) (by decide) (fun u75 H locs hw75 hP hD hS => ?_)
  generalize u75 = n_r0_c_75 at hw75 hP hD
  have hP : va_P g vwCl [(ld, .inr (4, [.int ld_lines, .int ld_years, .int ld_card, .int ld_hurt, .int ld_people, .int ld_pairs, .long ld_strikes, .ref ld_rule, .ref ld_returns, .ref ld_forgets, .ref ld_death, .ref ld_move, .ref ld_begun, .ref ld_who, .ref ld_lost])), (ld_who, .inl (cI, 32, .inl ld_who_c)), (ld_rule, .inl (cI, 10, .inl ld_rule_c)), (ld_returns, .inl (cI, 10, .inl ld_returns_c)), (ch, .inr (1, [.long ch_any, .long ch_bothSend, .long 0, .long 1, .int r4, .int r14, .ref ch_forgets, .ref ch_now, .ref ch_then])), (ld_forgets, .inl (cI, 10, .inl ld_forgets_c)), (ch_forgets, .inl (cI, 2, .inl g59)), (ld_begun, .inl (cI, 16, .inl ld_begun_c)), (ch_then, .inl (cJ, 16, .inr (.inl ch_then_c))), (ch_now, .inl (cJ, 16, .inr (.inl n_r0_c_75)))] H := hP
  have hD : va_D A [(ld, .inr (4, [.int ld_lines, .int ld_years, .int ld_card, .int ld_hurt, .int ld_people, .int ld_pairs, .long ld_strikes, .ref ld_rule, .ref ld_returns, .ref ld_forgets, .ref ld_death, .ref ld_move, .ref ld_begun, .ref ld_who, .ref ld_lost])), (ld_who, .inl (cI, 32, .inl ld_who_c)), (ld_rule, .inl (cI, 10, .inl ld_rule_c)), (ld_returns, .inl (cI, 10, .inl ld_returns_c)), (ch, .inr (1, [.long ch_any, .long ch_bothSend, .long 0, .long 1, .int r4, .int r14, .ref ch_forgets, .ref ch_now, .ref ch_then])), (ld_forgets, .inl (cI, 10, .inl ld_forgets_c)), (ch_forgets, .inl (cI, 2, .inl g59)), (ld_begun, .inl (cI, 16, .inl ld_begun_c)), (ch_then, .inl (cJ, 16, .inr (.inl ch_then_c))), (ch_now, .inl (cJ, 16, .inr (.inl n_r0_c_75)))] := hD
  refine lv_aload_n hx hb dX1_goThrough_78 rfl (lv_at hl 0 rfl) ?_
  refine va_get (D := g) (ci := 1) (v := .ref ch_now) (C := RX1) (T := TX1) (N := 9) hx hb hts iX1 hown hK hP 4 rfl rfl 7 (by decide) (hts (.fieldLink RX1 15 "CardsAtYule$Chances" "now" "[J") (List.mem_cons_of_mem _ (List.mem_append_left _ (List.mem_of_getElem? (i := 11) rfl)))) (fun _ h9 => h9) rfl dX1_goThrough_79 ?_
  refine lv_aload_n hx hb dX1_goThrough_82 rfl (lv_at hl 1 rfl) ?_
  refine va_get (D := g) (ci := 4) (v := .ref ld_begun) (C := RX4) (T := TX4) (N := 15) hx hb hts iX4 hown hK hP 0 rfl rfl 12 (by decide) (hts (.fieldLink RX1 52 "CardsAtYule$Land" "begun" "[I") (List.mem_cons_of_mem _ (List.mem_append_left _ (List.mem_of_getElem? (i := 15) rfl)))) (fun _ h9 => h9) rfl dX1_goThrough_83 ?_
  refine lv_iload_n hx hb dX1_goThrough_86 rfl (lv_at hl 2 rfl) ?_
  refine va_iald (D := g) hx hb hK hP 7 0 rfl rfl (vi_rg rfl hv_p1 (by decide) (by decide)) dX1_goThrough_87 ?_
  refine lv_topi (fun y87 e87 => ?_)
  have r87 : ir y87.toInt 0 15 := by rw [e87]; exact ha_ld_begun_c _ (vi_cl (vi_rg rfl hv_p1 (by decide) (by decide)))
  refine lv_lconst (v := 1) hx hb dX1_goThrough_88 (by decide) ?_
  refine va_last (D := g) hx hb hK hP hD hS 9 1 rfl rfl (vi_rg rfl r87 (by decide) (by decide)) dX1_goThrough_89 (fun H locs hP hD hS => ?_)
  obtain ⟨g89, e89⟩ : ∃ z, z = vp_updL n_r0_c_75 y87.toNatClampNeg (1 : Int64) := ⟨_, rfl⟩
  have hP : va_P g vwCl [(ld, .inr (4, [.int ld_lines, .int ld_years, .int ld_card, .int ld_hurt, .int ld_people, .int ld_pairs, .long ld_strikes, .ref ld_rule, .ref ld_returns, .ref ld_forgets, .ref ld_death, .ref ld_move, .ref ld_begun, .ref ld_who, .ref ld_lost])), (ld_who, .inl (cI, 32, .inl ld_who_c)), (ld_rule, .inl (cI, 10, .inl ld_rule_c)), (ld_returns, .inl (cI, 10, .inl ld_returns_c)), (ch, .inr (1, [.long ch_any, .long ch_bothSend, .long 0, .long 1, .int r4, .int r14, .ref ch_forgets, .ref ch_now, .ref ch_then])), (ld_forgets, .inl (cI, 10, .inl ld_forgets_c)), (ch_forgets, .inl (cI, 2, .inl g59)), (ld_begun, .inl (cI, 16, .inl ld_begun_c)), (ch_then, .inl (cJ, 16, .inr (.inl ch_then_c))), (ch_now, .inl (cJ, 16, .inr (.inl (vp_updL n_r0_c_75 y87.toNatClampNeg (1 : Int64)))))] H := hP
  have hD : va_D A [(ld, .inr (4, [.int ld_lines, .int ld_years, .int ld_card, .int ld_hurt, .int ld_people, .int ld_pairs, .long ld_strikes, .ref ld_rule, .ref ld_returns, .ref ld_forgets, .ref ld_death, .ref ld_move, .ref ld_begun, .ref ld_who, .ref ld_lost])), (ld_who, .inl (cI, 32, .inl ld_who_c)), (ld_rule, .inl (cI, 10, .inl ld_rule_c)), (ld_returns, .inl (cI, 10, .inl ld_returns_c)), (ch, .inr (1, [.long ch_any, .long ch_bothSend, .long 0, .long 1, .int r4, .int r14, .ref ch_forgets, .ref ch_now, .ref ch_then])), (ld_forgets, .inl (cI, 10, .inl ld_forgets_c)), (ch_forgets, .inl (cI, 2, .inl g59)), (ld_begun, .inl (cI, 16, .inl ld_begun_c)), (ch_then, .inl (cJ, 16, .inr (.inl ch_then_c))), (ch_now, .inl (cJ, 16, .inr (.inl (vp_updL n_r0_c_75 y87.toNatClampNeg (1 : Int64)))))] := hD
  rw [← e89] at hP hD
  refine lv_iconst (v := 0) hx hb dX1_goThrough_90 (by decide) ?_
  refine lv_istore (lv' := [(4, .int 0), (0, .ref ch), (1, .ref ld), (2, .int p1), (3, .int p2)]) hx hb dX1_goThrough_91 hl (by decide) rfl (fun ls hl => ?_)
  refine lv_iload hx hb dX1_goThrough_93 (lv_at hl 0 rfl) ?_
  refine lv_iload_n hx hb dX1_goThrough_95 rfl (lv_at hl 4 rfl) ?_
  refine lv_icmp_ge (tgt := 109) hx hb dX1_goThrough_96 (by decide) (fun c96 => by exfalso; have f96 := (show p2.toInt ≤ 0 from z_le rfl rfl c96); have a9 := (ir_c 0); have b9 := hv_p2; omega) (fun c96 => ?_)
  have f96 := (show 0 < p2.toInt from z_nle rfl rfl c96)
  refine lv_aload_n hx hb dX1_goThrough_99 rfl (lv_at hl 1 rfl) ?_
  refine rw_v (wr := [(ld, .inr (4, [.int ld_lines, .int ld_years, .int ld_card, .int ld_hurt, .int ld_people, .int ld_pairs, .long ld_strikes, .ref ld_rule, .ref ld_returns, .ref ld_forgets, .ref ld_death, .ref ld_move, .ref ld_begun, .ref ld_who, .ref ld_lost])), (ld_who, .inl (cI, 32, .inl ld_who_c)), (ld_rule, .inl (cI, 10, .inl ld_rule_c)), (ld_returns, .inl (cI, 10, .inl ld_returns_c)), (ld_forgets, .inl (cI, 10, .inl ld_forgets_c)), (ld_begun, .inl (cI, 16, .inl ld_begun_c))]) (va_runV (As := []) (rest := []) ⟨hx, hb, hml, hown, hts⟩ (q_X1_goThroughYear l g cI cJ cB cZ cL ch ch_any ch_bothSend 0 1 r4 r14 ch_forgets ch_now ch_then ch_then_c g89 g59 H.size ) (cwV 0 hts (goodIn_app (g_4 (List.mem_cons_of_mem _ (List.mem_append_left _ (List.mem_of_getElem? (i := 16) rfl))) (List.mem_cons_of_mem _ (List.mem_append_left _ (List.mem_of_getElem? (i := 17) rfl))) (List.mem_cons_of_mem _ (List.mem_append_left _ (List.mem_of_getElem? (i := 18) rfl))) (List.mem_cons_of_mem _ (List.mem_append_left _ (List.mem_of_getElem? (i := 19) rfl))) (by decide +kernel)) (goodIn_sub (fun _ h => List.mem_cons_of_mem _ (List.mem_append_right _ (List.mem_append_right _ (List.mem_append_right _ (List.mem_append_left _ h))))) good_v_X1_goThroughYear)) rfl rfl rfl (by decide +kernel) ⟨Nat.le_of_ble_eq_true rfl, Nat.le_of_ble_eq_true rfl⟩) (pv_RW (q := (RX1, TX1, 9)) (ci := 1) (q0 := 0) (wc := [(ch, .inr (1, [.long ch_any, .long ch_bothSend, .long 0, .long 1, .int r4, .int r14, .ref ch_forgets, .ref ch_now, .ref ch_then])), (ch_then, .inl (cJ, 16, .inr (.inl ch_then_c))), (ch_now, .inl (cJ, 16, .inr (.inl g89))), (ch_forgets, .inl (cI, 2, .inl g59))]) hK hP hD [4, 8, 9, 6] (by decide) rfl rfl rfl) rfl rfl hl.1 rfl (lv_room (Nat.le_of_ble_eq_true rfl)) dX1_goThrough_100 ⟨Nat.le_of_ble_eq_true rfl, Nat.le_of_ble_eq_true rfl⟩) hS hA hP hD [4, 8, 9, 6] [0, 1, 2, 3, 5, 7] rfl rfl (by decide) (by decide) (fun u100 H locs hw100 hP hD hS => ?_)
  obtain ⟨n_ch_any_100, n_ch_bothSend_100, n_ch_cardsSent_100, n_ch_below_100, n_ch_now_100, n_ch_then_100, n_ch_then_c_100, n_ch_now_c_100⟩ := u100
  have hP : va_P g vwCl [(ld, .inr (4, [.int ld_lines, .int ld_years, .int ld_card, .int ld_hurt, .int ld_people, .int ld_pairs, .long ld_strikes, .ref ld_rule, .ref ld_returns, .ref ld_forgets, .ref ld_death, .ref ld_move, .ref ld_begun, .ref ld_who, .ref ld_lost])), (ld_who, .inl (cI, 32, .inl ld_who_c)), (ld_rule, .inl (cI, 10, .inl ld_rule_c)), (ld_returns, .inl (cI, 10, .inl ld_returns_c)), (ld_forgets, .inl (cI, 10, .inl ld_forgets_c)), (ld_begun, .inl (cI, 16, .inl ld_begun_c)), (ch, .inr (1, [.long n_ch_any_100, .long n_ch_bothSend_100, .long n_ch_cardsSent_100, .long n_ch_below_100, .int r4, .int r14, .ref ch_forgets, .ref n_ch_now_100, .ref n_ch_then_100])), (n_ch_then_100, .inl (cJ, 16, .inr (.inl n_ch_then_c_100))), (n_ch_now_100, .inl (cJ, 16, .inr (.inl n_ch_now_c_100))), (ch_forgets, .inl (cI, 2, .inl g59))] H := hP
  have hD : va_D A [(ld, .inr (4, [.int ld_lines, .int ld_years, .int ld_card, .int ld_hurt, .int ld_people, .int ld_pairs, .long ld_strikes, .ref ld_rule, .ref ld_returns, .ref ld_forgets, .ref ld_death, .ref ld_move, .ref ld_begun, .ref ld_who, .ref ld_lost])), (ld_who, .inl (cI, 32, .inl ld_who_c)), (ld_rule, .inl (cI, 10, .inl ld_rule_c)), (ld_returns, .inl (cI, 10, .inl ld_returns_c)), (ld_forgets, .inl (cI, 10, .inl ld_forgets_c)), (ld_begun, .inl (cI, 16, .inl ld_begun_c)), (ch, .inr (1, [.long n_ch_any_100, .long n_ch_bothSend_100, .long n_ch_cardsSent_100, .long n_ch_below_100, .int r4, .int r14, .ref ch_forgets, .ref n_ch_now_100, .ref n_ch_then_100])), (n_ch_then_100, .inl (cJ, 16, .inr (.inl n_ch_then_c_100))), (n_ch_now_100, .inl (cJ, 16, .inr (.inl n_ch_now_c_100))), (ch_forgets, .inl (cI, 2, .inl g59))] := hD
  refine lv_iinc (v := 1) (lv' := [(4, .int 1), (0, .ref ch), (1, .ref ld), (2, .int p1), (3, .int p2)]) hx hb dX1_goThrough_103 hl (k := 0) rfl (by decide) (by decide) rfl (fun ls hl => ?_)
  refine lv_goto (tgt := 93) hx hb dX1_goThrough_106 (by decide) ?_
  refine lv_iload hx hb dX1_goThrough_93 (lv_at hl 0 rfl) ?_
  refine lv_iload_n hx hb dX1_goThrough_95 rfl (lv_at hl 4 rfl) ?_
  refine lv_icmp_ge (tgt := 109) hx hb dX1_goThrough_96 (by decide) (fun c96 => ?_) (fun c96 => ?_)
  · have f96 := (show p2.toInt ≤ 1 from z_le rfl rfl c96)
    have r96b : ir p2.toInt 1 1 := ir_lea f96 hv_p2 (ir_c 1) (by decide)
    subst hQ
    have hP9 := hP.sub (ws' := [(ld, .inr (4, [.int ld_lines, .int ld_years, .int ld_card, .int ld_hurt, .int ld_people, .int ld_pairs, .long ld_strikes, .ref ld_rule, .ref ld_returns, .ref ld_forgets, .ref ld_death, .ref ld_move, .ref ld_begun, .ref ld_who, .ref ld_lost])), (ld_who, .inl (cI, 32, .inl ld_who_c)), (ld_rule, .inl (cI, 10, .inl ld_rule_c)), (ld_returns, .inl (cI, 10, .inl ld_returns_c)), (ch, .inr (1, [.long n_ch_any_100, .long n_ch_bothSend_100, .long n_ch_cardsSent_100, .long n_ch_below_100, .int r4, .int r14, .ref ch_forgets, .ref n_ch_now_100, .ref n_ch_then_100])), (ld_forgets, .inl (cI, 10, .inl ld_forgets_c)), (ch_forgets, .inl (cI, 2, .inl g59)), (n_ch_now_100, .inl (cJ, 16, .inr (.inl n_ch_now_c_100))), (ld_begun, .inl (cI, 16, .inl ld_begun_c)), (n_ch_then_100, .inl (cJ, 16, .inr (.inl n_ch_then_c_100)))]) [0, 1, 2, 3, 6, 4, 9, 8, 5, 7] rfl
    have hD9 := hD.sub (ws' := [(ld, .inr (4, [.int ld_lines, .int ld_years, .int ld_card, .int ld_hurt, .int ld_people, .int ld_pairs, .long ld_strikes, .ref ld_rule, .ref ld_returns, .ref ld_forgets, .ref ld_death, .ref ld_move, .ref ld_begun, .ref ld_who, .ref ld_lost])), (ld_who, .inl (cI, 32, .inl ld_who_c)), (ld_rule, .inl (cI, 10, .inl ld_rule_c)), (ld_returns, .inl (cI, 10, .inl ld_returns_c)), (ch, .inr (1, [.long n_ch_any_100, .long n_ch_bothSend_100, .long n_ch_cardsSent_100, .long n_ch_below_100, .int r4, .int r14, .ref ch_forgets, .ref n_ch_now_100, .ref n_ch_then_100])), (ld_forgets, .inl (cI, 10, .inl ld_forgets_c)), (ch_forgets, .inl (cI, 2, .inl g59)), (n_ch_now_100, .inl (cJ, 16, .inr (.inl n_ch_now_c_100))), (ld_begun, .inl (cI, 16, .inl ld_begun_c)), (n_ch_then_100, .inl (cJ, 16, .inr (.inl n_ch_then_c_100)))]) [0, 1, 2, 3, 6, 4, 9, 8, 5, 7] (by decide) rfl
    exact W.vret hx hb hr (fun t ht hW => ⟨⟨(n_ch_any_100, n_ch_bothSend_100, n_ch_cardsSent_100, n_ch_below_100, r4, r14, n_ch_now_100, n_ch_then_100, g59, n_ch_now_c_100, n_ch_then_c_100), rfl, trivial, ⟨by rw [ht]; exact hP9, va_K.moved hW.alike hK, hD9⟩⟩, hS.F ht⟩) hS.2.2 dX1_goThrough_109
  have f96 := (show 1 < p2.toInt from z_nle rfl rfl c96)
  have r96b : ir p2.toInt 2 3 := ir_ltb f96 (ir_c 1) hv_p2 (by decide)
  refine lv_aload_n hx hb dX1_goThrough_99 rfl (lv_at hl 1 rfl) ?_
  refine rw_v (wr := [(ld, .inr (4, [.int ld_lines, .int ld_years, .int ld_card, .int ld_hurt, .int ld_people, .int ld_pairs, .long ld_strikes, .ref ld_rule, .ref ld_returns, .ref ld_forgets, .ref ld_death, .ref ld_move, .ref ld_begun, .ref ld_who, .ref ld_lost])), (ld_who, .inl (cI, 32, .inl ld_who_c)), (ld_rule, .inl (cI, 10, .inl ld_rule_c)), (ld_returns, .inl (cI, 10, .inl ld_returns_c)), (ld_forgets, .inl (cI, 10, .inl ld_forgets_c)), (ld_begun, .inl (cI, 16, .inl ld_begun_c))]) (va_runV (As := []) (rest := []) ⟨hx, hb, hml, hown, hts⟩ (q_X1_goThroughYear l g cI cJ cB cZ cL ch n_ch_any_100 n_ch_bothSend_100 n_ch_cardsSent_100 n_ch_below_100 r4 r14 ch_forgets n_ch_now_100 n_ch_then_100 n_ch_then_c_100 n_ch_now_c_100 g59 H.size ) (cwV 0 hts (goodIn_app (g_4 (List.mem_cons_of_mem _ (List.mem_append_left _ (List.mem_of_getElem? (i := 16) rfl))) (List.mem_cons_of_mem _ (List.mem_append_left _ (List.mem_of_getElem? (i := 17) rfl))) (List.mem_cons_of_mem _ (List.mem_append_left _ (List.mem_of_getElem? (i := 18) rfl))) (List.mem_cons_of_mem _ (List.mem_append_left _ (List.mem_of_getElem? (i := 19) rfl))) (by decide +kernel)) (goodIn_sub (fun _ h => List.mem_cons_of_mem _ (List.mem_append_right _ (List.mem_append_right _ (List.mem_append_right _ (List.mem_append_left _ h))))) good_v_X1_goThroughYear)) rfl rfl rfl (by decide +kernel) ⟨Nat.le_of_ble_eq_true rfl, Nat.le_of_ble_eq_true rfl⟩) (pv_RW (q := (RX1, TX1, 9)) (ci := 1) (q0 := 0) (wc := [(ch, .inr (1, [.long n_ch_any_100, .long n_ch_bothSend_100, .long n_ch_cardsSent_100, .long n_ch_below_100, .int r4, .int r14, .ref ch_forgets, .ref n_ch_now_100, .ref n_ch_then_100])), (n_ch_then_100, .inl (cJ, 16, .inr (.inl n_ch_then_c_100))), (n_ch_now_100, .inl (cJ, 16, .inr (.inl n_ch_now_c_100))), (ch_forgets, .inl (cI, 2, .inl g59))]) hK hP hD [6, 7, 8, 9] (by decide) rfl rfl rfl) rfl rfl hl.1 rfl (lv_room (Nat.le_of_ble_eq_true rfl)) dX1_goThrough_100 ⟨Nat.le_of_ble_eq_true rfl, Nat.le_of_ble_eq_true rfl⟩) hS hA hP hD [6, 7, 8, 9] [0, 1, 2, 3, 4, 5] rfl rfl (by decide) (by decide) (fun u100 H locs hw100 hP hD hS => ?_)
  obtain ⟨n_ch_any_100, n_ch_bothSend_100, n_ch_cardsSent_100, n_ch_below_100, n_ch_now_100, n_ch_then_100, n_ch_then_c_100, n_ch_now_c_100⟩ := u100
  have hP : va_P g vwCl [(ld, .inr (4, [.int ld_lines, .int ld_years, .int ld_card, .int ld_hurt, .int ld_people, .int ld_pairs, .long ld_strikes, .ref ld_rule, .ref ld_returns, .ref ld_forgets, .ref ld_death, .ref ld_move, .ref ld_begun, .ref ld_who, .ref ld_lost])), (ld_who, .inl (cI, 32, .inl ld_who_c)), (ld_rule, .inl (cI, 10, .inl ld_rule_c)), (ld_returns, .inl (cI, 10, .inl ld_returns_c)), (ld_forgets, .inl (cI, 10, .inl ld_forgets_c)), (ld_begun, .inl (cI, 16, .inl ld_begun_c)), (ch, .inr (1, [.long n_ch_any_100, .long n_ch_bothSend_100, .long n_ch_cardsSent_100, .long n_ch_below_100, .int r4, .int r14, .ref ch_forgets, .ref n_ch_now_100, .ref n_ch_then_100])), (n_ch_then_100, .inl (cJ, 16, .inr (.inl n_ch_then_c_100))), (n_ch_now_100, .inl (cJ, 16, .inr (.inl n_ch_now_c_100))), (ch_forgets, .inl (cI, 2, .inl g59))] H := hP
  have hD : va_D A [(ld, .inr (4, [.int ld_lines, .int ld_years, .int ld_card, .int ld_hurt, .int ld_people, .int ld_pairs, .long ld_strikes, .ref ld_rule, .ref ld_returns, .ref ld_forgets, .ref ld_death, .ref ld_move, .ref ld_begun, .ref ld_who, .ref ld_lost])), (ld_who, .inl (cI, 32, .inl ld_who_c)), (ld_rule, .inl (cI, 10, .inl ld_rule_c)), (ld_returns, .inl (cI, 10, .inl ld_returns_c)), (ld_forgets, .inl (cI, 10, .inl ld_forgets_c)), (ld_begun, .inl (cI, 16, .inl ld_begun_c)), (ch, .inr (1, [.long n_ch_any_100, .long n_ch_bothSend_100, .long n_ch_cardsSent_100, .long n_ch_below_100, .int r4, .int r14, .ref ch_forgets, .ref n_ch_now_100, .ref n_ch_then_100])), (n_ch_then_100, .inl (cJ, 16, .inr (.inl n_ch_then_c_100))), (n_ch_now_100, .inl (cJ, 16, .inr (.inl n_ch_now_c_100))), (ch_forgets, .inl (cI, 2, .inl g59))] := hD
  refine lv_iinc (v := 2) (lv' := [(4, .int 2), (0, .ref ch), (1, .ref ld), (2, .int p1), (3, .int p2)]) hx hb dX1_goThrough_103 hl (k := 0) rfl (by decide) (by decide) rfl (fun ls hl => ?_)
  refine lv_goto (tgt := 93) hx hb dX1_goThrough_106 (by decide) ?_
  refine lv_iload hx hb dX1_goThrough_93 (lv_at hl 0 rfl) ?_
  refine lv_iload_n hx hb dX1_goThrough_95 rfl (lv_at hl 4 rfl) ?_
  refine lv_icmp_ge (tgt := 109) hx hb dX1_goThrough_96 (by decide) (fun c96 => ?_) (fun c96 => ?_)
  · have f96 := (show p2.toInt ≤ 2 from z_le rfl rfl c96)
    have r96b : ir p2.toInt 2 2 := ir_lea f96 r96b (ir_c 2) (by decide)
    subst hQ
    have hP9 := hP.sub (ws' := [(ld, .inr (4, [.int ld_lines, .int ld_years, .int ld_card, .int ld_hurt, .int ld_people, .int ld_pairs, .long ld_strikes, .ref ld_rule, .ref ld_returns, .ref ld_forgets, .ref ld_death, .ref ld_move, .ref ld_begun, .ref ld_who, .ref ld_lost])), (ld_who, .inl (cI, 32, .inl ld_who_c)), (ld_rule, .inl (cI, 10, .inl ld_rule_c)), (ld_returns, .inl (cI, 10, .inl ld_returns_c)), (ch, .inr (1, [.long n_ch_any_100, .long n_ch_bothSend_100, .long n_ch_cardsSent_100, .long n_ch_below_100, .int r4, .int r14, .ref ch_forgets, .ref n_ch_now_100, .ref n_ch_then_100])), (ld_forgets, .inl (cI, 10, .inl ld_forgets_c)), (ch_forgets, .inl (cI, 2, .inl g59)), (n_ch_now_100, .inl (cJ, 16, .inr (.inl n_ch_now_c_100))), (ld_begun, .inl (cI, 16, .inl ld_begun_c)), (n_ch_then_100, .inl (cJ, 16, .inr (.inl n_ch_then_c_100)))]) [0, 1, 2, 3, 6, 4, 9, 8, 5, 7] rfl
    have hD9 := hD.sub (ws' := [(ld, .inr (4, [.int ld_lines, .int ld_years, .int ld_card, .int ld_hurt, .int ld_people, .int ld_pairs, .long ld_strikes, .ref ld_rule, .ref ld_returns, .ref ld_forgets, .ref ld_death, .ref ld_move, .ref ld_begun, .ref ld_who, .ref ld_lost])), (ld_who, .inl (cI, 32, .inl ld_who_c)), (ld_rule, .inl (cI, 10, .inl ld_rule_c)), (ld_returns, .inl (cI, 10, .inl ld_returns_c)), (ch, .inr (1, [.long n_ch_any_100, .long n_ch_bothSend_100, .long n_ch_cardsSent_100, .long n_ch_below_100, .int r4, .int r14, .ref ch_forgets, .ref n_ch_now_100, .ref n_ch_then_100])), (ld_forgets, .inl (cI, 10, .inl ld_forgets_c)), (ch_forgets, .inl (cI, 2, .inl g59)), (n_ch_now_100, .inl (cJ, 16, .inr (.inl n_ch_now_c_100))), (ld_begun, .inl (cI, 16, .inl ld_begun_c)), (n_ch_then_100, .inl (cJ, 16, .inr (.inl n_ch_then_c_100)))]) [0, 1, 2, 3, 6, 4, 9, 8, 5, 7] (by decide) rfl
    exact W.vret hx hb hr (fun t ht hW => ⟨⟨(n_ch_any_100, n_ch_bothSend_100, n_ch_cardsSent_100, n_ch_below_100, r4, r14, n_ch_now_100, n_ch_then_100, g59, n_ch_now_c_100, n_ch_then_c_100), rfl, trivial, ⟨by rw [ht]; exact hP9, va_K.moved hW.alike hK, hD9⟩⟩, hS.F ht⟩) hS.2.2 dX1_goThrough_109
  have f96 := (show 2 < p2.toInt from z_nle rfl rfl c96)
  have r96b : ir p2.toInt 3 3 := ir_ltb f96 (ir_c 2) r96b (by decide)
  refine lv_aload_n hx hb dX1_goThrough_99 rfl (lv_at hl 1 rfl) ?_
  refine rw_v (wr := [(ld, .inr (4, [.int ld_lines, .int ld_years, .int ld_card, .int ld_hurt, .int ld_people, .int ld_pairs, .long ld_strikes, .ref ld_rule, .ref ld_returns, .ref ld_forgets, .ref ld_death, .ref ld_move, .ref ld_begun, .ref ld_who, .ref ld_lost])), (ld_who, .inl (cI, 32, .inl ld_who_c)), (ld_rule, .inl (cI, 10, .inl ld_rule_c)), (ld_returns, .inl (cI, 10, .inl ld_returns_c)), (ld_forgets, .inl (cI, 10, .inl ld_forgets_c)), (ld_begun, .inl (cI, 16, .inl ld_begun_c))]) (va_runV (As := []) (rest := []) ⟨hx, hb, hml, hown, hts⟩ (q_X1_goThroughYear l g cI cJ cB cZ cL ch n_ch_any_100 n_ch_bothSend_100 n_ch_cardsSent_100 n_ch_below_100 r4 r14 ch_forgets n_ch_now_100 n_ch_then_100 n_ch_then_c_100 n_ch_now_c_100 g59 H.size ) (cwV 0 hts (goodIn_app (g_4 (List.mem_cons_of_mem _ (List.mem_append_left _ (List.mem_of_getElem? (i := 16) rfl))) (List.mem_cons_of_mem _ (List.mem_append_left _ (List.mem_of_getElem? (i := 17) rfl))) (List.mem_cons_of_mem _ (List.mem_append_left _ (List.mem_of_getElem? (i := 18) rfl))) (List.mem_cons_of_mem _ (List.mem_append_left _ (List.mem_of_getElem? (i := 19) rfl))) (by decide +kernel)) (goodIn_sub (fun _ h => List.mem_cons_of_mem _ (List.mem_append_right _ (List.mem_append_right _ (List.mem_append_right _ (List.mem_append_left _ h))))) good_v_X1_goThroughYear)) rfl rfl rfl (by decide +kernel) ⟨Nat.le_of_ble_eq_true rfl, Nat.le_of_ble_eq_true rfl⟩) (pv_RW (q := (RX1, TX1, 9)) (ci := 1) (q0 := 0) (wc := [(ch, .inr (1, [.long n_ch_any_100, .long n_ch_bothSend_100, .long n_ch_cardsSent_100, .long n_ch_below_100, .int r4, .int r14, .ref ch_forgets, .ref n_ch_now_100, .ref n_ch_then_100])), (n_ch_then_100, .inl (cJ, 16, .inr (.inl n_ch_then_c_100))), (n_ch_now_100, .inl (cJ, 16, .inr (.inl n_ch_now_c_100))), (ch_forgets, .inl (cI, 2, .inl g59))]) hK hP hD [6, 7, 8, 9] (by decide) rfl rfl rfl) rfl rfl hl.1 rfl (lv_room (Nat.le_of_ble_eq_true rfl)) dX1_goThrough_100 ⟨Nat.le_of_ble_eq_true rfl, Nat.le_of_ble_eq_true rfl⟩) hS hA hP hD [6, 7, 8, 9] [0, 1, 2, 3, 4, 5] rfl rfl (by decide) (by decide) (fun u100 H locs hw100 hP hD hS => ?_)
  obtain ⟨n_ch_any_100, n_ch_bothSend_100, n_ch_cardsSent_100, n_ch_below_100, n_ch_now_100, n_ch_then_100, n_ch_then_c_100, n_ch_now_c_100⟩ := u100
  have hP : va_P g vwCl [(ld, .inr (4, [.int ld_lines, .int ld_years, .int ld_card, .int ld_hurt, .int ld_people, .int ld_pairs, .long ld_strikes, .ref ld_rule, .ref ld_returns, .ref ld_forgets, .ref ld_death, .ref ld_move, .ref ld_begun, .ref ld_who, .ref ld_lost])), (ld_who, .inl (cI, 32, .inl ld_who_c)), (ld_rule, .inl (cI, 10, .inl ld_rule_c)), (ld_returns, .inl (cI, 10, .inl ld_returns_c)), (ld_forgets, .inl (cI, 10, .inl ld_forgets_c)), (ld_begun, .inl (cI, 16, .inl ld_begun_c)), (ch, .inr (1, [.long n_ch_any_100, .long n_ch_bothSend_100, .long n_ch_cardsSent_100, .long n_ch_below_100, .int r4, .int r14, .ref ch_forgets, .ref n_ch_now_100, .ref n_ch_then_100])), (n_ch_then_100, .inl (cJ, 16, .inr (.inl n_ch_then_c_100))), (n_ch_now_100, .inl (cJ, 16, .inr (.inl n_ch_now_c_100))), (ch_forgets, .inl (cI, 2, .inl g59))] H := hP
  have hD : va_D A [(ld, .inr (4, [.int ld_lines, .int ld_years, .int ld_card, .int ld_hurt, .int ld_people, .int ld_pairs, .long ld_strikes, .ref ld_rule, .ref ld_returns, .ref ld_forgets, .ref ld_death, .ref ld_move, .ref ld_begun, .ref ld_who, .ref ld_lost])), (ld_who, .inl (cI, 32, .inl ld_who_c)), (ld_rule, .inl (cI, 10, .inl ld_rule_c)), (ld_returns, .inl (cI, 10, .inl ld_returns_c)), (ld_forgets, .inl (cI, 10, .inl ld_forgets_c)), (ld_begun, .inl (cI, 16, .inl ld_begun_c)), (ch, .inr (1, [.long n_ch_any_100, .long n_ch_bothSend_100, .long n_ch_cardsSent_100, .long n_ch_below_100, .int r4, .int r14, .ref ch_forgets, .ref n_ch_now_100, .ref n_ch_then_100])), (n_ch_then_100, .inl (cJ, 16, .inr (.inl n_ch_then_c_100))), (n_ch_now_100, .inl (cJ, 16, .inr (.inl n_ch_now_c_100))), (ch_forgets, .inl (cI, 2, .inl g59))] := hD
  refine lv_iinc (v := 3) (lv' := [(4, .int 3), (0, .ref ch), (1, .ref ld), (2, .int p1), (3, .int p2)]) hx hb dX1_goThrough_103 hl (k := 0) rfl (by decide) (by decide) rfl (fun ls hl => ?_)
  refine lv_goto (tgt := 93) hx hb dX1_goThrough_106 (by decide) ?_
  refine lv_iload hx hb dX1_goThrough_93 (lv_at hl 0 rfl) ?_
  refine lv_iload_n hx hb dX1_goThrough_95 rfl (lv_at hl 4 rfl) ?_
  refine lv_icmp_ge (tgt := 109) hx hb dX1_goThrough_96 (by decide) (fun c96 => ?_) (fun c96 => by exfalso; have f96 := (show 3 < p2.toInt from z_nle rfl rfl c96); have a9 := (ir_c 3); have b9 := r96b; omega)
  have f96 := (show p2.toInt ≤ 3 from z_le rfl rfl c96)
  subst hQ
  have hP9 := hP.sub (ws' := [(ld, .inr (4, [.int ld_lines, .int ld_years, .int ld_card, .int ld_hurt, .int ld_people, .int ld_pairs, .long ld_strikes, .ref ld_rule, .ref ld_returns, .ref ld_forgets, .ref ld_death, .ref ld_move, .ref ld_begun, .ref ld_who, .ref ld_lost])), (ld_who, .inl (cI, 32, .inl ld_who_c)), (ld_rule, .inl (cI, 10, .inl ld_rule_c)), (ld_returns, .inl (cI, 10, .inl ld_returns_c)), (ch, .inr (1, [.long n_ch_any_100, .long n_ch_bothSend_100, .long n_ch_cardsSent_100, .long n_ch_below_100, .int r4, .int r14, .ref ch_forgets, .ref n_ch_now_100, .ref n_ch_then_100])), (ld_forgets, .inl (cI, 10, .inl ld_forgets_c)), (ch_forgets, .inl (cI, 2, .inl g59)), (n_ch_now_100, .inl (cJ, 16, .inr (.inl n_ch_now_c_100))), (ld_begun, .inl (cI, 16, .inl ld_begun_c)), (n_ch_then_100, .inl (cJ, 16, .inr (.inl n_ch_then_c_100)))]) [0, 1, 2, 3, 6, 4, 9, 8, 5, 7] rfl
  have hD9 := hD.sub (ws' := [(ld, .inr (4, [.int ld_lines, .int ld_years, .int ld_card, .int ld_hurt, .int ld_people, .int ld_pairs, .long ld_strikes, .ref ld_rule, .ref ld_returns, .ref ld_forgets, .ref ld_death, .ref ld_move, .ref ld_begun, .ref ld_who, .ref ld_lost])), (ld_who, .inl (cI, 32, .inl ld_who_c)), (ld_rule, .inl (cI, 10, .inl ld_rule_c)), (ld_returns, .inl (cI, 10, .inl ld_returns_c)), (ch, .inr (1, [.long n_ch_any_100, .long n_ch_bothSend_100, .long n_ch_cardsSent_100, .long n_ch_below_100, .int r4, .int r14, .ref ch_forgets, .ref n_ch_now_100, .ref n_ch_then_100])), (ld_forgets, .inl (cI, 10, .inl ld_forgets_c)), (ch_forgets, .inl (cI, 2, .inl g59)), (n_ch_now_100, .inl (cJ, 16, .inr (.inl n_ch_now_c_100))), (ld_begun, .inl (cI, 16, .inl ld_begun_c)), (n_ch_then_100, .inl (cJ, 16, .inr (.inl n_ch_then_c_100)))]) [0, 1, 2, 3, 6, 4, 9, 8, 5, 7] (by decide) rfl
  exact W.vret hx hb hr (fun t ht hW => ⟨⟨(n_ch_any_100, n_ch_bothSend_100, n_ch_cardsSent_100, n_ch_below_100, r4, r14, n_ch_now_100, n_ch_then_100, g59, n_ch_now_c_100, n_ch_then_c_100), rfl, trivial, ⟨by rw [ht]; exact hP9, va_K.moved hW.alike hK, hD9⟩⟩, hS.F ht⟩) hS.2.2 dX1_goThrough_109
def v_J3_checkN : List Cond := .code yJ3_checkIndex_8e157 cJ3_checkIndex_8e157 3 (some .int) :: (([] : List Cond) ++ ([] : List Cond))
theorem good_v_J3_checkN : v_J3_checkN.all goodWord = true := ga_c (by decide +kernel) (ga_a (by decide +kernel) rfl)
set_option maxHeartbeats 4000000 in
set_option maxRecDepth 100000 in
theorem q_J3_checkN (l : Launch) (g : va_G) (cI cJ cB cZ cL : ClassId) (p0 : Int32) (p1 : Int32) (sz : Nat) (hx_0 : 0 ≤ p0.toInt ∧ p0.toInt < p1.toInt) : Met l yJ3_checkIndex_8e157 v_J3_checkN ({ frames := 0, cells := 0, slots := 0, locals := 0 }) (va_Pc [.int p0, .int p1, .null] (pRO g (tyT cI cJ cB cZ cL) [] sz)) (va_Qi (fun (r : Int32) (u : Unit) => (ir r.toInt 0 2147483646)) (fun (_ : Unit) (_ : State) => True) (va_A [] sz)) 0 0 (va_A [] sz) := by
  refine Met.ofW (cc := cJ3_checkIndex_8e157) (maxL := 3) (ret := (some .int)) (by decide) rfl ?_
  intro p e s m args below meth c s₁ B hml hv
  obtain ⟨rfl, hsz, hP, hK⟩ := hv
  have hx := B.exec
  have hb := B.bytes
  have hr := B.returns
  have hts := atoms_spec (ws := v_J3_checkN) B.pre
  have hown : s.vm.findClass RJ3 = some m.cls := findClass_of_methodNamed B.named
  have hlocks := B.notSynchronized
  clear B
  subst hsz
  generalize hAe : (va_A [] s.heap.size) = A
  have hA : ∀ q : Nat, s.heap.size ≤ q → A q := fun q h => by rw [← hAe]; exact Or.inr h
  have hS : va_S A s.heap s.heap [] := va_S.rf
  have hl := lv_entry ([.int p0, .int p1, .null]) (n := 3) (Nat.le_of_ble_eq_true rfl)
  rw [lg_entry_eq]
  generalize (lg_sl ([.int p0, .int p1, .null]) ++ List.replicate (3 - (lg_sl ([.int p0, .int p1, .null])).length) Slot.unset).toArray = ls at hl ⊢
  generalize ([.int p0, .int p1, .null] : List Value).toArray = av at hts ⊢
  generalize hQ : MQ below _ av s _ _ A = QQ
  have hl : lv_has ls 3 [(0, .int p0), (1, .int p1), (2, .null)] := hl
  have hP : va_P g vwCl [] s.heap := hP
  refine lv_iload_n hx hb dJ3_checkIndex_8e157_0 rfl (lv_at hl 0 rfl) ?_
  refine lv_if_lt (tgt := 9) hx hb dJ3_checkIndex_8e157_1 (by decide) (fun c1 => by exfalso; have f1 := (show p0.toInt < 0 from z_lt rfl rfl c1); have a9 := (rg_all p0); have b9 := (ir_c 0); omega) (fun c1 => ?_)
  have f1 := (show 0 ≤ p0.toInt from z_nlt rfl rfl c1)
  have r1a : ir p0.toInt 0 2147483647 := ir_leb f1 (ir_c 0) (rg_all p0) (by decide)
  refine lv_iload_n hx hb dJ3_checkIndex_8e157_4 rfl (lv_at hl 0 rfl) ?_
  refine lv_iload_n hx hb dJ3_checkIndex_8e157_5 rfl (lv_at hl 1 rfl) ?_
  refine lv_icmp_lt (tgt := 16) hx hb dJ3_checkIndex_8e157_6 (by decide) (fun c6 => ?_) (fun c6 => by exfalso; have f6 := (show p1.toInt ≤ p0.toInt from z_nlt rfl rfl c6); have a9 := r1a; have b9 := (rg_all p1); omega)
  have f6 := (show p0.toInt < p1.toInt from z_lt rfl rfl c6)
  have r6a : ir p0.toInt 0 2147483646 := ir_lta f6 r1a (rg_all p1) (by decide)
  have r6b : ir p1.toInt 1 2147483647 := ir_ltb f6 r1a (rg_all p1) (by decide)
  refine lv_iload_n hx hb dJ3_checkIndex_8e157_16 rfl (lv_at hl 0 rfl) ?_
  subst hQ
  exact W.iret (v := p0) hx hb hr (fun t ht hW => ⟨⟨p0, (), rfl, r6a, trivial⟩, hS.F ht⟩) hS.2.2 dJ3_checkIndex_8e157_17
def v_J3_checkR : List Cond := .code yJ3_checkIndex_8e157 cJ3_checkIndex_8e157 3 (some .int) :: (([] : List Cond) ++ ([] : List Cond))
theorem good_v_J3_checkR : v_J3_checkR.all goodWord = true := ga_c (by decide +kernel) (ga_a (by decide +kernel) rfl)
set_option maxHeartbeats 4000000 in
set_option maxRecDepth 100000 in
theorem q_J3_checkR (l : Launch) (g : va_G) (cI cJ cB cZ cL : ClassId) (p0 : Int32) (p1 : Int32) (fm : Nat) (sz : Nat) (hx_0 : 0 ≤ p0.toInt ∧ p0.toInt < p1.toInt) : Met l yJ3_checkIndex_8e157 v_J3_checkR ({ frames := 0, cells := 0, slots := 0, locals := 0 }) (va_Pc [.int p0, .int p1, .ref fm] (pRO g (tyT cI cJ cB cZ cL) [] sz)) (va_Qi (fun (r : Int32) (u : Unit) => (ir r.toInt 0 2147483646)) (fun (_ : Unit) (_ : State) => True) (va_A [] sz)) 0 0 (va_A [] sz) := by
  refine Met.ofW (cc := cJ3_checkIndex_8e157) (maxL := 3) (ret := (some .int)) (by decide) rfl ?_
  intro p e s m args below meth c s₁ B hml hv
  obtain ⟨rfl, hsz, hP, hK⟩ := hv
  have hx := B.exec
  have hb := B.bytes
  have hr := B.returns
  have hts := atoms_spec (ws := v_J3_checkR) B.pre
  have hown : s.vm.findClass RJ3 = some m.cls := findClass_of_methodNamed B.named
  have hlocks := B.notSynchronized
  clear B
  subst hsz
  generalize hAe : (va_A [] s.heap.size) = A
  have hA : ∀ q : Nat, s.heap.size ≤ q → A q := fun q h => by rw [← hAe]; exact Or.inr h
  have hS : va_S A s.heap s.heap [] := va_S.rf
  have hl := lv_entry ([.int p0, .int p1, .ref fm]) (n := 3) (Nat.le_of_ble_eq_true rfl)
  rw [lg_entry_eq]
  generalize (lg_sl ([.int p0, .int p1, .ref fm]) ++ List.replicate (3 - (lg_sl ([.int p0, .int p1, .ref fm])).length) Slot.unset).toArray = ls at hl ⊢
  generalize ([.int p0, .int p1, .ref fm] : List Value).toArray = av at hts ⊢
  generalize hQ : MQ below _ av s _ _ A = QQ
  have hl : lv_has ls 3 [(0, .int p0), (1, .int p1), (2, .ref fm)] := hl
  have hP : va_P g vwCl [] s.heap := hP
  refine lv_iload_n hx hb dJ3_checkIndex_8e157_0 rfl (lv_at hl 0 rfl) ?_
  refine lv_if_lt (tgt := 9) hx hb dJ3_checkIndex_8e157_1 (by decide) (fun c1 => by exfalso; have f1 := (show p0.toInt < 0 from z_lt rfl rfl c1); have a9 := (rg_all p0); have b9 := (ir_c 0); omega) (fun c1 => ?_)
  have f1 := (show 0 ≤ p0.toInt from z_nlt rfl rfl c1)
  have r1a : ir p0.toInt 0 2147483647 := ir_leb f1 (ir_c 0) (rg_all p0) (by decide)
  refine lv_iload_n hx hb dJ3_checkIndex_8e157_4 rfl (lv_at hl 0 rfl) ?_
  refine lv_iload_n hx hb dJ3_checkIndex_8e157_5 rfl (lv_at hl 1 rfl) ?_
  refine lv_icmp_lt (tgt := 16) hx hb dJ3_checkIndex_8e157_6 (by decide) (fun c6 => ?_) (fun c6 => by exfalso; have f6 := (show p1.toInt ≤ p0.toInt from z_nlt rfl rfl c6); have a9 := r1a; have b9 := (rg_all p1); omega)
  have f6 := (show p0.toInt < p1.toInt from z_lt rfl rfl c6)
  have r6a : ir p0.toInt 0 2147483646 := ir_lta f6 r1a (rg_all p1) (by decide)
  have r6b : ir p1.toInt 1 2147483647 := ir_ltb f6 r1a (rg_all p1) (by decide)
  refine lv_iload_n hx hb dJ3_checkIndex_8e157_16 rfl (lv_at hl 0 rfl) ?_
  subst hQ
  exact W.iret (v := p0) hx hb hr (fun t ht hW => ⟨⟨p0, (), rfl, r6a, trivial⟩, hS.F ht⟩) hS.2.2 dJ3_checkIndex_8e157_17
def v_J0_checkIndex_df160 : List Cond := .code yJ0_checkIndex_df160 cJ0_checkIndex_df160 2 none :: (([.fieldLink RJ0 1053 "jdk/internal/util/Preconditions" "SIOOBE_FORMATTER" "Ljava/util/function/BiFunction;", .methodLink RJ0 1059 yJ3_checkIndex_8e157, .static yJ3_checkIndex_8e157, .initialized RJ3] : List Cond) ++ (v_J3_checkN ++ (v_J3_checkR ++ ([] : List Cond))))
theorem good_v_J0_checkIndex_df160 : v_J0_checkIndex_df160.all goodWord = true := ga_c (by decide +kernel) (ga_a (by decide +kernel) (ga_a good_v_J3_checkN (ga_a good_v_J3_checkR rfl)))
set_option maxHeartbeats 4000000 in
set_option maxRecDepth 100000 in
theorem q_J0_checkIndex_df160 (l : Launch) (g : va_G) (cI cJ cB cZ cL : ClassId) (kA : Nat → Nat) (vA : Nat → Nat) (p0 : Int32) (p1 : Int32) (sz : Nat) (hx_0 : 0 ≤ p0.toInt ∧ p0.toInt < p1.toInt) : Met l yJ0_checkIndex_df160 v_J0_checkIndex_df160 ({ frames := 1, cells := 0, slots := 0, locals := 22 }) (va_Pc [.int p0, .int p1] (eRO g (tyT cI cJ cB cZ cL) [] sz kA vA)) (va_Qv (fun (u : Unit) => True) (fun (_ : Unit) (_ : State) => True) (va_A [] sz)) 0 0 (va_A [] sz) := by
  refine Met.ofW (cc := cJ0_checkIndex_df160) (maxL := 2) (ret := none) (by decide) rfl ?_
  intro p e s m args below meth c s₁ B hml hv
  obtain ⟨rfl, ⟨hsz, hP, hK⟩, hE⟩ := hv
  have hx := B.exec
  have hb := B.bytes
  have hr := B.returns
  have hts := atoms_spec (ws := v_J0_checkIndex_df160) B.pre
  have hown : s.vm.findClass RJ0 = some m.cls := findClass_of_methodNamed B.named
  have hlocks := B.notSynchronized
  clear B
  subst hsz
  generalize hAe : (va_A [] s.heap.size) = A at hE ⊢
  have hA : ∀ q : Nat, s.heap.size ≤ q → A q := fun q h => by rw [← hAe]; exact Or.inr h
  have hS : va_S A s.heap s.heap [] := va_S.rf
  have hl := lv_entry ([.int p0, .int p1]) (n := 2) (Nat.le_of_ble_eq_true rfl)
  rw [lg_entry_eq]
  generalize (lg_sl ([.int p0, .int p1]) ++ List.replicate (2 - (lg_sl ([.int p0, .int p1])).length) Slot.unset).toArray = ls at hl ⊢
  generalize ([.int p0, .int p1] : List Value).toArray = av at hts ⊢
  generalize hQ : MQ below _ av s _ _ A = QQ
  have hl : lv_has ls 2 [(0, .int p0), (1, .int p1)] := hl
  have hP : va_P g vwCl [] s.heap := hP
  refine lv_iload_n hx hb dJ0_checkIndex_df160_0 rfl (lv_at hl 0 rfl) ?_
  refine lv_iload_n hx hb dJ0_checkIndex_df160_1 rfl (lv_at hl 1 rfl) ?_
  obtain ⟨fv, hfz, hfv⟩ := hE.fm
  rcases hfv with hfv | ⟨fm, hfv⟩
  rotate_left 1
  · subst hfv
    refine va_gets hx hb hfz hS hown (hts (.fieldLink RJ0 1053 "jdk/internal/util/Preconditions" "SIOOBE_FORMATTER" "Ljava/util/function/BiFunction;") (List.mem_cons_of_mem _ (List.mem_append_left _ (List.mem_of_getElem? (i := 0) rfl)))) (fun _ h9 => h9) dJ0_checkIndex_df160_2 ?_
    refine ro_i (va_runS (As := [.int p0, .int p1, .ref fm]) (rest := []) ⟨hx, hb, hml, hown, hts⟩ (q_J3_checkR l g cI cJ cB cZ cL p0 p1 fm s.heap.size (by omega)) (va_cwS 3 hts (goodIn_app (g_3 (List.mem_cons_of_mem _ (List.mem_append_left _ (List.mem_of_getElem? (i := 1) rfl))) (List.mem_cons_of_mem _ (List.mem_append_left _ (List.mem_of_getElem? (i := 2) rfl))) (List.mem_cons_of_mem _ (List.mem_append_left _ (List.mem_of_getElem? (i := 3) rfl))) (by decide +kernel)) (goodIn_sub (fun _ h => List.mem_cons_of_mem _ (List.mem_append_right _ (List.mem_append_right _ (List.mem_append_left _ h)))) good_v_J3_checkR)) rfl rfl rfl (by decide +kernel) ⟨Nat.le_of_ble_eq_true rfl, Nat.le_of_ble_eq_true rfl⟩) (ps_RO (wc := []) hK hP [] rfl) rfl rfl hl.1 rfl (lv_room (Nat.le_of_ble_eq_true rfl)) dJ0_checkIndex_df160_5 ⟨Nat.le_of_ble_eq_true rfl, Nat.le_of_ble_eq_true rfl⟩) hS hA hP (fun r5 u5 H locs hw5 hP hS => ?_)
    have hw5_0 := hw5
    refine lv_pop hx hb dJ0_checkIndex_df160_8 rfl ?_
    subst hQ
    exact W.vret hx hb hr (fun t ht hW => ⟨⟨(), rfl, trivial, trivial⟩, hS.F ht⟩) hS.2.2 dJ0_checkIndex_df160_9
  subst hfv
  refine va_gets hx hb hfz hS hown (hts (.fieldLink RJ0 1053 "jdk/internal/util/Preconditions" "SIOOBE_FORMATTER" "Ljava/util/function/BiFunction;") (List.mem_cons_of_mem _ (List.mem_append_left _ (List.mem_of_getElem? (i := 0) rfl)))) (fun _ h9 => h9) dJ0_checkIndex_df160_2 ?_
  refine ro_i (va_runS (As := [.int p0, .int p1, .null]) (rest := []) ⟨hx, hb, hml, hown, hts⟩ (q_J3_checkN l g cI cJ cB cZ cL p0 p1 s.heap.size (by omega)) (va_cwS 3 hts (goodIn_app (g_3 (List.mem_cons_of_mem _ (List.mem_append_left _ (List.mem_of_getElem? (i := 1) rfl))) (List.mem_cons_of_mem _ (List.mem_append_left _ (List.mem_of_getElem? (i := 2) rfl))) (List.mem_cons_of_mem _ (List.mem_append_left _ (List.mem_of_getElem? (i := 3) rfl))) (by decide +kernel)) (goodIn_sub (fun _ h => List.mem_cons_of_mem _ (List.mem_append_right _ (List.mem_append_left _ h))) good_v_J3_checkN)) rfl rfl rfl (by decide +kernel) ⟨Nat.le_of_ble_eq_true rfl, Nat.le_of_ble_eq_true rfl⟩) (ps_RO (wc := []) hK hP [] rfl) rfl rfl hl.1 rfl (lv_room (Nat.le_of_ble_eq_true rfl)) dJ0_checkIndex_df160_5 ⟨Nat.le_of_ble_eq_true rfl, Nat.le_of_ble_eq_true rfl⟩) hS hA hP (fun r5 u5 H locs hw5 hP hS => ?_)
  have hw5_0 := hw5
  refine lv_pop hx hb dJ0_checkIndex_df160_8 rfl ?_
  subst hQ
  exact W.vret hx hb hr (fun t ht hW => ⟨⟨(), rfl, trivial, trivial⟩, hS.F ht⟩) hS.2.2 dJ0_checkIndex_df160_9
def v_J0_coder_7d493 : List Cond := .code yJ0_coder_7d493 cJ0_coder_7d493 1 (some .byte) :: (([.fieldLink RJ0 38 "java/lang/String" "COMPACT_STRINGS" "Z", .fieldLink RJ0 15 "java/lang/String" "coder" "B"] : List Cond) ++ ([] : List Cond))
theorem good_v_J0_coder_7d493 : v_J0_coder_7d493.all goodWord = true := ga_c (by decide +kernel) (ga_a (by decide +kernel) rfl)
set_option maxHeartbeats 4000000 in
set_option maxRecDepth 100000 in
theorem q_J0_coder_7d493 (l : Launch) (g : va_G) (cI cJ cB cZ cL : ClassId) (kA : Nat → Nat) (vA : Nat → Nat) (si : Nat) (sz : Nat) (hsi : si < 14) : Met l yJ0_coder_7d493 v_J0_coder_7d493 ({ frames := 0, cells := 0, slots := 0, locals := 0 }) (va_Pc [.ref (kA si)] (eRO g (tyT cI cJ cB cZ cL) [] sz kA vA)) (va_Qi (fun (r : Int32) (u : Unit) => ((r = 0))) (fun (_ : Unit) (_ : State) => True) (va_A [] sz)) 0 0 (va_A [] sz) := by
  refine Met.ofW (cc := cJ0_coder_7d493) (maxL := 1) (ret := (some .byte)) (by decide) rfl ?_
  intro p e s m args below meth c s₁ B hml hv
  obtain ⟨rfl, ⟨hsz, hP, hK⟩, hE⟩ := hv
  have hx := B.exec
  have hb := B.bytes
  have hr := B.returns
  have hts := atoms_spec (ws := v_J0_coder_7d493) B.pre
  have hown : s.vm.findClass RJ0 = some m.cls := findClass_of_methodNamed B.named
  have hlocks := B.notSynchronized
  clear B
  subst hsz
  generalize hAe : (va_A [] s.heap.size) = A at hE ⊢
  have hA : ∀ q : Nat, s.heap.size ≤ q → A q := fun q h => by rw [← hAe]; exact Or.inr h
  have hS : va_S A s.heap s.heap [] := va_S.rf
  have hl := lv_entry ([.ref (kA si)]) (n := 1) (Nat.le_of_ble_eq_true rfl)
  rw [lg_entry_eq]
  generalize (lg_sl ([.ref (kA si)]) ++ List.replicate (1 - (lg_sl ([.ref (kA si)])).length) Slot.unset).toArray = ls at hl ⊢
  generalize ([.ref (kA si)] : List Value).toArray = av at hts ⊢
  generalize hQ : MQ below _ av s _ _ A = QQ
  have hl : lv_has ls 1 [(0, .ref (kA si))] := hl
  have hP : va_P g vwCl [] s.heap := hP
  refine va_gets hx hb hE.cs hS hown (hts (.fieldLink RJ0 38 "java/lang/String" "COMPACT_STRINGS" "Z") (List.mem_cons_of_mem _ (List.mem_append_left _ (List.mem_of_getElem? (i := 0) rfl)))) (fun _ h9 => h9) dJ0_coder_7d493_0 ?_
  refine lv_if_eq (tgt := 13) hx hb dJ0_coder_7d493_3 (by decide) (fun c => absurd c (by decide)) (fun _ => ?_)
  refine lv_aload_n hx hb dJ0_coder_7d493_6 rfl (lv_at hl 0 rfl) ?_
  refine vk_getf hx hb (hE.cod si hsi) hS hown (hts (.fieldLink RJ0 15 "java/lang/String" "coder" "B") (List.mem_cons_of_mem _ (List.mem_append_left _ (List.mem_of_getElem? (i := 1) rfl)))) (fun _ h9 => h9) dJ0_coder_7d493_7 ?_
  refine lv_goto (tgt := 14) hx hb dJ0_coder_7d493_10 (by decide) ?_
  subst hQ
  exact W.zret (v := 0) hx hb hr rfl (fun t ht hW => ⟨⟨0, (), rfl, rfl, trivial⟩, hS.F ht⟩) hS.2.2 dJ0_coder_7d493_14
def v_J0_isLatin1_aae02 : List Cond := .code yJ0_isLatin1_aae02 cJ0_isLatin1_aae02 1 (some .boolean) :: (([.fieldLink RJ0 38 "java/lang/String" "COMPACT_STRINGS" "Z", .fieldLink RJ0 15 "java/lang/String" "coder" "B"] : List Cond) ++ ([] : List Cond))
theorem good_v_J0_isLatin1_aae02 : v_J0_isLatin1_aae02.all goodWord = true := ga_c (by decide +kernel) (ga_a (by decide +kernel) rfl)
set_option maxHeartbeats 4000000 in
set_option maxRecDepth 100000 in
theorem q_J0_isLatin1_aae02 (l : Launch) (g : va_G) (cI cJ cB cZ cL : ClassId) (kA : Nat → Nat) (vA : Nat → Nat) (si : Nat) (sz : Nat) (hsi : si < 14) : Met l yJ0_isLatin1_aae02 v_J0_isLatin1_aae02 ({ frames := 0, cells := 0, slots := 0, locals := 0 }) (va_Pc [.ref (kA si)] (eRO g (tyT cI cJ cB cZ cL) [] sz kA vA)) (va_Qi (fun (r : Int32) (u : Unit) => ((r = 1))) (fun (_ : Unit) (_ : State) => True) (va_A [] sz)) 0 0 (va_A [] sz) := by
  refine Met.ofW (cc := cJ0_isLatin1_aae02) (maxL := 1) (ret := (some .boolean)) (by decide) rfl ?_
  intro p e s m args below meth c s₁ B hml hv
  obtain ⟨rfl, ⟨hsz, hP, hK⟩, hE⟩ := hv
  have hx := B.exec
  have hb := B.bytes
  have hr := B.returns
  have hts := atoms_spec (ws := v_J0_isLatin1_aae02) B.pre
  have hown : s.vm.findClass RJ0 = some m.cls := findClass_of_methodNamed B.named
  have hlocks := B.notSynchronized
  clear B
  subst hsz
  generalize hAe : (va_A [] s.heap.size) = A at hE ⊢
  have hA : ∀ q : Nat, s.heap.size ≤ q → A q := fun q h => by rw [← hAe]; exact Or.inr h
  have hS : va_S A s.heap s.heap [] := va_S.rf
  have hl := lv_entry ([.ref (kA si)]) (n := 1) (Nat.le_of_ble_eq_true rfl)
  rw [lg_entry_eq]
  generalize (lg_sl ([.ref (kA si)]) ++ List.replicate (1 - (lg_sl ([.ref (kA si)])).length) Slot.unset).toArray = ls at hl ⊢
  generalize ([.ref (kA si)] : List Value).toArray = av at hts ⊢
  generalize hQ : MQ below _ av s _ _ A = QQ
  have hl : lv_has ls 1 [(0, .ref (kA si))] := hl
  have hP : va_P g vwCl [] s.heap := hP
  refine va_gets hx hb hE.cs hS hown (hts (.fieldLink RJ0 38 "java/lang/String" "COMPACT_STRINGS" "Z") (List.mem_cons_of_mem _ (List.mem_append_left _ (List.mem_of_getElem? (i := 0) rfl)))) (fun _ h9 => h9) dJ0_isLatin1_aae02_0 ?_
  refine lv_if_eq (tgt := 17) hx hb dJ0_isLatin1_aae02_3 (by decide) (fun c => absurd c (by decide)) (fun _ => ?_)
  refine lv_aload_n hx hb dJ0_isLatin1_aae02_6 rfl (lv_at hl 0 rfl) ?_
  refine vk_getf hx hb (hE.cod si hsi) hS hown (hts (.fieldLink RJ0 15 "java/lang/String" "coder" "B") (List.mem_cons_of_mem _ (List.mem_append_left _ (List.mem_of_getElem? (i := 1) rfl)))) (fun _ h9 => h9) dJ0_isLatin1_aae02_7 ?_
  refine lv_if_ne (tgt := 17) hx hb dJ0_isLatin1_aae02_10 (by decide) (fun c => absurd c (by decide)) (fun _ => ?_)
  refine lv_iconst (v := 1) hx hb dJ0_isLatin1_aae02_13 (by decide) ?_
  refine lv_goto (tgt := 18) hx hb dJ0_isLatin1_aae02_14 (by decide) ?_
  subst hQ
  exact W.zret (v := 1) hx hb hr rfl (fun t ht hW => ⟨⟨1, (), rfl, rfl, trivial⟩, hS.F ht⟩) hS.2.2 dJ0_isLatin1_aae02_18
def v_J0_length_8abf5 : List Cond := .code yJ0_length_8abf5 cJ0_length_8abf5 1 (some .int) :: (([.fieldLink RJ0 9 "java/lang/String" "value" "[B", .methodLink RJ0 335 yJ0_coder_7d493, .instanceMethod yJ0_coder_7d493, .selects RJ0 yJ0_coder_7d493 yJ0_coder_7d493, .initialized RJ0] : List Cond) ++ (v_J0_coder_7d493 ++ ([] : List Cond)))
theorem good_v_J0_length_8abf5 : v_J0_length_8abf5.all goodWord = true := ga_c (by decide +kernel) (ga_a (by decide +kernel) (ga_a good_v_J0_coder_7d493 rfl))
set_option maxHeartbeats 4000000 in
set_option maxRecDepth 100000 in
theorem q_J0_length_8abf5 (l : Launch) (g : va_G) (cI cJ cB cZ cL : ClassId) (kA : Nat → Nat) (vA : Nat → Nat) (si : Nat) (sz : Nat) (hsi : si < 14) : Met l yJ0_length_8abf5 v_J0_length_8abf5 ({ frames := 1, cells := 0, slots := 0, locals := 20 }) (va_Pc [.ref (kA si)] (eRO g (tyT cI cJ cB cZ cL) [] sz kA vA)) (va_Qi (fun (r : Int32) (u : Unit) => (r.toInt = (sL si : Int)) ∧ (ir r.toInt 0 16)) (fun (_ : Unit) (_ : State) => True) (va_A [] sz)) 0 0 (va_A [] sz) := by
  refine Met.ofW (cc := cJ0_length_8abf5) (maxL := 1) (ret := (some .int)) (by decide) rfl ?_
  intro p e s m args below meth c s₁ B hml hv
  obtain ⟨rfl, ⟨hsz, hP, hK⟩, hE⟩ := hv
  have hx := B.exec
  have hb := B.bytes
  have hr := B.returns
  have hts := atoms_spec (ws := v_J0_length_8abf5) B.pre
  have hown : s.vm.findClass RJ0 = some m.cls := findClass_of_methodNamed B.named
  have hlocks := B.notSynchronized
  clear B
  subst hsz
  generalize hAe : (va_A [] s.heap.size) = A at hE ⊢
  have hA : ∀ q : Nat, s.heap.size ≤ q → A q := fun q h => by rw [← hAe]; exact Or.inr h
  have hS : va_S A s.heap s.heap [] := va_S.rf
  have hl := lv_entry ([.ref (kA si)]) (n := 1) (Nat.le_of_ble_eq_true rfl)
  rw [lg_entry_eq]
  generalize (lg_sl ([.ref (kA si)]) ++ List.replicate (1 - (lg_sl ([.ref (kA si)])).length) Slot.unset).toArray = ls at hl ⊢
  generalize ([.ref (kA si)] : List Value).toArray = av at hts ⊢
  generalize hQ : MQ below _ av s _ _ A = QQ
  have hl : lv_has ls 1 [(0, .ref (kA si))] := hl
  have hP : va_P g vwCl [] s.heap := hP
  refine lv_aload_n hx hb dJ0_length_8abf5_0 rfl (lv_at hl 0 rfl) ?_
  refine vk_getf hx hb (hE.val si hsi) hS hown (hts (.fieldLink RJ0 9 "java/lang/String" "value" "[B") (List.mem_cons_of_mem _ (List.mem_append_left _ (List.mem_of_getElem? (i := 0) rfl)))) (fun _ h9 => h9) dJ0_length_8abf5_1 ?_
  refine va_tlen hx hb (hE.arr si hsi) hS (v := nI (sL si)) rfl dJ0_length_8abf5_4 ?_
  have hsl4 := sL_z si
  refine lv_aload_n hx hb dJ0_length_8abf5_5 rfl (lv_at hl 0 rfl) ?_
  refine ro_i (va_runV (As := []) (rest := [.int (nI (sL si))]) ⟨hx, hb, hml, hown, hts⟩ (q_J0_coder_7d493 l g cI cJ cB cZ cL kA vA si s.heap.size hsi) (cwV 0 hts (goodIn_app (g_4 (List.mem_cons_of_mem _ (List.mem_append_left _ (List.mem_of_getElem? (i := 1) rfl))) (List.mem_cons_of_mem _ (List.mem_append_left _ (List.mem_of_getElem? (i := 2) rfl))) (List.mem_cons_of_mem _ (List.mem_append_left _ (List.mem_of_getElem? (i := 3) rfl))) (List.mem_cons_of_mem _ (List.mem_append_left _ (List.mem_of_getElem? (i := 4) rfl))) (by decide +kernel)) (goodIn_sub (fun _ h => List.mem_cons_of_mem _ (List.mem_append_right _ (List.mem_append_left _ h))) good_v_J0_coder_7d493)) rfl rfl rfl (by decide +kernel) ⟨Nat.le_of_ble_eq_true rfl, Nat.le_of_ble_eq_true rfl⟩) (pvS hK hE hsi hS hA) rfl rfl hl.1 rfl (lv_room (Nat.le_of_ble_eq_true rfl)) dJ0_length_8abf5_6 ⟨Nat.le_of_ble_eq_true rfl, Nat.le_of_ble_eq_true rfl⟩) hS hA hP (fun r6 u6 H locs hw6 hP hS => ?_)
  have hw6_0 := hw6
  have er6 : r6 = 0 := hw6_0
  subst er6
  refine lv_ishr hx hb dJ0_length_8abf5_9 ?_
  refine lv_topi (nm_r (e' := (nI (sL si))) (sb_shr0 _) ?_)
  subst hQ
  exact W.iret (v := (nI (sL si))) hx hb hr (fun t ht hW => ⟨⟨(nI (sL si)), (), rfl, ⟨(sL_z si), (by rw [(sL_z si)]; exact (sL_r si))⟩, trivial⟩, hS.F ht⟩) hS.2.2 dJ0_length_8abf5_10
def v_J1_charAt_3b067 : List Cond := .code yJ1_charAt_3b067 cJ1_charAt_3b067 2 (some .char) :: (([.methodLink RJ1 9 yJ0_checkIndex_df160, .static yJ0_checkIndex_df160, .initialized RJ0] : List Cond) ++ (v_J0_checkIndex_df160 ++ ([] : List Cond)))
theorem good_v_J1_charAt_3b067 : v_J1_charAt_3b067.all goodWord = true := ga_c (by decide +kernel) (ga_a (by decide +kernel) (ga_a good_v_J0_checkIndex_df160 rfl))
set_option maxHeartbeats 4000000 in
set_option maxRecDepth 100000 in
theorem q_J1_charAt_3b067 (l : Launch) (g : va_G) (cI cJ cB cZ cL : ClassId) (kA : Nat → Nat) (vA : Nat → Nat) (si : Nat) (p1 : Int32) (sz : Nat) (hsi : si < 14) (hx_0 : 0 ≤ p1.toInt ∧ p1.toInt < (sL si : Int)) : Met l yJ1_charAt_3b067 v_J1_charAt_3b067 ({ frames := 2, cells := 0, slots := 0, locals := 43 }) (va_Pc [.ref (vA si), .int p1] (eRO g (tyT cI cJ cB cZ cL) [] sz kA vA)) (va_Qi (fun (r : Int32) (u : Unit) => (narrow .char (.int r) = .int r)) (fun (_ : Unit) (_ : State) => True) (va_A [] sz)) 0 0 (va_A [] sz) := by
  refine Met.ofW (cc := cJ1_charAt_3b067) (maxL := 2) (ret := (some .char)) (by decide) rfl ?_
  intro p e s m args below meth c s₁ B hml hv
  obtain ⟨rfl, ⟨hsz, hP, hK⟩, hE⟩ := hv
  have hx := B.exec
  have hb := B.bytes
  have hr := B.returns
  have hts := atoms_spec (ws := v_J1_charAt_3b067) B.pre
  have hown : s.vm.findClass RJ1 = some m.cls := findClass_of_methodNamed B.named
  have hlocks := B.notSynchronized
  clear B
  subst hsz
  generalize hAe : (va_A [] s.heap.size) = A at hE ⊢
  have hA : ∀ q : Nat, s.heap.size ≤ q → A q := fun q h => by rw [← hAe]; exact Or.inr h
  have hS : va_S A s.heap s.heap [] := va_S.rf
  have hl := lv_entry ([.ref (vA si), .int p1]) (n := 2) (Nat.le_of_ble_eq_true rfl)
  rw [lg_entry_eq]
  generalize (lg_sl ([.ref (vA si), .int p1]) ++ List.replicate (2 - (lg_sl ([.ref (vA si), .int p1])).length) Slot.unset).toArray = ls at hl ⊢
  generalize ([.ref (vA si), .int p1] : List Value).toArray = av at hts ⊢
  generalize hQ : MQ below _ av s _ _ A = QQ
  have hl : lv_has ls 2 [(0, .ref (vA si)), (1, .int p1)] := hl
  have hP : va_P g vwCl [] s.heap := hP
  refine lv_iload_n hx hb dJ1_charAt_3b067_0 rfl (lv_at hl 1 rfl) ?_
  refine lv_aload_n hx hb dJ1_charAt_3b067_1 rfl (lv_at hl 0 rfl) ?_
  refine va_tlen hx hb (hE.arr si hsi) hS (v := nI (sL si)) rfl dJ1_charAt_3b067_2 ?_
  have hsl2 := sL_z si
  refine ro_v (va_runS (As := [.int p1, .int (nI (sL si))]) (rest := []) ⟨hx, hb, hml, hown, hts⟩ (q_J0_checkIndex_df160 l g cI cJ cB cZ cL kA vA p1 (nI (sL si)) s.heap.size (by omega)) (va_cwS 2 hts (goodIn_app (g_3 (List.mem_cons_of_mem _ (List.mem_append_left _ (List.mem_of_getElem? (i := 0) rfl))) (List.mem_cons_of_mem _ (List.mem_append_left _ (List.mem_of_getElem? (i := 1) rfl))) (List.mem_cons_of_mem _ (List.mem_append_left _ (List.mem_of_getElem? (i := 2) rfl))) (by decide +kernel)) (goodIn_sub (fun _ h => List.mem_cons_of_mem _ (List.mem_append_right _ (List.mem_append_left _ h))) good_v_J0_checkIndex_df160)) rfl rfl rfl (by decide +kernel) ⟨Nat.le_of_ble_eq_true rfl, Nat.le_of_ble_eq_true rfl⟩) (psE_RO (ps_RO (wc := []) hK hP [] rfl) hE hS hA) rfl rfl hl.1 rfl (lv_room (Nat.le_of_ble_eq_true rfl)) dJ1_charAt_3b067_3 ⟨Nat.le_of_ble_eq_true rfl, Nat.le_of_ble_eq_true rfl⟩) hS hA hP (fun u3 H locs hw3 hP hS => ?_)
  refine lv_aload_n hx hb dJ1_charAt_3b067_6 rfl (lv_at hl 0 rfl) ?_
  refine lv_iload_n hx hb dJ1_charAt_3b067_7 rfl (lv_at hl 1 rfl) ?_
  refine va_tb hx hb (hE.arr si hsi) hS (vi_in rfl (by omega) (by omega)) (v := .int ((sB si).getD p1.toNatClampNeg 0)) rfl dJ1_charAt_3b067_8 ?_
  refine lv_topi (fun y8 e8 => ?_)
  refine lv_sipush (v := 255) hx hb dJ1_charAt_3b067_9 (by decide) ?_
  refine lv_iand hx hb dJ1_charAt_3b067_12 ?_
  refine lv_topi (fun y12 e12 => ?_)
  have r12 : ir y12.toInt 0 255 := by rw [e12]; exact an_y rfl (ir_c 255) (by decide)
  refine lv_i2c (v := (y12.toUInt32 % 65536).toInt32) hx hb dJ1_charAt_3b067_13 rfl ?_
  refine lv_topi (fun y13 e13 => ?_)
  subst hQ
  exact W.zret (v := y13) hx hb hr (by rw [e13]; exact pk_nc _) (fun t ht hW => ⟨⟨y13, (), rfl, (by rw [e13]; exact pk_nc _), trivial⟩, hS.F ht⟩) hS.2.2 dJ1_charAt_3b067_14
def v_J0_charAt_5068e : List Cond := .code yJ0_charAt_5068e cJ0_charAt_5068e 2 (some .char) :: (([.methodLink RJ0 492 yJ0_isLatin1_aae02, .instanceMethod yJ0_isLatin1_aae02, .selects RJ0 yJ0_isLatin1_aae02 yJ0_isLatin1_aae02, .initialized RJ0, .fieldLink RJ0 9 "java/lang/String" "value" "[B", .methodLink RJ0 495 yJ1_charAt_3b067, .static yJ1_charAt_3b067, .initialized RJ1] : List Cond) ++ (v_J0_isLatin1_aae02 ++ (v_J1_charAt_3b067 ++ ([] : List Cond))))
theorem good_v_J0_charAt_5068e : v_J0_charAt_5068e.all goodWord = true := ga_c (by decide +kernel) (ga_a (by decide +kernel) (ga_a good_v_J0_isLatin1_aae02 (ga_a good_v_J1_charAt_3b067 rfl)))
set_option maxHeartbeats 4000000 in
set_option maxRecDepth 100000 in
theorem q_J0_charAt_5068e (l : Launch) (g : va_G) (cI cJ cB cZ cL : ClassId) (kA : Nat → Nat) (vA : Nat → Nat) (si : Nat) (p0 : Int32) (sz : Nat) (hsi : si < 14) (hx_0 : 0 ≤ p0.toInt ∧ p0.toInt < (sL si : Int)) : Met l yJ0_charAt_5068e v_J0_charAt_5068e ({ frames := 3, cells := 0, slots := 0, locals := 64 }) (va_Pc [.ref (kA si), .int p0] (eRO g (tyT cI cJ cB cZ cL) [] sz kA vA)) (va_Qi (fun (r : Int32) (u : Unit) => True) (fun (_ : Unit) (_ : State) => True) (va_A [] sz)) 0 0 (va_A [] sz) := by
  refine Met.ofW (cc := cJ0_charAt_5068e) (maxL := 2) (ret := (some .char)) (by decide) rfl ?_
  intro p e s m args below meth c s₁ B hml hv
  obtain ⟨rfl, ⟨hsz, hP, hK⟩, hE⟩ := hv
  have hx := B.exec
  have hb := B.bytes
  have hr := B.returns
  have hts := atoms_spec (ws := v_J0_charAt_5068e) B.pre
  have hown : s.vm.findClass RJ0 = some m.cls := findClass_of_methodNamed B.named
  have hlocks := B.notSynchronized
  clear B
  subst hsz
  generalize hAe : (va_A [] s.heap.size) = A at hE ⊢
  have hA : ∀ q : Nat, s.heap.size ≤ q → A q := fun q h => by rw [← hAe]; exact Or.inr h
  have hS : va_S A s.heap s.heap [] := va_S.rf
  have hl := lv_entry ([.ref (kA si), .int p0]) (n := 2) (Nat.le_of_ble_eq_true rfl)
  rw [lg_entry_eq]
  generalize (lg_sl ([.ref (kA si), .int p0]) ++ List.replicate (2 - (lg_sl ([.ref (kA si), .int p0])).length) Slot.unset).toArray = ls at hl ⊢
  generalize ([.ref (kA si), .int p0] : List Value).toArray = av at hts ⊢
  generalize hQ : MQ below _ av s _ _ A = QQ
  have hl : lv_has ls 2 [(0, .ref (kA si)), (1, .int p0)] := hl
  have hP : va_P g vwCl [] s.heap := hP
  refine lv_aload_n hx hb dJ0_charAt_5068e_0 rfl (lv_at hl 0 rfl) ?_
  refine ro_i (va_runV (As := []) (rest := []) ⟨hx, hb, hml, hown, hts⟩ (q_J0_isLatin1_aae02 l g cI cJ cB cZ cL kA vA si s.heap.size hsi) (cwV 0 hts (goodIn_app (g_4 (List.mem_cons_of_mem _ (List.mem_append_left _ (List.mem_of_getElem? (i := 0) rfl))) (List.mem_cons_of_mem _ (List.mem_append_left _ (List.mem_of_getElem? (i := 1) rfl))) (List.mem_cons_of_mem _ (List.mem_append_left _ (List.mem_of_getElem? (i := 2) rfl))) (List.mem_cons_of_mem _ (List.mem_append_left _ (List.mem_of_getElem? (i := 3) rfl))) (by decide +kernel)) (goodIn_sub (fun _ h => List.mem_cons_of_mem _ (List.mem_append_right _ (List.mem_append_left _ h))) good_v_J0_isLatin1_aae02)) rfl rfl rfl (by decide +kernel) ⟨Nat.le_of_ble_eq_true rfl, Nat.le_of_ble_eq_true rfl⟩) (pvS hK hE hsi hS hA) rfl rfl hl.1 rfl (lv_room (Nat.le_of_ble_eq_true rfl)) dJ0_charAt_5068e_1 ⟨Nat.le_of_ble_eq_true rfl, Nat.le_of_ble_eq_true rfl⟩) hS hA hP (fun r1 u1 H locs hw1 hP hS => ?_)
  have hw1_0 := hw1
  have er1 : r1 = 1 := hw1_0
  subst er1
  refine lv_if_eq (tgt := 16) hx hb dJ0_charAt_5068e_4 (by decide) (fun c => absurd c (by decide)) (fun _ => ?_)
  refine lv_aload_n hx hb dJ0_charAt_5068e_7 rfl (lv_at hl 0 rfl) ?_
  refine vk_getf hx hb (hE.val si hsi) hS hown (hts (.fieldLink RJ0 9 "java/lang/String" "value" "[B") (List.mem_cons_of_mem _ (List.mem_append_left _ (List.mem_of_getElem? (i := 4) rfl)))) (fun _ h9 => h9) dJ0_charAt_5068e_8 ?_
  refine lv_iload_n hx hb dJ0_charAt_5068e_11 rfl (lv_at hl 1 rfl) ?_
  refine ro_i (va_runS (As := [.ref (vA si), .int p0]) (rest := []) ⟨hx, hb, hml, hown, hts⟩ (q_J1_charAt_3b067 l g cI cJ cB cZ cL kA vA si p0 H.size hsi (by omega)) (va_cwS 2 hts (goodIn_app (g_3 (List.mem_cons_of_mem _ (List.mem_append_left _ (List.mem_of_getElem? (i := 5) rfl))) (List.mem_cons_of_mem _ (List.mem_append_left _ (List.mem_of_getElem? (i := 6) rfl))) (List.mem_cons_of_mem _ (List.mem_append_left _ (List.mem_of_getElem? (i := 7) rfl))) (by decide +kernel)) (goodIn_sub (fun _ h => List.mem_cons_of_mem _ (List.mem_append_right _ (List.mem_append_right _ (List.mem_append_left _ h)))) good_v_J1_charAt_3b067)) rfl rfl rfl (by decide +kernel) ⟨Nat.le_of_ble_eq_true rfl, Nat.le_of_ble_eq_true rfl⟩) (psE_RO (ps_RO (wc := []) hK hP [] rfl) hE hS hA) rfl rfl hl.1 rfl (lv_room (Nat.le_of_ble_eq_true rfl)) dJ0_charAt_5068e_12 ⟨Nat.le_of_ble_eq_true rfl, Nat.le_of_ble_eq_true rfl⟩) hS hA hP (fun r12 u12 H locs hw12 hP hS => ?_)
  have hw12_0 := hw12
  subst hQ
  exact W.zret (v := r12) hx hb hr hw12_0 (fun t ht hW => ⟨⟨r12, (), rfl, trivial, trivial⟩, hS.F ht⟩) hS.2.2 dJ0_charAt_5068e_15
def v_X8_push : List Cond := .code yX8_push cX8_push 3 none :: (([.fieldLink RX8 9 "CardsAtYule$Tape" "length" "I", .fieldLink RX8 28 "CardsAtYule$Tape" "bytes" "[B"] : List Cond) ++ (wsX80 ++ ([] : List Cond)))
theorem good_v_X8_push : v_X8_push.all goodWord = true := ga_c (by decide +kernel) (ga_a (by decide +kernel) (ga_a good_wsX80 rfl))
set_option maxHeartbeats 4000000 in
set_option maxRecDepth 100000 in
theorem q_X8_push (l : Launch) (g : va_G) (cI cJ cB cZ cL : ClassId) (p0 : Int32) (tp : Nat) (tp_length : Int32) (tp_told : Nat) (tp_fault : Int32) (tp_place : Int32) (tp_bytes : Nat) (tp_at : Int32) (tp_start : Int32) (tp_kind : Int32) (tp_number : Int32) (tp_numberPlace : Int32) (tp_bytes_c : Nat → Int32) (sz : Nat) (hv_tp_length : ir tp_length.toInt 0 1600) (hv_tp_at : ir tp_at.toInt 0 1600) (hv_tp_start : ir tp_start.toInt 0 1600) : Met l yX8_push v_X8_push ({ frames := 0, cells := 0, slots := 0, locals := 0 }) (va_Pc [.ref tp, .int p0] (pRW g (tyT cI cJ cB cZ cL) [(tp, .inr (8, [.int tp_length, .ref tp_told, .int tp_fault, .int tp_place, .ref tp_bytes, .int tp_at, .int tp_start, .int tp_kind, .int tp_number, .int tp_numberPlace])), (tp_bytes, .inl (cB, 1600, .inl tp_bytes_c))] sz)) (va_Qv (fun (u : Int32 × (Nat → Int32)) => match u with | (n_tp_length, n_tp_bytes_c) => (ir n_tp_length.toInt 0 1600)) (fun (u : Int32 × (Nat → Int32)) (t : State) => bRW g (tyT cI cJ cB cZ cL) (va_A [(tp, .inr (8, [.int tp_length, .ref tp_told, .int tp_fault, .int tp_place, .ref tp_bytes, .int tp_at, .int tp_start, .int tp_kind, .int tp_number, .int tp_numberPlace])), (tp_bytes, .inl (cB, 1600, .inl tp_bytes_c))] sz) (match u with | (n_tp_length, n_tp_bytes_c) => [(tp, .inr (8, [.int n_tp_length, .ref tp_told, .int tp_fault, .int tp_place, .ref tp_bytes, .int tp_at, .int tp_start, .int tp_kind, .int tp_number, .int tp_numberPlace])), (tp_bytes, .inl (cB, 1600, .inl n_tp_bytes_c))]) t) (va_A [(tp, .inr (8, [.int tp_length, .ref tp_told, .int tp_fault, .int tp_place, .ref tp_bytes, .int tp_at, .int tp_start, .int tp_kind, .int tp_number, .int tp_numberPlace])), (tp_bytes, .inl (cB, 1600, .inl tp_bytes_c))] sz)) 0 0 (va_A [(tp, .inr (8, [.int tp_length, .ref tp_told, .int tp_fault, .int tp_place, .ref tp_bytes, .int tp_at, .int tp_start, .int tp_kind, .int tp_number, .int tp_numberPlace])), (tp_bytes, .inl (cB, 1600, .inl tp_bytes_c))] sz) := by
  refine Met.ofW (cc := cX8_push) (maxL := 3) (ret := none) (by decide) rfl ?_
  intro p e s m args below meth c s₁ B hml hv
  obtain ⟨rfl, hsz, hP, hK, hD0⟩ := hv
  have hx := B.exec
  have hb := B.bytes
  have hr := B.returns
  have hts := atoms_spec (ws := v_X8_push) B.pre
  have hown : s.vm.findClass RX8 = some m.cls := findClass_of_methodNamed B.named
  have hlocks := B.notSynchronized
  clear B
  subst hsz
  have iX8 : ∀ w ∈ wsX80, w ∈ v_X8_push := (fun _ h => List.mem_cons_of_mem _ (List.mem_append_right _ (List.mem_append_left _ h)))
  have hD := hD0.self (sz := s.heap.size)
  generalize hAe : (va_A [(tp, .inr (8, [.int tp_length, .ref tp_told, .int tp_fault, .int tp_place, .ref tp_bytes, .int tp_at, .int tp_start, .int tp_kind, .int tp_number, .int tp_numberPlace])), (tp_bytes, .inl (cB, 1600, .inl tp_bytes_c))] s.heap.size) = A at hD ⊢
  have hA : ∀ q : Nat, s.heap.size ≤ q → A q := fun q h => by rw [← hAe]; exact Or.inr h
  have hS : va_S A s.heap s.heap [] := va_S.rf
  have hl := lv_entry ([.ref tp, .int p0]) (n := 3) (Nat.le_of_ble_eq_true rfl)
  rw [lg_entry_eq]
  generalize (lg_sl ([.ref tp, .int p0]) ++ List.replicate (3 - (lg_sl ([.ref tp, .int p0])).length) Slot.unset).toArray = ls at hl ⊢
  generalize ([.ref tp, .int p0] : List Value).toArray = av at hts ⊢
  generalize hQ : MQ below _ av s _ _ A = QQ
  have hl : lv_has ls 3 [(0, .ref tp), (1, .int p0)] := hl
  have hP : va_P g vwCl [(tp, .inr (8, [.int tp_length, .ref tp_told, .int tp_fault, .int tp_place, .ref tp_bytes, .int tp_at, .int tp_start, .int tp_kind, .int tp_number, .int tp_numberPlace])), (tp_bytes, .inl (cB, 1600, .inl tp_bytes_c))] s.heap := hP
  refine lv_bipush (v := 24) hx hb dX8_push_0 (by decide) ?_
  refine lv_istore_n (lv' := [(2, .int 24), (0, .ref tp), (1, .int p0)]) hx hb dX8_push_2 rfl hl (by decide) rfl (fun ls hl => ?_)
  have J3 : ∀ (n3 : Nat) (j3_l2 : Int32) (j3_tp_length : Int32) (j3_tp_bytes_c : Nat → Int32) (H : Heap) (locs : List Loc) (ls : Array Slot), (j3_l2.toInt - (-2147483648)).toNat < n3 → (ir j3_l2.toInt (-2147483647) 24) → (ir j3_tp_length.toInt 0 1600) → va_P g vwCl [(tp, .inr (8, [.int j3_tp_length, .ref tp_told, .int tp_fault, .int tp_place, .ref tp_bytes, .int tp_at, .int tp_start, .int tp_kind, .int tp_number, .int tp_numberPlace])), (tp_bytes, .inl (cB, 1600, .inl j3_tp_bytes_c))] H → va_D A [(tp, .inr (8, [.int j3_tp_length, .ref tp_told, .int tp_fault, .int tp_place, .ref tp_bytes, .int tp_at, .int tp_start, .int tp_kind, .int tp_number, .int tp_numberPlace])), (tp_bytes, .inl (cB, 1600, .inl j3_tp_bytes_c))] → va_S A s.heap H locs → lv_has ls 3 [(0, .ref tp), (1, .int p0), (2, .int j3_l2)] → W p l e (headSpec v_X8_push ({ frames := 0, cells := 0, slots := 0, locals := 0 })).room s m av below meth c H locs 0 0 QQ (F0 m 3 ls []) := by
    intro n3
    induction n3 with
    | zero => exact fun j3_l2 j3_tp_length j3_tp_bytes_c H locs ls hn => absurd hn (Nat.not_lt_zero _)
    | succ n3 ih3 =>
      intro j3_l2 j3_tp_length j3_tp_bytes_c H locs ls hn3 hj3_l2 hj3_tp_length hP hD hS hl
      refine lv_iload_n hx hb dX8_push_3 rfl (lv_at hl 2 rfl) ?_
      refine lv_if_lt (tgt := 46) hx hb dX8_push_4 (by decide) (fun c4 => ?_) (fun c4 => ?_)
      · have f4 := (show j3_l2.toInt < 0 from z_lt rfl rfl c4)
        have r4a : ir j3_l2.toInt (-2147483647) (-1) := ir_lta f4 hj3_l2 (ir_c 0) (by decide)
        subst hQ
        have hP9 := hP.sub (ws' := [(tp, .inr (8, [.int j3_tp_length, .ref tp_told, .int tp_fault, .int tp_place, .ref tp_bytes, .int tp_at, .int tp_start, .int tp_kind, .int tp_number, .int tp_numberPlace])), (tp_bytes, .inl (cB, 1600, .inl j3_tp_bytes_c))]) [0, 1] rfl
        have hD9 := hD.sub (ws' := [(tp, .inr (8, [.int j3_tp_length, .ref tp_told, .int tp_fault, .int tp_place, .ref tp_bytes, .int tp_at, .int tp_start, .int tp_kind, .int tp_number, .int tp_numberPlace])), (tp_bytes, .inl (cB, 1600, .inl j3_tp_bytes_c))]) [0, 1] (by decide) rfl
        exact W.vret hx hb hr (fun t ht hW => ⟨⟨(j3_tp_length, j3_tp_bytes_c), rfl, hj3_tp_length, ⟨by rw [ht]; exact hP9, va_K.moved hW.alike hK, hD9⟩⟩, hS.F ht⟩) hS.2.2 dX8_push_46
      have f4 := (show 0 ≤ j3_l2.toInt from z_nlt rfl rfl c4)
      have r4a : ir j3_l2.toInt 0 24 := ir_leb f4 (ir_c 0) hj3_l2 (by decide)
      refine lv_aload_n hx hb dX8_push_7 rfl (lv_at hl 0 rfl) ?_
      refine va_get (D := g) (ci := 8) (v := .int j3_tp_length) (C := RX8) (T := TX8) (N := 10) hx hb hts iX8 hown hK hP 0 rfl rfl 0 (by decide) (hts (.fieldLink RX8 9 "CardsAtYule$Tape" "length" "I") (List.mem_cons_of_mem _ (List.mem_append_left _ (List.mem_of_getElem? (i := 0) rfl)))) (fun _ h9 => h9) rfl dX8_push_8 ?_
      refine lv_sipush (v := 1600) hx hb dX8_push_11 (by decide) ?_
      refine lv_icmp_ge (tgt := 46) hx hb dX8_push_14 (by decide) (fun c14 => ?_) (fun c14 => ?_)
      · have f14 := (show 1600 ≤ j3_tp_length.toInt from z_le rfl rfl c14)
        have r14a : ir j3_tp_length.toInt 1600 1600 := ir_leb f14 (ir_c 1600) hj3_tp_length (by decide)
        subst hQ
        have hP9 := hP.sub (ws' := [(tp, .inr (8, [.int j3_tp_length, .ref tp_told, .int tp_fault, .int tp_place, .ref tp_bytes, .int tp_at, .int tp_start, .int tp_kind, .int tp_number, .int tp_numberPlace])), (tp_bytes, .inl (cB, 1600, .inl j3_tp_bytes_c))]) [0, 1] rfl
        have hD9 := hD.sub (ws' := [(tp, .inr (8, [.int j3_tp_length, .ref tp_told, .int tp_fault, .int tp_place, .ref tp_bytes, .int tp_at, .int tp_start, .int tp_kind, .int tp_number, .int tp_numberPlace])), (tp_bytes, .inl (cB, 1600, .inl j3_tp_bytes_c))]) [0, 1] (by decide) rfl
        exact W.vret hx hb hr (fun t ht hW => ⟨⟨(j3_tp_length, j3_tp_bytes_c), rfl, (ir_w r14a (by decide) (by decide)), ⟨by rw [ht]; exact hP9, va_K.moved hW.alike hK, hD9⟩⟩, hS.F ht⟩) hS.2.2 dX8_push_46
      have f14 := (show j3_tp_length.toInt < 1600 from z_nle rfl rfl c14)
      have r14a : ir j3_tp_length.toInt 0 1599 := ir_lta f14 hj3_tp_length (ir_c 1600) (by decide)
      refine lv_aload_n hx hb dX8_push_17 rfl (lv_at hl 0 rfl) ?_
      refine va_get (D := g) (ci := 8) (v := .ref tp_bytes) (C := RX8) (T := TX8) (N := 10) hx hb hts iX8 hown hK hP 0 rfl rfl 4 (by decide) (hts (.fieldLink RX8 28 "CardsAtYule$Tape" "bytes" "[B") (List.mem_cons_of_mem _ (List.mem_append_left _ (List.mem_of_getElem? (i := 1) rfl)))) (fun _ h9 => h9) rfl dX8_push_18 ?_
      refine lv_aload_n hx hb dX8_push_21 rfl (lv_at hl 0 rfl) ?_
      refine va_get (D := g) (ci := 8) (v := .int j3_tp_length) (C := RX8) (T := TX8) (N := 10) hx hb hts iX8 hown hK hP 0 rfl rfl 0 (by decide) (hts (.fieldLink RX8 9 "CardsAtYule$Tape" "length" "I") (List.mem_cons_of_mem _ (List.mem_append_left _ (List.mem_of_getElem? (i := 0) rfl)))) (fun _ h9 => h9) rfl dX8_push_22 ?_
      refine lv_iload_n hx hb dX8_push_25 rfl (lv_at hl 1 rfl) ?_
      refine lv_iload_n hx hb dX8_push_26 rfl (lv_at hl 2 rfl) ?_
      refine lv_ishr hx hb dX8_push_27 ?_
      refine lv_topi (fun y27 e27 => ?_)
      refine lv_i2b (v := y27.toInt8.toInt32) hx hb dX8_push_28 rfl ?_
      refine lv_topi (fun y28 e28 => ?_)
      refine va_bast (D := g) hx hb hK hP hD hS 1 2 rfl rfl (vi_rg rfl r14a (by decide) (by decide)) dX8_push_29 (fun H locs hP hD hS => ?_)
      obtain ⟨g29, e29⟩ : ∃ z, z = upd j3_tp_bytes_c j3_tp_length.toNatClampNeg (vp_nar .byte y28) := ⟨_, rfl⟩
      have hP : va_P g vwCl [(tp, .inr (8, [.int j3_tp_length, .ref tp_told, .int tp_fault, .int tp_place, .ref tp_bytes, .int tp_at, .int tp_start, .int tp_kind, .int tp_number, .int tp_numberPlace])), (tp_bytes, .inl (cB, 1600, .inl (upd j3_tp_bytes_c j3_tp_length.toNatClampNeg (vp_nar .byte y28))))] H := hP
      have hD : va_D A [(tp, .inr (8, [.int j3_tp_length, .ref tp_told, .int tp_fault, .int tp_place, .ref tp_bytes, .int tp_at, .int tp_start, .int tp_kind, .int tp_number, .int tp_numberPlace])), (tp_bytes, .inl (cB, 1600, .inl (upd j3_tp_bytes_c j3_tp_length.toNatClampNeg (vp_nar .byte y28))))] := hD
      rw [← e29] at hP hD
      refine lv_aload_n hx hb dX8_push_30 rfl (lv_at hl 0 rfl) ?_
      refine lv_dup hx hb dX8_push_31 rfl ?_
      refine va_get (D := g) (ci := 8) (v := .int j3_tp_length) (C := RX8) (T := TX8) (N := 10) hx hb hts iX8 hown hK hP 0 rfl rfl 0 (by decide) (hts (.fieldLink RX8 9 "CardsAtYule$Tape" "length" "I") (List.mem_cons_of_mem _ (List.mem_append_left _ (List.mem_of_getElem? (i := 0) rfl)))) (fun _ h9 => h9) rfl dX8_push_32 ?_
      refine lv_iconst (v := 1) hx hb dX8_push_35 (by decide) ?_
      refine lv_iadd hx hb dX8_push_36 ?_
      refine lv_topi (fun y36 e36 => ?_)
      have q36 : y36.toInt = j3_tp_length.toInt + 1 := by rw [e36]; exact ad_z rfl rfl r14a (ir_c 1) (by decide) (by decide)
      have r36 : ir y36.toInt 1 1600 := ad_r q36 r14a (ir_c 1) (by decide) (by decide)
      refine va_put (D := g) (ci := 8) (v := .int y36) (ty := .int) (C := RX8) (T := TX8) (N := 10) hx hb hts iX8 tyX8 tyX8_ok nmX8 hown hK hP hD hS 0 rfl rfl 0 (by decide) (hts (.fieldLink RX8 9 "CardsAtYule$Tape" "length" "I") (List.mem_cons_of_mem _ (List.mem_append_left _ (List.mem_of_getElem? (i := 0) rfl)))) (fun _ h9 => h9) rfl (by decide +kernel) rfl rfl (Nat.le_of_ble_eq_true rfl) dX8_push_37 (fun H locs hP hD hS => ?_)
      have hP : va_P g vwCl [(tp, .inr (8, [.int y36, .ref tp_told, .int tp_fault, .int tp_place, .ref tp_bytes, .int tp_at, .int tp_start, .int tp_kind, .int tp_number, .int tp_numberPlace])), (tp_bytes, .inl (cB, 1600, .inl g29))] H := hP
      have hD : va_D A [(tp, .inr (8, [.int y36, .ref tp_told, .int tp_fault, .int tp_place, .ref tp_bytes, .int tp_at, .int tp_start, .int tp_kind, .int tp_number, .int tp_numberPlace])), (tp_bytes, .inl (cB, 1600, .inl g29))] := hD
      obtain ⟨y40, e40⟩ : ∃ y : Int32, y = j3_l2 + (-8) := ⟨_, rfl⟩
      have q40 : y40.toInt = j3_l2.toInt + (-8) := by rw [e40]; exact ad_z rfl rfl r4a (ir_c (-8)) (by decide) (by decide)
      have r40 : ir y40.toInt (-8) 16 := ad_r q40 r4a (ir_c (-8)) (by decide) (by decide)
      refine lv_iinc (v := y40) (lv' := [(2, .int y40), (0, .ref tp), (1, .int p0)]) hx hb dX8_push_40 hl (k := 2) rfl e40.symm (by decide) rfl (fun ls hl => ?_)
      refine lv_goto (tgt := 3) hx hb dX8_push_43 (by decide) ?_
      exact ih3 y40 y36 g29 _ _ _ (by omega) (ir_w r40 (by decide) (by decide)) (ir_w r36 (by decide) (by decide)) (hP.sub [0, 1] rfl) (hD.sub [0, 1] (by decide) rfl) hS (lv_sub hl [1, 2, 0] rfl)
  exact J3 _ 24 tp_length tp_bytes_c _ _ _ (Nat.lt_succ_self _) (by decide) hv_tp_length (hP.sub [0, 1] rfl) (hD.sub [0, 1] (by decide) rfl) hS (lv_sub hl [1, 2, 0] rfl)
def v_X8_byteAt : List Cond := .code yX8_byteAt cX8_byteAt 2 (some .int) :: (([.fieldLink RX8 28 "CardsAtYule$Tape" "bytes" "[B"] : List Cond) ++ (wsX80 ++ ([] : List Cond)))
theorem good_v_X8_byteAt : v_X8_byteAt.all goodWord = true := ga_c (by decide +kernel) (ga_a (by decide +kernel) (ga_a good_wsX80 rfl))
set_option maxHeartbeats 4000000 in
set_option maxRecDepth 100000 in
theorem q_X8_byteAt (l : Launch) (g : va_G) (cI cJ cB cZ cL : ClassId) (p0 : Int32) (tp : Nat) (tp_length : Int32) (tp_told : Nat) (tp_fault : Int32) (tp_place : Int32) (tp_bytes : Nat) (tp_at : Int32) (tp_start : Int32) (tp_kind : Int32) (tp_number : Int32) (tp_numberPlace : Int32) (tp_bytes_c : Nat → Int32) (sz : Nat) (hv_tp_length : ir tp_length.toInt 0 1600) (hv_tp_at : ir tp_at.toInt 0 1600) (hv_tp_start : ir tp_start.toInt 0 1600) : Met l yX8_byteAt v_X8_byteAt ({ frames := 0, cells := 0, slots := 0, locals := 0 }) (va_Pc [.ref tp, .int p0] (pRO g (tyT cI cJ cB cZ cL) [(tp, .inr (8, [.int tp_length, .ref tp_told, .int tp_fault, .int tp_place, .ref tp_bytes, .int tp_at, .int tp_start, .int tp_kind, .int tp_number, .int tp_numberPlace])), (tp_bytes, .inl (cB, 1600, .inl tp_bytes_c))] sz)) (va_Qi (fun (r : Int32) (u : Unit) => True) (fun (_ : Unit) (_ : State) => True) (va_A [] sz)) 0 0 (va_A [] sz) := by
  refine Met.ofW (cc := cX8_byteAt) (maxL := 2) (ret := (some .int)) (by decide) rfl ?_
  intro p e s m args below meth c s₁ B hml hv
  obtain ⟨rfl, hsz, hP, hK⟩ := hv
  have hx := B.exec
  have hb := B.bytes
  have hr := B.returns
  have hts := atoms_spec (ws := v_X8_byteAt) B.pre
  have hown : s.vm.findClass RX8 = some m.cls := findClass_of_methodNamed B.named
  have hlocks := B.notSynchronized
  clear B
  subst hsz
  have iX8 : ∀ w ∈ wsX80, w ∈ v_X8_byteAt := (fun _ h => List.mem_cons_of_mem _ (List.mem_append_right _ (List.mem_append_left _ h)))
  generalize hAe : (va_A [] s.heap.size) = A
  have hA : ∀ q : Nat, s.heap.size ≤ q → A q := fun q h => by rw [← hAe]; exact Or.inr h
  have hS : va_S A s.heap s.heap [] := va_S.rf
  have hl := lv_entry ([.ref tp, .int p0]) (n := 2) (Nat.le_of_ble_eq_true rfl)
  rw [lg_entry_eq]
  generalize (lg_sl ([.ref tp, .int p0]) ++ List.replicate (2 - (lg_sl ([.ref tp, .int p0])).length) Slot.unset).toArray = ls at hl ⊢
  generalize ([.ref tp, .int p0] : List Value).toArray = av at hts ⊢
  generalize hQ : MQ below _ av s _ _ A = QQ
  have hl : lv_has ls 2 [(0, .ref tp), (1, .int p0)] := hl
  have hP : va_P g vwCl [(tp, .inr (8, [.int tp_length, .ref tp_told, .int tp_fault, .int tp_place, .ref tp_bytes, .int tp_at, .int tp_start, .int tp_kind, .int tp_number, .int tp_numberPlace])), (tp_bytes, .inl (cB, 1600, .inl tp_bytes_c))] s.heap := hP
  refine lv_iload_n hx hb dX8_byteAt_0 rfl (lv_at hl 1 rfl) ?_
  refine lv_if_lt (tgt := 20) hx hb dX8_byteAt_1 (by decide) (fun c1 => ?_) (fun c1 => ?_)
  · have f1 := (show p0.toInt < 0 from z_lt rfl rfl c1)
    have r1a : ir p0.toInt (-2147483648) (-1) := ir_lta f1 (rg_all p0) (ir_c 0) (by decide)
    refine lv_iconst (v := 0) hx hb dX8_byteAt_20 (by decide) ?_
    subst hQ
    exact W.iret (v := 0) hx hb hr (fun t ht hW => ⟨⟨0, (), rfl, trivial, trivial⟩, hS.F ht⟩) hS.2.2 dX8_byteAt_21
  have f1 := (show 0 ≤ p0.toInt from z_nlt rfl rfl c1)
  have r1a : ir p0.toInt 0 2147483647 := ir_leb f1 (ir_c 0) (rg_all p0) (by decide)
  refine lv_iload_n hx hb dX8_byteAt_4 rfl (lv_at hl 1 rfl) ?_
  refine lv_sipush (v := 1600) hx hb dX8_byteAt_5 (by decide) ?_
  refine lv_icmp_ge (tgt := 20) hx hb dX8_byteAt_8 (by decide) (fun c8 => ?_) (fun c8 => ?_)
  · have f8 := (show 1600 ≤ p0.toInt from z_le rfl rfl c8)
    have r8a : ir p0.toInt 1600 2147483647 := ir_leb f8 (ir_c 1600) r1a (by decide)
    refine lv_iconst (v := 0) hx hb dX8_byteAt_20 (by decide) ?_
    subst hQ
    exact W.iret (v := 0) hx hb hr (fun t ht hW => ⟨⟨0, (), rfl, trivial, trivial⟩, hS.F ht⟩) hS.2.2 dX8_byteAt_21
  have f8 := (show p0.toInt < 1600 from z_nle rfl rfl c8)
  have r8a : ir p0.toInt 0 1599 := ir_lta f8 r1a (ir_c 1600) (by decide)
  refine lv_aload_n hx hb dX8_byteAt_11 rfl (lv_at hl 0 rfl) ?_
  refine va_get (D := g) (ci := 8) (v := .ref tp_bytes) (C := RX8) (T := TX8) (N := 10) hx hb hts iX8 hown hK hP 0 rfl rfl 4 (by decide) (hts (.fieldLink RX8 28 "CardsAtYule$Tape" "bytes" "[B") (List.mem_cons_of_mem _ (List.mem_append_left _ (List.mem_of_getElem? (i := 0) rfl)))) (fun _ h9 => h9) rfl dX8_byteAt_12 ?_
  refine lv_iload_n hx hb dX8_byteAt_15 rfl (lv_at hl 1 rfl) ?_
  refine va_bald (D := g) hx hb hK hP 1 2 rfl rfl (vi_rg rfl r8a (by decide) (by decide)) dX8_byteAt_16 ?_
  refine lv_topi (fun y16 e16 => ?_)
  refine lv_goto (tgt := 21) hx hb dX8_byteAt_17 (by decide) ?_
  subst hQ
  exact W.iret (v := y16) hx hb hr (fun t ht hW => ⟨⟨y16, (), rfl, trivial, trivial⟩, hS.F ht⟩) hS.2.2 dX8_byteAt_21
def v_X8_isBlank : List Cond := .code yX8_isBlank cX8_isBlank 1 (some .boolean) :: (([] : List Cond) ++ ([] : List Cond))
theorem good_v_X8_isBlank : v_X8_isBlank.all goodWord = true := ga_c (by decide +kernel) (ga_a (by decide +kernel) rfl)
set_option maxHeartbeats 4000000 in
set_option maxRecDepth 100000 in
theorem q_X8_isBlank (l : Launch) (g : va_G) (cI cJ cB cZ cL : ClassId) (p0 : Int32) (sz : Nat)  : Met l yX8_isBlank v_X8_isBlank ({ frames := 0, cells := 0, slots := 0, locals := 0 }) (va_Pc [.int p0] (pRO g (tyT cI cJ cB cZ cL) [] sz)) (va_Qi (fun (r : Int32) (u : Unit) => (ir r.toInt 0 1)) (fun (_ : Unit) (_ : State) => True) (va_A [] sz)) 0 0 (va_A [] sz) := by
  refine Met.ofW (cc := cX8_isBlank) (maxL := 1) (ret := (some .boolean)) (by decide) rfl ?_
  intro p e s m args below meth c s₁ B hml hv
  obtain ⟨rfl, hsz, hP, hK⟩ := hv
  have hx := B.exec
  have hb := B.bytes
  have hr := B.returns
  have hts := atoms_spec (ws := v_X8_isBlank) B.pre
  have hown : s.vm.findClass RX8 = some m.cls := findClass_of_methodNamed B.named
  have hlocks := B.notSynchronized
  clear B
  subst hsz
  generalize hAe : (va_A [] s.heap.size) = A
  have hA : ∀ q : Nat, s.heap.size ≤ q → A q := fun q h => by rw [← hAe]; exact Or.inr h
  have hS : va_S A s.heap s.heap [] := va_S.rf
  have hl := lv_entry ([.int p0]) (n := 1) (Nat.le_of_ble_eq_true rfl)
  rw [lg_entry_eq]
  generalize (lg_sl ([.int p0]) ++ List.replicate (1 - (lg_sl ([.int p0])).length) Slot.unset).toArray = ls at hl ⊢
  generalize ([.int p0] : List Value).toArray = av at hts ⊢
  generalize hQ : MQ below _ av s _ _ A = QQ
  have hl : lv_has ls 1 [(0, .int p0)] := hl
  have hP : va_P g vwCl [] s.heap := hP
  refine lv_iload_n hx hb dX8_isBlank_0 rfl (lv_at hl 0 rfl) ?_
  refine lv_bipush (v := 32) hx hb dX8_isBlank_1 (by decide) ?_
  refine lv_icmp_eq (tgt := 12) hx hb dX8_isBlank_3 (by decide) (fun c3 => ?_) (fun c3 => ?_)
  · have f3 := (show p0.toInt = 32 from z_eq rfl rfl c3)
    have r3a : ir p0.toInt 32 32 := ir_eqa f3 (rg_all p0) (ir_c 32) (by decide) (by decide)
    refine lv_iconst (v := 1) hx hb dX8_isBlank_12 (by decide) ?_
    refine lv_goto (tgt := 17) hx hb dX8_isBlank_13 (by decide) ?_
    subst hQ
    exact W.zret (v := 1) hx hb hr rfl (fun t ht hW => ⟨⟨1, (), rfl, (show ir (1 : Int32).toInt 0 1 by decide), trivial⟩, hS.F ht⟩) hS.2.2 dX8_isBlank_17
  have f3 := (show p0.toInt ≠ 32 from z_ne rfl rfl c3)
  refine lv_iload_n hx hb dX8_isBlank_6 rfl (lv_at hl 0 rfl) ?_
  refine lv_bipush (v := 10) hx hb dX8_isBlank_7 (by decide) ?_
  refine lv_icmp_ne (tgt := 16) hx hb dX8_isBlank_9 (by decide) (fun c9 => ?_) (fun c9 => ?_)
  · have f9 := (show p0.toInt ≠ 10 from z_ne rfl rfl c9)
    refine lv_iconst (v := 0) hx hb dX8_isBlank_16 (by decide) ?_
    subst hQ
    exact W.zret (v := 0) hx hb hr rfl (fun t ht hW => ⟨⟨0, (), rfl, (show ir (0 : Int32).toInt 0 1 by decide), trivial⟩, hS.F ht⟩) hS.2.2 dX8_isBlank_17
  have f9 := (show p0.toInt = 10 from z_eq rfl rfl c9)
  have r9a : ir p0.toInt 10 10 := ir_eqa f9 (rg_all p0) (ir_c 10) (by decide) (by decide)
  refine lv_iconst (v := 1) hx hb dX8_isBlank_12 (by decide) ?_
  refine lv_goto (tgt := 17) hx hb dX8_isBlank_13 (by decide) ?_
  subst hQ
  exact W.zret (v := 1) hx hb hr rfl (fun t ht hW => ⟨⟨1, (), rfl, (show ir (1 : Int32).toInt 0 1 by decide), trivial⟩, hS.F ht⟩) hS.2.2 dX8_isBlank_17
