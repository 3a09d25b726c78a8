def v_X1_goThrough : List Cond := .code yX1_goThrough cX1_goThrough 5 none :: (([.methodLink RX1 22 yX4_ruleOfSide, .instanceMethod yX4_ruleOfSide, .selects RX4 yX4_ruleOfSide yX4_ruleOfSide, .initialized RX4, .fieldLink RX1 28 "CardsAtYule$Chances" "rule0" "I", .fieldLink RX1 32 "CardsAtYule$Chances" "rule1" "I", .fieldLink RX1 9 "CardsAtYule$Chances" "forgets" "[I", .fieldLink RX1 35 "CardsAtYule$Land" "forgets" "[I", .fieldLink RX1 36 "CardsAtYule$Land" "who" "[I", .fieldLink RX1 39 "CardsAtYule$Chances" "below" "J", .fieldLink RX1 43 "CardsAtYule$Chances" "cardsSent" "J", .fieldLink RX1 15 "CardsAtYule$Chances" "now" "[J", .methodLink RX1 46 yJ7_fill_d0a16, .static yJ7_fill_d0a16, .initialized RJ7, .fieldLink RX1 52 "CardsAtYule$Land" "begun" "[I", .methodLink RX1 55 yX1_goThroughYear, .instanceMethod yX1_goThroughYear, .selects RX1 yX1_goThroughYear yX1_goThroughYear, .initialized RX1] : List Cond) ++ (v_X4_ruleOfSide ++ (v_J7_fillj16 ++ (v_X1_goThroughYear ++ (wsX10 ++ (wsX40 ++ ([] : List Cond)))))))
theorem good_v_X1_goThrough : v_X1_goThrough.all goodWord = true := ga_c (by decide +kernel) (ga_a (by decide +kernel) (ga_a good_v_X4_ruleOfSide (ga_a good_v_J7_fillj16 (ga_a good_v_X1_goThroughYear (ga_a good_wsX10 (ga_a good_wsX40 rfl))))))
set_option maxHeartbeats 4000000 in
set_option maxRecDepth 100000 in
theorem q_X1_goThrough (l : Launch) (g : va_G) (cI cJ cB cZ cL : ClassId) (p1 : Int32) (p2 : Int32) (ch : Nat) (ld : Nat) (ld_lines : Int32) (ld_years : Int32) (ld_card : Int32) (ld_hurt : Int32) (ld_people : Int32) (ld_pairs : Int32) (ld_strikes : Int64) (ld_rule : Nat) (ld_returns : Nat) (ld_forgets : Nat) (ld_death : Nat) (ld_move : Nat) (ld_begun : Nat) (ld_who : Nat) (ld_lost : Nat) (ld_who_c : Nat → Int32) (ld_rule_c : Nat → Int32) (ld_returns_c : Nat → Int32) (ch_any : Int64) (ch_bothSend : Int64) (ch_cardsSent : Int64) (ch_below : Int64) (ch_rule0 : Int32) (ch_rule1 : Int32) (ch_forgets : Nat) (ch_now : Nat) (ch_then : Nat) (ld_forgets_c : Nat → Int32) (ch_forgets_c : Nat → Int32) (ch_now_c : Nat → Int64) (ld_begun_c : Nat → Int32) (ch_then_c : Nat → Int64) (sz : Nat) (hv_p1 : ir p1.toInt 0 15) (hv_p2 : ir p2.toInt 1 3) (hv_ld_years : ir ld_years.toInt 0 40) (hv_ld_people : ir ld_people.toInt 0 10) (hv_ld_pairs : ir ld_pairs.toInt 0 16) (ha_ld_who_c : ar ld_who_c 32 0 9) (ha_ld_begun_c : ar ld_begun_c 16 0 15) : Met l yX1_goThrough v_X1_goThrough ({ frames := 4, cells := 0, slots := 0, locals := 93 }) (va_Pc [.ref ch, .ref ld, .int p1, .int p2] (pRW g (tyT cI cJ cB cZ cL) [(ld, .inr (4, [.int ld_lines, .int ld_years, .int ld_card, .int ld_hurt, .int ld_people, .int ld_pairs, .long ld_strikes, .ref ld_rule, .ref ld_returns, .ref ld_forgets, .ref ld_death, .ref ld_move, .ref ld_begun, .ref ld_who, .ref ld_lost])), (ld_who, .inl (cI, 32, .inl ld_who_c)), (ld_rule, .inl (cI, 10, .inl ld_rule_c)), (ld_returns, .inl (cI, 10, .inl ld_returns_c)), (ch, .inr (1, [.long ch_any, .long ch_bothSend, .long ch_cardsSent, .long ch_below, .int ch_rule0, .int ch_rule1, .ref ch_forgets, .ref ch_now, .ref ch_then])), (ld_forgets, .inl (cI, 10, .inl ld_forgets_c)), (ch_forgets, .inl (cI, 2, .inl ch_forgets_c)), (ch_now, .inl (cJ, 16, .inr (.inl ch_now_c))), (ld_begun, .inl (cI, 16, .inl ld_begun_c)), (ch_then, .inl (cJ, 16, .inr (.inl ch_then_c)))] sz)) (va_Qv (fun (u : Int64 × Int64 × Int64 × Int64 × Int32 × Int32 × Nat × Nat × (Nat → Int32) × (Nat → Int64) × (Nat → Int64)) => match u with | (n_ch_any, n_ch_bothSend, n_ch_cardsSent, n_ch_below, n_ch_rule0, n_ch_rule1, n_ch_now, n_ch_then, n_ch_forgets_c, n_ch_now_c, n_ch_then_c) => True) (fun (u : Int64 × Int64 × Int64 × Int64 × Int32 × Int32 × Nat × Nat × (Nat → Int32) × (Nat → Int64) × (Nat → Int64)) (t : State) => bRW g (tyT cI cJ cB cZ cL) (va_A [(ld, .inr (4, [.int ld_lines, .int ld_years, .int ld_card, .int ld_hurt, .int ld_people, .int ld_pairs, .long ld_strikes, .ref ld_rule, .ref ld_returns, .ref ld_forgets, .ref ld_death, .ref ld_move, .ref ld_begun, .ref ld_who, .ref ld_lost])), (ld_who, .inl (cI, 32, .inl ld_who_c)), (ld_rule, .inl (cI, 10, .inl ld_rule_c)), (ld_returns, .inl (cI, 10, .inl ld_returns_c)), (ch, .inr (1, [.long ch_any, .long ch_bothSend, .long ch_cardsSent, .long ch_below, .int ch_rule0, .int ch_rule1, .ref ch_forgets, .ref ch_now, .ref ch_then])), (ld_forgets, .inl (cI, 10, .inl ld_forgets_c)), (ch_forgets, .inl (cI, 2, .inl ch_forgets_c)), (ch_now, .inl (cJ, 16, .inr (.inl ch_now_c))), (ld_begun, .inl (cI, 16, .inl ld_begun_c)), (ch_then, .inl (cJ, 16, .inr (.inl ch_then_c)))] sz) (match u with | (n_ch_any, n_ch_bothSend, n_ch_cardsSent, n_ch_below, n_ch_rule0, n_ch_rule1, n_ch_now, n_ch_then, n_ch_forgets_c, n_ch_now_c, n_ch_then_c) => [(ld, .inr (4, [.int ld_lines, .int ld_years, .int ld_card, .int ld_hurt, .int ld_people, .int ld_pairs, .long ld_strikes, .ref ld_rule, .ref ld_returns, .ref ld_forgets, .ref ld_death, .ref ld_move, .ref ld_begun, .ref ld_who, .ref ld_lost])), (ld_who, .inl (cI, 32, .inl ld_who_c)), (ld_rule, .inl (cI, 10, .inl ld_rule_c)), (ld_returns, .inl (cI, 10, .inl ld_returns_c)), (ch, .inr (1, [.long n_ch_any, .long n_ch_bothSend, .long n_ch_cardsSent, .long n_ch_below, .int n_ch_rule0, .int n_ch_rule1, .ref ch_forgets, .ref n_ch_now, .ref n_ch_then])), (ld_forgets, .inl (cI, 10, .inl ld_forgets_c)), (ch_forgets, .inl (cI, 2, .inl n_ch_forgets_c)), (n_ch_now, .inl (cJ, 16, .inr (.inl n_ch_now_c))), (ld_begun, .inl (cI, 16, .inl ld_begun_c)), (n_ch_then, .inl (cJ, 16, .inr (.inl n_ch_then_c)))]) t) (va_A [(ld, .inr (4, [.int ld_lines, .int ld_years, .int ld_card, .int ld_hurt, .int ld_people, .int ld_pairs, .long ld_strikes, .ref ld_rule, .ref ld_returns, .ref ld_forgets, .ref ld_death, .ref ld_move, .ref ld_begun, .ref ld_who, .ref ld_lost])), (ld_who, .inl (cI, 32, .inl ld_who_c)), (ld_rule, .inl (cI, 10, .inl ld_rule_c)), (ld_returns, .inl (cI, 10, .inl ld_returns_c)), (ch, .inr (1, [.long ch_any, .long ch_bothSend, .long ch_cardsSent, .long ch_below, .int ch_rule0, .int ch_rule1, .ref ch_forgets, .ref ch_now, .ref ch_then])), (ld_forgets, .inl (cI, 10, .inl ld_forgets_c)), (ch_forgets, .inl (cI, 2, .inl ch_forgets_c)), (ch_now, .inl (cJ, 16, .inr (.inl ch_now_c))), (ld_begun, .inl (cI, 16, .inl ld_begun_c)), (ch_then, .inl (cJ, 16, .inr (.inl ch_then_c)))] sz)) 0 0 (va_A [(ld, .inr (4, [.int ld_lines, .int ld_years, .int ld_card, .int ld_hurt, .int ld_people, .int ld_pairs, .long ld_strikes, .ref ld_rule, .ref ld_returns, .ref ld_forgets, .ref ld_death, .ref ld_move, .ref ld_begun, .ref ld_who, .ref ld_lost])), (ld_who, .inl (cI, 32, .inl ld_who_c)), (ld_rule, .inl (cI, 10, .inl ld_rule_c)), (ld_returns, .inl (cI, 10, .inl ld_returns_c)), (ch, .inr (1, [.long ch_any, .long ch_bothSend, .long ch_cardsSent, .long ch_below, .int ch_rule0, .int ch_rule1, .ref ch_forgets, .ref ch_now, .ref ch_then])), (ld_forgets, .inl (cI, 10, .inl ld_forgets_c)), (ch_forgets, .inl (cI, 2, .inl ch_forgets_c)), (ch_now, .inl (cJ, 16, .inr (.inl ch_now_c))), (ld_begun, .inl (cI, 16, .inl ld_begun_c)), (ch_then, .inl (cJ, 16, .inr (.inl ch_then_c)))] sz) := by
  refine Met.ofW (cc := cX1_goThrough) (maxL := 5) (ret := none) (by decide) rfl ?_
  intro p e s m args below meth c s₁ B hml hv
  obtain ⟨rfl, hsz, hP, hK, hD0⟩ := hv
  have hx := B.exec
  have hb := B.bytes
  have hr := B.returns
  have hts := atoms_spec (ws := v_X1_goThrough) B.pre
  have hown : s.vm.findClass RX1 = some m.cls := findClass_of_methodNamed B.named
  have hlocks := B.notSynchronized
  clear B
  subst hsz
  have iX1 : ∀ w ∈ wsX10, w ∈ v_X1_goThrough := (fun _ h => List.mem_cons_of_mem _ (List.mem_append_right _ (List.mem_append_right _ (List.mem_append_right _ (List.mem_append_right _ (List.mem_append_left _ h))))))
  have iX4 : ∀ w ∈ wsX40, w ∈ v_X1_goThrough := (fun _ h => List.mem_cons_of_mem _ (List.mem_append_right _ (List.mem_append_right _ (List.mem_append_right _ (List.mem_append_right _ (List.mem_append_right _ (List.mem_append_left _ h)))))))
  have hD := hD0.self (sz := s.heap.size)
  generalize hAe : (va_A [(ld, .inr (4, [.int ld_lines, .int ld_years, .int ld_card, .int ld_hurt, .int ld_people, .int ld_pairs, .long ld_strikes, .ref ld_rule, .ref ld_returns, .ref ld_forgets, .ref ld_death, .ref ld_move, .ref ld_begun, .ref ld_who, .ref ld_lost])), (ld_who, .inl (cI, 32, .inl ld_who_c)), (ld_rule, .inl (cI, 10, .inl ld_rule_c)), (ld_returns, .inl (cI, 10, .inl ld_returns_c)), (ch, .inr (1, [.long ch_any, .long ch_bothSend, .long ch_cardsSent, .long ch_below, .int ch_rule0, .int ch_rule1, .ref ch_forgets, .ref ch_now, .ref ch_then])), (ld_forgets, .inl (cI, 10, .inl ld_forgets_c)), (ch_forgets, .inl (cI, 2, .inl ch_forgets_c)), (ch_now, .inl (cJ, 16, .inr (.inl ch_now_c))), (ld_begun, .inl (cI, 16, .inl ld_begun_c)), (ch_then, .inl (cJ, 16, .inr (.inl ch_then_c)))] s.heap.size) = A at hD ⊢
  have hA : ∀ q : Nat, s.heap.size ≤ q → A q := fun q h => by rw [← hAe]; exact Or.inr h
  have hS : va_S A s.heap s.heap [] := va_S.rf
  have hl := lv_entry ([.ref ch, .ref ld, .int p1, .int p2]) (n := 5) (Nat.le_of_ble_eq_true rfl)
  rw [lg_entry_eq]
  generalize (lg_sl ([.ref ch, .ref ld, .int p1, .int p2]) ++ List.replicate (5 - (lg_sl ([.ref ch, .ref ld, .int p1, .int p2])).length) Slot.unset).toArray = ls at hl ⊢
  generalize ([.ref ch, .ref ld, .int p1, .int p2] : List Value).toArray = av at hts ⊢
  generalize hQ : MQ below _ av s _ _ A = QQ
  have hl : lv_has ls 5 [(0, .ref ch), (1, .ref ld), (2, .int p1), (3, .int p2)] := hl
  have hP : va_P g vwCl [(ld, .inr (4, [.int ld_lines, .int ld_years, .int ld_card, .int ld_hurt, .int ld_people, .int ld_pairs, .long ld_strikes, .ref ld_rule, .ref ld_returns, .ref ld_forgets, .ref ld_death, .ref ld_move, .ref ld_begun, .ref ld_who, .ref ld_lost])), (ld_who, .inl (cI, 32, .inl ld_who_c)), (ld_rule, .inl (cI, 10, .inl ld_rule_c)), (ld_returns, .inl (cI, 10, .inl ld_returns_c)), (ch, .inr (1, [.long ch_any, .long ch_bothSend, .long ch_cardsSent, .long ch_below, .int ch_rule0, .int ch_rule1, .ref ch_forgets, .ref ch_now, .ref ch_then])), (ld_forgets, .inl (cI, 10, .inl ld_forgets_c)), (ch_forgets, .inl (cI, 2, .inl ch_forgets_c)), (ch_now, .inl (cJ, 16, .inr (.inl ch_now_c))), (ld_begun, .inl (cI, 16, .inl ld_begun_c)), (ch_then, .inl (cJ, 16, .inr (.inl ch_then_c)))] s.heap := hP
  refine lv_aload_n hx hb dX1_goThrough_0 rfl (lv_at hl 0 rfl) ?_
  refine lv_aload_n hx hb dX1_goThrough_1 rfl (lv_at hl 1 rfl) ?_
  refine lv_iload_n hx hb dX1_goThrough_2 rfl (lv_at hl 2 rfl) ?_
  refine lv_iconst (v := 0) hx hb dX1_goThrough_3 (by decide) ?_
  refine ro_i (va_runV (As := [.int p1, .int 0]) (rest := [.ref ch]) ⟨hx, hb, hml, hown, hts⟩ (q_X4_ruleOfSide l g cI cJ cB cZ cL p1 0 ld ld_lines ld_years ld_card ld_hurt ld_people ld_pairs ld_strikes ld_rule ld_returns ld_forgets ld_death ld_move ld_begun ld_who ld_lost ld_who_c ld_rule_c ld_returns_c s.heap.size hv_p1 (by decide) hv_ld_years hv_ld_people hv_ld_pairs ha_ld_who_c) (cwV 2 hts (goodIn_app (g_4 (List.mem_cons_of_mem _ (List.mem_append_left _ (List.mem_of_getElem? (i := 0) rfl))) (List.mem_cons_of_mem _ (List.mem_append_left _ (List.mem_of_getElem? (i := 1) rfl))) (List.mem_cons_of_mem _ (List.mem_append_left _ (List.mem_of_getElem? (i := 2) rfl))) (List.mem_cons_of_mem _ (List.mem_append_left _ (List.mem_of_getElem? (i := 3) rfl))) (by decide +kernel)) (goodIn_sub (fun _ h => List.mem_cons_of_mem _ (List.mem_append_right _ (List.mem_append_left _ h))) good_v_X4_ruleOfSide)) rfl rfl rfl (by decide +kernel) ⟨Nat.le_of_ble_eq_true rfl, Nat.le_of_ble_eq_true rfl⟩) (pv_RO (q := (RX4, TX4, 15)) (ci := 4) (q0 := 0) (wc := [(ld, .inr (4, [.int ld_lines, .int ld_years, .int ld_card, .int ld_hurt, .int ld_people, .int ld_pairs, .long ld_strikes, .ref ld_rule, .ref ld_returns, .ref ld_forgets, .ref ld_death, .ref ld_move, .ref ld_begun, .ref ld_who, .ref ld_lost])), (ld_who, .inl (cI, 32, .inl ld_who_c)), (ld_rule, .inl (cI, 10, .inl ld_rule_c)), (ld_returns, .inl (cI, 10, .inl ld_returns_c))]) hK hP [0, 1, 2, 3] rfl rfl rfl) rfl rfl hl.1 rfl (lv_room (Nat.le_of_ble_eq_true rfl)) dX1_goThrough_4 ⟨Nat.le_of_ble_eq_true rfl, Nat.le_of_ble_eq_true rfl⟩) hS hA hP (fun r4 u4 H locs hw4 hP hS => ?_)
  refine va_put (D := g) (ci := 1) (v := .int r4) (ty := .int) (C := RX1) (T := TX1) (N := 9) hx hb hts iX1 tyX1 tyX1_ok nmX1 hown hK hP hD hS 4 rfl rfl 4 (by decide) (hts (.fieldLink RX1 28 "CardsAtYule$Chances" "rule0" "I") (List.mem_cons_of_mem _ (List.mem_append_left _ (List.mem_of_getElem? (i := 4) rfl)))) (fun _ h9 => h9) rfl (by decide +kernel) rfl rfl (Nat.le_of_ble_eq_true rfl) dX1_goThrough_7 (fun H locs hP hD hS => ?_)
  have hP : va_P g vwCl [(ld, .inr (4, [.int ld_lines, .int ld_years, .int ld_card, .int ld_hurt, .int ld_people, .int ld_pairs, .long ld_strikes, .ref ld_rule, .ref ld_returns, .ref ld_forgets, .ref ld_death, .ref ld_move, .ref ld_begun, .ref ld_who, .ref ld_lost])), (ld_who, .inl (cI, 32, .inl ld_who_c)), (ld_rule, .inl (cI, 10, .inl ld_rule_c)), (ld_returns, .inl (cI, 10, .inl ld_returns_c)), (ch, .inr (1, [.long ch_any, .long ch_bothSend, .long ch_cardsSent, .long ch_below, .int r4, .int ch_rule1, .ref ch_forgets, .ref ch_now, .ref ch_then])), (ld_forgets, .inl (cI, 10, .inl ld_forgets_c)), (ch_forgets, .inl (cI, 2, .inl ch_forgets_c)), (ch_now, .inl (cJ, 16, .inr (.inl ch_now_c))), (ld_begun, .inl (cI, 16, .inl ld_begun_c)), (ch_then, .inl (cJ, 16, .inr (.inl ch_then_c)))] H := hP
  have hD : va_D A [(ld, .inr (4, [.int ld_lines, .int ld_years, .int ld_card, .int ld_hurt, .int ld_people, .int ld_pairs, .long ld_strikes, .ref ld_rule, .ref ld_returns, .ref ld_forgets, .ref ld_death, .ref ld_move, .ref ld_begun, .ref ld_who, .ref ld_lost])), (ld_who, .inl (cI, 32, .inl ld_who_c)), (ld_rule, .inl (cI, 10, .inl ld_rule_c)), (ld_returns, .inl (cI, 10, .inl ld_returns_c)), (ch, .inr (1, [.long ch_any, .long ch_bothSend, .long ch_cardsSent, .long ch_below, .int r4, .int ch_rule1, .ref ch_forgets, .ref ch_now, .ref ch_then])), (ld_forgets, .inl (cI, 10, .inl ld_forgets_c)), (ch_forgets, .inl (cI, 2, .inl ch_forgets_c)), (ch_now, .inl (cJ, 16, .inr (.inl ch_now_c))), (ld_begun, .inl (cI, 16, .inl ld_begun_c)), (ch_then, .inl (cJ, 16, .inr (.inl ch_then_c)))] := hD
  refine lv_aload_n hx hb dX1_goThrough_10 rfl (lv_at hl 0 rfl) ?_
  refine lv_aload_n hx hb dX1_goThrough_11 rfl (lv_at hl 1 rfl) ?_
  refine lv_iload_n hx hb dX1_goThrough_12 rfl (lv_at hl 2 rfl) ?_
  refine lv_iconst (v := 1) hx hb dX1_goThrough_13 (by decide) ?_
  refine ro_i (va_runV (As := [.int p1, .int 1]) (rest := [.ref ch]) ⟨hx, hb, hml, hown, hts⟩ (q_X4_ruleOfSide l g cI cJ cB cZ cL p1 1 ld ld_lines ld_years ld_card ld_hurt ld_people ld_pairs ld_strikes ld_rule ld_returns ld_forgets ld_death ld_move ld_begun ld_who ld_lost ld_who_c ld_rule_c ld_returns_c H.size hv_p1 (by decide) hv_ld_years hv_ld_people hv_ld_pairs ha_ld_who_c) (cwV 2 hts (goodIn_app (g_4 (List.mem_cons_of_mem _ (List.mem_append_left _ (List.mem_of_getElem? (i := 0) rfl))) (List.mem_cons_of_mem _ (List.mem_append_left _ (List.mem_of_getElem? (i := 1) rfl))) (List.mem_cons_of_mem _ (List.mem_append_left _ (List.mem_of_getElem? (i := 2) rfl))) (List.mem_cons_of_mem _ (List.mem_append_left _ (List.mem_of_getElem? (i := 3) rfl))) (by decide +kernel)) (goodIn_sub (fun _ h => List.mem_cons_of_mem _ (List.mem_append_right _ (List.mem_append_left _ h))) good_v_X4_ruleOfSide)) rfl rfl rfl (by decide +kernel) ⟨Nat.le_of_ble_eq_true rfl, Nat.le_of_ble_eq_true rfl⟩) (pv_RO (q := (RX4, TX4, 15)) (ci := 4) (q0 := 0) (wc := [(ld, .inr (4, [.int ld_lines, .int ld_years, .int ld_card, .int ld_hurt, .int ld_people, .int ld_pairs, .long ld_strikes, .ref ld_rule, .ref ld_returns, .ref ld_forgets, .ref ld_death, .ref ld_move, .ref ld_begun, .ref ld_who, .ref ld_lost])), (ld_who, .inl (cI, 32, .inl ld_who_c)), (ld_rule, .inl (cI, 10, .inl ld_rule_c)), (ld_returns, .inl (cI, 10, .inl ld_returns_c))]) hK hP [0, 1, 2, 3] rfl rfl rfl) rfl rfl hl.1 rfl (lv_room (Nat.le_of_ble_eq_true rfl)) dX1_goThrough_14 ⟨Nat.le_of_ble_eq_true rfl, Nat.le_of_ble_eq_true rfl⟩) hS hA hP (fun r14 u14 H locs hw14 hP hS => ?_)
  refine va_put (D := g) (ci := 1) (v := .int r14) (ty := .int) (C := RX1) (T := TX1) (N := 9) hx hb hts iX1 tyX1 tyX1_ok nmX1 hown hK hP hD hS 4 rfl rfl 5 (by decide) (hts (.fieldLink RX1 32 "CardsAtYule$Chances" "rule1" "I") (List.mem_cons_of_mem _ (List.mem_append_left _ (List.mem_of_getElem? (i := 5) rfl)))) (fun _ h9 => h9) rfl (by decide +kernel) rfl rfl (Nat.le_of_ble_eq_true rfl) dX1_goThrough_17 (fun H locs hP hD hS => ?_)
  have hP : va_P g vwCl [(ld, .inr (4, [.int ld_lines, .int ld_years, .int ld_card, .int ld_hurt, .int ld_people, .int ld_pairs, .long ld_strikes, .ref ld_rule, .ref ld_returns, .ref ld_forgets, .ref ld_death, .ref ld_move, .ref ld_begun, .ref ld_who, .ref ld_lost])), (ld_who, .inl (cI, 32, .inl ld_who_c)), (ld_rule, .inl (cI, 10, .inl ld_rule_c)), (ld_returns, .inl (cI, 10, .inl ld_returns_c)), (ch, .inr (1, [.long ch_any, .long ch_bothSend, .long ch_cardsSent, .long ch_below, .int r4, .int r14, .ref ch_forgets, .ref ch_now, .ref ch_then])), (ld_forgets, .inl (cI, 10, .inl ld_forgets_c)), (ch_forgets, .inl (cI, 2, .inl ch_forgets_c)), (ch_now, .inl (cJ, 16, .inr (.inl ch_now_c))), (ld_begun, .inl (cI, 16, .inl ld_begun_c)), (ch_then, .inl (cJ, 16, .inr (.inl ch_then_c)))] H := hP
  have hD : va_D A [(ld, .inr (4, [.int ld_lines, .int ld_years, .int ld_card, .int ld_hurt, .int ld_people, .int ld_pairs, .long ld_strikes, .ref ld_rule, .ref ld_returns, .ref ld_forgets, .ref ld_death, .ref ld_move, .ref ld_begun, .ref ld_who, .ref ld_lost])), (ld_who, .inl (cI, 32, .inl ld_who_c)), (ld_rule, .inl (cI, 10, .inl ld_rule_c)), (ld_returns, .inl (cI, 10, .inl ld_returns_c)), (ch, .inr (1, [.long ch_any, .long ch_bothSend, .long ch_cardsSent, .long ch_below, .int r4, .int r14, .ref ch_forgets, .ref ch_now, .ref ch_then])), (ld_forgets, .inl (cI, 10, .inl ld_forgets_c)), (ch_forgets, .inl (cI, 2, .inl ch_forgets_c)), (ch_now, .inl (cJ, 16, .inr (.inl ch_now_c))), (ld_begun, .inl (cI, 16, .inl ld_begun_c)), (ch_then, .inl (cJ, 16, .inr (.inl ch_then_c)))] := hD
  refine lv_aload_n hx hb dX1_goThrough_20 rfl (lv_at hl 0 rfl) ?_
  refine va_get (D := g) (ci := 1) (v := .ref ch_forgets) (C := RX1) (T := TX1) (N := 9) hx hb hts iX1 hown hK hP 4 rfl rfl 6 (by decide) (hts (.fieldLink RX1 9 "CardsAtYule$Chances" "forgets" "[I") (List.mem_cons_of_mem _ (List.mem_append_left _ (List.mem_of_getElem? (i := 6) rfl)))) (fun _ h9 => h9) rfl dX1_goThrough_21 ?_
  refine lv_iconst (v := 0) hx hb dX1_goThrough_24 (by decide) ?_
  refine lv_aload_n hx hb dX1_goThrough_25 rfl (lv_at hl 1 rfl) ?_
  refine va_get (D := g) (ci := 4) (v := .ref ld_forgets) (C := RX4) (T := TX4) (N := 15) hx hb hts iX4 hown hK hP 0 rfl rfl 9 (by decide) (hts (.fieldLink RX1 35 "CardsAtYule$Land" "forgets" "[I") (List.mem_cons_of_mem _ (List.mem_append_left _ (List.mem_of_getElem? (i := 7) rfl)))) (fun _ h9 => h9) rfl dX1_goThrough_26 ?_
  refine lv_aload_n hx hb dX1_goThrough_29 rfl (lv_at hl 1 rfl) ?_
  refine va_get (D := g) (ci := 4) (v := .ref ld_who) (C := RX4) (T := TX4) (N := 15) hx hb hts iX4 hown hK hP 0 rfl rfl 13 (by decide) (hts (.fieldLink RX1 36 "CardsAtYule$Land" "who" "[I") (List.mem_cons_of_mem _ (List.mem_append_left _ (List.mem_of_getElem? (i := 8) rfl)))) (fun _ h9 => h9) rfl dX1_goThrough_30 ?_
  refine lv_iconst (v := 2) hx hb dX1_goThrough_33 (by decide) ?_
  refine lv_iload_n hx hb dX1_goThrough_34 rfl (lv_at hl 2 rfl) ?_
  refine lv_imul hx hb dX1_goThrough_35 ?_
  refine lv_topi (fun y35 e35 => ?_)
  have q35 : y35.toInt = 2 * p1.toInt := by rw [e35]; exact mu_z rfl rfl (ir_c 2) hv_p1 (by decide) (by decide) (by decide)
  have r35 : ir y35.toInt 0 30 := mu_r q35 (ir_c 2) hv_p1 (by decide) (by decide) (by decide) (by decide)
  refine va_iald (D := g) hx hb hK hP 1 0 rfl rfl (vi_rg rfl r35 (by decide) (by decide)) dX1_goThrough_36 ?_
  refine lv_topi (fun y36 e36 => ?_)
  have r36 : ir y36.toInt 0 9 := by rw [e36]; exact ha_ld_who_c _ (vi_cl (vi_rg rfl r35 (by decide) (by decide)))
  refine va_iald (D := g) hx hb hK hP 5 0 rfl rfl (vi_rg rfl r36 (by decide) (by decide)) dX1_goThrough_37 ?_
  refine lv_topi (fun y37 e37 => ?_)
  refine va_iast (D := g) hx hb hK hP hD hS 6 0 rfl rfl (vc_in (by decide)) dX1_goThrough_38 (fun H locs hP hD hS => ?_)
  obtain ⟨g38, e38⟩ : ∃ z, z = upd ch_forgets_c 0 y37 := ⟨_, rfl⟩
  have hP : va_P g vwCl [(ld, .inr (4, [.int ld_lines, .int ld_years, .int ld_card, .int ld_hurt, .int ld_people, .int ld_pairs, .long ld_strikes, .ref ld_rule, .ref ld_returns, .ref ld_forgets, .ref ld_death, .ref ld_move, .ref ld_begun, .ref ld_who, .ref ld_lost])), (ld_who, .inl (cI, 32, .inl ld_who_c)), (ld_rule, .inl (cI, 10, .inl ld_rule_c)), (ld_returns, .inl (cI, 10, .inl ld_returns_c)), (ch, .inr (1, [.long ch_any, .long ch_bothSend, .long ch_cardsSent, .long ch_below, .int r4, .int r14, .ref ch_forgets, .ref ch_now, .ref ch_then])), (ld_forgets, .inl (cI, 10, .inl ld_forgets_c)), (ch_forgets, .inl (cI, 2, .inl (upd ch_forgets_c 0 y37))), (ch_now, .inl (cJ, 16, .inr (.inl ch_now_c))), (ld_begun, .inl (cI, 16, .inl ld_begun_c)), (ch_then, .inl (cJ, 16, .inr (.inl ch_then_c)))] H := hP
  have hD : va_D A [(ld, .inr (4, [.int ld_lines, .int ld_years, .int ld_card, .int ld_hurt, .int ld_people, .int ld_pairs, .long ld_strikes, .ref ld_rule, .ref ld_returns, .ref ld_forgets, .ref ld_death, .ref ld_move, .ref ld_begun, .ref ld_who, .ref ld_lost])), (ld_who, .inl (cI, 32, .inl ld_who_c)), (ld_rule, .inl (cI, 10, .inl ld_rule_c)), (ld_returns, .inl (cI, 10, .inl ld_returns_c)), (ch, .inr (1, [.long ch_any, .long ch_bothSend, .long ch_cardsSent, .long ch_below, .int r4, .int r14, .ref ch_forgets, .ref ch_now, .ref ch_then])), (ld_forgets, .inl (cI, 10, .inl ld_forgets_c)), (ch_forgets, .inl (cI, 2, .inl (upd ch_forgets_c 0 y37))), (ch_now, .inl (cJ, 16, .inr (.inl ch_now_c))), (ld_begun, .inl (cI, 16, .inl ld_begun_c)), (ch_then, .inl (cJ, 16, .inr (.inl ch_then_c)))] := hD
  rw [← e38] at hP hD
  refine lv_aload_n hx hb dX1_goThrough_39 rfl (lv_at hl 0 rfl) ?_
  refine va_get (D := g) (ci := 1) (v := .ref ch_forgets) (C := RX1) (T := TX1) (N := 9) hx hb hts iX1 hown hK hP 4 rfl rfl 6 (by decide) (hts (.fieldLink RX1 9 "CardsAtYule$Chances" "forgets" "[I") (List.mem_cons_of_mem _ (List.mem_append_left _ (List.mem_of_getElem? (i := 6) rfl)))) (fun _ h9 => h9) rfl dX1_goThrough_40 ?_
  refine lv_iconst (v := 1) hx hb dX1_goThrough_43 (by decide) ?_
  refine lv_aload_n hx hb dX1_goThrough_44 rfl (lv_at hl 1 rfl) ?_
  refine va_get (D := g) (ci := 4) (v := .ref ld_forgets) (C := RX4) (T := TX4) (N := 15) hx hb hts iX4 hown hK hP 0 rfl rfl 9 (by decide) (hts (.fieldLink RX1 35 "CardsAtYule$Land" "forgets" "[I") (List.mem_cons_of_mem _ (List.mem_append_left _ (List.mem_of_getElem? (i := 7) rfl)))) (fun _ h9 => h9) rfl dX1_goThrough_45 ?_
  refine lv_aload_n hx hb dX1_goThrough_48 rfl (lv_at hl 1 rfl) ?_
  refine va_get (D := g) (ci := 4) (v := .ref ld_who) (C := RX4) (T := TX4) (N := 15) hx hb hts iX4 hown hK hP 0 rfl rfl 13 (by decide) (hts (.fieldLink RX1 36 "CardsAtYule$Land" "who" "[I") (List.mem_cons_of_mem _ (List.mem_append_left _ (List.mem_of_getElem? (i := 8) rfl)))) (fun _ h9 => h9) rfl dX1_goThrough_49 ?_
  refine lv_iconst (v := 2) hx hb dX1_goThrough_52 (by decide) ?_
  refine lv_iload_n hx hb dX1_goThrough_53 rfl (lv_at hl 2 rfl) ?_
  refine lv_imul hx hb dX1_goThrough_54 ?_
  refine lv_topi (fun y54 e54 => ?_)
  have q54 : y54.toInt = 2 * p1.toInt := by rw [e54]; exact mu_z rfl rfl (ir_c 2) hv_p1 (by decide) (by decide) (by decide)
  have r54 : ir y54.toInt 0 30 := mu_r q54 (ir_c 2) hv_p1 (by decide) (by decide) (by decide) (by decide)
  refine lv_iconst (v := 1) hx hb dX1_goThrough_55 (by decide) ?_
  refine lv_iadd hx hb dX1_goThrough_56 ?_
  refine lv_topi (fun y56 e56 => ?_)
  have q56 : y56.toInt = y54.toInt + 1 := by rw [e56]; exact ad_z rfl rfl r54 (ir_c 1) (by decide) (by decide)
  have r56 : ir y56.toInt 1 31 := ad_r q56 r54 (ir_c 1) (by decide) (by decide)
  refine va_iald (D := g) hx hb hK hP 1 0 rfl rfl (vi_rg rfl r56 (by decide) (by decide)) dX1_goThrough_57 ?_
  refine lv_topi (fun y57 e57 => ?_)
  have r57 : ir y57.toInt 0 9 := by rw [e57]; exact ha_ld_who_c _ (vi_cl (vi_rg rfl r56 (by decide) (by decide)))
  refine va_iald (D := g) hx hb hK hP 5 0 rfl rfl (vi_rg rfl r57 (by decide) (by decide)) dX1_goThrough_58 ?_
  refine lv_topi (fun y58 e58 => ?_)
  refine va_iast (D := g) hx hb hK hP hD hS 6 0 rfl rfl (vc_in (by decide)) dX1_goThrough_59 (fun H locs hP hD hS => ?_)
  obtain ⟨g59, e59⟩ : ∃ z, z = upd g38 1 y58 := ⟨_, rfl⟩
  have hP : va_P g vwCl [(ld, .inr (4, [.int ld_lines, .int ld_years, .int ld_card, .int ld_hurt, .int ld_people, .int ld_pairs, .long ld_strikes, .ref ld_rule, .ref ld_returns, .ref ld_forgets, .ref ld_death, .ref ld_move, .ref ld_begun, .ref ld_who, .ref ld_lost])), (ld_who, .inl (cI, 32, .inl ld_who_c)), (ld_rule, .inl (cI, 10, .inl ld_rule_c)), (ld_returns, .inl (cI, 10, .inl ld_returns_c)), (ch, .inr (1, [.long ch_any, .long ch_bothSend, .long ch_cardsSent, .long ch_below, .int r4, .int r14, .ref ch_forgets, .ref ch_now, .ref ch_then])), (ld_forgets, .inl (cI, 10, .inl ld_forgets_c)), (ch_forgets, .inl (cI, 2, .inl (upd g38 1 y58))), (ch_now, .inl (cJ, 16, .inr (.inl ch_now_c))), (ld_begun, .inl (cI, 16, .inl ld_begun_c)), (ch_then, .inl (cJ, 16, .inr (.inl ch_then_c)))] H := hP
  have hD : va_D A [(ld, .inr (4, [.int ld_lines, .int ld_years, .int ld_card, .int ld_hurt, .int ld_people, .int ld_pairs, .long ld_strikes, .ref ld_rule, .ref ld_returns, .ref ld_forgets, .ref ld_death, .ref ld_move, .ref ld_begun, .ref ld_who, .ref ld_lost])), (ld_who, .inl (cI, 32, .inl ld_who_c)), (ld_rule, .inl (cI, 10, .inl ld_rule_c)), (ld_returns, .inl (cI, 10, .inl ld_returns_c)), (ch, .inr (1, [.long ch_any, .long ch_bothSend, .long ch_cardsSent, .long ch_below, .int r4, .int r14, .ref ch_forgets, .ref ch_now, .ref ch_then])), (ld_forgets, .inl (cI, 10, .inl ld_forgets_c)), (ch_forgets, .inl (cI, 2, .inl (upd g38 1 y58))), (ch_now, .inl (cJ, 16, .inr (.inl ch_now_c))), (ld_begun, .inl (cI, 16, .inl ld_begun_c)), (ch_then, .inl (cJ, 16, .inr (.inl ch_then_c)))] := hD
  rw [← e59] at hP hD
  refine lv_aload_n hx hb dX1_goThrough_60 rfl (lv_at hl 0 rfl) ?_
  refine lv_lconst (v := 1) hx hb dX1_goThrough_61 (by decide) ?_
  refine va_put (D := g) (ci := 1) (v := .long 1) (ty := .long) (C := RX1) (T := TX1) (N := 9) hx hb hts iX1 tyX1 tyX1_ok nmX1 hown hK hP hD hS 4 rfl rfl 3 (by decide) (hts (.fieldLink RX1 39 "CardsAtYule$Chances" "below" "J") (List.mem_cons_of_mem _ (List.mem_append_left _ (List.mem_of_getElem? (i := 9) rfl)))) (fun _ h9 => h9) rfl (by decide +kernel) rfl rfl (Nat.le_of_ble_eq_true rfl) dX1_goThrough_62 (fun H locs hP hD hS => ?_)
  have hP : va_P g vwCl [(ld, .inr (4, [.int ld_lines, .int ld_years, .int ld_card, .int ld_hurt, .int ld_people, .int ld_pairs, .long ld_strikes, .ref ld_rule, .ref ld_returns, .ref ld_forgets, .ref ld_death, .ref ld_move, .ref ld_begun, .ref ld_who, .ref ld_lost])), (ld_who, .inl (cI, 32, .inl ld_who_c)), (ld_rule, .inl (cI, 10, .inl ld_rule_c)), (ld_returns, .inl (cI, 10, .inl ld_returns_c)), (ch, .inr (1, [.long ch_any, .long ch_bothSend, .long ch_cardsSent, .long 1, .int r4, .int r14, .ref ch_forgets, .ref ch_now, .ref ch_then])), (ld_forgets, .inl (cI, 10, .inl ld_forgets_c)), (ch_forgets, .inl (cI, 2, .inl g59)), (ch_now, .inl (cJ, 16, .inr (.inl ch_now_c))), (ld_begun, .inl (cI, 16, .inl ld_begun_c)), (ch_then, .inl (cJ, 16, .inr (.inl ch_then_c)))] H := hP
  have hD : va_D A [(ld, .inr (4, [.int ld_lines, .int ld_years, .int ld_card, .int ld_hurt, .int ld_people, .int ld_pairs, .long ld_strikes, .ref ld_rule, .ref ld_returns, .ref ld_forgets, .ref ld_death, .ref ld_move, .ref ld_begun, .ref ld_who, .ref ld_lost])), (ld_who, .inl (cI, 32, .inl ld_who_c)), (ld_rule, .inl (cI, 10, .inl ld_rule_c)), (ld_returns, .inl (cI, 10, .inl ld_returns_c)), (ch, .inr (1, [.long ch_any, .long ch_bothSend, .long ch_cardsSent, .long 1, .int r4, .int r14, .ref ch_forgets, .ref ch_now, .ref ch_then])), (ld_forgets, .inl (cI, 10, .inl ld_forgets_c)), (ch_forgets, .inl (cI, 2, .inl g59)), (ch_now, .inl (cJ, 16, .inr (.inl ch_now_c))), (ld_begun, .inl (cI, 16, .inl ld_begun_c)), (ch_then, .inl (cJ, 16, .inr (.inl ch_then_c)))] := hD
  refine lv_aload_n hx hb dX1_goThrough_65 rfl (lv_at hl 0 rfl) ?_
  refine lv_lconst (v := 0) hx hb dX1_goThrough_66 (by decide) ?_
  refine va_put (D := g) (ci := 1) (v := .long 0) (ty := .long) (C := RX1) (T := TX1) (N := 9) hx hb hts iX1 tyX1 tyX1_ok nmX1 hown hK hP hD hS 4 rfl rfl 2 (by decide) (hts (.fieldLink RX1 43 "CardsAtYule$Chances" "cardsSent" "J") (List.mem_cons_of_mem _ (List.mem_append_left _ (List.mem_of_getElem? (i := 10) rfl)))) (fun _ h9 => h9) rfl (by decide +kernel) rfl rfl (Nat.le_of_ble_eq_true rfl) dX1_goThrough_67 (fun H locs hP hD hS => ?_)
  have hP : va_P g vwCl [(ld, .inr (4, [.int ld_lines, .int ld_years, .int ld_card, .int ld_hurt, .int ld_people, .int ld_pairs, .long ld_strikes, .ref ld_rule, .ref ld_returns, .ref ld_forgets, .ref ld_death, .ref ld_move, .ref ld_begun, .ref ld_who, .ref ld_lost])), (ld_who, .inl (cI, 32, .inl ld_who_c)), (ld_rule, .inl (cI, 10, .inl ld_rule_c)), (ld_returns, .inl (cI, 10, .inl ld_returns_c)), (ch, .inr (1, [.long ch_any, .long ch_bothSend, .long 0, .long 1, .int r4, .int r14, .ref ch_forgets, .ref ch_now, .ref ch_then])), (ld_forgets, .inl (cI, 10, .inl ld_forgets_c)), (ch_forgets, .inl (cI, 2, .inl g59)), (ch_now, .inl (cJ, 16, .inr (.inl ch_now_c))), (ld_begun, .inl (cI, 16, .inl ld_begun_c)), (ch_then, .inl (cJ, 16, .inr (.inl ch_then_c)))] H := hP
  have hD : va_D A [(ld, .inr (4, [.int ld_lines, .int ld_years, .int ld_card, .int ld_hurt, .int ld_people, .int ld_pairs, .long ld_strikes, .ref ld_rule, .ref ld_returns, .ref ld_forgets, .ref ld_death, .ref ld_move, .ref ld_begun, .ref ld_who, .ref ld_lost])), (ld_who, .inl (cI, 32, .inl ld_who_c)), (ld_rule, .inl (cI, 10, .inl ld_rule_c)), (ld_returns, .inl (cI, 10, .inl ld_returns_c)), (ch, .inr (1, [.long ch_any, .long ch_bothSend, .long 0, .long 1, .int r4, .int r14, .ref ch_forgets, .ref ch_now, .ref ch_then])), (ld_forgets, .inl (cI, 10, .inl ld_forgets_c)), (ch_forgets, .inl (cI, 2, .inl g59)), (ch_now, .inl (cJ, 16, .inr (.inl ch_now_c))), (ld_begun, .inl (cI, 16, .inl ld_begun_c)), (ch_then, .inl (cJ, 16, .inr (.inl ch_then_c)))] := hD
  refine lv_aload_n hx hb dX1_goThrough_70 rfl (lv_at hl 0 rfl) ?_
  refine va_get (D := g) (ci := 1) (v := .ref ch_now) (C := RX1) (T := TX1) (N := 9) hx hb hts iX1 hown hK hP 4 rfl rfl 7 (by decide) (hts (.fieldLink RX1 15 "CardsAtYule$Chances" "now" "[J") (List.mem_cons_of_mem _ (List.mem_append_left _ (List.mem_of_getElem? (i := 11) rfl)))) (fun _ h9 => h9) rfl dX1_goThrough_71 ?_
  refine lv_lconst (v := 0) hx hb dX1_goThrough_74 (by decide) ?_
  refine rw_v (wr := [(ld, .inr (4, [.int ld_lines, .int ld_years, .int ld_card, .int ld_hurt, .int ld_people, .int ld_pairs, .long ld_strikes, .ref ld_rule, .ref ld_returns, .ref ld_forgets, .ref ld_death, .ref ld_move, .ref ld_begun, .ref ld_who, .ref ld_lost])), (ld_who, .inl (cI, 32, .inl ld_who_c)), (ld_rule, .inl (cI, 10, .inl ld_rule_c)), (ld_returns, .inl (cI, 10, .inl ld_returns_c)), (ch, .inr (1, [.long ch_any, .long ch_bothSend, .long 0, .long 1, .int r4, .int r14, .ref ch_forgets, .ref ch_now, .ref ch_then])), (ld_forgets, .inl (cI, 10, .inl ld_forgets_c)), (ch_forgets, .inl (cI, 2, .inl g59)), (ld_begun, .inl (cI, 16, .inl ld_begun_c)), (ch_then, .inl (cJ, 16, .inr (.inl ch_then_c)))]) (va_runS (As := [.ref ch_now, .long 0]) (rest := []) ⟨hx, hb, hml, hown, hts⟩ (q_J7_fillj16 l g cI cJ cB cZ cL 0 ch_now ch_now_c H.size ) (va_cwS 2 hts (goodIn_app (g_3 (List.mem_cons_of_mem _ (List.mem_append_left _ (List.mem_of_getElem? (i := 12) rfl))) (List.mem_cons_of_mem _ (List.mem_append_left _ (List.mem_of_getElem? (i := 13) rfl))) (List.mem_cons_of_mem _ (List.mem_append_left _ (List.mem_of_getElem? (i := 14) rfl))) (by decide +kernel)) (goodIn_sub (fun _ h => List.mem_cons_of_mem _ (List.mem_append_right _ (List.mem_append_right _ (List.mem_append_left _ h)))) good_v_J7_fillj16)) rfl rfl rfl (by decide +kernel) ⟨Nat.le_of_ble_eq_true rfl, Nat.le_of_ble_eq_true rfl⟩) (ps_RW (wc := [(ch_now, .inl (cJ, 16, .inr (.inl ch_now_c)))]) hK hP hD [7] (by decide) rfl) rfl rfl hl.1 rfl (lv_room (Nat.le_of_ble_eq_true rfl)) dX1_goThrough_75 ⟨Nat.le_of_ble_eq_true rfl, Nat.le_of_ble_eq_true rfl⟩) hS hA hP hD [7] [0, 1, 2, 3, 4, 5, 6, 8, 9] rfl rfl (by decide) (by decide) (fun u75 H locs hw75 hP hD hS => ?_)
  generalize u75 = n_r0_c_75 at hw75 hP hD
  have hP : va_P g vwCl [(ld, .inr (4, [.int ld_lines, .int ld_years, .int ld_card, .int ld_hurt, .int ld_people, .int ld_pairs, .long ld_strikes, .ref ld_rule, .ref ld_returns, .ref ld_forgets, .ref ld_death, .ref ld_move, .ref ld_begun, .ref ld_who, .ref ld_lost])), (ld_who, .inl (cI, 32, .inl ld_who_c)), (ld_rule, .inl (cI, 10, .inl ld_rule_c)), (ld_returns, .inl (cI, 10, .inl ld_returns_c)), (ch, .inr (1, [.long ch_any, .long ch_bothSend, .long 0, .long 1, .int r4, .int r14, .ref ch_forgets, .ref ch_now, .ref ch_then])), (ld_forgets, .inl (cI, 10, .inl ld_forgets_c)), (ch_forgets, .inl (cI, 2, .inl g59)), (ld_begun, .inl (cI, 16, .inl ld_begun_c)), (ch_then, .inl (cJ, 16, .inr (.inl ch_then_c))), (ch_now, .inl (cJ, 16, .inr (.inl n_r0_c_75)))] H := hP
  have hD : va_D A [(ld, .inr (4, [.int ld_lines, .int ld_years, .int ld_card, .int ld_hurt, .int ld_people, .int ld_pairs, .long ld_strikes, .ref ld_rule, .ref ld_returns, .ref ld_forgets, .ref ld_death, .ref ld_move, .ref ld_begun, .ref ld_who, .ref ld_lost])), (ld_who, .inl (cI, 32, .inl ld_who_c)), (ld_rule, .inl (cI, 10, .inl ld_rule_c)), (ld_returns, .inl (cI, 10, .inl ld_returns_c)), (ch, .inr (1, [.long ch_any, .long ch_bothSend, .long 0, .long 1, .int r4, .int r14, .ref ch_forgets, .ref ch_now, .ref ch_then])), (ld_forgets, .inl (cI, 10, .inl ld_forgets_c)), (ch_forgets, .inl (cI, 2, .inl g59)), (ld_begun, .inl (cI, 16, .inl ld_begun_c)), (ch_then, .inl (cJ, 16, .inr (.inl ch_then_c))), (ch_now, .inl (cJ, 16, .inr (.inl n_r0_c_75)))] := hD
  refine lv_aload_n hx hb dX1_goThrough_78 rfl (lv_at hl 0 rfl) ?_
  refine va_get (D := g) (ci := 1) (v := .ref ch_now) (C := RX1) (T := TX1) (N := 9) hx hb hts iX1 hown hK hP 4 rfl rfl 7 (by decide) (hts (.fieldLink RX1 15 "CardsAtYule$Chances" "now" "[J") (List.mem_cons_of_mem _ (List.mem_append_left _ (List.mem_of_getElem? (i := 11) rfl)))) (fun _ h9 => h9) rfl dX1_goThrough_79 ?_
  refine lv_aload_n hx hb dX1_goThrough_82 rfl (lv_at hl 1 rfl) ?_
  refine va_get (D := g) (ci := 4) (v := .ref ld_begun) (C := RX4) (T := TX4) (N := 15) hx hb hts iX4 hown hK hP 0 rfl rfl 12 (by decide) (hts (.fieldLink RX1 52 "CardsAtYule$Land" "begun" "[I") (List.mem_cons_of_mem _ (List.mem_append_left _ (List.mem_of_getElem? (i := 15) rfl)))) (fun _ h9 => h9) rfl dX1_goThrough_83 ?_
  refine lv_iload_n hx hb dX1_goThrough_86 rfl (lv_at hl 2 rfl) ?_
  refine va_iald (D := g) hx hb hK hP 7 0 rfl rfl (vi_rg rfl hv_p1 (by decide) (by decide)) dX1_goThrough_87 ?_
  refine lv_topi (fun y87 e87 => ?_)
  have r87 : ir y87.toInt 0 15 := by rw [e87]; exact ha_ld_begun_c _ (vi_cl (vi_rg rfl hv_p1 (by decide) (by decide)))
  refine lv_lconst (v := 1) hx hb dX1_goThrough_88 (by decide) ?_
  refine va_last (D := g) hx hb hK hP hD hS 9 1 rfl rfl (vi_rg rfl r87 (by decide) (by decide)) dX1_goThrough_89 (fun H locs hP hD hS => ?_)
  obtain ⟨g89, e89⟩ : ∃ z, z = vp_updL n_r0_c_75 y87.toNatClampNeg (1 : Int64) := ⟨_, rfl⟩
  have hP : va_P g vwCl [(ld, .inr (4, [.int ld_lines, .int ld_years, .int ld_card, .int ld_hurt, .int ld_people, .int ld_pairs, .long ld_strikes, .ref ld_rule, .ref ld_returns, .ref ld_forgets, .ref ld_death, .ref ld_move, .ref ld_begun, .ref ld_who, .ref ld_lost])), (ld_who, .inl (cI, 32, .inl ld_who_c)), (ld_rule, .inl (cI, 10, .inl ld_rule_c)), (ld_returns, .inl (cI, 10, .inl ld_returns_c)), (ch, .inr (1, [.long ch_any, .long ch_bothSend, .long 0, .long 1, .int r4, .int r14, .ref ch_forgets, .ref ch_now, .ref ch_then])), (ld_forgets, .inl (cI, 10, .inl ld_forgets_c)), (ch_forgets, .inl (cI, 2, .inl g59)), (ld_begun, .inl (cI, 16, .inl ld_begun_c)), (ch_then, .inl (cJ, 16, .inr (.inl ch_then_c))), (ch_now, .inl (cJ, 16, .inr (.inl (vp_updL n_r0_c_75 y87.toNatClampNeg (1 : Int64)))))] H := hP
  have hD : va_D A [(ld, .inr (4, [.int ld_lines, .int ld_years, .int ld_card, .int ld_hurt, .int ld_people, .int ld_pairs, .long ld_strikes, .ref ld_rule, .ref ld_returns, .ref ld_forgets, .ref ld_death, .ref ld_move, .ref ld_begun, .ref ld_who, .ref ld_lost])), (ld_who, .inl (cI, 32, .inl ld_who_c)), (ld_rule, .inl (cI, 10, .inl ld_rule_c)), (ld_returns, .inl (cI, 10, .inl ld_returns_c)), (ch, .inr (1, [.long ch_any, .long ch_bothSend, .long 0, .long 1, .int r4, .int r14, .ref ch_forgets, .ref ch_now, .ref ch_then])), (ld_forgets, .inl (cI, 10, .inl ld_forgets_c)), (ch_forgets, .inl (cI, 2, .inl g59)), (ld_begun, .inl (cI, 16, .inl ld_begun_c)), (ch_then, .inl (cJ, 16, .inr (.inl ch_then_c))), (ch_now, .inl (cJ, 16, .inr (.inl (vp_updL n_r0_c_75 y87.toNatClampNeg (1 : Int64)))))] := hD
  rw [← e89] at hP hD
  refine lv_iconst (v := 0) hx hb dX1_goThrough_90 (by decide) ?_
  refine lv_istore (lv' := [(4, .int 0), (0, .ref ch), (1, .ref ld), (2, .int p1), (3, .int p2)]) hx hb dX1_goThrough_91 hl (by decide) rfl (fun ls hl => ?_)
  refine lv_iload hx hb dX1_goThrough_93 (lv_at hl 0 rfl) ?_
  refine lv_iload_n hx hb dX1_goThrough_95 rfl (lv_at hl 4 rfl) ?_
  refine lv_icmp_ge (tgt := 109) hx hb dX1_goThrough_96 (by decide) (fun c96 => by exfalso; have f96 := (show p2.toInt ≤ 0 from z_le rfl rfl c96); have a9 := (ir_c 0); have b9 := hv_p2; omega) (fun c96 => ?_)
  have f96 := (show 0 < p2.toInt from z_nle rfl rfl c96)
  refine lv_aload_n hx hb dX1_goThrough_99 rfl (lv_at hl 1 rfl) ?_
  refine rw_v (wr := [(ld, .inr (4, [.int ld_lines, .int ld_years, .int ld_card, .int ld_hurt, .int ld_people, .int ld_pairs, .long ld_strikes, .ref ld_rule, .ref ld_returns, .ref ld_forgets, .ref ld_death, .ref ld_move, .ref ld_begun, .ref ld_who, .ref ld_lost])), (ld_who, .inl (cI, 32, .inl ld_who_c)), (ld_rule, .inl (cI, 10, .inl ld_rule_c)), (ld_returns, .inl (cI, 10, .inl ld_returns_c)), (ld_forgets, .inl (cI, 10, .inl ld_forgets_c)), (ld_begun, .inl (cI, 16, .inl ld_begun_c))]) (va_runV (As := []) (rest := []) ⟨hx, hb, hml, hown, hts⟩ (q_X1_goThroughYear l g cI cJ cB cZ cL ch ch_any ch_bothSend 0 1 r4 r14 ch_forgets ch_now ch_then ch_then_c g89 g59 H.size ) (cwV 0 hts (goodIn_app (g_4 (List.mem_cons_of_mem _ (List.mem_append_left _ (List.mem_of_getElem? (i := 16) rfl))) (List.mem_cons_of_mem _ (List.mem_append_left _ (List.mem_of_getElem? (i := 17) rfl))) (List.mem_cons_of_mem _ (List.mem_append_left _ (List.mem_of_getElem? (i := 18) rfl))) (List.mem_cons_of_mem _ (List.mem_append_left _ (List.mem_of_getElem? (i := 19) rfl))) (by decide +kernel)) (goodIn_sub (fun _ h => List.mem_cons_of_mem _ (List.mem_append_right _ (List.mem_append_right _ (List.mem_append_right _ (List.mem_append_left _ h))))) good_v_X1_goThroughYear)) rfl rfl rfl (by decide +kernel) ⟨Nat.le_of_ble_eq_true rfl, Nat.le_of_ble_eq_true rfl⟩) (pv_RW (q := (RX1, TX1, 9)) (ci := 1) (q0 := 0) (wc := [(ch, .inr (1, [.long ch_any, .long ch_bothSend, .long 0, .long 1, .int r4, .int r14, .ref ch_forgets, .ref ch_now, .ref ch_then])), (ch_then, .inl (cJ, 16, .inr (.inl ch_then_c))), (ch_now, .inl (cJ, 16, .inr (.inl g89))), (ch_forgets, .inl (cI, 2, .inl g59))]) hK hP hD [4, 8, 9, 6] (by decide) rfl rfl rfl) rfl rfl hl.1 rfl (lv_room (Nat.le_of_ble_eq_true rfl)) dX1_goThrough_100 ⟨Nat.le_of_ble_eq_true rfl, Nat.le_of_ble_eq_true rfl⟩) hS hA hP hD [4, 8, 9, 6] [0, 1, 2, 3, 5, 7] rfl rfl (by decide) (by decide) (fun u100 H locs hw100 hP hD hS => ?_)
  obtain ⟨n_ch_any_100, n_ch_bothSend_100, n_ch_cardsSent_100, n_ch_below_100, n_ch_now_100, n_ch_then_100, n_ch_then_c_100, n_ch_now_c_100⟩ := u100
  have hP : va_P g vwCl [(ld, .inr (4, [.int ld_lines, .int ld_years, .int ld_card, .int ld_hurt, .int ld_people, .int ld_pairs, .long ld_strikes, .ref ld_rule, .ref ld_returns, .ref ld_forgets, .ref ld_death, .ref ld_move, .ref ld_begun, .ref ld_who, .ref ld_lost])), (ld_who, .inl (cI, 32, .inl ld_who_c)), (ld_rule, .inl (cI, 10, .inl ld_rule_c)), (ld_returns, .inl (cI, 10, .inl ld_returns_c)), (ld_forgets, .inl (cI, 10, .inl ld_forgets_c)), (ld_begun, .inl (cI, 16, .inl ld_begun_c)), (ch, .inr (1, [.long n_ch_any_100, .long n_ch_bothSend_100, .long n_ch_cardsSent_100, .long n_ch_below_100, .int r4, .int r14, .ref ch_forgets, .ref n_ch_now_100, .ref n_ch_then_100])), (n_ch_then_100, .inl (cJ, 16, .inr (.inl n_ch_then_c_100))), (n_ch_now_100, .inl (cJ, 16, .inr (.inl n_ch_now_c_100))), (ch_forgets, .inl (cI, 2, .inl g59))] H := hP
  have hD : va_D A [(ld, .inr (4, [.int ld_lines, .int ld_years, .int ld_card, .int ld_hurt, .int ld_people, .int ld_pairs, .long ld_strikes, .ref ld_rule, .ref ld_returns, .ref ld_forgets, .ref ld_death, .ref ld_move, .ref ld_begun, .ref ld_who, .ref ld_lost])), (ld_who, .inl (cI, 32, .inl ld_who_c)), (ld_rule, .inl (cI, 10, .inl ld_rule_c)), (ld_returns, .inl (cI, 10, .inl ld_returns_c)), (ld_forgets, .inl (cI, 10, .inl ld_forgets_c)), (ld_begun, .inl (cI, 16, .inl ld_begun_c)), (ch, .inr (1, [.long n_ch_any_100, .long n_ch_bothSend_100, .long n_ch_cardsSent_100, .long n_ch_below_100, .int r4, .int r14, .ref ch_forgets, .ref n_ch_now_100, .ref n_ch_then_100])), (n_ch_then_100, .inl (cJ, 16, .inr (.inl n_ch_then_c_100))), (n_ch_now_100, .inl (cJ, 16, .inr (.inl n_ch_now_c_100))), (ch_forgets, .inl (cI, 2, .inl g59))] := hD
  refine lv_iinc (v := 1) (lv' := [(4, .int 1), (0, .ref ch), (1, .ref ld), (2, .int p1), (3, .int p2)]) hx hb dX1_goThrough_103 hl (k := 0) rfl (by decide) (by decide) rfl (fun ls hl => ?_)
  refine lv_goto (tgt := 93) hx hb dX1_goThrough_106 (by decide) ?_
  refine lv_iload hx hb dX1_goThrough_93 (lv_at hl 0 rfl) ?_
  refine lv_iload_n hx hb dX1_goThrough_95 rfl (lv_at hl 4 rfl) ?_
  refine lv_icmp_ge (tgt := 109) hx hb dX1_goThrough_96 (by decide) (fun c96 => ?_) (fun c96 => ?_)
  · have f96 := (show p2.toInt ≤ 1 from z_le rfl rfl c96)
    have r96b : ir p2.toInt 1 1 := ir_lea f96 hv_p2 (ir_c 1) (by decide)
    subst hQ
    have hP9 := hP.sub (ws' := [(ld, .inr (4, [.int ld_lines, .int ld_years, .int ld_card, .int ld_hurt, .int ld_people, .int ld_pairs, .long ld_strikes, .ref ld_rule, .ref ld_returns, .ref ld_forgets, .ref ld_death, .ref ld_move, .ref ld_begun, .ref ld_who, .ref ld_lost])), (ld_who, .inl (cI, 32, .inl ld_who_c)), (ld_rule, .inl (cI, 10, .inl ld_rule_c)), (ld_returns, .inl (cI, 10, .inl ld_returns_c)), (ch, .inr (1, [.long n_ch_any_100, .long n_ch_bothSend_100, .long n_ch_cardsSent_100, .long n_ch_below_100, .int r4, .int r14, .ref ch_forgets, .ref n_ch_now_100, .ref n_ch_then_100])), (ld_forgets, .inl (cI, 10, .inl ld_forgets_c)), (ch_forgets, .inl (cI, 2, .inl g59)), (n_ch_now_100, .inl (cJ, 16, .inr (.inl n_ch_now_c_100))), (ld_begun, .inl (cI, 16, .inl ld_begun_c)), (n_ch_then_100, .inl (cJ, 16, .inr (.inl n_ch_then_c_100)))]) [0, 1, 2, 3, 6, 4, 9, 8, 5, 7] rfl
    have hD9 := hD.sub (ws' := [(ld, .inr (4, [.int ld_lines, .int ld_years, .int ld_card, .int ld_hurt, .int ld_people, .int ld_pairs, .long ld_strikes, .ref ld_rule, .ref ld_returns, .ref ld_forgets, .ref ld_death, .ref ld_move, .ref ld_begun, .ref ld_who, .ref ld_lost])), (ld_who, .inl (cI, 32, .inl ld_who_c)), (ld_rule, .inl (cI, 10, .inl ld_rule_c)), (ld_returns, .inl (cI, 10, .inl ld_returns_c)), (ch, .inr (1, [.long n_ch_any_100, .long n_ch_bothSend_100, .long n_ch_cardsSent_100, .long n_ch_below_100, .int r4, .int r14, .ref ch_forgets, .ref n_ch_now_100, .ref n_ch_then_100])), (ld_forgets, .inl (cI, 10, .inl ld_forgets_c)), (ch_forgets, .inl (cI, 2, .inl g59)), (n_ch_now_100, .inl (cJ, 16, .inr (.inl n_ch_now_c_100))), (ld_begun, .inl (cI, 16, .inl ld_begun_c)), (n_ch_then_100, .inl (cJ, 16, .inr (.inl n_ch_then_c_100)))]) [0, 1, 2, 3, 6, 4, 9, 8, 5, 7] (by decide) rfl
    exact W.vret hx hb hr (fun t ht hW => ⟨⟨(n_ch_any_100, n_ch_bothSend_100, n_ch_cardsSent_100, n_ch_below_100, r4, r14, n_ch_now_100, n_ch_then_100, g59, n_ch_now_c_100, n_ch_then_c_100), rfl, trivial, ⟨by rw [ht]; exact hP9, va_K.moved hW.alike hK, hD9⟩⟩, hS.F ht⟩) hS.2.2 dX1_goThrough_109
  have f96 := (show 1 < p2.toInt from z_nle rfl rfl c96)
  have r96b : ir p2.toInt 2 3 := ir_ltb f96 (ir_c 1) hv_p2 (by decide)
  refine lv_aload_n hx hb dX1_goThrough_99 rfl (lv_at hl 1 rfl) ?_
  refine rw_v (wr := [(ld, .inr (4, [.int ld_lines, .int ld_years, .int ld_card, .int ld_hurt, .int ld_people, .int ld_pairs, .long ld_strikes, .ref ld_rule, .ref ld_returns, .ref ld_forgets, .ref ld_death, .ref ld_move, .ref ld_begun, .ref ld_who, .ref ld_lost])), (ld_who, .inl (cI, 32, .inl ld_who_c)), (ld_rule, .inl (cI, 10, .inl ld_rule_c)), (ld_returns, .inl (cI, 10, .inl ld_returns_c)), (ld_forgets, .inl (cI, 10, .inl ld_forgets_c)), (ld_begun, .inl (cI, 16, .inl ld_begun_c))]) (va_runV (As := []) (rest := []) ⟨hx, hb, hml, hown, hts⟩ (q_X1_goThroughYear l g cI cJ cB cZ cL ch n_ch_any_100 n_ch_bothSend_100 n_ch_cardsSent_100 n_ch_below_100 r4 r14 ch_forgets n_ch_now_100 n_ch_then_100 n_ch_then_c_100 n_ch_now_c_100 g59 H.size ) (cwV 0 hts (goodIn_app (g_4 (List.mem_cons_of_mem _ (List.mem_append_left _ (List.mem_of_getElem? (i := 16) rfl))) (List.mem_cons_of_mem _ (List.mem_append_left _ (List.mem_of_getElem? (i := 17) rfl))) (List.mem_cons_of_mem _ (List.mem_append_left _ (List.mem_of_getElem? (i := 18) rfl))) (List.mem_cons_of_mem _ (List.mem_append_left _ (List.mem_of_getElem? (i := 19) rfl))) (by decide +kernel)) (goodIn_sub (fun _ h => List.mem_cons_of_mem _ (List.mem_append_right _ (List.mem_append_right _ (List.mem_append_right _ (List.mem_append_left _ h))))) good_v_X1_goThroughYear)) rfl rfl rfl (by decide +kernel) ⟨Nat.le_of_ble_eq_true rfl, Nat.le_of_ble_eq_true rfl⟩) (pv_RW (q := (RX1, TX1, 9)) (ci := 1) (q0 := 0) (wc := [(ch, .inr (1, [.long n_ch_any_100, .long n_ch_bothSend_100, .long n_ch_cardsSent_100, .long n_ch_below_100, .int r4, .int r14, .ref ch_forgets, .ref n_ch_now_100, .ref n_ch_then_100])), (n_ch_then_100, .inl (cJ, 16, .inr (.inl n_ch_then_c_100))), (n_ch_now_100, .inl (cJ, 16, .inr (.inl n_ch_now_c_100))), (ch_forgets, .inl (cI, 2, .inl g59))]) hK hP hD [6, 7, 8, 9] (by decide) rfl rfl rfl) rfl rfl hl.1 rfl (lv_room (Nat.le_of_ble_eq_true rfl)) dX1_goThrough_100 ⟨Nat.le_of_ble_eq_true rfl, Nat.le_of_ble_eq_true rfl⟩) hS hA hP hD [6, 7, 8, 9] [0, 1, 2, 3, 4, 5] rfl rfl (by decide) (by decide) (fun u100 H locs hw100 hP hD hS => ?_)
  obtain ⟨n_ch_any_100, n_ch_bothSend_100, n_ch_cardsSent_100, n_ch_below_100, n_ch_now_100, n_ch_then_100, n_ch_then_c_100, n_ch_now_c_100⟩ := u100
  have hP : va_P g vwCl [(ld, .inr (4, [.int ld_lines, .int ld_years, .int ld_card, .int ld_hurt, .int ld_people, .int ld_pairs, .long ld_strikes, .ref ld_rule, .ref ld_returns, .ref ld_forgets, .ref ld_death, .ref ld_move, .ref ld_begun, .ref ld_who, .ref ld_lost])), (ld_who, .inl (cI, 32, .inl ld_who_c)), (ld_rule, .inl (cI, 10, .inl ld_rule_c)), (ld_returns, .inl (cI, 10, .inl ld_returns_c)), (ld_forgets, .inl (cI, 10, .inl ld_forgets_c)), (ld_begun, .inl (cI, 16, .inl ld_begun_c)), (ch, .inr (1, [.long n_ch_any_100, .long n_ch_bothSend_100, .long n_ch_cardsSent_100, .long n_ch_below_100, .int r4, .int r14, .ref ch_forgets, .ref n_ch_now_100, .ref n_ch_then_100])), (n_ch_then_100, .inl (cJ, 16, .inr (.inl n_ch_then_c_100))), (n_ch_now_100, .inl (cJ, 16, .inr (.inl n_ch_now_c_100))), (ch_forgets, .inl (cI, 2, .inl g59))] H := hP
  have hD : va_D A [(ld, .inr (4, [.int ld_lines, .int ld_years, .int ld_card, .int ld_hurt, .int ld_people, .int ld_pairs, .long ld_strikes, .ref ld_rule, .ref ld_returns, .ref ld_forgets, .ref ld_death, .ref ld_move, .ref ld_begun, .ref ld_who, .ref ld_lost])), (ld_who, .inl (cI, 32, .inl ld_who_c)), (ld_rule, .inl (cI, 10, .inl ld_rule_c)), (ld_returns, .inl (cI, 10, .inl ld_returns_c)), (ld_forgets, .inl (cI, 10, .inl ld_forgets_c)), (ld_begun, .inl (cI, 16, .inl ld_begun_c)), (ch, .inr (1, [.long n_ch_any_100, .long n_ch_bothSend_100, .long n_ch_cardsSent_100, .long n_ch_below_100, .int r4, .int r14, .ref ch_forgets, .ref n_ch_now_100, .ref n_ch_then_100])), (n_ch_then_100, .inl (cJ, 16, .inr (.inl n_ch_then_c_100))), (n_ch_now_100, .inl (cJ, 16, .inr (.inl n_ch_now_c_100))), (ch_forgets, .inl (cI, 2, .inl g59))] := hD
  refine lv_iinc (v := 2) (lv' := [(4, .int 2), (0, .ref ch), (1, .ref ld), (2, .int p1), (3, .int p2)]) hx hb dX1_goThrough_103 hl (k := 0) rfl (by decide) (by decide) rfl (fun ls hl => ?_)
  refine lv_goto (tgt := 93) hx hb dX1_goThrough_106 (by decide) ?_
  refine lv_iload hx hb dX1_goThrough_93 (lv_at hl 0 rfl) ?_
  refine lv_iload_n hx hb dX1_goThrough_95 rfl (lv_at hl 4 rfl) ?_
  refine lv_icmp_ge (tgt := 109) hx hb dX1_goThrough_96 (by decide) (fun c96 => ?_) (fun c96 => ?_)
  · have f96 := (show p2.toInt ≤ 2 from z_le rfl rfl c96)
    have r96b : ir p2.toInt 2 2 := ir_lea f96 r96b (ir_c 2) (by decide)
    subst hQ
    have hP9 := hP.sub (ws' := [(ld, .inr (4, [.int ld_lines, .int ld_years, .int ld_card, .int ld_hurt, .int ld_people, .int ld_pairs, .long ld_strikes, .ref ld_rule, .ref ld_returns, .ref ld_forgets, .ref ld_death, .ref ld_move, .ref ld_begun, .ref ld_who, .ref ld_lost])), (ld_who, .inl (cI, 32, .inl ld_who_c)), (ld_rule, .inl (cI, 10, .inl ld_rule_c)), (ld_returns, .inl (cI, 10, .inl ld_returns_c)), (ch, .inr (1, [.long n_ch_any_100, .long n_ch_bothSend_100, .long n_ch_cardsSent_100, .long n_ch_below_100, .int r4, .int r14, .ref ch_forgets, .ref n_ch_now_100, .ref n_ch_then_100])), (ld_forgets, .inl (cI, 10, .inl ld_forgets_c)), (ch_forgets, .inl (cI, 2, .inl g59)), (n_ch_now_100, .inl (cJ, 16, .inr (.inl n_ch_now_c_100))), (ld_begun, .inl (cI, 16, .inl ld_begun_c)), (n_ch_then_100, .inl (cJ, 16, .inr (.inl n_ch_then_c_100)))]) [0, 1, 2, 3, 6, 4, 9, 8, 5, 7] rfl
    have hD9 := hD.sub (ws' := [(ld, .inr (4, [.int ld_lines, .int ld_years, .int ld_card, .int ld_hurt, .int ld_people, .int ld_pairs, .long ld_strikes, .ref ld_rule, .ref ld_returns, .ref ld_forgets, .ref ld_death, .ref ld_move, .ref ld_begun, .ref ld_who, .ref ld_lost])), (ld_who, .inl (cI, 32, .inl ld_who_c)), (ld_rule, .inl (cI, 10, .inl ld_rule_c)), (ld_returns, .inl (cI, 10, .inl ld_returns_c)), (ch, .inr (1, [.long n_ch_any_100, .long n_ch_bothSend_100, .long n_ch_cardsSent_100, .long n_ch_below_100, .int r4, .int r14, .ref ch_forgets, .ref n_ch_now_100, .ref n_ch_then_100])), (ld_forgets, .inl (cI, 10, .inl ld_forgets_c)), (ch_forgets, .inl (cI, 2, .inl g59)), (n_ch_now_100, .inl (cJ, 16, .inr (.inl n_ch_now_c_100))), (ld_begun, .inl (cI, 16, .inl ld_begun_c)), (n_ch_then_100, .inl (cJ, 16, .inr (.inl n_ch_then_c_100)))]) [0, 1, 2, 3, 6, 4, 9, 8, 5, 7] (by decide) rfl
    exact W.vret hx hb hr (fun t ht hW => ⟨⟨(n_ch_any_100, n_ch_bothSend_100, n_ch_cardsSent_100, n_ch_below_100, r4, r14, n_ch_now_100, n_ch_then_100, g59, n_ch_now_c_100, n_ch_then_c_100), rfl, trivial, ⟨by rw [ht]; exact hP9, va_K.moved hW.alike hK, hD9⟩⟩, hS.F ht⟩) hS.2.2 dX1_goThrough_109
  have f96 := (show 2 < p2.toInt from z_nle rfl rfl c96)
  have r96b : ir p2.toInt 3 3 := ir_ltb f96 (ir_c 2) r96b (by decide)
  refine lv_aload_n hx hb dX1_goThrough_99 rfl (lv_at hl 1 rfl) ?_
  refine rw_v (wr := [(ld, .inr (4, [.int ld_lines, .int ld_years, .int ld_card, .int ld_hurt, .int ld_people, .int ld_pairs, .long ld_strikes, .ref ld_rule, .ref ld_returns, .ref ld_forgets, .ref ld_death, .ref ld_move, .ref ld_begun, .ref ld_who, .ref ld_lost])), (ld_who, .inl (cI, 32, .inl ld_who_c)), (ld_rule, .inl (cI, 10, .inl ld_rule_c)), (ld_returns, .inl (cI, 10, .inl ld_returns_c)), (ld_forgets, .inl (cI, 10, .inl ld_forgets_c)), (ld_begun, .inl (cI, 16, .inl ld_begun_c))]) (va_runV (As := []) (rest := []) ⟨hx, hb, hml, hown, hts⟩ (q_X1_goThroughYear l g cI cJ cB cZ cL ch n_ch_any_100 n_ch_bothSend_100 n_ch_cardsSent_100 n_ch_below_100 r4 r14 ch_forgets n_ch_now_100 n_ch_then_100 n_ch_then_c_100 n_ch_now_c_100 g59 H.size ) (cwV 0 hts (goodIn_app (g_4 (List.mem_cons_of_mem _ (List.mem_append_left _ (List.mem_of_getElem? (i := 16) rfl))) (List.mem_cons_of_mem _ (List.mem_append_left _ (List.mem_of_getElem? (i := 17) rfl))) (List.mem_cons_of_mem _ (List.mem_append_left _ (List.mem_of_getElem? (i := 18) rfl))) (List.mem_cons_of_mem _ (List.mem_append_left _ (List.mem_of_getElem? (i := 19) rfl))) (by decide +kernel)) (goodIn_sub (fun _ h => List.mem_cons_of_mem _ (List.mem_append_right _ (List.mem_append_right _ (List.mem_append_right _ (List.mem_append_left _ h))))) good_v_X1_goThroughYear)) rfl rfl rfl (by decide +kernel) ⟨Nat.le_of_ble_eq_true rfl, Nat.le_of_ble_eq_true rfl⟩) (pv_RW (q := (RX1, TX1, 9)) (ci := 1) (q0 := 0) (wc := [(ch, .inr (1, [.long n_ch_any_100, .long n_ch_bothSend_100, .long n_ch_cardsSent_100, .long n_ch_below_100, .int r4, .int r14, .ref ch_forgets, .ref n_ch_now_100, .ref n_ch_then_100])), (n_ch_then_100, .inl (cJ, 16, .inr (.inl n_ch_then_c_100))), (n_ch_now_100, .inl (cJ, 16, .inr (.inl n_ch_now_c_100))), (ch_forgets, .inl (cI, 2, .inl g59))]) hK hP hD [6, 7, 8, 9] (by decide) rfl rfl rfl) rfl rfl hl.1 rfl (lv_room (Nat.le_of_ble_eq_true rfl)) dX1_goThrough_100 ⟨Nat.le_of_ble_eq_true rfl, Nat.le_of_ble_eq_true rfl⟩) hS hA hP hD [6, 7, 8, 9] [0, 1, 2, 3, 4, 5] rfl rfl (by decide) (by decide) (fun u100 H locs hw100 hP hD hS => ?_)
  obtain ⟨n_ch_any_100, n_ch_bothSend_100, n_ch_cardsSent_100, n_ch_below_100, n_ch_now_100, n_ch_then_100, n_ch_then_c_100, n_ch_now_c_100⟩ := u100
  have hP : va_P g vwCl [(ld, .inr (4, [.int ld_lines, .int ld_years, .int ld_card, .int ld_hurt, .int ld_people, .int ld_pairs, .long ld_strikes, .ref ld_rule, .ref ld_returns, .ref ld_forgets, .ref ld_death, .ref ld_move, .ref ld_begun, .ref ld_who, .ref ld_lost])), (ld_who, .inl (cI, 32, .inl ld_who_c)), (ld_rule, .inl (cI, 10, .inl ld_rule_c)), (ld_returns, .inl (cI, 10, .inl ld_returns_c)), (ld_forgets, .inl (cI, 10, .inl ld_forgets_c)), (ld_begun, .inl (cI, 16, .inl ld_begun_c)), (ch, .inr (1, [.long n_ch_any_100, .long n_ch_bothSend_100, .long n_ch_cardsSent_100, .long n_ch_below_100, .int r4, .int r14, .ref ch_forgets, .ref n_ch_now_100, .ref n_ch_then_100])), (n_ch_then_100, .inl (cJ, 16, .inr (.inl n_ch_then_c_100))), (n_ch_now_100, .inl (cJ, 16, .inr (.inl n_ch_now_c_100))), (ch_forgets, .inl (cI, 2, .inl g59))] H := hP
  have hD : va_D A [(ld, .inr (4, [.int ld_lines, .int ld_years, .int ld_card, .int ld_hurt, .int ld_people, .int ld_pairs, .long ld_strikes, .ref ld_rule, .ref ld_returns, .ref ld_forgets, .ref ld_death, .ref ld_move, .ref ld_begun, .ref ld_who, .ref ld_lost])), (ld_who, .inl (cI, 32, .inl ld_who_c)), (ld_rule, .inl (cI, 10, .inl ld_rule_c)), (ld_returns, .inl (cI, 10, .inl ld_returns_c)), (ld_forgets, .inl (cI, 10, .inl ld_forgets_c)), (ld_begun, .inl (cI, 16, .inl ld_begun_c)), (ch, .inr (1, [.long n_ch_any_100, .long n_ch_bothSend_100, .long n_ch_cardsSent_100, .long n_ch_below_100, .int r4, .int r14, .ref ch_forgets, .ref n_ch_now_100, .ref n_ch_then_100])), (n_ch_then_100, .inl (cJ, 16, .inr (.inl n_ch_then_c_100))), (n_ch_now_100, .inl (cJ, 16, .inr (.inl n_ch_now_c_100))), (ch_forgets, .inl (cI, 2, .inl g59))] := hD
  refine lv_iinc (v := 3) (lv' := [(4, .int 3), (0, .ref ch), (1, .ref ld), (2, .int p1), (3, .int p2)]) hx hb dX1_goThrough_103 hl (k := 0) rfl (by decide) (by decide) rfl (fun ls hl => ?_)
  refine lv_goto (tgt := 93) hx hb dX1_goThrough_106 (by decide) ?_
  refine lv_iload hx hb dX1_goThrough_93 (lv_at hl 0 rfl) ?_
  refine lv_iload_n hx hb dX1_goThrough_95 rfl (lv_at hl 4 rfl) ?_
  refine lv_icmp_ge (tgt := 109) hx hb dX1_goThrough_96 (by decide) (fun c96 => ?_) (fun c96 => by exfalso; have f96 := (show 3 < p2.toInt from z_nle rfl rfl c96); have a9 := (ir_c 3); have b9 := r96b; omega)
  have f96 := (show p2.toInt ≤ 3 from z_le rfl rfl c96)
  subst hQ
  have hP9 := hP.sub (ws' := [(ld, .inr (4, [.int ld_lines, .int ld_years, .int ld_card, .int ld_hurt, .int ld_people, .int ld_pairs, .long ld_strikes, .ref ld_rule, .ref ld_returns, .ref ld_forgets, .ref ld_death, .ref ld_move, .ref ld_begun, .ref ld_who, .ref ld_lost])), (ld_who, .inl (cI, 32, .inl ld_who_c)), (ld_rule, .inl (cI, 10, .inl ld_rule_c)), (ld_returns, .inl (cI, 10, .inl ld_returns_c)), (ch, .inr (1, [.long n_ch_any_100, .long n_ch_bothSend_100, .long n_ch_cardsSent_100, .long n_ch_below_100, .int r4, .int r14, .ref ch_forgets, .ref n_ch_now_100, .ref n_ch_then_100])), (ld_forgets, .inl (cI, 10, .inl ld_forgets_c)), (ch_forgets, .inl (cI, 2, .inl g59)), (n_ch_now_100, .inl (cJ, 16, .inr (.inl n_ch_now_c_100))), (ld_begun, .inl (cI, 16, .inl ld_begun_c)), (n_ch_then_100, .inl (cJ, 16, .inr (.inl n_ch_then_c_100)))]) [0, 1, 2, 3, 6, 4, 9, 8, 5, 7] rfl
  have hD9 := hD.sub (ws' := [(ld, .inr (4, [.int ld_lines, .int ld_years, .int ld_card, .int ld_hurt, .int ld_people, .int ld_pairs, .long ld_strikes, .ref ld_rule, .ref ld_returns, .ref ld_forgets, .ref ld_death, .ref ld_move, .ref ld_begun, .ref ld_who, .ref ld_lost])), (ld_who, .inl (cI, 32, .inl ld_who_c)), (ld_rule, .inl (cI, 10, .inl ld_rule_c)), (ld_returns, .inl (cI, 10, .inl ld_returns_c)), (ch, .inr (1, [.long n_ch_any_100, .long n_ch_bothSend_100, .long n_ch_cardsSent_100, .long n_ch_below_100, .int r4, .int r14, .ref ch_forgets, .ref n_ch_now_100, .ref n_ch_then_100])), (ld_forgets, .inl (cI, 10, .inl ld_forgets_c)), (ch_forgets, .inl (cI, 2, .inl g59)), (n_ch_now_100, .inl (cJ, 16, .inr (.inl n_ch_now_c_100))), (ld_begun, .inl (cI, 16, .inl ld_begun_c)), (n_ch_then_100, .inl (cJ, 16, .inr (.inl n_ch_then_c_100)))]) [0, 1, 2, 3, 6, 4, 9, 8, 5, 7] (by decide) rfl
  exact W.vret hx hb hr (fun t ht hW => ⟨⟨(n_ch_any_100, n_ch_bothSend_100, n_ch_cardsSent_100, n_ch_below_100, r4, r14, n_ch_now_100, n_ch_then_100, g59, n_ch_now_c_100, n_ch_then_c_100), rfl, trivial, ⟨by rw [ht]; exact hP9, va_K.moved hW.alike hK, hD9⟩⟩, hS.F ht⟩) hS.2.2 dX1_goThrough_109
def v_J3_checkN : List Cond := .code yJ3_checkIndex_8e157 cJ3_checkIndex_8e157 3 (some .int) :: (([] : List Cond) ++ ([] : List Cond))
theorem good_v_J3_checkN : v_J3_checkN.all goodWord = true := ga_c (by decide +kernel) (ga_a (by decide +kernel) rfl)
set_option maxHeartbeats 4000000 in
set_option maxRecDepth 100000 in
theorem q_J3_checkN (l : Launch) (g : va_G) (cI cJ cB cZ cL : ClassId) (p0 : Int32) (p1 : Int32) (sz : Nat) (hx_0 : 0 ≤ p0.toInt ∧ p0.toInt < p1.toInt) : Met l yJ3_checkIndex_8e157 v_J3_checkN ({ frames := 0, cells := 0, slots := 0, locals := 0 }) (va_Pc [.int p0, .int p1, .null] (pRO g (tyT cI cJ cB cZ cL) [] sz)) (va_Qi (fun (r : Int32) (u : Unit) => (ir r.toInt 0 2147483646)) (fun (_ : Unit) (_ : State) => True) (va_A [] sz)) 0 0 (va_A [] sz) := by
  refine Met.ofW (cc := cJ3_checkIndex_8e157) (maxL := 3) (ret := (some .int)) (by decide) rfl ?_
  intro p e s m args below meth c s₁ B hml hv
  obtain ⟨rfl, hsz, hP, hK⟩ := hv
  have hx := B.exec
  have hb := B.bytes
  have hr := B.returns
  have hts := atoms_spec (ws := v_J3_checkN) B.pre
  have hown : s.vm.findClass RJ3 = some m.cls := findClass_of_methodNamed B.named
  have hlocks := B.notSynchronized
  clear B
  subst hsz
  generalize hAe : (va_A [] s.heap.size) = A
  have hA : ∀ q : Nat, s.heap.size ≤ q → A q := fun q h => by rw [← hAe]; exact Or.inr h
  have hS : va_S A s.heap s.heap [] := va_S.rf
  have hl := lv_entry ([.int p0, .int p1, .null]) (n := 3) (Nat.le_of_ble_eq_true rfl)
  rw [lg_entry_eq]
  generalize (lg_sl ([.int p0, .int p1, .null]) ++ List.replicate (3 - (lg_sl ([.int p0, .int p1, .null])).length) Slot.unset).toArray = ls at hl ⊢
  generalize ([.int p0, .int p1, .null] : List Value).toArray = av at hts ⊢
  generalize hQ : MQ below _ av s _ _ A = QQ
  have hl : lv_has ls 3 [(0, .int p0), (1, .int p1), (2, .null)] := hl
  have hP : va_P g vwCl [] s.heap := hP
  refine lv_iload_n hx hb dJ3_checkIndex_8e157_0 rfl (lv_at hl 0 rfl) ?_
  refine lv_if_lt (tgt := 9) hx hb dJ3_checkIndex_8e157_1 (by decide) (fun c1 => by exfalso; have f1 := (show p0.toInt < 0 from z_lt rfl rfl c1); have a9 := (rg_all p0); have b9 := (ir_c 0); omega) (fun c1 => ?_)
  have f1 := (show 0 ≤ p0.toInt from z_nlt rfl rfl c1)
  have r1a : ir p0.toInt 0 2147483647 := ir_leb f1 (ir_c 0) (rg_all p0) (by decide)
  refine lv_iload_n hx hb dJ3_checkIndex_8e157_4 rfl (lv_at hl 0 rfl) ?_
  refine lv_iload_n hx hb dJ3_checkIndex_8e157_5 rfl (lv_at hl 1 rfl) ?_
  refine lv_icmp_lt (tgt := 16) hx hb dJ3_checkIndex_8e157_6 (by decide) (fun c6 => ?_) (fun c6 => by exfalso; have f6 := (show p1.toInt ≤ p0.toInt from z_nlt rfl rfl c6); have a9 := r1a; have b9 := (rg_all p1); omega)
  have f6 := (show p0.toInt < p1.toInt from z_lt rfl rfl c6)
  have r6a : ir p0.toInt 0 2147483646 := ir_lta f6 r1a (rg_all p1) (by decide)
  have r6b : ir p1.toInt 1 2147483647 := ir_ltb f6 r1a (rg_all p1) (by decide)
  refine lv_iload_n hx hb dJ3_checkIndex_8e157_16 rfl (lv_at hl 0 rfl) ?_
  subst hQ
  exact W.iret (v := p0) hx hb hr (fun t ht hW => ⟨⟨p0, (), rfl, r6a, trivial⟩, hS.F ht⟩) hS.2.2 dJ3_checkIndex_8e157_17
def v_J3_checkR : List Cond := .code yJ3_checkIndex_8e157 cJ3_checkIndex_8e157 3 (some .int) :: (([] : List Cond) ++ ([] : List Cond))
theorem good_v_J3_checkR : v_J3_checkR.all goodWord = true := ga_c (by decide +kernel) (ga_a (by decide +kernel) rfl)
set_option maxHeartbeats 4000000 in
set_option maxRecDepth 100000 in
theorem q_J3_checkR (l : Launch) (g : va_G) (cI cJ cB cZ cL : ClassId) (p0 : Int32) (p1 : Int32) (fm : Nat) (sz : Nat) (hx_0 : 0 ≤ p0.toInt ∧ p0.toInt < p1.toInt) : Met l yJ3_checkIndex_8e157 v_J3_checkR ({ frames := 0, cells := 0, slots := 0, locals := 0 }) (va_Pc [.int p0, .int p1, .ref fm] (pRO g (tyT cI cJ cB cZ cL) [] sz)) (va_Qi (fun (r : Int32) (u : Unit) => (ir r.toInt 0 2147483646)) (fun (_ : Unit) (_ : State) => True) (va_A [] sz)) 0 0 (va_A [] sz) := by
  refine Met.ofW (cc := cJ3_checkIndex_8e157) (maxL := 3) (ret := (some .int)) (by decide) rfl ?_
  intro p e s m args below meth c s₁ B hml hv
  obtain ⟨rfl, hsz, hP, hK⟩ := hv
  have hx := B.exec
  have hb := B.bytes
  have hr := B.returns
  have hts := atoms_spec (ws := v_J3_checkR) B.pre
  have hown : s.vm.findClass RJ3 = some m.cls := findClass_of_methodNamed B.named
  have hlocks := B.notSynchronized
  clear B
  subst hsz
  generalize hAe : (va_A [] s.heap.size) = A
  have hA : ∀ q : Nat, s.heap.size ≤ q → A q := fun q h => by rw [← hAe]; exact Or.inr h
  have hS : va_S A s.heap s.heap [] := va_S.rf
  have hl := lv_entry ([.int p0, .int p1, .ref fm]) (n := 3) (Nat.le_of_ble_eq_true rfl)
  rw [lg_entry_eq]
  generalize (lg_sl ([.int p0, .int p1, .ref fm]) ++ List.replicate (3 - (lg_sl ([.int p0, .int p1, .ref fm])).length) Slot.unset).toArray = ls at hl ⊢
  generalize ([.int p0, .int p1, .ref fm] : List Value).toArray = av at hts ⊢
  generalize hQ : MQ below _ av s _ _ A = QQ
  have hl : lv_has ls 3 [(0, .int p0), (1, .int p1), (2, .ref fm)] := hl
  have hP : va_P g vwCl [] s.heap := hP
  refine lv_iload_n hx hb dJ3_checkIndex_8e157_0 rfl (lv_at hl 0 rfl) ?_
  refine lv_if_lt (tgt := 9) hx hb dJ3_checkIndex_8e157_1 (by decide) (fun c1 => by exfalso; have f1 := (show p0.toInt < 0 from z_lt rfl rfl c1); have a9 := (rg_all p0); have b9 := (ir_c 0); omega) (fun c1 => ?_)
  have f1 := (show 0 ≤ p0.toInt from z_nlt rfl rfl c1)
  have r1a : ir p0.toInt 0 2147483647 := ir_leb f1 (ir_c 0) (rg_all p0) (by decide)
  refine lv_iload_n hx hb dJ3_checkIndex_8e157_4 rfl (lv_at hl 0 rfl) ?_
  refine lv_iload_n hx hb dJ3_checkIndex_8e157_5 rfl (lv_at hl 1 rfl) ?_
  refine lv_icmp_lt (tgt := 16) hx hb dJ3_checkIndex_8e157_6 (by decide) (fun c6 => ?_) (fun c6 => by exfalso; have f6 := (show p1.toInt ≤ p0.toInt from z_nlt rfl rfl c6); have a9 := r1a; have b9 := (rg_all p1); omega)
  have f6 := (show p0.toInt < p1.toInt from z_lt rfl rfl c6)
  have r6a : ir p0.toInt 0 2147483646 := ir_lta f6 r1a (rg_all p1) (by decide)
  have r6b : ir p1.toInt 1 2147483647 := ir_ltb f6 r1a (rg_all p1) (by decide)
  refine lv_iload_n hx hb dJ3_checkIndex_8e157_16 rfl (lv_at hl 0 rfl) ?_
  subst hQ
  exact W.iret (v := p0) hx hb hr (fun t ht hW => ⟨⟨p0, (), rfl, r6a, trivial⟩, hS.F ht⟩) hS.2.2 dJ3_checkIndex_8e157_17
def v_J0_checkIndex_df160 : List Cond := .code yJ0_checkIndex_df160 cJ0_checkIndex_df160 2 none :: (([.fieldLink RJ0 1053 "jdk/internal/util/Preconditions" "SIOOBE_FORMATTER" "Ljava/util/function/BiFunction;", .methodLink RJ0 1059 yJ3_checkIndex_8e157, .static yJ3_checkIndex_8e157, .initialized RJ3] : List Cond) ++ (v_J3_checkN ++ (v_J3_checkR ++ ([] : List Cond))))
theorem good_v_J0_checkIndex_df160 : v_J0_checkIndex_df160.all goodWord = true := ga_c (by decide +kernel) (ga_a (by decide +kernel) (ga_a good_v_J3_checkN (ga_a good_v_J3_checkR rfl)))
set_option maxHeartbeats 4000000 in
set_option maxRecDepth 100000 in
theorem q_J0_checkIndex_df160 (l : Launch) (g : va_G) (cI cJ cB cZ cL : ClassId) (kA : Nat → Nat) (vA : Nat → Nat) (p0 : Int32) (p1 : Int32) (sz : Nat) (hx_0 : 0 ≤ p0.toInt ∧ p0.toInt < p1.toInt) : Met l yJ0_checkIndex_df160 v_J0_checkIndex_df160 ({ frames := 1, cells := 0, slots := 0, locals := 22 }) (va_Pc [.int p0, .int p1] (eRO g (tyT cI cJ cB cZ cL) [] sz kA vA)) (va_Qv (fun (u : Unit) => True) (fun (_ : Unit) (_ : State) => True) (va_A [] sz)) 0 0 (va_A [] sz) := by
  refine Met.ofW (cc := cJ0_checkIndex_df160) (maxL := 2) (ret := none) (by decide) rfl ?_
  intro p e s m args below meth c s₁ B hml hv
  obtain ⟨rfl, ⟨hsz, hP, hK⟩, hE⟩ := hv
  have hx := B.exec
  have hb := B.bytes
  have hr := B.returns
  have hts := atoms_spec (ws := v_J0_checkIndex_df160) B.pre
  have hown : s.vm.findClass RJ0 = some m.cls := findClass_of_methodNamed B.named
  have hlocks := B.notSynchronized
  clear B
  subst hsz
  generalize hAe : (va_A [] s.heap.size) = A at hE ⊢
  have hA : ∀ q : Nat, s.heap.size ≤ q → A q := fun q h => by rw [← hAe]; exact Or.inr h
  have hS : va_S A s.heap s.heap [] := va_S.rf
  have hl := lv_entry ([.int p0, .int p1]) (n := 2) (Nat.le_of_ble_eq_true rfl)
  rw [lg_entry_eq]
  generalize (lg_sl ([.int p0, .int p1]) ++ List.replicate (2 - (lg_sl ([.int p0, .int p1])).length) Slot.unset).toArray = ls at hl ⊢
  generalize ([.int p0, .int p1] : List Value).toArray = av at hts ⊢
  generalize hQ : MQ below _ av s _ _ A = QQ
  have hl : lv_has ls 2 [(0, .int p0), (1, .int p1)] := hl
  have hP : va_P g vwCl [] s.heap := hP
  refine lv_iload_n hx hb dJ0_checkIndex_df160_0 rfl (lv_at hl 0 rfl) ?_
  refine lv_iload_n hx hb dJ0_checkIndex_df160_1 rfl (lv_at hl 1 rfl) ?_
  obtain ⟨fv, hfz, hfv⟩ := hE.fm
  rcases hfv with hfv | ⟨fm, hfv⟩
  rotate_left 1
  · subst hfv
    refine va_gets hx hb hfz hS hown (hts (.fieldLink RJ0 1053 "jdk/internal/util/Preconditions" "SIOOBE_FORMATTER" "Ljava/util/function/BiFunction;") (List.mem_cons_of_mem _ (List.mem_append_left _ (List.mem_of_getElem? (i := 0) rfl)))) (fun _ h9 => h9) dJ0_checkIndex_df160_2 ?_
    refine ro_i (va_runS (As := [.int p0, .int p1, .ref fm]) (rest := []) ⟨hx, hb, hml, hown, hts⟩ (q_J3_checkR l g cI cJ cB cZ cL p0 p1 fm s.heap.size (by omega)) (va_cwS 3 hts (goodIn_app (g_3 (List.mem_cons_of_mem _ (List.mem_append_left _ (List.mem_of_getElem? (i := 1) rfl))) (List.mem_cons_of_mem _ (List.mem_append_left _ (List.mem_of_getElem? (i := 2) rfl))) (List.mem_cons_of_mem _ (List.mem_append_left _ (List.mem_of_getElem? (i := 3) rfl))) (by decide +kernel)) (goodIn_sub (fun _ h => List.mem_cons_of_mem _ (List.mem_append_right _ (List.mem_append_right _ (List.mem_append_left _ h)))) good_v_J3_checkR)) rfl rfl rfl (by decide +kernel) ⟨Nat.le_of_ble_eq_true rfl, Nat.le_of_ble_eq_true rfl⟩) (ps_RO (wc := []) hK hP [] rfl) rfl rfl hl.1 rfl (lv_room (Nat.le_of_ble_eq_true rfl)) dJ0_checkIndex_df160_5 ⟨Nat.le_of_ble_eq_true rfl, Nat.le_of_ble_eq_true rfl⟩) hS hA hP (fun r5 u5 H locs hw5 hP hS => ?_)
    have hw5_0 := hw5
    refine lv_pop hx hb dJ0_checkIndex_df160_8 rfl ?_
    subst hQ
    exact W.vret hx hb hr (fun t ht hW => ⟨⟨(), rfl, trivial, trivial⟩, hS.F ht⟩) hS.2.2 dJ0_checkIndex_df160_9
  subst hfv
  refine va_gets hx hb hfz hS hown (hts (.fieldLink RJ0 1053 "jdk/internal/util/Preconditions" "SIOOBE_FORMATTER" "Ljava/util/function/BiFunction;") (List.mem_cons_of_mem _ (List.mem_append_left _ (List.mem_of_getElem? (i := 0) rfl)))) (fun _ h9 => h9) dJ0_checkIndex_df160_2 ?_
  refine ro_i (va_runS (As := [.int p0, .int p1, .null]) (rest := []) ⟨hx, hb, hml, hown, hts⟩ (q_J3_checkN l g cI cJ cB cZ cL p0 p1 s.heap.size (by omega)) (va_cwS 3 hts (goodIn_app (g_3 (List.mem_cons_of_mem _ (List.mem_append_left _ (List.mem_of_getElem? (i := 1) rfl))) (List.mem_cons_of_mem _ (List.mem_append_left _ (List.mem_of_getElem? (i := 2) rfl))) (List.mem_cons_of_mem _ (List.mem_append_left _ (List.mem_of_getElem? (i := 3) rfl))) (by decide +kernel)) (goodIn_sub (fun _ h => List.mem_cons_of_mem _ (List.mem_append_right _ (List.mem_append_left _ h))) good_v_J3_checkN)) rfl rfl rfl (by decide +kernel) ⟨Nat.le_of_ble_eq_true rfl, Nat.le_of_ble_eq_true rfl⟩) (ps_RO (wc := []) hK hP [] rfl) rfl rfl hl.1 rfl (lv_room (Nat.le_of_ble_eq_true rfl)) dJ0_checkIndex_df160_5 ⟨Nat.le_of_ble_eq_true rfl, Nat.le_of_ble_eq_true rfl⟩) hS hA hP (fun r5 u5 H locs hw5 hP hS => ?_)
  have hw5_0 := hw5
  refine lv_pop hx hb dJ0_checkIndex_df160_8 rfl ?_
  subst hQ
  exact W.vret hx hb hr (fun t ht hW => ⟨⟨(), rfl, trivial, trivial⟩, hS.F ht⟩) hS.2.2 dJ0_checkIndex_df160_9
def v_J0_coder_7d493 : List Cond := .code yJ0_coder_7d493 cJ0_coder_7d493 1 (some .byte) :: (([.fieldLink RJ0 38 "java/lang/String" "COMPACT_STRINGS" "Z", .fieldLink RJ0 15 "java/lang/String" "coder" "B"] : List Cond) ++ ([] : List Cond))
theorem good_v_J0_coder_7d493 : v_J0_coder_7d493.all goodWord = true := ga_c (by decide +kernel) (ga_a (by decide +kernel) rfl)
set_option maxHeartbeats 4000000 in
set_option maxRecDepth 100000 in
theorem q_J0_coder_7d493 (l : Launch) (g : va_G) (cI cJ cB cZ cL : ClassId) (kA : Nat → Nat) (vA : Nat → Nat) (si : Nat) (sz : Nat) (hsi : si < 14) : Met l yJ0_coder_7d493 v_J0_coder_7d493 ({ frames := 0, cells := 0, slots := 0, locals := 0 }) (va_Pc [.ref (kA si)] (eRO g (tyT cI cJ cB cZ cL) [] sz kA vA)) (va_Qi (fun (r : Int32) (u : Unit) => ((r = 0))) (fun (_ : Unit) (_ : State) => True) (va_A [] sz)) 0 0 (va_A [] sz) := by
  refine Met.ofW (cc := cJ0_coder_7d493) (maxL := 1) (ret := (some .byte)) (by decide) rfl ?_
  intro p e s m args below meth c s₁ B hml hv
  obtain ⟨rfl, ⟨hsz, hP, hK⟩, hE⟩ := hv
  have hx := B.exec
  have hb := B.bytes
  have hr := B.returns
  have hts := atoms_spec (ws := v_J0_coder_7d493) B.pre
  have hown : s.vm.findClass RJ0 = some m.cls := findClass_of_methodNamed B.named
  have hlocks := B.notSynchronized
  clear B
  subst hsz
  generalize hAe : (va_A [] s.heap.size) = A at hE ⊢
  have hA : ∀ q : Nat, s.heap.size ≤ q → A q := fun q h => by rw [← hAe]; exact Or.inr h
  have hS : va_S A s.heap s.heap [] := va_S.rf
  have hl := lv_entry ([.ref (kA si)]) (n := 1) (Nat.le_of_ble_eq_true rfl)
  rw [lg_entry_eq]
  generalize (lg_sl ([.ref (kA si)]) ++ List.replicate (1 - (lg_sl ([.ref (kA si)])).length) Slot.unset).toArray = ls at hl ⊢
  generalize ([.ref (kA si)] : List Value).toArray = av at hts ⊢
  generalize hQ : MQ below _ av s _ _ A = QQ
  have hl : lv_has ls 1 [(0, .ref (kA si))] := hl
  have hP : va_P g vwCl [] s.heap := hP
  refine va_gets hx hb hE.cs hS hown (hts (.fieldLink RJ0 38 "java/lang/String" "COMPACT_STRINGS" "Z") (List.mem_cons_of_mem _ (List.mem_append_left _ (List.mem_of_getElem? (i := 0) rfl)))) (fun _ h9 => h9) dJ0_coder_7d493_0 ?_
  refine lv_if_eq (tgt := 13) hx hb dJ0_coder_7d493_3 (by decide) (fun c => absurd c (by decide)) (fun _ => ?_)
  refine lv_aload_n hx hb dJ0_coder_7d493_6 rfl (lv_at hl 0 rfl) ?_
  refine vk_getf hx hb (hE.cod si hsi) hS hown (hts (.fieldLink RJ0 15 "java/lang/String" "coder" "B") (List.mem_cons_of_mem _ (List.mem_append_left _ (List.mem_of_getElem? (i := 1) rfl)))) (fun _ h9 => h9) dJ0_coder_7d493_7 ?_
  refine lv_goto (tgt := 14) hx hb dJ0_coder_7d493_10 (by decide) ?_
  subst hQ
  exact W.zret (v := 0) hx hb hr rfl (fun t ht hW => ⟨⟨0, (), rfl, rfl, trivial⟩, hS.F ht⟩) hS.2.2 dJ0_coder_7d493_14
def v_J0_isLatin1_aae02 : List Cond := .code yJ0_isLatin1_aae02 cJ0_isLatin1_aae02 1 (some .boolean) :: (([.fieldLink RJ0 38 "java/lang/String" "COMPACT_STRINGS" "Z", .fieldLink RJ0 15 "java/lang/String" "coder" "B"] : List Cond) ++ ([] : List Cond))
theorem good_v_J0_isLatin1_aae02 : v_J0_isLatin1_aae02.all goodWord = true := ga_c (by decide +kernel) (ga_a (by decide +kernel) rfl)
set_option maxHeartbeats 4000000 in
set_option maxRecDepth 100000 in
theorem q_J0_isLatin1_aae02 (l : Launch) (g : va_G) (cI cJ cB cZ cL : ClassId) (kA : Nat → Nat) (vA : Nat → Nat) (si : Nat) (sz : Nat) (hsi : si < 14) : Met l yJ0_isLatin1_aae02 v_J0_isLatin1_aae02 ({ frames := 0, cells := 0, slots := 0, locals := 0 }) (va_Pc [.ref (kA si)] (eRO g (tyT cI cJ cB cZ cL) [] sz kA vA)) (va_Qi (fun (r : Int32) (u : Unit) => ((r = 1))) (fun (_ : Unit) (_ : State) => True) (va_A [] sz)) 0 0 (va_A [] sz) := by
  refine Met.ofW (cc := cJ0_isLatin1_aae02) (maxL := 1) (ret := (some .boolean)) (by decide) rfl ?_
  intro p e s m args below meth c s₁ B hml hv
  obtain ⟨rfl, ⟨hsz, hP, hK⟩, hE⟩ := hv
  have hx := B.exec
  have hb := B.bytes
  have hr := B.returns
  have hts := atoms_spec (ws := v_J0_isLatin1_aae02) B.pre
  have hown : s.vm.findClass RJ0 = some m.cls := findClass_of_methodNamed B.named
  have hlocks := B.notSynchronized
  clear B
  subst hsz
  generalize hAe : (va_A [] s.heap.size) = A at hE ⊢
  have hA : ∀ q : Nat, s.heap.size ≤ q → A q := fun q h => by rw [← hAe]; exact Or.inr h
  have hS : va_S A s.heap s.heap [] := va_S.rf
  have hl := lv_entry ([.ref (kA si)]) (n := 1) (Nat.le_of_ble_eq_true rfl)
  rw [lg_entry_eq]
  generalize (lg_sl ([.ref (kA si)]) ++ List.replicate (1 - (lg_sl ([.ref (kA si)])).length) Slot.unset).toArray = ls at hl ⊢
  generalize ([.ref (kA si)] : List Value).toArray = av at hts ⊢
  generalize hQ : MQ below _ av s _ _ A = QQ
  have hl : lv_has ls 1 [(0, .ref (kA si))] := hl
  have hP : va_P g vwCl [] s.heap := hP
  refine va_gets hx hb hE.cs hS hown (hts (.fieldLink RJ0 38 "java/lang/String" "COMPACT_STRINGS" "Z") (List.mem_cons_of_mem _ (List.mem_append_left _ (List.mem_of_getElem? (i := 0) rfl)))) (fun _ h9 => h9) dJ0_isLatin1_aae02_0 ?_
  refine lv_if_eq (tgt := 17) hx hb dJ0_isLatin1_aae02_3 (by decide) (fun c => absurd c (by decide)) (fun _ => ?_)
  refine lv_aload_n hx hb dJ0_isLatin1_aae02_6 rfl (lv_at hl 0 rfl) ?_
  refine vk_getf hx hb (hE.cod si hsi) hS hown (hts (.fieldLink RJ0 15 "java/lang/String" "coder" "B") (List.mem_cons_of_mem _ (List.mem_append_left _ (List.mem_of_getElem? (i := 1) rfl)))) (fun _ h9 => h9) dJ0_isLatin1_aae02_7 ?_
  refine lv_if_ne (tgt := 17) hx hb dJ0_isLatin1_aae02_10 (by decide) (fun c => absurd c (by decide)) (fun _ => ?_)
  refine lv_iconst (v := 1) hx hb dJ0_isLatin1_aae02_13 (by decide) ?_
  refine lv_goto (tgt := 18) hx hb dJ0_isLatin1_aae02_14 (by decide) ?_
  subst hQ
  exact W.zret (v := 1) hx hb hr rfl (fun t ht hW => ⟨⟨1, (), rfl, rfl, trivial⟩, hS.F ht⟩) hS.2.2 dJ0_isLatin1_aae02_18
def v_J0_length_8abf5 : List Cond := .code yJ0_length_8abf5 cJ0_length_8abf5 1 (some .int) :: (([.fieldLink RJ0 9 "java/lang/String" "value" "[B", .methodLink RJ0 335 yJ0_coder_7d493, .instanceMethod yJ0_coder_7d493, .selects RJ0 yJ0_coder_7d493 yJ0_coder_7d493, .initialized RJ0] : List Cond) ++ (v_J0_coder_7d493 ++ ([] : List Cond)))
theorem good_v_J0_length_8abf5 : v_J0_length_8abf5.all goodWord = true := ga_c (by decide +kernel) (ga_a (by decide +kernel) (ga_a good_v_J0_coder_7d493 rfl))
set_option maxHeartbeats 4000000 in
set_option maxRecDepth 100000 in
theorem q_J0_length_8abf5 (l : Launch) (g : va_G) (cI cJ cB cZ cL : ClassId) (kA : Nat → Nat) (vA : Nat → Nat) (si : Nat) (sz : Nat) (hsi : si < 14) : Met l yJ0_length_8abf5 v_J0_length_8abf5 ({ frames := 1, cells := 0, slots := 0, locals := 20 }) (va_Pc [.ref (kA si)] (eRO g (tyT cI cJ cB cZ cL) [] sz kA vA)) (va_Qi (fun (r : Int32) (u : Unit) => (r.toInt = (sL si : Int)) ∧ (ir r.toInt 0 16)) (fun (_ : Unit) (_ : State) => True) (va_A [] sz)) 0 0 (va_A [] sz) := by
  refine Met.ofW (cc := cJ0_length_8abf5) (maxL := 1) (ret := (some .int)) (by decide) rfl ?_
  intro p e s m args below meth c s₁ B hml hv
  obtain ⟨rfl, ⟨hsz, hP, hK⟩, hE⟩ := hv
  have hx := B.exec
  have hb := B.bytes
  have hr := B.returns
  have hts := atoms_spec (ws := v_J0_length_8abf5) B.pre
  have hown : s.vm.findClass RJ0 = some m.cls := findClass_of_methodNamed B.named
  have hlocks := B.notSynchronized
  clear B
  subst hsz
  generalize hAe : (va_A [] s.heap.size) = A at hE ⊢
  have hA : ∀ q : Nat, s.heap.size ≤ q → A q := fun q h => by rw [← hAe]; exact Or.inr h
  have hS : va_S A s.heap s.heap [] := va_S.rf
  have hl := lv_entry ([.ref (kA si)]) (n := 1) (Nat.le_of_ble_eq_true rfl)
  rw [lg_entry_eq]
  generalize (lg_sl ([.ref (kA si)]) ++ List.replicate (1 - (lg_sl ([.ref (kA si)])).length) Slot.unset).toArray = ls at hl ⊢
  generalize ([.ref (kA si)] : List Value).toArray = av at hts ⊢
  generalize hQ : MQ below _ av s _ _ A = QQ
  have hl : lv_has ls 1 [(0, .ref (kA si))] := hl
  have hP : va_P g vwCl [] s.heap := hP
  refine lv_aload_n hx hb dJ0_length_8abf5_0 rfl (lv_at hl 0 rfl) ?_
  refine vk_getf hx hb (hE.val si hsi) hS hown (hts (.fieldLink RJ0 9 "java/lang/String" "value" "[B") (List.mem_cons_of_mem _ (List.mem_append_left _ (List.mem_of_getElem? (i := 0) rfl)))) (fun _ h9 => h9) dJ0_length_8abf5_1 ?_
  refine va_tlen hx hb (hE.arr si hsi) hS (v := nI (sL si)) rfl dJ0_length_8abf5_4 ?_
  have hsl4 := sL_z si
  refine lv_aload_n hx hb dJ0_length_8abf5_5 rfl (lv_at hl 0 rfl) ?_
  refine ro_i (va_runV (As := []) (rest := [.int (nI (sL si))]) ⟨hx, hb, hml, hown, hts⟩ (q_J0_coder_7d493 l g cI cJ cB cZ cL kA vA si s.heap.size hsi) (cwV 0 hts (goodIn_app (g_4 (List.mem_cons_of_mem _ (List.mem_append_left _ (List.mem_of_getElem? (i := 1) rfl))) (List.mem_cons_of_mem _ (List.mem_append_left _ (List.mem_of_getElem? (i := 2) rfl))) (List.mem_cons_of_mem _ (List.mem_append_left _ (List.mem_of_getElem? (i := 3) rfl))) (List.mem_cons_of_mem _ (List.mem_append_left _ (List.mem_of_getElem? (i := 4) rfl))) (by decide +kernel)) (goodIn_sub (fun _ h => List.mem_cons_of_mem _ (List.mem_append_right _ (List.mem_append_left _ h))) good_v_J0_coder_7d493)) rfl rfl rfl (by decide +kernel) ⟨Nat.le_of_ble_eq_true rfl, Nat.le_of_ble_eq_true rfl⟩) (pvS hK hE hsi hS hA) rfl rfl hl.1 rfl (lv_room (Nat.le_of_ble_eq_true rfl)) dJ0_length_8abf5_6 ⟨Nat.le_of_ble_eq_true rfl, Nat.le_of_ble_eq_true rfl⟩) hS hA hP (fun r6 u6 H locs hw6 hP hS => ?_)
  have hw6_0 := hw6
  have er6 : r6 = 0 := hw6_0
  subst er6
  refine lv_ishr hx hb dJ0_length_8abf5_9 ?_
  refine lv_topi (nm_r (e' := (nI (sL si))) (sb_shr0 _) ?_)
  subst hQ
  exact W.iret (v := (nI (sL si))) hx hb hr (fun t ht hW => ⟨⟨(nI (sL si)), (), rfl, ⟨(sL_z si), (by rw [(sL_z si)]; exact (sL_r si))⟩, trivial⟩, hS.F ht⟩) hS.2.2 dJ0_length_8abf5_10
def v_J1_charAt_3b067 : List Cond := .code yJ1_charAt_3b067 cJ1_charAt_3b067 2 (some .char) :: (([.methodLink RJ1 9 yJ0_checkIndex_df160, .static yJ0_checkIndex_df160, .initialized RJ0] : List Cond) ++ (v_J0_checkIndex_df160 ++ ([] : List Cond)))
theorem good_v_J1_charAt_3b067 : v_J1_charAt_3b067.all goodWord = true := ga_c (by decide +kernel) (ga_a (by decide +kernel) (ga_a good_v_J0_checkIndex_df160 rfl))
set_option maxHeartbeats 4000000 in
set_option maxRecDepth 100000 in
theorem q_J1_charAt_3b067 (l : Launch) (g : va_G) (cI cJ cB cZ cL : ClassId) (kA : Nat → Nat) (vA : Nat → Nat) (si : Nat) (p1 : Int32) (sz : Nat) (hsi : si < 14) (hx_0 : 0 ≤ p1.toInt ∧ p1.toInt < (sL si : Int)) : Met l yJ1_charAt_3b067 v_J1_charAt_3b067 ({ frames := 2, cells := 0, slots := 0, locals := 43 }) (va_Pc [.ref (vA si), .int p1] (eRO g (tyT cI cJ cB cZ cL) [] sz kA vA)) (va_Qi (fun (r : Int32) (u : Unit) => (narrow .char (.int r) = .int r)) (fun (_ : Unit) (_ : State) => True) (va_A [] sz)) 0 0 (va_A [] sz) := by
  refine Met.ofW (cc := cJ1_charAt_3b067) (maxL := 2) (ret := (some .char)) (by decide) rfl ?_
  intro p e s m args below meth c s₁ B hml hv
  obtain ⟨rfl, ⟨hsz, hP, hK⟩, hE⟩ := hv
  have hx := B.exec
  have hb := B.bytes
  have hr := B.returns
  have hts := atoms_spec (ws := v_J1_charAt_3b067) B.pre
  have hown : s.vm.findClass RJ1 = some m.cls := findClass_of_methodNamed B.named
  have hlocks := B.notSynchronized
  clear B
  subst hsz
  generalize hAe : (va_A [] s.heap.size) = A at hE ⊢
  have hA : ∀ q : Nat, s.heap.size ≤ q → A q := fun q h => by rw [← hAe]; exact Or.inr h
  have hS : va_S A s.heap s.heap [] := va_S.rf
  have hl := lv_entry ([.ref (vA si), .int p1]) (n := 2) (Nat.le_of_ble_eq_true rfl)
  rw [lg_entry_eq]
  generalize (lg_sl ([.ref (vA si), .int p1]) ++ List.replicate (2 - (lg_sl ([.ref (vA si), .int p1])).length) Slot.unset).toArray = ls at hl ⊢
  generalize ([.ref (vA si), .int p1] : List Value).toArray = av at hts ⊢
  generalize hQ : MQ below _ av s _ _ A = QQ
  have hl : lv_has ls 2 [(0, .ref (vA si)), (1, .int p1)] := hl
  have hP : va_P g vwCl [] s.heap := hP
  refine lv_iload_n hx hb dJ1_charAt_3b067_0 rfl (lv_at hl 1 rfl) ?_
  refine lv_aload_n hx hb dJ1_charAt_3b067_1 rfl (lv_at hl 0 rfl) ?_
  refine va_tlen hx hb (hE.arr si hsi) hS (v := nI (sL si)) rfl dJ1_charAt_3b067_2 ?_
  have hsl2 := sL_z si
  refine ro_v (va_runS (As := [.int p1, .int (nI (sL si))]) (rest := []) ⟨hx, hb, hml, hown, hts⟩ (q_J0_checkIndex_df160 l g cI cJ cB cZ cL kA vA p1 (nI (sL si)) s.heap.size (by omega)) (va_cwS 2 hts (goodIn_app (g_3 (List.mem_cons_of_mem _ (List.mem_append_left _ (List.mem_of_getElem? (i := 0) rfl))) (List.mem_cons_of_mem _ (List.mem_append_left _ (List.mem_of_getElem? (i := 1) rfl))) (List.mem_cons_of_mem _ (List.mem_append_left _ (List.mem_of_getElem? (i := 2) rfl))) (by decide +kernel)) (goodIn_sub (fun _ h => List.mem_cons_of_mem _ (List.mem_append_right _ (List.mem_append_left _ h))) good_v_J0_checkIndex_df160)) rfl rfl rfl (by decide +kernel) ⟨Nat.le_of_ble_eq_true rfl, Nat.le_of_ble_eq_true rfl⟩) (psE_RO (ps_RO (wc := []) hK hP [] rfl) hE hS hA) rfl rfl hl.1 rfl (lv_room (Nat.le_of_ble_eq_true rfl)) dJ1_charAt_3b067_3 ⟨Nat.le_of_ble_eq_true rfl, Nat.le_of_ble_eq_true rfl⟩) hS hA hP (fun u3 H locs hw3 hP hS => ?_)
  refine lv_aload_n hx hb dJ1_charAt_3b067_6 rfl (lv_at hl 0 rfl) ?_
  refine lv_iload_n hx hb dJ1_charAt_3b067_7 rfl (lv_at hl 1 rfl) ?_
  refine va_tb hx hb (hE.arr si hsi) hS (vi_in rfl (by omega) (by omega)) (v := .int ((sB si).getD p1.toNatClampNeg 0)) rfl dJ1_charAt_3b067_8 ?_
  refine lv_topi (fun y8 e8 => ?_)
  refine lv_sipush (v := 255) hx hb dJ1_charAt_3b067_9 (by decide) ?_
  refine lv_iand hx hb dJ1_charAt_3b067_12 ?_
  refine lv_topi (fun y12 e12 => ?_)
  have r12 : ir y12.toInt 0 255 := by rw [e12]; exact an_y rfl (ir_c 255) (by decide)
  refine lv_i2c (v := (y12.toUInt32 % 65536).toInt32) hx hb dJ1_charAt_3b067_13 rfl ?_
  refine lv_topi (fun y13 e13 => ?_)
  subst hQ
  exact W.zret (v := y13) hx hb hr (by rw [e13]; exact pk_nc _) (fun t ht hW => ⟨⟨y13, (), rfl, (by rw [e13]; exact pk_nc _), trivial⟩, hS.F ht⟩) hS.2.2 dJ1_charAt_3b067_14
def v_J0_charAt_5068e : List Cond := .code yJ0_charAt_5068e cJ0_charAt_5068e 2 (some .char) :: (([.methodLink RJ0 492 yJ0_isLatin1_aae02, .instanceMethod yJ0_isLatin1_aae02, .selects RJ0 yJ0_isLatin1_aae02 yJ0_isLatin1_aae02, .initialized RJ0, .fieldLink RJ0 9 "java/lang/String" "value" "[B", .methodLink RJ0 495 yJ1_charAt_3b067, .static yJ1_charAt_3b067, .initialized RJ1] : List Cond) ++ (v_J0_isLatin1_aae02 ++ (v_J1_charAt_3b067 ++ ([] : List Cond))))
theorem good_v_J0_charAt_5068e : v_J0_charAt_5068e.all goodWord = true := ga_c (by decide +kernel) (ga_a (by decide +kernel) (ga_a good_v_J0_isLatin1_aae02 (ga_a good_v_J1_charAt_3b067 rfl)))
set_option maxHeartbeats 4000000 in
set_option maxRecDepth 100000 in
theorem q_J0_charAt_5068e (l : Launch) (g : va_G) (cI cJ cB cZ cL : ClassId) (kA : Nat → Nat) (vA : Nat → Nat) (si : Nat) (p0 : Int32) (sz : Nat) (hsi : si < 14) (hx_0 : 0 ≤ p0.toInt ∧ p0.toInt < (sL si : Int)) : Met l yJ0_charAt_5068e v_J0_charAt_5068e ({ frames := 3, cells := 0, slots := 0, locals := 64 }) (va_Pc [.ref (kA si), .int p0] (eRO g (tyT cI cJ cB cZ cL) [] sz kA vA)) (va_Qi (fun (r : Int32) (u : Unit) => True) (fun (_ : Unit) (_ : State) => True) (va_A [] sz)) 0 0 (va_A [] sz) := by
  refine Met.ofW (cc := cJ0_charAt_5068e) (maxL := 2) (ret := (some .char)) (by decide) rfl ?_
  intro p e s m args below meth c s₁ B hml hv
  obtain ⟨rfl, ⟨hsz, hP, hK⟩, hE⟩ := hv
  have hx := B.exec
  have hb := B.bytes
  have hr := B.returns
  have hts := atoms_spec (ws := v_J0_charAt_5068e) B.pre
  have hown : s.vm.findClass RJ0 = some m.cls := findClass_of_methodNamed B.named
  have hlocks := B.notSynchronized
  clear B
  subst hsz
  generalize hAe : (va_A [] s.heap.size) = A at hE ⊢
  have hA : ∀ q : Nat, s.heap.size ≤ q → A q := fun q h => by rw [← hAe]; exact Or.inr h
  have hS : va_S A s.heap s.heap [] := va_S.rf
  have hl := lv_entry ([.ref (kA si), .int p0]) (n := 2) (Nat.le_of_ble_eq_true rfl)
  rw [lg_entry_eq]
  generalize (lg_sl ([.ref (kA si), .int p0]) ++ List.replicate (2 - (lg_sl ([.ref (kA si), .int p0])).length) Slot.unset).toArray = ls at hl ⊢
  generalize ([.ref (kA si), .int p0] : List Value).toArray = av at hts ⊢
  generalize hQ : MQ below _ av s _ _ A = QQ
  have hl : lv_has ls 2 [(0, .ref (kA si)), (1, .int p0)] := hl
  have hP : va_P g vwCl [] s.heap := hP
  refine lv_aload_n hx hb dJ0_charAt_5068e_0 rfl (lv_at hl 0 rfl) ?_
  refine ro_i (va_runV (As := []) (rest := []) ⟨hx, hb, hml, hown, hts⟩ (q_J0_isLatin1_aae02 l g cI cJ cB cZ cL kA vA si s.heap.size hsi) (cwV 0 hts (goodIn_app (g_4 (List.mem_cons_of_mem _ (List.mem_append_left _ (List.mem_of_getElem? (i := 0) rfl))) (List.mem_cons_of_mem _ (List.mem_append_left _ (List.mem_of_getElem? (i := 1) rfl))) (List.mem_cons_of_mem _ (List.mem_append_left _ (List.mem_of_getElem? (i := 2) rfl))) (List.mem_cons_of_mem _ (List.mem_append_left _ (List.mem_of_getElem? (i := 3) rfl))) (by decide +kernel)) (goodIn_sub (fun _ h => List.mem_cons_of_mem _ (List.mem_append_right _ (List.mem_append_left _ h))) good_v_J0_isLatin1_aae02)) rfl rfl rfl (by decide +kernel) ⟨Nat.le_of_ble_eq_true rfl, Nat.le_of_ble_eq_true rfl⟩) (pvS hK hE hsi hS hA) rfl rfl hl.1 rfl (lv_room (Nat.le_of_ble_eq_true rfl)) dJ0_charAt_5068e_1 ⟨Nat.le_of_ble_eq_true rfl, Nat.le_of_ble_eq_true rfl⟩) hS hA hP (fun r1 u1 H locs hw1 hP hS => ?_)
  have hw1_0 := hw1
  have er1 : r1 = 1 := hw1_0
  subst er1
  refine lv_if_eq (tgt := 16) hx hb dJ0_charAt_5068e_4 (by decide) (fun c => absurd c (by decide)) (fun _ => ?_)
  refine lv_aload_n hx hb dJ0_charAt_5068e_7 rfl (lv_at hl 0 rfl) ?_
  refine vk_getf hx hb (hE.val si hsi) hS hown (hts (.fieldLink RJ0 9 "java/lang/String" "value" "[B") (List.mem_cons_of_mem _ (List.mem_append_left _ (List.mem_of_getElem? (i := 4) rfl)))) (fun _ h9 => h9) dJ0_charAt_5068e_8 ?_
  refine lv_iload_n hx hb dJ0_charAt_5068e_11 rfl (lv_at hl 1 rfl) ?_
  refine ro_i (va_runS (As := [.ref (vA si), .int p0]) (rest := []) ⟨hx, hb, hml, hown, hts⟩ (q_J1_charAt_3b067 l g cI cJ cB cZ cL kA vA si p0 H.size hsi (by omega)) (va_cwS 2 hts (goodIn_app (g_3 (List.mem_cons_of_mem _ (List.mem_append_left _ (List.mem_of_getElem? (i := 5) rfl))) (List.mem_cons_of_mem _ (List.mem_append_left _ (List.mem_of_getElem? (i := 6) rfl))) (List.mem_cons_of_mem _ (List.mem_append_left _ (List.mem_of_getElem? (i := 7) rfl))) (by decide +kernel)) (goodIn_sub (fun _ h => List.mem_cons_of_mem _ (List.mem_append_right _ (List.mem_append_right _ (List.mem_append_left _ h)))) good_v_J1_charAt_3b067)) rfl rfl rfl (by decide +kernel) ⟨Nat.le_of_ble_eq_true rfl, Nat.le_of_ble_eq_true rfl⟩) (psE_RO (ps_RO (wc := []) hK hP [] rfl) hE hS hA) rfl rfl hl.1 rfl (lv_room (Nat.le_of_ble_eq_true rfl)) dJ0_charAt_5068e_12 ⟨Nat.le_of_ble_eq_true rfl, Nat.le_of_ble_eq_true rfl⟩) hS hA hP (fun r12 u12 H locs hw12 hP hS => ?_)
  have hw12_0 := hw12
  subst hQ
  exact W.zret (v := r12) hx hb hr hw12_0 (fun t ht hW => ⟨⟨r12, (), rfl, trivial, trivial⟩, hS.F ht⟩) hS.2.2 dJ0_charAt_5068e_15
def v_X8_push : List Cond := .code yX8_push cX8_push 3 none :: (([.fieldLink RX8 9 "CardsAtYule$Tape" "length" "I", .fieldLink RX8 28 "CardsAtYule$Tape" "bytes" "[B"] : List Cond) ++ (wsX80 ++ ([] : List Cond)))
theorem good_v_X8_push : v_X8_push.all goodWord = true := ga_c (by decide +kernel) (ga_a (by decide +kernel) (ga_a good_wsX80 rfl))
set_option maxHeartbeats 4000000 in
set_option maxRecDepth 100000 in
theorem q_X8_push (l : Launch) (g : va_G) (cI cJ cB cZ cL : ClassId) (p0 : Int32) (tp : Nat) (tp_length : Int32) (tp_told : Nat) (tp_fault : Int32) (tp_place : Int32) (tp_bytes : Nat) (tp_at : Int32) (tp_start : Int32) (tp_kind : Int32) (tp_number : Int32) (tp_numberPlace : Int32) (tp_bytes_c : Nat → Int32) (sz : Nat) (hv_tp_length : ir tp_length.toInt 0 1600) (hv_tp_at : ir tp_at.toInt 0 1600) (hv_tp_start : ir tp_start.toInt 0 1600) : Met l yX8_push v_X8_push ({ frames := 0, cells := 0, slots := 0, locals := 0 }) (va_Pc [.ref tp, .int p0] (pRW g (tyT cI cJ cB cZ cL) [(tp, .inr (8, [.int tp_length, .ref tp_told, .int tp_fault, .int tp_place, .ref tp_bytes, .int tp_at, .int tp_start, .int tp_kind, .int tp_number, .int tp_numberPlace])), (tp_bytes, .inl (cB, 1600, .inl tp_bytes_c))] sz)) (va_Qv (fun (u : Int32 × (Nat → Int32)) => match u with | (n_tp_length, n_tp_bytes_c) => (ir n_tp_length.toInt 0 1600)) (fun (u : Int32 × (Nat → Int32)) (t : State) => bRW g (tyT cI cJ cB cZ cL) (va_A [(tp, .inr (8, [.int tp_length, .ref tp_told, .int tp_fault, .int tp_place, .ref tp_bytes, .int tp_at, .int tp_start, .int tp_kind, .int tp_number, .int tp_numberPlace])), (tp_bytes, .inl (cB, 1600, .inl tp_bytes_c))] sz) (match u with | (n_tp_length, n_tp_bytes_c) => [(tp, .inr (8, [.int n_tp_length, .ref tp_told, .int tp_fault, .int tp_place, .ref tp_bytes, .int tp_at, .int tp_start, .int tp_kind, .int tp_number, .int tp_numberPlace])), (tp_bytes, .inl (cB, 1600, .inl n_tp_bytes_c))]) t) (va_A [(tp, .inr (8, [.int tp_length, .ref tp_told, .int tp_fault, .int tp_place, .ref tp_bytes, .int tp_at, .int tp_start, .int tp_kind, .int tp_number, .int tp_numberPlace])), (tp_bytes, .inl (cB, 1600, .inl tp_bytes_c))] sz)) 0 0 (va_A [(tp, .inr (8, [.int tp_length, .ref tp_told, .int tp_fault, .int tp_place, .ref tp_bytes, .int tp_at, .int tp_start, .int tp_kind, .int tp_number, .int tp_numberPlace])), (tp_bytes, .inl (cB, 1600, .inl tp_bytes_c))] sz) := by
  refine Met.ofW (cc := cX8_push) (maxL := 3) (ret := none) (by decide) rfl ?_
  intro p e s m args below meth c s₁ B hml hv
  obtain ⟨rfl, hsz, hP, hK, hD0⟩ := hv
  have hx := B.exec
  have hb := B.bytes
  have hr := B.returns
  have hts := atoms_spec (ws := v_X8_push) B.pre
  have hown : s.vm.findClass RX8 = some m.cls := findClass_of_methodNamed B.named
  have hlocks := B.notSynchronized
  clear B
  subst hsz
  have iX8 : ∀ w ∈ wsX80, w ∈ v_X8_push := (fun _ h => List.mem_cons_of_mem _ (List.mem_append_right _ (List.mem_append_left _ h)))
  have hD := hD0.self (sz := s.heap.size)
  generalize hAe : (va_A [(tp, .inr (8, [.int tp_length, .ref tp_told, .int tp_fault, .int tp_place, .ref tp_bytes, .int tp_at, .int tp_start, .int tp_kind, .int tp_number, .int tp_numberPlace])), (tp_bytes, .inl (cB, 1600, .inl tp_bytes_c))] s.heap.size) = A at hD ⊢
  have hA : ∀ q : Nat, s.heap.size ≤ q → A q := fun q h => by rw [← hAe]; exact Or.inr h
  have hS : va_S A s.heap s.heap [] := va_S.rf
  have hl := lv_entry ([.ref tp, .int p0]) (n := 3) (Nat.le_of_ble_eq_true rfl)
  rw [lg_entry_eq]
  generalize (lg_sl ([.ref tp, .int p0]) ++ List.replicate (3 - (lg_sl ([.ref tp, .int p0])).length) Slot.unset).toArray = ls at hl ⊢
  generalize ([.ref tp, .int p0] : List Value).toArray = av at hts ⊢
  generalize hQ : MQ below _ av s _ _ A = QQ
  have hl : lv_has ls 3 [(0, .ref tp), (1, .int p0)] := hl
  have hP : va_P g vwCl [(tp, .inr (8, [.int tp_length, .ref tp_told, .int tp_fault, .int tp_place, .ref tp_bytes, .int tp_at, .int tp_start, .int tp_kind, .int tp_number, .int tp_numberPlace])), (tp_bytes, .inl (cB, 1600, .inl tp_bytes_c))] s.heap := hP
  refine lv_bipush (v := 24) hx hb dX8_push_0 (by decide) ?_
  refine lv_istore_n (lv' := [(2, .int 24), (0, .ref tp), (1, .int p0)]) hx hb dX8_push_2 rfl hl (by decide) rfl (fun ls hl => ?_)
  have J3 : ∀ (n3 : Nat) (j3_l2 : Int32) (j3_tp_length : Int32) (j3_tp_bytes_c : Nat → Int32) (H : Heap) (locs : List Loc) (ls : Array Slot), (j3_l2.toInt - (-2147483648)).toNat < n3 → (ir j3_l2.toInt (-2147483647) 24) → (ir j3_tp_length.toInt 0 1600) → va_P g vwCl [(tp, .inr (8, [.int j3_tp_length, .ref tp_told, .int tp_fault, .int tp_place, .ref tp_bytes, .int tp_at, .int tp_start, .int tp_kind, .int tp_number, .int tp_numberPlace])), (tp_bytes, .inl (cB, 1600, .inl j3_tp_bytes_c))] H → va_D A [(tp, .inr (8, [.int j3_tp_length, .ref tp_told, .int tp_fault, .int tp_place, .ref tp_bytes, .int tp_at, .int tp_start, .int tp_kind, .int tp_number, .int tp_numberPlace])), (tp_bytes, .inl (cB, 1600, .inl j3_tp_bytes_c))] → va_S A s.heap H locs → lv_has ls 3 [(0, .ref tp), (1, .int p0), (2, .int j3_l2)] → W p l e (headSpec v_X8_push ({ frames := 0, cells := 0, slots := 0, locals := 0 })).room s m av below meth c H locs 0 0 QQ (F0 m 3 ls []) := by
    intro n3
    induction n3 with
    | zero => exact fun j3_l2 j3_tp_length j3_tp_bytes_c H locs ls hn => absurd hn (Nat.not_lt_zero _)
    | succ n3 ih3 =>
      intro j3_l2 j3_tp_length j3_tp_bytes_c H locs ls hn3 hj3_l2 hj3_tp_length hP hD hS hl
      refine lv_iload_n hx hb dX8_push_3 rfl (lv_at hl 2 rfl) ?_
      refine lv_if_lt (tgt := 46) hx hb dX8_push_4 (by decide) (fun c4 => ?_) (fun c4 => ?_)
      · have f4 := (show j3_l2.toInt < 0 from z_lt rfl rfl c4)
        have r4a : ir j3_l2.toInt (-2147483647) (-1) := ir_lta f4 hj3_l2 (ir_c 0) (by decide)
        subst hQ
        have hP9 := hP.sub (ws' := [(tp, .inr (8, [.int j3_tp_length, .ref tp_told, .int tp_fault, .int tp_place, .ref tp_bytes, .int tp_at, .int tp_start, .int tp_kind, .int tp_number, .int tp_numberPlace])), (tp_bytes, .inl (cB, 1600, .inl j3_tp_bytes_c))]) [0, 1] rfl
        have hD9 := hD.sub (ws' := [(tp, .inr (8, [.int j3_tp_length, .ref tp_told, .int tp_fault, .int tp_place, .ref tp_bytes, .int tp_at, .int tp_start, .int tp_kind, .int tp_number, .int tp_numberPlace])), (tp_bytes, .inl (cB, 1600, .inl j3_tp_bytes_c))]) [0, 1] (by decide) rfl
        exact W.vret hx hb hr (fun t ht hW => ⟨⟨(j3_tp_length, j3_tp_bytes_c), rfl, hj3_tp_length, ⟨by rw [ht]; exact hP9, va_K.moved hW.alike hK, hD9⟩⟩, hS.F ht⟩) hS.2.2 dX8_push_46
      have f4 := (show 0 ≤ j3_l2.toInt from z_nlt rfl rfl c4)
      have r4a : ir j3_l2.toInt 0 24 := ir_leb f4 (ir_c 0) hj3_l2 (by decide)
      refine lv_aload_n hx hb dX8_push_7 rfl (lv_at hl 0 rfl) ?_
      refine va_get (D := g) (ci := 8) (v := .int j3_tp_length) (C := RX8) (T := TX8) (N := 10) hx hb hts iX8 hown hK hP 0 rfl rfl 0 (by decide) (hts (.fieldLink RX8 9 "CardsAtYule$Tape" "length" "I") (List.mem_cons_of_mem _ (List.mem_append_left _ (List.mem_of_getElem? (i := 0) rfl)))) (fun _ h9 => h9) rfl dX8_push_8 ?_
      refine lv_sipush (v := 1600) hx hb dX8_push_11 (by decide) ?_
      refine lv_icmp_ge (tgt := 46) hx hb dX8_push_14 (by decide) (fun c14 => ?_) (fun c14 => ?_)
      · have f14 := (show 1600 ≤ j3_tp_length.toInt from z_le rfl rfl c14)
        have r14a : ir j3_tp_length.toInt 1600 1600 := ir_leb f14 (ir_c 1600) hj3_tp_length (by decide)
        subst hQ
        have hP9 := hP.sub (ws' := [(tp, .inr (8, [.int j3_tp_length, .ref tp_told, .int tp_fault, .int tp_place, .ref tp_bytes, .int tp_at, .int tp_start, .int tp_kind, .int tp_number, .int tp_numberPlace])), (tp_bytes, .inl (cB, 1600, .inl j3_tp_bytes_c))]) [0, 1] rfl
        have hD9 := hD.sub (ws' := [(tp, .inr (8, [.int j3_tp_length, .ref tp_told, .int tp_fault, .int tp_place, .ref tp_bytes, .int tp_at, .int tp_start, .int tp_kind, .int tp_number, .int tp_numberPlace])), (tp_bytes, .inl (cB, 1600, .inl j3_tp_bytes_c))]) [0, 1] (by decide) rfl
        exact W.vret hx hb hr (fun t ht hW => ⟨⟨(j3_tp_length, j3_tp_bytes_c), rfl, (ir_w r14a (by decide) (by decide)), ⟨by rw [ht]; exact hP9, va_K.moved hW.alike hK, hD9⟩⟩, hS.F ht⟩) hS.2.2 dX8_push_46
      have f14 := (show j3_tp_length.toInt < 1600 from z_nle rfl rfl c14)
      have r14a : ir j3_tp_length.toInt 0 1599 := ir_lta f14 hj3_tp_length (ir_c 1600) (by decide)
      refine lv_aload_n hx hb dX8_push_17 rfl (lv_at hl 0 rfl) ?_
      refine va_get (D := g) (ci := 8) (v := .ref tp_bytes) (C := RX8) (T := TX8) (N := 10) hx hb hts iX8 hown hK hP 0 rfl rfl 4 (by decide) (hts (.fieldLink RX8 28 "CardsAtYule$Tape" "bytes" "[B") (List.mem_cons_of_mem _ (List.mem_append_left _ (List.mem_of_getElem? (i := 1) rfl)))) (fun _ h9 => h9) rfl dX8_push_18 ?_
      refine lv_aload_n hx hb dX8_push_21 rfl (lv_at hl 0 rfl) ?_
      refine va_get (D := g) (ci := 8) (v := .int j3_tp_length) (C := RX8) (T := TX8) (N := 10) hx hb hts iX8 hown hK hP 0 rfl rfl 0 (by decide) (hts (.fieldLink RX8 9 "CardsAtYule$Tape" "length" "I") (List.mem_cons_of_mem _ (List.mem_append_left _ (List.mem_of_getElem? (i := 0) rfl)))) (fun _ h9 => h9) rfl dX8_push_22 ?_
      refine lv_iload_n hx hb dX8_push_25 rfl (lv_at hl 1 rfl) ?_
      refine lv_iload_n hx hb dX8_push_26 rfl (lv_at hl 2 rfl) ?_
      refine lv_ishr hx hb dX8_push_27 ?_
      refine lv_topi (fun y27 e27 => ?_)
      refine lv_i2b (v := y27.toInt8.toInt32) hx hb dX8_push_28 rfl ?_
      refine lv_topi (fun y28 e28 => ?_)
      refine va_bast (D := g) hx hb hK hP hD hS 1 2 rfl rfl (vi_rg rfl r14a (by decide) (by decide)) dX8_push_29 (fun H locs hP hD hS => ?_)
      obtain ⟨g29, e29⟩ : ∃ z, z = upd j3_tp_bytes_c j3_tp_length.toNatClampNeg (vp_nar .byte y28) := ⟨_, rfl⟩
      have hP : va_P g vwCl [(tp, .inr (8, [.int j3_tp_length, .ref tp_told, .int tp_fault, .int tp_place, .ref tp_bytes, .int tp_at, .int tp_start, .int tp_kind, .int tp_number, .int tp_numberPlace])), (tp_bytes, .inl (cB, 1600, .inl (upd j3_tp_bytes_c j3_tp_length.toNatClampNeg (vp_nar .byte y28))))] H := hP
      have hD : va_D A [(tp, .inr (8, [.int j3_tp_length, .ref tp_told, .int tp_fault, .int tp_place, .ref tp_bytes, .int tp_at, .int tp_start, .int tp_kind, .int tp_number, .int tp_numberPlace])), (tp_bytes, .inl (cB, 1600, .inl (upd j3_tp_bytes_c j3_tp_length.toNatClampNeg (vp_nar .byte y28))))] := hD
      rw [← e29] at hP hD
      refine lv_aload_n hx hb dX8_push_30 rfl (lv_at hl 0 rfl) ?_
      refine lv_dup hx hb dX8_push_31 rfl ?_
      refine va_get (D := g) (ci := 8) (v := .int j3_tp_length) (C := RX8) (T := TX8) (N := 10) hx hb hts iX8 hown hK hP 0 rfl rfl 0 (by decide) (hts (.fieldLink RX8 9 "CardsAtYule$Tape" "length" "I") (List.mem_cons_of_mem _ (List.mem_append_left _ (List.mem_of_getElem? (i := 0) rfl)))) (fun _ h9 => h9) rfl dX8_push_32 ?_
      refine lv_iconst (v := 1) hx hb dX8_push_35 (by decide) ?_
      refine lv_iadd hx hb dX8_push_36 ?_
      refine lv_topi (fun y36 e36 => ?_)
      have q36 : y36.toInt = j3_tp_length.toInt + 1 := by rw [e36]; exact ad_z rfl rfl r14a (ir_c 1) (by decide) (by decide)
      have r36 : ir y36.toInt 1 1600 := ad_r q36 r14a (ir_c 1) (by decide) (by decide)
      refine va_put (D := g) (ci := 8) (v := .int y36) (ty := .int) (C := RX8) (T := TX8) (N := 10) hx hb hts iX8 tyX8 tyX8_ok nmX8 hown hK hP hD hS 0 rfl rfl 0 (by decide) (hts (.fieldLink RX8 9 "CardsAtYule$Tape" "length" "I") (List.mem_cons_of_mem _ (List.mem_append_left _ (List.mem_of_getElem? (i := 0) rfl)))) (fun _ h9 => h9) rfl (by decide +kernel) rfl rfl (Nat.le_of_ble_eq_true rfl) dX8_push_37 (fun H locs hP hD hS => ?_)
      have hP : va_P g vwCl [(tp, .inr (8, [.int y36, .ref tp_told, .int tp_fault, .int tp_place, .ref tp_bytes, .int tp_at, .int tp_start, .int tp_kind, .int tp_number, .int tp_numberPlace])), (tp_bytes, .inl (cB, 1600, .inl g29))] H := hP
      have hD : va_D A [(tp, .inr (8, [.int y36, .ref tp_told, .int tp_fault, .int tp_place, .ref tp_bytes, .int tp_at, .int tp_start, .int tp_kind, .int tp_number, .int tp_numberPlace])), (tp_bytes, .inl (cB, 1600, .inl g29))] := hD
      obtain ⟨y40, e40⟩ : ∃ y : Int32, y = j3_l2 + (-8) := ⟨_, rfl⟩
      have q40 : y40.toInt = j3_l2.toInt + (-8) := by rw [e40]; exact ad_z rfl rfl r4a (ir_c (-8)) (by decide) (by decide)
      have r40 : ir y40.toInt (-8) 16 := ad_r q40 r4a (ir_c (-8)) (by decide) (by decide)
      refine lv_iinc (v := y40) (lv' := [(2, .int y40), (0, .ref tp), (1, .int p0)]) hx hb dX8_push_40 hl (k := 2) rfl e40.symm (by decide) rfl (fun ls hl => ?_)
      refine lv_goto (tgt := 3) hx hb dX8_push_43 (by decide) ?_
      exact ih3 y40 y36 g29 _ _ _ (by omega) (ir_w r40 (by decide) (by decide)) (ir_w r36 (by decide) (by decide)) (hP.sub [0, 1] rfl) (hD.sub [0, 1] (by decide) rfl) hS (lv_sub hl [1, 2, 0] rfl)
  exact J3 _ 24 tp_length tp_bytes_c _ _ _ (Nat.lt_succ_self _) (by decide) hv_tp_length (hP.sub [0, 1] rfl) (hD.sub [0, 1] (by decide) rfl) hS (lv_sub hl [1, 2, 0] rfl)
def v_X8_byteAt : List Cond := .code yX8_byteAt cX8_byteAt 2 (some .int) :: (([.fieldLink RX8 28 "CardsAtYule$Tape" "bytes" "[B"] : List Cond) ++ (wsX80 ++ ([] : List Cond)))
theorem good_v_X8_byteAt : v_X8_byteAt.all goodWord = true := ga_c (by decide +kernel) (ga_a (by decide +kernel) (ga_a good_wsX80 rfl))
set_option maxHeartbeats 4000000 in
set_option maxRecDepth 100000 in
theorem q_X8_byteAt (l : Launch) (g : va_G) (cI cJ cB cZ cL : ClassId) (p0 : Int32) (tp : Nat) (tp_length : Int32) (tp_told : Nat) (tp_fault : Int32) (tp_place : Int32) (tp_bytes : Nat) (tp_at : Int32) (tp_start : Int32) (tp_kind : Int32) (tp_number : Int32) (tp_numberPlace : Int32) (tp_bytes_c : Nat → Int32) (sz : Nat) (hv_tp_length : ir tp_length.toInt 0 1600) (hv_tp_at : ir tp_at.toInt 0 1600) (hv_tp_start : ir tp_start.toInt 0 1600) : Met l yX8_byteAt v_X8_byteAt ({ frames := 0, cells := 0, slots := 0, locals := 0 }) (va_Pc [.ref tp, .int p0] (pRO g (tyT cI cJ cB cZ cL) [(tp, .inr (8, [.int tp_length, .ref tp_told, .int tp_fault, .int tp_place, .ref tp_bytes, .int tp_at, .int tp_start, .int tp_kind, .int tp_number, .int tp_numberPlace])), (tp_bytes, .inl (cB, 1600, .inl tp_bytes_c))] sz)) (va_Qi (fun (r : Int32) (u : Unit) => True) (fun (_ : Unit) (_ : State) => True) (va_A [] sz)) 0 0 (va_A [] sz) := by
  refine Met.ofW (cc := cX8_byteAt) (maxL := 2) (ret := (some .int)) (by decide) rfl ?_
  intro p e s m args below meth c s₁ B hml hv
  obtain ⟨rfl, hsz, hP, hK⟩ := hv
  have hx := B.exec
  have hb := B.bytes
  have hr := B.returns
  have hts := atoms_spec (ws := v_X8_byteAt) B.pre
  have hown : s.vm.findClass RX8 = some m.cls := findClass_of_methodNamed B.named
  have hlocks := B.notSynchronized
  clear B
  subst hsz
  have iX8 : ∀ w ∈ wsX80, w ∈ v_X8_byteAt := (fun _ h => List.mem_cons_of_mem _ (List.mem_append_right _ (List.mem_append_left _ h)))
  generalize hAe : (va_A [] s.heap.size) = A
  have hA : ∀ q : Nat, s.heap.size ≤ q → A q := fun q h => by rw [← hAe]; exact Or.inr h
  have hS : va_S A s.heap s.heap [] := va_S.rf
  have hl := lv_entry ([.ref tp, .int p0]) (n := 2) (Nat.le_of_ble_eq_true rfl)
  rw [lg_entry_eq]
  generalize (lg_sl ([.ref tp, .int p0]) ++ List.replicate (2 - (lg_sl ([.ref tp, .int p0])).length) Slot.unset).toArray = ls at hl ⊢
  generalize ([.ref tp, .int p0] : List Value).toArray = av at hts ⊢
  generalize hQ : MQ below _ av s _ _ A = QQ
  have hl : lv_has ls 2 [(0, .ref tp), (1, .int p0)] := hl
  have hP : va_P g vwCl [(tp, .inr (8, [.int tp_length, .ref tp_told, .int tp_fault, .int tp_place, .ref tp_bytes, .int tp_at, .int tp_start, .int tp_kind, .int tp_number, .int tp_numberPlace])), (tp_bytes, .inl (cB, 1600, .inl tp_bytes_c))] s.heap := hP
  refine lv_iload_n hx hb dX8_byteAt_0 rfl (lv_at hl 1 rfl) ?_
  refine lv_if_lt (tgt := 20) hx hb dX8_byteAt_1 (by decide) (fun c1 => ?_) (fun c1 => ?_)
  · have f1 := (show p0.toInt < 0 from z_lt rfl rfl c1)
    have r1a : ir p0.toInt (-2147483648) (-1) := ir_lta f1 (rg_all p0) (ir_c 0) (by decide)
    refine lv_iconst (v := 0) hx hb dX8_byteAt_20 (by decide) ?_
    subst hQ
    exact W.iret (v := 0) hx hb hr (fun t ht hW => ⟨⟨0, (), rfl, trivial, trivial⟩, hS.F ht⟩) hS.2.2 dX8_byteAt_21
  have f1 := (show 0 ≤ p0.toInt from z_nlt rfl rfl c1)
  have r1a : ir p0.toInt 0 2147483647 := ir_leb f1 (ir_c 0) (rg_all p0) (by decide)
  refine lv_iload_n hx hb dX8_byteAt_4 rfl (lv_at hl 1 rfl) ?_
  refine lv_sipush (v := 1600) hx hb dX8_byteAt_5 (by decide) ?_
  refine lv_icmp_ge (tgt := 20) hx hb dX8_byteAt_8 (by decide) (fun c8 => ?_) (fun c8 => ?_)
  · have f8 := (show 1600 ≤ p0.toInt from z_le rfl rfl c8)
    have r8a : ir p0.toInt 1600 2147483647 := ir_leb f8 (ir_c 1600) r1a (by decide)
    refine lv_iconst (v := 0) hx hb dX8_byteAt_20 (by decide) ?_
    subst hQ
    exact W.iret (v := 0) hx hb hr (fun t ht hW => ⟨⟨0, (), rfl, trivial, trivial⟩, hS.F ht⟩) hS.2.2 dX8_byteAt_21
  have f8 := (show p0.toInt < 1600 from z_nle rfl rfl c8)
  have r8a : ir p0.toInt 0 1599 := ir_lta f8 r1a (ir_c 1600) (by decide)
  refine lv_aload_n hx hb dX8_byteAt_11 rfl (lv_at hl 0 rfl) ?_
  refine va_get (D := g) (ci := 8) (v := .ref tp_bytes) (C := RX8) (T := TX8) (N := 10) hx hb hts iX8 hown hK hP 0 rfl rfl 4 (by decide) (hts (.fieldLink RX8 28 "CardsAtYule$Tape" "bytes" "[B") (List.mem_cons_of_mem _ (List.mem_append_left _ (List.mem_of_getElem? (i := 0) rfl)))) (fun _ h9 => h9) rfl dX8_byteAt_12 ?_
  refine lv_iload_n hx hb dX8_byteAt_15 rfl (lv_at hl 1 rfl) ?_
  refine va_bald (D := g) hx hb hK hP 1 2 rfl rfl (vi_rg rfl r8a (by decide) (by decide)) dX8_byteAt_16 ?_
  refine lv_topi (fun y16 e16 => ?_)
  refine lv_goto (tgt := 21) hx hb dX8_byteAt_17 (by decide) ?_
  subst hQ
  exact W.iret (v := y16) hx hb hr (fun t ht hW => ⟨⟨y16, (), rfl, trivial, trivial⟩, hS.F ht⟩) hS.2.2 dX8_byteAt_21
def v_X8_isBlank : List Cond := .code yX8_isBlank cX8_isBlank 1 (some .boolean) :: (([] : List Cond) ++ ([] : List Cond))
theorem good_v_X8_isBlank : v_X8_isBlank.all goodWord = true := ga_c (by decide +kernel) (ga_a (by decide +kernel) rfl)
set_option maxHeartbeats 4000000 in
set_option maxRecDepth 100000 in
theorem q_X8_isBlank (l : Launch) (g : va_G) (cI cJ cB cZ cL : ClassId) (p0 : Int32) (sz : Nat)  : Met l yX8_isBlank v_X8_isBlank ({ frames := 0, cells := 0, slots := 0, locals := 0 }) (va_Pc [.int p0] (pRO g (tyT cI cJ cB cZ cL) [] sz)) (va_Qi (fun (r : Int32) (u : Unit) => (ir r.toInt 0 1)) (fun (_ : Unit) (_ : State) => True) (va_A [] sz)) 0 0 (va_A [] sz) := by
  refine Met.ofW (cc := cX8_isBlank) (maxL := 1) (ret := (some .boolean)) (by decide) rfl ?_
  intro p e s m args below meth c s₁ B hml hv
  obtain ⟨rfl, hsz, hP, hK⟩ := hv
  have hx := B.exec
  have hb := B.bytes
  have hr := B.returns
  have hts := atoms_spec (ws := v_X8_isBlank) B.pre
  have hown : s.vm.findClass RX8 = some m.cls := findClass_of_methodNamed B.named
  have hlocks := B.notSynchronized
  clear B
  subst hsz
  generalize hAe : (va_A [] s.heap.size) = A
  have hA : ∀ q : Nat, s.heap.size ≤ q → A q := fun q h => by rw [← hAe]; exact Or.inr h
  have hS : va_S A s.heap s.heap [] := va_S.rf
  have hl := lv_entry ([.int p0]) (n := 1) (Nat.le_of_ble_eq_true rfl)
  rw [lg_entry_eq]
  generalize (lg_sl ([.int p0]) ++ List.replicate (1 - (lg_sl ([.int p0])).length) Slot.unset).toArray = ls at hl ⊢
  generalize ([.int p0] : List Value).toArray = av at hts ⊢
  generalize hQ : MQ below _ av s _ _ A = QQ
  have hl : lv_has ls 1 [(0, .int p0)] := hl
  have hP : va_P g vwCl [] s.heap := hP
  refine lv_iload_n hx hb dX8_isBlank_0 rfl (lv_at hl 0 rfl) ?_
  refine lv_bipush (v := 32) hx hb dX8_isBlank_1 (by decide) ?_
  refine lv_icmp_eq (tgt := 12) hx hb dX8_isBlank_3 (by decide) (fun c3 => ?_) (fun c3 => ?_)
  · have f3 := (show p0.toInt = 32 from z_eq rfl rfl c3)
    have r3a : ir p0.toInt 32 32 := ir_eqa f3 (rg_all p0) (ir_c 32) (by decide) (by decide)
    refine lv_iconst (v := 1) hx hb dX8_isBlank_12 (by decide) ?_
    refine lv_goto (tgt := 17) hx hb dX8_isBlank_13 (by decide) ?_
    subst hQ
    exact W.zret (v := 1) hx hb hr rfl (fun t ht hW => ⟨⟨1, (), rfl, (show ir (1 : Int32).toInt 0 1 by decide), trivial⟩, hS.F ht⟩) hS.2.2 dX8_isBlank_17
  have f3 := (show p0.toInt ≠ 32 from z_ne rfl rfl c3)
  refine lv_iload_n hx hb dX8_isBlank_6 rfl (lv_at hl 0 rfl) ?_
  refine lv_bipush (v := 10) hx hb dX8_isBlank_7 (by decide) ?_
  refine lv_icmp_ne (tgt := 16) hx hb dX8_isBlank_9 (by decide) (fun c9 => ?_) (fun c9 => ?_)
  · have f9 := (show p0.toInt ≠ 10 from z_ne rfl rfl c9)
    refine lv_iconst (v := 0) hx hb dX8_isBlank_16 (by decide) ?_
    subst hQ
    exact W.zret (v := 0) hx hb hr rfl (fun t ht hW => ⟨⟨0, (), rfl, (show ir (0 : Int32).toInt 0 1 by decide), trivial⟩, hS.F ht⟩) hS.2.2 dX8_isBlank_17
  have f9 := (show p0.toInt = 10 from z_eq rfl rfl c9)
  have r9a : ir p0.toInt 10 10 := ir_eqa f9 (rg_all p0) (ir_c 10) (by decide) (by decide)
  refine lv_iconst (v := 1) hx hb dX8_isBlank_12 (by decide) ?_
  refine lv_goto (tgt := 17) hx hb dX8_isBlank_13 (by decide) ?_
  subst hQ
  exact W.zret (v := 1) hx hb hr rfl (fun t ht hW => ⟨⟨1, (), rfl, (show ir (1 : Int32).toInt 0 1 by decide), trivial⟩, hS.F ht⟩) hS.2.2 dX8_isBlank_17
def v_X8_kindOf : List Cond := .code yX8_kindOf cX8_kindOf 1 (some .int) :: (([] : List Cond) ++ ([] : List Cond))
theorem good_v_X8_kindOf : v_X8_kindOf.all goodWord = true := ga_c (by decide +kernel) (ga_a (by decide +kernel) rfl)
set_option maxHeartbeats 4000000 in
set_option maxRecDepth 100000 in
theorem q_X8_kindOf (l : Launch) (g : va_G) (cI cJ cB cZ cL : ClassId) (p0 : Int32) (sz : Nat)  : Met l yX8_kindOf v_X8_kindOf ({ frames := 0, cells := 0, slots := 0, locals := 0 }) (va_Pc [.int p0] (pRO g (tyT cI cJ cB cZ cL) [] sz)) (va_Qi (fun (r : Int32) (u : Unit) => (ir r.toInt 1 4)) (fun (_ : Unit) (_ : State) => True) (va_A [] sz)) 0 0 (va_A [] sz) := by
  refine Met.ofW (cc := cX8_kindOf) (maxL := 1) (ret := (some .int)) (by decide) rfl ?_
  intro p e s m args below meth c s₁ B hml hv
  obtain ⟨rfl, hsz, hP, hK⟩ := hv
  have hx := B.exec
  have hb := B.bytes
  have hr := B.returns
  have hts := atoms_spec (ws := v_X8_kindOf) B.pre
  have hown : s.vm.findClass RX8 = some m.cls := findClass_of_methodNamed B.named
  have hlocks := B.notSynchronized
  clear B
  subst hsz
  generalize hAe : (va_A [] s.heap.size) = A
  have hA : ∀ q : Nat, s.heap.size ≤ q → A q := fun q h => by rw [← hAe]; exact Or.inr h
  have hS : va_S A s.heap s.heap [] := va_S.rf
  have hl := lv_entry ([.int p0]) (n := 1) (Nat.le_of_ble_eq_true rfl)
  rw [lg_entry_eq]
  generalize (lg_sl ([.int p0]) ++ List.replicate (1 - (lg_sl ([.int p0])).length) Slot.unset).toArray = ls at hl ⊢
  generalize ([.int p0] : List Value).toArray = av at hts ⊢
  generalize hQ : MQ below _ av s _ _ A = QQ
  have hl : lv_has ls 1 [(0, .int p0)] := hl
  have hP : va_P g vwCl [] s.heap := hP
  refine lv_iload_n hx hb dX8_kindOf_0 rfl (lv_at hl 0 rfl) ?_
  refine lv_bipush (v := 97) hx hb dX8_kindOf_1 (by decide) ?_
  have J14 : ∀  (H : Heap) (locs : List Loc) (ls : Array Slot), va_P g vwCl [] H → va_S A s.heap H locs → lv_has ls 1 [(0, .int p0)] → W p l e (headSpec v_X8_kindOf ({ frames := 0, cells := 0, slots := 0, locals := 0 })).room s m av below meth c H locs 0 0 QQ (F0 m 14 ls []) := by
    intro  H locs ls  hP hS hl
    refine lv_iload_n hx hb dX8_kindOf_14 rfl (lv_at hl 0 rfl) ?_
    refine lv_bipush (v := 48) hx hb dX8_kindOf_15 (by decide) ?_
    have J28 : ∀  (H : Heap) (locs : List Loc) (ls : Array Slot), va_P g vwCl [] H → va_S A s.heap H locs → lv_has ls 1 [(0, .int p0)] → W p l e (headSpec v_X8_kindOf ({ frames := 0, cells := 0, slots := 0, locals := 0 })).room s m av below meth c H locs 0 0 QQ (F0 m 28 ls []) := by
      intro  H locs ls  hP hS hl
      refine lv_iload_n hx hb dX8_kindOf_28 rfl (lv_at hl 0 rfl) ?_
      refine lv_bipush (v := 59) hx hb dX8_kindOf_29 (by decide) ?_
      refine lv_icmp_ne (tgt := 38) hx hb dX8_kindOf_31 (by decide) (fun c31 => ?_) (fun c31 => ?_)
      · have f31 := (show p0.toInt ≠ 59 from z_ne rfl rfl c31)
        refine lv_iconst (v := 4) hx hb dX8_kindOf_38 (by decide) ?_
        subst hQ
        exact W.iret (v := 4) hx hb hr (fun t ht hW => ⟨⟨4, (), rfl, (show ir (4 : Int32).toInt 1 4 by decide), trivial⟩, hS.F ht⟩) hS.2.2 dX8_kindOf_39
      have f31 := (show p0.toInt = 59 from z_eq rfl rfl c31)
      have r31a : ir p0.toInt 59 59 := ir_eqa f31 (rg_all p0) (ir_c 59) (by decide) (by decide)
      refine lv_iconst (v := 3) hx hb dX8_kindOf_34 (by decide) ?_
      refine lv_goto (tgt := 39) hx hb dX8_kindOf_35 (by decide) ?_
      subst hQ
      exact W.iret (v := 3) hx hb hr (fun t ht hW => ⟨⟨3, (), rfl, (show ir (3 : Int32).toInt 1 4 by decide), trivial⟩, hS.F ht⟩) hS.2.2 dX8_kindOf_39
    refine lv_icmp_lt (tgt := 28) hx hb dX8_kindOf_17 (by decide) (fun c17 => ?_) (fun c17 => ?_)
    · have f17 := (show p0.toInt < 48 from z_lt rfl rfl c17)
      have r17a : ir p0.toInt (-2147483648) 47 := ir_lta f17 (rg_all p0) (ir_c 48) (by decide)
      exact J28  _ _ _  (hP.sub [] rfl) hS (lv_sub hl [0] rfl)
    have f17 := (show 48 ≤ p0.toInt from z_nlt rfl rfl c17)
    have r17a : ir p0.toInt 48 2147483647 := ir_leb f17 (ir_c 48) (rg_all p0) (by decide)
    refine lv_iload_n hx hb dX8_kindOf_20 rfl (lv_at hl 0 rfl) ?_
    refine lv_bipush (v := 57) hx hb dX8_kindOf_21 (by decide) ?_
    refine lv_icmp_gt (tgt := 28) hx hb dX8_kindOf_23 (by decide) (fun c23 => ?_) (fun c23 => ?_)
    · have f23 := (show 57 < p0.toInt from z_lt rfl rfl c23)
      have r23a : ir p0.toInt 58 2147483647 := ir_ltb f23 (ir_c 57) r17a (by decide)
      exact J28  _ _ _  (hP.sub [] rfl) hS (lv_sub hl [0] rfl)
    have f23 := (show p0.toInt ≤ 57 from z_nlt rfl rfl c23)
    have r23a : ir p0.toInt 48 57 := ir_lea f23 r17a (ir_c 57) (by decide)
    refine lv_iconst (v := 2) hx hb dX8_kindOf_26 (by decide) ?_
    subst hQ
    exact W.iret (v := 2) hx hb hr (fun t ht hW => ⟨⟨2, (), rfl, (show ir (2 : Int32).toInt 1 4 by decide), trivial⟩, hS.F ht⟩) hS.2.2 dX8_kindOf_27
  refine lv_icmp_lt (tgt := 14) hx hb dX8_kindOf_3 (by decide) (fun c3 => ?_) (fun c3 => ?_)
  · have f3 := (show p0.toInt < 97 from z_lt rfl rfl c3)
    have r3a : ir p0.toInt (-2147483648) 96 := ir_lta f3 (rg_all p0) (ir_c 97) (by decide)
    exact J14  _ _ _  (hP.sub [] rfl) hS (lv_sub hl [0] rfl)
  have f3 := (show 97 ≤ p0.toInt from z_nlt rfl rfl c3)
  have r3a : ir p0.toInt 97 2147483647 := ir_leb f3 (ir_c 97) (rg_all p0) (by decide)
  refine lv_iload_n hx hb dX8_kindOf_6 rfl (lv_at hl 0 rfl) ?_
  refine lv_bipush (v := 122) hx hb dX8_kindOf_7 (by decide) ?_
  refine lv_icmp_gt (tgt := 14) hx hb dX8_kindOf_9 (by decide) (fun c9 => ?_) (fun c9 => ?_)
  · have f9 := (show 122 < p0.toInt from z_lt rfl rfl c9)
    have r9a : ir p0.toInt 123 2147483647 := ir_ltb f9 (ir_c 122) r3a (by decide)
    exact J14  _ _ _  (hP.sub [] rfl) hS (lv_sub hl [0] rfl)
  have f9 := (show p0.toInt ≤ 122 from z_nlt rfl rfl c9)
  have r9a : ir p0.toInt 97 122 := ir_lea f9 r3a (ir_c 122) (by decide)
  refine lv_iconst (v := 1) hx hb dX8_kindOf_12 (by decide) ?_
  subst hQ
  exact W.iret (v := 1) hx hb hr (fun t ht hW => ⟨⟨1, (), rfl, (show ir (1 : Int32).toInt 1 4 by decide), trivial⟩, hS.F ht⟩) hS.2.2 dX8_kindOf_13
def v_X8_goToNext : List Cond := .code yX8_goToNext cX8_goToNext 1 none :: (([.fieldLink RX8 35 "CardsAtYule$Tape" "at" "I", .fieldLink RX8 9 "CardsAtYule$Tape" "length" "I", .fieldLink RX8 103 "CardsAtYule$Tape" "start" "I", .fieldLink RX8 41 "CardsAtYule$Tape" "kind" "I", .methodLink RX8 181 yX8_byteAt, .instanceMethod yX8_byteAt, .selects RX8 yX8_byteAt yX8_byteAt, .initialized RX8, .methodLink RX8 197 yX8_kindOf, .static yX8_kindOf, .methodLink RX8 194 yX8_isBlank, .static yX8_isBlank] : List Cond) ++ (v_X8_byteAt ++ (v_X8_kindOf ++ (v_X8_isBlank ++ (wsX80 ++ ([] : List Cond))))))
theorem good_v_X8_goToNext : v_X8_goToNext.all goodWord = true := ga_c (by decide +kernel) (ga_a (by decide +kernel) (ga_a good_v_X8_byteAt (ga_a good_v_X8_kindOf (ga_a good_v_X8_isBlank (ga_a good_wsX80 rfl)))))
set_option maxHeartbeats 4000000 in
set_option maxRecDepth 100000 in
theorem q_X8_goToNext (l : Launch) (g : va_G) (cI cJ cB cZ cL : ClassId) (tp : Nat) (tp_length : Int32) (tp_told : Nat) (tp_fault : Int32) (tp_place : Int32) (tp_bytes : Nat) (tp_at : Int32) (tp_start : Int32) (tp_kind : Int32) (tp_number : Int32) (tp_numberPlace : Int32) (tp_bytes_c : Nat → Int32) (sz : Nat) (hv_tp_length : ir tp_length.toInt 0 1600) (hv_tp_at : ir tp_at.toInt 0 1600) (hv_tp_start : ir tp_start.toInt 0 1600) : Met l yX8_goToNext v_X8_goToNext ({ frames := 1, cells := 0, slots := 0, locals := 21 }) (va_Pc [.ref tp] (pRW g (tyT cI cJ cB cZ cL) [(tp, .inr (8, [.int tp_length, .ref tp_told, .int tp_fault, .int tp_place, .ref tp_bytes, .int tp_at, .int tp_start, .int tp_kind, .int tp_number, .int tp_numberPlace])), (tp_bytes, .inl (cB, 1600, .inl tp_bytes_c))] sz)) (va_Qv (fun (u : Int32 × Int32 × Int32) => match u with | (n_tp_at, n_tp_start, n_tp_kind) => (ir n_tp_at.toInt 0 1600) ∧ (ir n_tp_start.toInt 0 1600) ∧ (ir n_tp_kind.toInt 0 4)) (fun (u : Int32 × Int32 × Int32) (t : State) => bRW g (tyT cI cJ cB cZ cL) (va_A [(tp, .inr (8, [.int tp_length, .ref tp_told, .int tp_fault, .int tp_place, .ref tp_bytes, .int tp_at, .int tp_start, .int tp_kind, .int tp_number, .int tp_numberPlace])), (tp_bytes, .inl (cB, 1600, .inl tp_bytes_c))] sz) (match u with | (n_tp_at, n_tp_start, n_tp_kind) => [(tp, .inr (8, [.int tp_length, .ref tp_told, .int tp_fault, .int tp_place, .ref tp_bytes, .int n_tp_at, .int n_tp_start, .int n_tp_kind, .int tp_number, .int tp_numberPlace])), (tp_bytes, .inl (cB, 1600, .inl tp_bytes_c))]) t) (va_A [(tp, .inr (8, [.int tp_length, .ref tp_told, .int tp_fault, .int tp_place, .ref tp_bytes, .int tp_at, .int tp_start, .int tp_kind, .int tp_number, .int tp_numberPlace])), (tp_bytes, .inl (cB, 1600, .inl tp_bytes_c))] sz)) 0 0 (va_A [(tp, .inr (8, [.int tp_length, .ref tp_told, .int tp_fault, .int tp_place, .ref tp_bytes, .int tp_at, .int tp_start, .int tp_kind, .int tp_number, .int tp_numberPlace])), (tp_bytes, .inl (cB, 1600, .inl tp_bytes_c))] sz) := by
  refine Met.ofW (cc := cX8_goToNext) (maxL := 1) (ret := none) (by decide) rfl ?_
  intro p e s m args below meth c s₁ B hml hv
  obtain ⟨rfl, hsz, hP, hK, hD0⟩ := hv
  have hx := B.exec
  have hb := B.bytes
  have hr := B.returns
  have hts := atoms_spec (ws := v_X8_goToNext) B.pre
  have hown : s.vm.findClass RX8 = some m.cls := findClass_of_methodNamed B.named
  have hlocks := B.notSynchronized
  clear B
  subst hsz
  have iX8 : ∀ w ∈ wsX80, w ∈ v_X8_goToNext := (fun _ h => List.mem_cons_of_mem _ (List.mem_append_right _ (List.mem_append_right _ (List.mem_append_right _ (List.mem_append_right _ (List.mem_append_left _ h))))))
  have hD := hD0.self (sz := s.heap.size)
  generalize hAe : (va_A [(tp, .inr (8, [.int tp_length, .ref tp_told, .int tp_fault, .int tp_place, .ref tp_bytes, .int tp_at, .int tp_start, .int tp_kind, .int tp_number, .int tp_numberPlace])), (tp_bytes, .inl (cB, 1600, .inl tp_bytes_c))] s.heap.size) = A at hD ⊢
  have hA : ∀ q : Nat, s.heap.size ≤ q → A q := fun q h => by rw [← hAe]; exact Or.inr h
  have hS : va_S A s.heap s.heap [] := va_S.rf
  have hl := lv_entry ([.ref tp]) (n := 1) (Nat.le_of_ble_eq_true rfl)
  rw [lg_entry_eq]
  generalize (lg_sl ([.ref tp]) ++ List.replicate (1 - (lg_sl ([.ref tp])).length) Slot.unset).toArray = ls at hl ⊢
  generalize ([.ref tp] : List Value).toArray = av at hts ⊢
  generalize hQ : MQ below _ av s _ _ A = QQ
  have hl : lv_has ls 1 [(0, .ref tp)] := hl
  have hP : va_P g vwCl [(tp, .inr (8, [.int tp_length, .ref tp_told, .int tp_fault, .int tp_place, .ref tp_bytes, .int tp_at, .int tp_start, .int tp_kind, .int tp_number, .int tp_numberPlace])), (tp_bytes, .inl (cB, 1600, .inl tp_bytes_c))] s.heap := hP
  have J0 : ∀ (n0 : Nat) (j0_tp_at : Int32) (H : Heap) (locs : List Loc) (ls : Array Slot), (1601 - j0_tp_at.toInt).toNat < n0 → (ir j0_tp_at.toInt 0 1600) → va_P g vwCl [(tp, .inr (8, [.int tp_length, .ref tp_told, .int tp_fault, .int tp_place, .ref tp_bytes, .int j0_tp_at, .int tp_start, .int tp_kind, .int tp_number, .int tp_numberPlace])), (tp_bytes, .inl (cB, 1600, .inl tp_bytes_c))] H → va_D A [(tp, .inr (8, [.int tp_length, .ref tp_told, .int tp_fault, .int tp_place, .ref tp_bytes, .int j0_tp_at, .int tp_start, .int tp_kind, .int tp_number, .int tp_numberPlace])), (tp_bytes, .inl (cB, 1600, .inl tp_bytes_c))] → va_S A s.heap H locs → lv_has ls 1 [(0, .ref tp)] → W p l e (headSpec v_X8_goToNext ({ frames := 1, cells := 0, slots := 0, locals := 21 })).room s m av below meth c H locs 0 0 QQ (F0 m 0 ls []) := by
    intro n0
    induction n0 with
    | zero => exact fun j0_tp_at H locs ls hn => absurd hn (Nat.not_lt_zero _)
    | succ n0 ih0 =>
      intro j0_tp_at H locs ls hn0 hj0_tp_at hP hD hS hl
      refine lv_aload_n hx hb dX8_goToNext_0 rfl (lv_at hl 0 rfl) ?_
      refine va_get (D := g) (ci := 8) (v := .int j0_tp_at) (C := RX8) (T := TX8) (N := 10) hx hb hts iX8 hown hK hP 0 rfl rfl 5 (by decide) (hts (.fieldLink RX8 35 "CardsAtYule$Tape" "at" "I") (List.mem_cons_of_mem _ (List.mem_append_left _ (List.mem_of_getElem? (i := 0) rfl)))) (fun _ h9 => h9) rfl dX8_goToNext_1 ?_
      refine lv_aload_n hx hb dX8_goToNext_4 rfl (lv_at hl 0 rfl) ?_
      refine va_get (D := g) (ci := 8) (v := .int tp_length) (C := RX8) (T := TX8) (N := 10) hx hb hts iX8 hown hK hP 0 rfl rfl 0 (by decide) (hts (.fieldLink RX8 9 "CardsAtYule$Tape" "length" "I") (List.mem_cons_of_mem _ (List.mem_append_left _ (List.mem_of_getElem? (i := 1) rfl)))) (fun _ h9 => h9) rfl dX8_goToNext_5 ?_
      have J38 : ∀  (H : Heap) (locs : List Loc) (ls : Array Slot), va_P g vwCl [(tp, .inr (8, [.int tp_length, .ref tp_told, .int tp_fault, .int tp_place, .ref tp_bytes, .int j0_tp_at, .int tp_start, .int tp_kind, .int tp_number, .int tp_numberPlace])), (tp_bytes, .inl (cB, 1600, .inl tp_bytes_c))] H → va_D A [(tp, .inr (8, [.int tp_length, .ref tp_told, .int tp_fault, .int tp_place, .ref tp_bytes, .int j0_tp_at, .int tp_start, .int tp_kind, .int tp_number, .int tp_numberPlace])), (tp_bytes, .inl (cB, 1600, .inl tp_bytes_c))] → va_S A s.heap H locs → lv_has ls 1 [(0, .ref tp)] → W p l e (headSpec v_X8_goToNext ({ frames := 1, cells := 0, slots := 0, locals := 21 })).room s m av below meth c H locs 0 0 QQ (F0 m 38 ls []) := by
        intro  H locs ls  hP hD hS hl
        refine lv_aload_n hx hb dX8_goToNext_38 rfl (lv_at hl 0 rfl) ?_
        refine lv_aload_n hx hb dX8_goToNext_39 rfl (lv_at hl 0 rfl) ?_
        refine va_get (D := g) (ci := 8) (v := .int j0_tp_at) (C := RX8) (T := TX8) (N := 10) hx hb hts iX8 hown hK hP 0 rfl rfl 5 (by decide) (hts (.fieldLink RX8 35 "CardsAtYule$Tape" "at" "I") (List.mem_cons_of_mem _ (List.mem_append_left _ (List.mem_of_getElem? (i := 0) rfl)))) (fun _ h9 => h9) rfl dX8_goToNext_40 ?_
        refine va_put (D := g) (ci := 8) (v := .int j0_tp_at) (ty := .int) (C := RX8) (T := TX8) (N := 10) hx hb hts iX8 tyX8 tyX8_ok nmX8 hown hK hP hD hS 0 rfl rfl 6 (by decide) (hts (.fieldLink RX8 103 "CardsAtYule$Tape" "start" "I") (List.mem_cons_of_mem _ (List.mem_append_left _ (List.mem_of_getElem? (i := 2) rfl)))) (fun _ h9 => h9) rfl (by decide +kernel) rfl rfl (Nat.le_of_ble_eq_true rfl) dX8_goToNext_43 (fun H locs hP hD hS => ?_)
        have hP : va_P g vwCl [(tp, .inr (8, [.int tp_length, .ref tp_told, .int tp_fault, .int tp_place, .ref tp_bytes, .int j0_tp_at, .int j0_tp_at, .int tp_kind, .int tp_number, .int tp_numberPlace])), (tp_bytes, .inl (cB, 1600, .inl tp_bytes_c))] H := hP
        have hD : va_D A [(tp, .inr (8, [.int tp_length, .ref tp_told, .int tp_fault, .int tp_place, .ref tp_bytes, .int j0_tp_at, .int j0_tp_at, .int tp_kind, .int tp_number, .int tp_numberPlace])), (tp_bytes, .inl (cB, 1600, .inl tp_bytes_c))] := hD
        refine lv_aload_n hx hb dX8_goToNext_46 rfl (lv_at hl 0 rfl) ?_
        refine lv_aload_n hx hb dX8_goToNext_47 rfl (lv_at hl 0 rfl) ?_
        refine va_get (D := g) (ci := 8) (v := .int j0_tp_at) (C := RX8) (T := TX8) (N := 10) hx hb hts iX8 hown hK hP 0 rfl rfl 5 (by decide) (hts (.fieldLink RX8 35 "CardsAtYule$Tape" "at" "I") (List.mem_cons_of_mem _ (List.mem_append_left _ (List.mem_of_getElem? (i := 0) rfl)))) (fun _ h9 => h9) rfl dX8_goToNext_48 ?_
        refine lv_aload_n hx hb dX8_goToNext_51 rfl (lv_at hl 0 rfl) ?_
        refine va_get (D := g) (ci := 8) (v := .int tp_length) (C := RX8) (T := TX8) (N := 10) hx hb hts iX8 hown hK hP 0 rfl rfl 0 (by decide) (hts (.fieldLink RX8 9 "CardsAtYule$Tape" "length" "I") (List.mem_cons_of_mem _ (List.mem_append_left _ (List.mem_of_getElem? (i := 1) rfl)))) (fun _ h9 => h9) rfl dX8_goToNext_52 ?_
        refine lv_icmp_ge (tgt := 72) hx hb dX8_goToNext_55 (by decide) (fun c55 => ?_) (fun c55 => ?_)
        · have f55 := (show tp_length.toInt ≤ j0_tp_at.toInt from z_le rfl rfl c55)
          refine lv_iconst (v := 0) hx hb dX8_goToNext_72 (by decide) ?_
          refine va_put (D := g) (ci := 8) (v := .int 0) (ty := .int) (C := RX8) (T := TX8) (N := 10) hx hb hts iX8 tyX8 tyX8_ok nmX8 hown hK hP hD hS 0 rfl rfl 7 (by decide) (hts (.fieldLink RX8 41 "CardsAtYule$Tape" "kind" "I") (List.mem_cons_of_mem _ (List.mem_append_left _ (List.mem_of_getElem? (i := 3) rfl)))) (fun _ h9 => h9) rfl (by decide +kernel) rfl rfl (Nat.le_of_ble_eq_true rfl) dX8_goToNext_73 (fun H locs hP hD hS => ?_)
          have hP : va_P g vwCl [(tp, .inr (8, [.int tp_length, .ref tp_told, .int tp_fault, .int tp_place, .ref tp_bytes, .int j0_tp_at, .int j0_tp_at, .int 0, .int tp_number, .int tp_numberPlace])), (tp_bytes, .inl (cB, 1600, .inl tp_bytes_c))] H := hP
          have hD : va_D A [(tp, .inr (8, [.int tp_length, .ref tp_told, .int tp_fault, .int tp_place, .ref tp_bytes, .int j0_tp_at, .int j0_tp_at, .int 0, .int tp_number, .int tp_numberPlace])), (tp_bytes, .inl (cB, 1600, .inl tp_bytes_c))] := hD
          refine lv_aload_n hx hb dX8_goToNext_76 rfl (lv_at hl 0 rfl) ?_
          refine va_get (D := g) (ci := 8) (v := .int 0) (C := RX8) (T := TX8) (N := 10) hx hb hts iX8 hown hK hP 0 rfl rfl 7 (by decide) (hts (.fieldLink RX8 41 "CardsAtYule$Tape" "kind" "I") (List.mem_cons_of_mem _ (List.mem_append_left _ (List.mem_of_getElem? (i := 3) rfl)))) (fun _ h9 => h9) rfl dX8_goToNext_77 ?_
          refine lv_iconst (v := 1) hx hb dX8_goToNext_80 (by decide) ?_
          refine lv_icmp_eq (tgt := 92) hx hb dX8_goToNext_81 (by decide) (fun c => absurd c (by decide)) (fun _ => ?_)
          refine lv_aload_n hx hb dX8_goToNext_84 rfl (lv_at hl 0 rfl) ?_
          refine va_get (D := g) (ci := 8) (v := .int 0) (C := RX8) (T := TX8) (N := 10) hx hb hts iX8 hown hK hP 0 rfl rfl 7 (by decide) (hts (.fieldLink RX8 41 "CardsAtYule$Tape" "kind" "I") (List.mem_cons_of_mem _ (List.mem_append_left _ (List.mem_of_getElem? (i := 3) rfl)))) (fun _ h9 => h9) rfl dX8_goToNext_85 ?_
          refine lv_iconst (v := 2) hx hb dX8_goToNext_88 (by decide) ?_
          refine lv_icmp_ne (tgt := 134) hx hb dX8_goToNext_89 (by decide) (fun _ => ?_) (fun c => absurd c (by decide))
          refine lv_aload_n hx hb dX8_goToNext_134 rfl (lv_at hl 0 rfl) ?_
          refine va_get (D := g) (ci := 8) (v := .int 0) (C := RX8) (T := TX8) (N := 10) hx hb hts iX8 hown hK hP 0 rfl rfl 7 (by decide) (hts (.fieldLink RX8 41 "CardsAtYule$Tape" "kind" "I") (List.mem_cons_of_mem _ (List.mem_append_left _ (List.mem_of_getElem? (i := 3) rfl)))) (fun _ h9 => h9) rfl dX8_goToNext_135 ?_
          refine lv_if_eq (tgt := 151) hx hb dX8_goToNext_138 (by decide) (fun _ => ?_) (fun c => absurd c (by decide))
          subst hQ
          have hP9 := hP.sub (ws' := [(tp, .inr (8, [.int tp_length, .ref tp_told, .int tp_fault, .int tp_place, .ref tp_bytes, .int j0_tp_at, .int j0_tp_at, .int 0, .int tp_number, .int tp_numberPlace])), (tp_bytes, .inl (cB, 1600, .inl tp_bytes_c))]) [0, 1] rfl
          have hD9 := hD.sub (ws' := [(tp, .inr (8, [.int tp_length, .ref tp_told, .int tp_fault, .int tp_place, .ref tp_bytes, .int j0_tp_at, .int j0_tp_at, .int 0, .int tp_number, .int tp_numberPlace])), (tp_bytes, .inl (cB, 1600, .inl tp_bytes_c))]) [0, 1] (by decide) rfl
          exact W.vret hx hb hr (fun t ht hW => ⟨⟨(j0_tp_at, j0_tp_at, 0), rfl, ⟨hj0_tp_at, hj0_tp_at, (show ir (0 : Int32).toInt 0 4 by decide)⟩, ⟨by rw [ht]; exact hP9, va_K.moved hW.alike hK, hD9⟩⟩, hS.F ht⟩) hS.2.2 dX8_goToNext_151
        have f55 := (show j0_tp_at.toInt < tp_length.toInt from z_nle rfl rfl c55)
        have r55a : ir j0_tp_at.toInt 0 1599 := ir_lta f55 hj0_tp_at hv_tp_length (by decide)
        have r55b : ir tp_length.toInt 1 1600 := ir_ltb f55 hj0_tp_at hv_tp_length (by decide)
        refine lv_aload_n hx hb dX8_goToNext_58 rfl (lv_at hl 0 rfl) ?_
        refine lv_aload_n hx hb dX8_goToNext_59 rfl (lv_at hl 0 rfl) ?_
        refine va_get (D := g) (ci := 8) (v := .int j0_tp_at) (C := RX8) (T := TX8) (N := 10) hx hb hts iX8 hown hK hP 0 rfl rfl 5 (by decide) (hts (.fieldLink RX8 35 "CardsAtYule$Tape" "at" "I") (List.mem_cons_of_mem _ (List.mem_append_left _ (List.mem_of_getElem? (i := 0) rfl)))) (fun _ h9 => h9) rfl dX8_goToNext_60 ?_
        refine ro_i (va_runV (As := [.int j0_tp_at]) (rest := [.ref tp]) ⟨hx, hb, hml, hown, hts⟩ (q_X8_byteAt l g cI cJ cB cZ cL j0_tp_at tp tp_length tp_told tp_fault tp_place tp_bytes j0_tp_at j0_tp_at tp_kind tp_number tp_numberPlace tp_bytes_c H.size (ir_w r55b (by decide) (by decide)) (ir_w r55a (by decide) (by decide)) (ir_w r55a (by decide) (by decide))) (cwV 1 hts (goodIn_app (g_4 (List.mem_cons_of_mem _ (List.mem_append_left _ (List.mem_of_getElem? (i := 4) rfl))) (List.mem_cons_of_mem _ (List.mem_append_left _ (List.mem_of_getElem? (i := 5) rfl))) (List.mem_cons_of_mem _ (List.mem_append_left _ (List.mem_of_getElem? (i := 6) rfl))) (List.mem_cons_of_mem _ (List.mem_append_left _ (List.mem_of_getElem? (i := 7) rfl))) (by decide +kernel)) (goodIn_sub (fun _ h => List.mem_cons_of_mem _ (List.mem_append_right _ (List.mem_append_left _ h))) good_v_X8_byteAt)) rfl rfl rfl (by decide +kernel) ⟨Nat.le_of_ble_eq_true rfl, Nat.le_of_ble_eq_true rfl⟩) (pv_RO (q := (RX8, TX8, 10)) (ci := 8) (q0 := 0) (wc := [(tp, .inr (8, [.int tp_length, .ref tp_told, .int tp_fault, .int tp_place, .ref tp_bytes, .int j0_tp_at, .int j0_tp_at, .int tp_kind, .int tp_number, .int tp_numberPlace])), (tp_bytes, .inl (cB, 1600, .inl tp_bytes_c))]) hK hP [0, 1] rfl rfl rfl) rfl rfl hl.1 rfl (lv_room (Nat.le_of_ble_eq_true rfl)) dX8_goToNext_63 ⟨Nat.le_of_ble_eq_true rfl, Nat.le_of_ble_eq_true rfl⟩) hS hA hP (fun r63 u63 H locs hw63 hP hS => ?_)
        refine ro_i (va_runS (As := [.int r63]) (rest := [.ref tp]) ⟨hx, hb, hml, hown, hts⟩ (q_X8_kindOf l g cI cJ cB cZ cL r63 H.size ) (va_cwS 1 hts (goodIn_app (g_3 (List.mem_cons_of_mem _ (List.mem_append_left _ (List.mem_of_getElem? (i := 8) rfl))) (List.mem_cons_of_mem _ (List.mem_append_left _ (List.mem_of_getElem? (i := 9) rfl))) (List.mem_cons_of_mem _ (List.mem_append_left _ (List.mem_of_getElem? (i := 7) rfl))) (by decide +kernel)) (goodIn_sub (fun _ h => List.mem_cons_of_mem _ (List.mem_append_right _ (List.mem_append_right _ (List.mem_append_left _ h)))) good_v_X8_kindOf)) rfl rfl rfl (by decide +kernel) ⟨Nat.le_of_ble_eq_true rfl, Nat.le_of_ble_eq_true rfl⟩) (ps_RO (wc := []) hK hP [] rfl) rfl rfl hl.1 rfl (lv_room (Nat.le_of_ble_eq_true rfl)) dX8_goToNext_66 ⟨Nat.le_of_ble_eq_true rfl, Nat.le_of_ble_eq_true rfl⟩) hS hA hP (fun r66 u66 H locs hw66 hP hS => ?_)
        have hw66_0 := hw66
        refine lv_goto (tgt := 73) hx hb dX8_goToNext_69 (by decide) ?_
        refine va_put (D := g) (ci := 8) (v := .int r66) (ty := .int) (C := RX8) (T := TX8) (N := 10) hx hb hts iX8 tyX8 tyX8_ok nmX8 hown hK hP hD hS 0 rfl rfl 7 (by decide) (hts (.fieldLink RX8 41 "CardsAtYule$Tape" "kind" "I") (List.mem_cons_of_mem _ (List.mem_append_left _ (List.mem_of_getElem? (i := 3) rfl)))) (fun _ h9 => h9) rfl (by decide +kernel) rfl rfl (Nat.le_of_ble_eq_true rfl) dX8_goToNext_73 (fun H locs hP hD hS => ?_)
        have hP : va_P g vwCl [(tp, .inr (8, [.int tp_length, .ref tp_told, .int tp_fault, .int tp_place, .ref tp_bytes, .int j0_tp_at, .int j0_tp_at, .int r66, .int tp_number, .int tp_numberPlace])), (tp_bytes, .inl (cB, 1600, .inl tp_bytes_c))] H := hP
        have hD : va_D A [(tp, .inr (8, [.int tp_length, .ref tp_told, .int tp_fault, .int tp_place, .ref tp_bytes, .int j0_tp_at, .int j0_tp_at, .int r66, .int tp_number, .int tp_numberPlace])), (tp_bytes, .inl (cB, 1600, .inl tp_bytes_c))] := hD
        refine lv_aload_n hx hb dX8_goToNext_76 rfl (lv_at hl 0 rfl) ?_
        refine va_get (D := g) (ci := 8) (v := .int r66) (C := RX8) (T := TX8) (N := 10) hx hb hts iX8 hown hK hP 0 rfl rfl 7 (by decide) (hts (.fieldLink RX8 41 "CardsAtYule$Tape" "kind" "I") (List.mem_cons_of_mem _ (List.mem_append_left _ (List.mem_of_getElem? (i := 3) rfl)))) (fun _ h9 => h9) rfl dX8_goToNext_77 ?_
        refine lv_iconst (v := 1) hx hb dX8_goToNext_80 (by decide) ?_
        have J92 : ∀ (n92 : Nat) (j92_tp_at : Int32) (H : Heap) (locs : List Loc) (ls : Array Slot), (1601 - j92_tp_at.toInt).toNat < n92 → (ir j92_tp_at.toInt 0 1600) → (ir r66.toInt 1 2) → va_P g vwCl [(tp, .inr (8, [.int tp_length, .ref tp_told, .int tp_fault, .int tp_place, .ref tp_bytes, .int j92_tp_at, .int j0_tp_at, .int r66, .int tp_number, .int tp_numberPlace])), (tp_bytes, .inl (cB, 1600, .inl tp_bytes_c))] H → va_D A [(tp, .inr (8, [.int tp_length, .ref tp_told, .int tp_fault, .int tp_place, .ref tp_bytes, .int j92_tp_at, .int j0_tp_at, .int r66, .int tp_number, .int tp_numberPlace])), (tp_bytes, .inl (cB, 1600, .inl tp_bytes_c))] → va_S A s.heap H locs → lv_has ls 1 [(0, .ref tp)] → W p l e (headSpec v_X8_goToNext ({ frames := 1, cells := 0, slots := 0, locals := 21 })).room s m av below meth c H locs 0 0 QQ (F0 m 92 ls []) := by
          intro n92
          induction n92 with
          | zero => exact fun j92_tp_at H locs ls hn => absurd hn (Nat.not_lt_zero _)
          | succ n92 ih92 =>
            intro j92_tp_at H locs ls hn92 hj92_tp_at t92_1 hP hD hS hl
            refine lv_aload_n hx hb dX8_goToNext_92 rfl (lv_at hl 0 rfl) ?_
            refine va_get (D := g) (ci := 8) (v := .int j92_tp_at) (C := RX8) (T := TX8) (N := 10) hx hb hts iX8 hown hK hP 0 rfl rfl 5 (by decide) (hts (.fieldLink RX8 35 "CardsAtYule$Tape" "at" "I") (List.mem_cons_of_mem _ (List.mem_append_left _ (List.mem_of_getElem? (i := 0) rfl)))) (fun _ h9 => h9) rfl dX8_goToNext_93 ?_
            refine lv_aload_n hx hb dX8_goToNext_96 rfl (lv_at hl 0 rfl) ?_
            refine va_get (D := g) (ci := 8) (v := .int tp_length) (C := RX8) (T := TX8) (N := 10) hx hb hts iX8 hown hK hP 0 rfl rfl 0 (by decide) (hts (.fieldLink RX8 9 "CardsAtYule$Tape" "length" "I") (List.mem_cons_of_mem _ (List.mem_append_left _ (List.mem_of_getElem? (i := 1) rfl)))) (fun _ h9 => h9) rfl dX8_goToNext_97 ?_
            refine lv_icmp_ge (tgt := 151) hx hb dX8_goToNext_100 (by decide) (fun c100 => ?_) (fun c100 => ?_)
            · have f100 := (show tp_length.toInt ≤ j92_tp_at.toInt from z_le rfl rfl c100)
              have r100a : ir j92_tp_at.toInt 1 1600 := ir_leb f100 r55b hj92_tp_at (by decide)
              subst hQ
              have hP9 := hP.sub (ws' := [(tp, .inr (8, [.int tp_length, .ref tp_told, .int tp_fault, .int tp_place, .ref tp_bytes, .int j92_tp_at, .int j0_tp_at, .int r66, .int tp_number, .int tp_numberPlace])), (tp_bytes, .inl (cB, 1600, .inl tp_bytes_c))]) [0, 1] rfl
              have hD9 := hD.sub (ws' := [(tp, .inr (8, [.int tp_length, .ref tp_told, .int tp_fault, .int tp_place, .ref tp_bytes, .int j92_tp_at, .int j0_tp_at, .int r66, .int tp_number, .int tp_numberPlace])), (tp_bytes, .inl (cB, 1600, .inl tp_bytes_c))]) [0, 1] (by decide) rfl
              exact W.vret hx hb hr (fun t ht hW => ⟨⟨(j92_tp_at, j0_tp_at, r66), rfl, ⟨(ir_w r100a (by decide) (by decide)), (ir_w r55a (by decide) (by decide)), (ir_w t92_1 (by decide) (by decide))⟩, ⟨by rw [ht]; exact hP9, va_K.moved hW.alike hK, hD9⟩⟩, hS.F ht⟩) hS.2.2 dX8_goToNext_151
            have f100 := (show j92_tp_at.toInt < tp_length.toInt from z_nle rfl rfl c100)
            have r100a : ir j92_tp_at.toInt 0 1599 := ir_lta f100 hj92_tp_at r55b (by decide)
            refine lv_aload_n hx hb dX8_goToNext_103 rfl (lv_at hl 0 rfl) ?_
            refine lv_aload_n hx hb dX8_goToNext_104 rfl (lv_at hl 0 rfl) ?_
            refine va_get (D := g) (ci := 8) (v := .int j92_tp_at) (C := RX8) (T := TX8) (N := 10) hx hb hts iX8 hown hK hP 0 rfl rfl 5 (by decide) (hts (.fieldLink RX8 35 "CardsAtYule$Tape" "at" "I") (List.mem_cons_of_mem _ (List.mem_append_left _ (List.mem_of_getElem? (i := 0) rfl)))) (fun _ h9 => h9) rfl dX8_goToNext_105 ?_
            refine ro_i (va_runV (As := [.int j92_tp_at]) (rest := []) ⟨hx, hb, hml, hown, hts⟩ (q_X8_byteAt l g cI cJ cB cZ cL j92_tp_at tp tp_length tp_told tp_fault tp_place tp_bytes j92_tp_at j0_tp_at r66 tp_number tp_numberPlace tp_bytes_c H.size (ir_w r55b (by decide) (by decide)) (ir_w r100a (by decide) (by decide)) (ir_w r55a (by decide) (by decide))) (cwV 1 hts (goodIn_app (g_4 (List.mem_cons_of_mem _ (List.mem_append_left _ (List.mem_of_getElem? (i := 4) rfl))) (List.mem_cons_of_mem _ (List.mem_append_left _ (List.mem_of_getElem? (i := 5) rfl))) (List.mem_cons_of_mem _ (List.mem_append_left _ (List.mem_of_getElem? (i := 6) rfl))) (List.mem_cons_of_mem _ (List.mem_append_left _ (List.mem_of_getElem? (i := 7) rfl))) (by decide +kernel)) (goodIn_sub (fun _ h => List.mem_cons_of_mem _ (List.mem_append_right _ (List.mem_append_left _ h))) good_v_X8_byteAt)) rfl rfl rfl (by decide +kernel) ⟨Nat.le_of_ble_eq_true rfl, Nat.le_of_ble_eq_true rfl⟩) (pv_RO (q := (RX8, TX8, 10)) (ci := 8) (q0 := 0) (wc := [(tp, .inr (8, [.int tp_length, .ref tp_told, .int tp_fault, .int tp_place, .ref tp_bytes, .int j92_tp_at, .int j0_tp_at, .int r66, .int tp_number, .int tp_numberPlace])), (tp_bytes, .inl (cB, 1600, .inl tp_bytes_c))]) hK hP [0, 1] rfl rfl rfl) rfl rfl hl.1 rfl (lv_room (Nat.le_of_ble_eq_true rfl)) dX8_goToNext_108 ⟨Nat.le_of_ble_eq_true rfl, Nat.le_of_ble_eq_true rfl⟩) hS hA hP (fun r108 u108 H locs hw108 hP hS => ?_)
            refine ro_i (va_runS (As := [.int r108]) (rest := []) ⟨hx, hb, hml, hown, hts⟩ (q_X8_kindOf l g cI cJ cB cZ cL r108 H.size ) (va_cwS 1 hts (goodIn_app (g_3 (List.mem_cons_of_mem _ (List.mem_append_left _ (List.mem_of_getElem? (i := 8) rfl))) (List.mem_cons_of_mem _ (List.mem_append_left _ (List.mem_of_getElem? (i := 9) rfl))) (List.mem_cons_of_mem _ (List.mem_append_left _ (List.mem_of_getElem? (i := 7) rfl))) (by decide +kernel)) (goodIn_sub (fun _ h => List.mem_cons_of_mem _ (List.mem_append_right _ (List.mem_append_right _ (List.mem_append_left _ h)))) good_v_X8_kindOf)) rfl rfl rfl (by decide +kernel) ⟨Nat.le_of_ble_eq_true rfl, Nat.le_of_ble_eq_true rfl⟩) (ps_RO (wc := []) hK hP [] rfl) rfl rfl hl.1 rfl (lv_room (Nat.le_of_ble_eq_true rfl)) dX8_goToNext_111 ⟨Nat.le_of_ble_eq_true rfl, Nat.le_of_ble_eq_true rfl⟩) hS hA hP (fun r111 u111 H locs hw111 hP hS => ?_)
            have hw111_0 := hw111
            refine lv_aload_n hx hb dX8_goToNext_114 rfl (lv_at hl 0 rfl) ?_
            refine va_get (D := g) (ci := 8) (v := .int r66) (C := RX8) (T := TX8) (N := 10) hx hb hts iX8 hown hK hP 0 rfl rfl 7 (by decide) (hts (.fieldLink RX8 41 "CardsAtYule$Tape" "kind" "I") (List.mem_cons_of_mem _ (List.mem_append_left _ (List.mem_of_getElem? (i := 3) rfl)))) (fun _ h9 => h9) rfl dX8_goToNext_115 ?_
            refine lv_icmp_ne (tgt := 151) hx hb dX8_goToNext_118 (by decide) (fun c118 => ?_) (fun c118 => ?_)
            · have f118 := (show r111.toInt ≠ r66.toInt from z_ne rfl rfl c118)
              subst hQ
              have hP9 := hP.sub (ws' := [(tp, .inr (8, [.int tp_length, .ref tp_told, .int tp_fault, .int tp_place, .ref tp_bytes, .int j92_tp_at, .int j0_tp_at, .int r66, .int tp_number, .int tp_numberPlace])), (tp_bytes, .inl (cB, 1600, .inl tp_bytes_c))]) [0, 1] rfl
              have hD9 := hD.sub (ws' := [(tp, .inr (8, [.int tp_length, .ref tp_told, .int tp_fault, .int tp_place, .ref tp_bytes, .int j92_tp_at, .int j0_tp_at, .int r66, .int tp_number, .int tp_numberPlace])), (tp_bytes, .inl (cB, 1600, .inl tp_bytes_c))]) [0, 1] (by decide) rfl
              exact W.vret hx hb hr (fun t ht hW => ⟨⟨(j92_tp_at, j0_tp_at, r66), rfl, ⟨(ir_w r100a (by decide) (by decide)), (ir_w r55a (by decide) (by decide)), (ir_w t92_1 (by decide) (by decide))⟩, ⟨by rw [ht]; exact hP9, va_K.moved hW.alike hK, hD9⟩⟩, hS.F ht⟩) hS.2.2 dX8_goToNext_151
            have f118 := (show r111.toInt = r66.toInt from z_eq rfl rfl c118)
            have r118a : ir r111.toInt 1 2 := ir_eqa f118 hw111_0 t92_1 (by decide) (by decide)
            refine lv_aload_n hx hb dX8_goToNext_121 rfl (lv_at hl 0 rfl) ?_
            refine lv_dup hx hb dX8_goToNext_122 rfl ?_
            refine va_get (D := g) (ci := 8) (v := .int j92_tp_at) (C := RX8) (T := TX8) (N := 10) hx hb hts iX8 hown hK hP 0 rfl rfl 5 (by decide) (hts (.fieldLink RX8 35 "CardsAtYule$Tape" "at" "I") (List.mem_cons_of_mem _ (List.mem_append_left _ (List.mem_of_getElem? (i := 0) rfl)))) (fun _ h9 => h9) rfl dX8_goToNext_123 ?_
            refine lv_iconst (v := 1) hx hb dX8_goToNext_126 (by decide) ?_
            refine lv_iadd hx hb dX8_goToNext_127 ?_
            refine lv_topi (fun y127 e127 => ?_)
            have q127 : y127.toInt = j92_tp_at.toInt + 1 := by rw [e127]; exact ad_z rfl rfl r100a (ir_c 1) (by decide) (by decide)
            have r127 : ir y127.toInt 1 1600 := ad_r q127 r100a (ir_c 1) (by decide) (by decide)
            refine va_put (D := g) (ci := 8) (v := .int y127) (ty := .int) (C := RX8) (T := TX8) (N := 10) hx hb hts iX8 tyX8 tyX8_ok nmX8 hown hK hP hD hS 0 rfl rfl 5 (by decide) (hts (.fieldLink RX8 35 "CardsAtYule$Tape" "at" "I") (List.mem_cons_of_mem _ (List.mem_append_left _ (List.mem_of_getElem? (i := 0) rfl)))) (fun _ h9 => h9) rfl (by decide +kernel) rfl rfl (Nat.le_of_ble_eq_true rfl) dX8_goToNext_128 (fun H locs hP hD hS => ?_)
            have hP : va_P g vwCl [(tp, .inr (8, [.int tp_length, .ref tp_told, .int tp_fault, .int tp_place, .ref tp_bytes, .int y127, .int j0_tp_at, .int r66, .int tp_number, .int tp_numberPlace])), (tp_bytes, .inl (cB, 1600, .inl tp_bytes_c))] H := hP
            have hD : va_D A [(tp, .inr (8, [.int tp_length, .ref tp_told, .int tp_fault, .int tp_place, .ref tp_bytes, .int y127, .int j0_tp_at, .int r66, .int tp_number, .int tp_numberPlace])), (tp_bytes, .inl (cB, 1600, .inl tp_bytes_c))] := hD
            refine lv_goto (tgt := 92) hx hb dX8_goToNext_131 (by decide) ?_
            exact ih92 y127 _ _ _ (by omega) (ir_w r127 (by decide) (by decide)) t92_1 (hP.sub [0, 1] rfl) (hD.sub [0, 1] (by decide) rfl) hS (lv_sub hl [0] rfl)
        refine lv_icmp_eq (tgt := 92) hx hb dX8_goToNext_81 (by decide) (fun c81 => ?_) (fun c81 => ?_)
        · have f81 := (show r66.toInt = 1 from z_eq rfl rfl c81)
          have r81a : ir r66.toInt 1 1 := ir_eqa f81 hw66_0 (ir_c 1) (by decide) (by decide)
          exact J92 _ j0_tp_at _ _ _ (Nat.lt_succ_self _) (ir_w r55a (by decide) (by decide)) (ir_w r81a (by decide) (by decide)) (hP.sub [0, 1] rfl) (hD.sub [0, 1] (by decide) rfl) hS (lv_sub hl [0] rfl)
        have f81 := (show r66.toInt ≠ 1 from z_ne rfl rfl c81)
        have r81a : ir r66.toInt 2 4 := ir_nel f81 hw66_0 (by decide) (by decide)
        refine lv_aload_n hx hb dX8_goToNext_84 rfl (lv_at hl 0 rfl) ?_
        refine va_get (D := g) (ci := 8) (v := .int r66) (C := RX8) (T := TX8) (N := 10) hx hb hts iX8 hown hK hP 0 rfl rfl 7 (by decide) (hts (.fieldLink RX8 41 "CardsAtYule$Tape" "kind" "I") (List.mem_cons_of_mem _ (List.mem_append_left _ (List.mem_of_getElem? (i := 3) rfl)))) (fun _ h9 => h9) rfl dX8_goToNext_85 ?_
        refine lv_iconst (v := 2) hx hb dX8_goToNext_88 (by decide) ?_
        refine lv_icmp_ne (tgt := 134) hx hb dX8_goToNext_89 (by decide) (fun c89 => ?_) (fun c89 => ?_)
        rotate_left 1
        · have f89 := (show r66.toInt = 2 from z_eq rfl rfl c89)
          have r89a : ir r66.toInt 2 2 := ir_eqa f89 r81a (ir_c 2) (by decide) (by decide)
          exact J92 _ j0_tp_at _ _ _ (Nat.lt_succ_self _) (ir_w r55a (by decide) (by decide)) (ir_w r89a (by decide) (by decide)) (hP.sub [0, 1] rfl) (hD.sub [0, 1] (by decide) rfl) hS (lv_sub hl [0] rfl)
        have f89 := (show r66.toInt ≠ 2 from z_ne rfl rfl c89)
        have r89a : ir r66.toInt 3 4 := ir_nel f89 r81a (by decide) (by decide)
        refine lv_aload_n hx hb dX8_goToNext_134 rfl (lv_at hl 0 rfl) ?_
        refine va_get (D := g) (ci := 8) (v := .int r66) (C := RX8) (T := TX8) (N := 10) hx hb hts iX8 hown hK hP 0 rfl rfl 7 (by decide) (hts (.fieldLink RX8 41 "CardsAtYule$Tape" "kind" "I") (List.mem_cons_of_mem _ (List.mem_append_left _ (List.mem_of_getElem? (i := 3) rfl)))) (fun _ h9 => h9) rfl dX8_goToNext_135 ?_
        refine lv_if_eq (tgt := 151) hx hb dX8_goToNext_138 (by decide) (fun c138 => by exfalso; have f138 := (show r66.toInt = 0 from z_eq rfl rfl c138); have a9 := r89a; have b9 := (ir_c 0); omega) (fun c138 => ?_)
        have f138 := (show r66.toInt ≠ 0 from z_ne rfl rfl c138)
        refine lv_aload_n hx hb dX8_goToNext_141 rfl (lv_at hl 0 rfl) ?_
        refine lv_dup hx hb dX8_goToNext_142 rfl ?_
        refine va_get (D := g) (ci := 8) (v := .int j0_tp_at) (C := RX8) (T := TX8) (N := 10) hx hb hts iX8 hown hK hP 0 rfl rfl 5 (by decide) (hts (.fieldLink RX8 35 "CardsAtYule$Tape" "at" "I") (List.mem_cons_of_mem _ (List.mem_append_left _ (List.mem_of_getElem? (i := 0) rfl)))) (fun _ h9 => h9) rfl dX8_goToNext_143 ?_
        refine lv_iconst (v := 1) hx hb dX8_goToNext_146 (by decide) ?_
        refine lv_iadd hx hb dX8_goToNext_147 ?_
        refine lv_topi (fun y147 e147 => ?_)
        have q147 : y147.toInt = j0_tp_at.toInt + 1 := by rw [e147]; exact ad_z rfl rfl r55a (ir_c 1) (by decide) (by decide)
        have r147 : ir y147.toInt 1 1600 := ad_r q147 r55a (ir_c 1) (by decide) (by decide)
        refine va_put (D := g) (ci := 8) (v := .int y147) (ty := .int) (C := RX8) (T := TX8) (N := 10) hx hb hts iX8 tyX8 tyX8_ok nmX8 hown hK hP hD hS 0 rfl rfl 5 (by decide) (hts (.fieldLink RX8 35 "CardsAtYule$Tape" "at" "I") (List.mem_cons_of_mem _ (List.mem_append_left _ (List.mem_of_getElem? (i := 0) rfl)))) (fun _ h9 => h9) rfl (by decide +kernel) rfl rfl (Nat.le_of_ble_eq_true rfl) dX8_goToNext_148 (fun H locs hP hD hS => ?_)
        have hP : va_P g vwCl [(tp, .inr (8, [.int tp_length, .ref tp_told, .int tp_fault, .int tp_place, .ref tp_bytes, .int y147, .int j0_tp_at, .int r66, .int tp_number, .int tp_numberPlace])), (tp_bytes, .inl (cB, 1600, .inl tp_bytes_c))] H := hP
        have hD : va_D A [(tp, .inr (8, [.int tp_length, .ref tp_told, .int tp_fault, .int tp_place, .ref tp_bytes, .int y147, .int j0_tp_at, .int r66, .int tp_number, .int tp_numberPlace])), (tp_bytes, .inl (cB, 1600, .inl tp_bytes_c))] := hD
        subst hQ
        have hP9 := hP.sub (ws' := [(tp, .inr (8, [.int tp_length, .ref tp_told, .int tp_fault, .int tp_place, .ref tp_bytes, .int y147, .int j0_tp_at, .int r66, .int tp_number, .int tp_numberPlace])), (tp_bytes, .inl (cB, 1600, .inl tp_bytes_c))]) [0, 1] rfl
        have hD9 := hD.sub (ws' := [(tp, .inr (8, [.int tp_length, .ref tp_told, .int tp_fault, .int tp_place, .ref tp_bytes, .int y147, .int j0_tp_at, .int r66, .int tp_number, .int tp_numberPlace])), (tp_bytes, .inl (cB, 1600, .inl tp_bytes_c))]) [0, 1] (by decide) rfl
        exact W.vret hx hb hr (fun t ht hW => ⟨⟨(y147, j0_tp_at, r66), rfl, ⟨(ir_w r147 (by decide) (by decide)), (ir_w r55a (by decide) (by decide)), (ir_w r89a (by decide) (by decide))⟩, ⟨by rw [ht]; exact hP9, va_K.moved hW.alike hK, hD9⟩⟩, hS.F ht⟩) hS.2.2 dX8_goToNext_151
      refine lv_icmp_ge (tgt := 38) hx hb dX8_goToNext_8 (by decide) (fun c8 => ?_) (fun c8 => ?_)
      · have f8 := (show tp_length.toInt ≤ j0_tp_at.toInt from z_le rfl rfl c8)
        exact J38  _ _ _  (hP.sub [0, 1] rfl) (hD.sub [0, 1] (by decide) rfl) hS (lv_sub hl [0] rfl)
      have f8 := (show j0_tp_at.toInt < tp_length.toInt from z_nle rfl rfl c8)
      have r8a : ir j0_tp_at.toInt 0 1599 := ir_lta f8 hj0_tp_at hv_tp_length (by decide)
      have r8b : ir tp_length.toInt 1 1600 := ir_ltb f8 hj0_tp_at hv_tp_length (by decide)
      refine lv_aload_n hx hb dX8_goToNext_11 rfl (lv_at hl 0 rfl) ?_
      refine lv_aload_n hx hb dX8_goToNext_12 rfl (lv_at hl 0 rfl) ?_
      refine va_get (D := g) (ci := 8) (v := .int j0_tp_at) (C := RX8) (T := TX8) (N := 10) hx hb hts iX8 hown hK hP 0 rfl rfl 5 (by decide) (hts (.fieldLink RX8 35 "CardsAtYule$Tape" "at" "I") (List.mem_cons_of_mem _ (List.mem_append_left _ (List.mem_of_getElem? (i := 0) rfl)))) (fun _ h9 => h9) rfl dX8_goToNext_13 ?_
      refine ro_i (va_runV (As := [.int j0_tp_at]) (rest := []) ⟨hx, hb, hml, hown, hts⟩ (q_X8_byteAt l g cI cJ cB cZ cL j0_tp_at tp tp_length tp_told tp_fault tp_place tp_bytes j0_tp_at tp_start tp_kind tp_number tp_numberPlace tp_bytes_c H.size (ir_w r8b (by decide) (by decide)) (ir_w r8a (by decide) (by decide)) hv_tp_start) (cwV 1 hts (goodIn_app (g_4 (List.mem_cons_of_mem _ (List.mem_append_left _ (List.mem_of_getElem? (i := 4) rfl))) (List.mem_cons_of_mem _ (List.mem_append_left _ (List.mem_of_getElem? (i := 5) rfl))) (List.mem_cons_of_mem _ (List.mem_append_left _ (List.mem_of_getElem? (i := 6) rfl))) (List.mem_cons_of_mem _ (List.mem_append_left _ (List.mem_of_getElem? (i := 7) rfl))) (by decide +kernel)) (goodIn_sub (fun _ h => List.mem_cons_of_mem _ (List.mem_append_right _ (List.mem_append_left _ h))) good_v_X8_byteAt)) rfl rfl rfl (by decide +kernel) ⟨Nat.le_of_ble_eq_true rfl, Nat.le_of_ble_eq_true rfl⟩) (pv_RO (q := (RX8, TX8, 10)) (ci := 8) (q0 := 0) (wc := [(tp, .inr (8, [.int tp_length, .ref tp_told, .int tp_fault, .int tp_place, .ref tp_bytes, .int j0_tp_at, .int tp_start, .int tp_kind, .int tp_number, .int tp_numberPlace])), (tp_bytes, .inl (cB, 1600, .inl tp_bytes_c))]) hK hP [0, 1] rfl rfl rfl) rfl rfl hl.1 rfl (lv_room (Nat.le_of_ble_eq_true rfl)) dX8_goToNext_16 ⟨Nat.le_of_ble_eq_true rfl, Nat.le_of_ble_eq_true rfl⟩) hS hA hP (fun r16 u16 H locs hw16 hP hS => ?_)
      refine ro_i (va_runS (As := [.int r16]) (rest := []) ⟨hx, hb, hml, hown, hts⟩ (q_X8_isBlank l g cI cJ cB cZ cL r16 H.size ) (va_cwS 1 hts (goodIn_app (g_3 (List.mem_cons_of_mem _ (List.mem_append_left _ (List.mem_of_getElem? (i := 10) rfl))) (List.mem_cons_of_mem _ (List.mem_append_left _ (List.mem_of_getElem? (i := 11) rfl))) (List.mem_cons_of_mem _ (List.mem_append_left _ (List.mem_of_getElem? (i := 7) rfl))) (by decide +kernel)) (goodIn_sub (fun _ h => List.mem_cons_of_mem _ (List.mem_append_right _ (List.mem_append_right _ (List.mem_append_right _ (List.mem_append_left _ h))))) good_v_X8_isBlank)) rfl rfl rfl (by decide +kernel) ⟨Nat.le_of_ble_eq_true rfl, Nat.le_of_ble_eq_true rfl⟩) (ps_RO (wc := []) hK hP [] rfl) rfl rfl hl.1 rfl (lv_room (Nat.le_of_ble_eq_true rfl)) dX8_goToNext_19 ⟨Nat.le_of_ble_eq_true rfl, Nat.le_of_ble_eq_true rfl⟩) hS hA hP (fun r19 u19 H locs hw19 hP hS => ?_)
      have hw19_0 := hw19
      refine lv_if_eq (tgt := 38) hx hb dX8_goToNext_22 (by decide) (fun c22 => ?_) (fun c22 => ?_)
      · have f22 := (show r19.toInt = 0 from z_eq rfl rfl c22)
        have r22a : ir r19.toInt 0 0 := ir_eqa f22 hw19_0 (ir_c 0) (by decide) (by decide)
        exact J38  _ _ _  (hP.sub [0, 1] rfl) (hD.sub [0, 1] (by decide) rfl) hS (lv_sub hl [0] rfl)
      have f22 := (show r19.toInt ≠ 0 from z_ne rfl rfl c22)
      have r22a : ir r19.toInt 1 1 := ir_nel f22 hw19_0 (by decide) (by decide)
      refine lv_aload_n hx hb dX8_goToNext_25 rfl (lv_at hl 0 rfl) ?_
      refine lv_dup hx hb dX8_goToNext_26 rfl ?_
      refine va_get (D := g) (ci := 8) (v := .int j0_tp_at) (C := RX8) (T := TX8) (N := 10) hx hb hts iX8 hown hK hP 0 rfl rfl 5 (by decide) (hts (.fieldLink RX8 35 "CardsAtYule$Tape" "at" "I") (List.mem_cons_of_mem _ (List.mem_append_left _ (List.mem_of_getElem? (i := 0) rfl)))) (fun _ h9 => h9) rfl dX8_goToNext_27 ?_
      refine lv_iconst (v := 1) hx hb dX8_goToNext_30 (by decide) ?_
      refine lv_iadd hx hb dX8_goToNext_31 ?_
      refine lv_topi (fun y31 e31 => ?_)
      have q31 : y31.toInt = j0_tp_at.toInt + 1 := by rw [e31]; exact ad_z rfl rfl r8a (ir_c 1) (by decide) (by decide)
      have r31 : ir y31.toInt 1 1600 := ad_r q31 r8a (ir_c 1) (by decide) (by decide)
      refine va_put (D := g) (ci := 8) (v := .int y31) (ty := .int) (C := RX8) (T := TX8) (N := 10) hx hb hts iX8 tyX8 tyX8_ok nmX8 hown hK hP hD hS 0 rfl rfl 5 (by decide) (hts (.fieldLink RX8 35 "CardsAtYule$Tape" "at" "I") (List.mem_cons_of_mem _ (List.mem_append_left _ (List.mem_of_getElem? (i := 0) rfl)))) (fun _ h9 => h9) rfl (by decide +kernel) rfl rfl (Nat.le_of_ble_eq_true rfl) dX8_goToNext_32 (fun H locs hP hD hS => ?_)
      have hP : va_P g vwCl [(tp, .inr (8, [.int tp_length, .ref tp_told, .int tp_fault, .int tp_place, .ref tp_bytes, .int y31, .int tp_start, .int tp_kind, .int tp_number, .int tp_numberPlace])), (tp_bytes, .inl (cB, 1600, .inl tp_bytes_c))] H := hP
      have hD : va_D A [(tp, .inr (8, [.int tp_length, .ref tp_told, .int tp_fault, .int tp_place, .ref tp_bytes, .int y31, .int tp_start, .int tp_kind, .int tp_number, .int tp_numberPlace])), (tp_bytes, .inl (cB, 1600, .inl tp_bytes_c))] := hD
      refine lv_goto (tgt := 0) hx hb dX8_goToNext_35 (by decide) ?_
      exact ih0 y31 _ _ _ (by omega) (ir_w r31 (by decide) (by decide)) (hP.sub [0, 1] rfl) (hD.sub [0, 1] (by decide) rfl) hS (lv_sub hl [0] rfl)
  exact J0 _ tp_at _ _ _ (Nat.lt_succ_self _) hv_tp_at (hP.sub [0, 1] rfl) (hD.sub [0, 1] (by decide) rfl) hS (lv_sub hl [0] rfl)
def v_X8_refuse : List Cond := .code yX8_refuse cX8_refuse 3 (some .boolean) :: (([.fieldLink RX8 22 "CardsAtYule$Tape" "fault" "I", .fieldLink RX8 25 "CardsAtYule$Tape" "place" "I"] : List Cond) ++ (wsX80 ++ ([] : List Cond)))
theorem good_v_X8_refuse : v_X8_refuse.all goodWord = true := ga_c (by decide +kernel) (ga_a (by decide +kernel) (ga_a good_wsX80 rfl))
set_option maxHeartbeats 4000000 in
set_option maxRecDepth 100000 in
theorem q_X8_refuse (l : Launch) (g : va_G) (cI cJ cB cZ cL : ClassId) (p0 : Int32) (p1 : Int32) (tp : Nat) (tp_length : Int32) (tp_told : Nat) (tp_fault : Int32) (tp_place : Int32) (tp_bytes : Nat) (tp_at : Int32) (tp_start : Int32) (tp_kind : Int32) (tp_number : Int32) (tp_numberPlace : Int32) (sz : Nat) (hv_tp_length : ir tp_length.toInt 0 1600) (hv_tp_at : ir tp_at.toInt 0 1600) (hv_tp_start : ir tp_start.toInt 0 1600) : Met l yX8_refuse v_X8_refuse ({ frames := 0, cells := 0, slots := 0, locals := 0 }) (va_Pc [.ref tp, .int p0, .int p1] (pRW g (tyT cI cJ cB cZ cL) [(tp, .inr (8, [.int tp_length, .ref tp_told, .int tp_fault, .int tp_place, .ref tp_bytes, .int tp_at, .int tp_start, .int tp_kind, .int tp_number, .int tp_numberPlace]))] sz)) (va_Qi (fun (r : Int32) (u : Int32 × Int32) => match u with | (n_tp_fault, n_tp_place) => (ir r.toInt 0 0)) (fun (u : Int32 × Int32) (t : State) => bRW g (tyT cI cJ cB cZ cL) (va_A [(tp, .inr (8, [.int tp_length, .ref tp_told, .int tp_fault, .int tp_place, .ref tp_bytes, .int tp_at, .int tp_start, .int tp_kind, .int tp_number, .int tp_numberPlace]))] sz) (match u with | (n_tp_fault, n_tp_place) => [(tp, .inr (8, [.int tp_length, .ref tp_told, .int n_tp_fault, .int n_tp_place, .ref tp_bytes, .int tp_at, .int tp_start, .int tp_kind, .int tp_number, .int tp_numberPlace]))]) t) (va_A [(tp, .inr (8, [.int tp_length, .ref tp_told, .int tp_fault, .int tp_place, .ref tp_bytes, .int tp_at, .int tp_start, .int tp_kind, .int tp_number, .int tp_numberPlace]))] sz)) 0 0 (va_A [(tp, .inr (8, [.int tp_length, .ref tp_told, .int tp_fault, .int tp_place, .ref tp_bytes, .int tp_at, .int tp_start, .int tp_kind, .int tp_number, .int tp_numberPlace]))] sz) := by
  refine Met.ofW (cc := cX8_refuse) (maxL := 3) (ret := (some .boolean)) (by decide) rfl ?_
  intro p e s m args below meth c s₁ B hml hv
  obtain ⟨rfl, hsz, hP, hK, hD0⟩ := hv
  have hx := B.exec
  have hb := B.bytes
  have hr := B.returns
  have hts := atoms_spec (ws := v_X8_refuse) B.pre
  have hown : s.vm.findClass RX8 = some m.cls := findClass_of_methodNamed B.named
  have hlocks := B.notSynchronized
  clear B
  subst hsz
  have iX8 : ∀ w ∈ wsX80, w ∈ v_X8_refuse := (fun _ h => List.mem_cons_of_mem _ (List.mem_append_right _ (List.mem_append_left _ h)))
  have hD := hD0.self (sz := s.heap.size)
  generalize hAe : (va_A [(tp, .inr (8, [.int tp_length, .ref tp_told, .int tp_fault, .int tp_place, .ref tp_bytes, .int tp_at, .int tp_start, .int tp_kind, .int tp_number, .int tp_numberPlace]))] s.heap.size) = A at hD ⊢
  have hA : ∀ q : Nat, s.heap.size ≤ q → A q := fun q h => by rw [← hAe]; exact Or.inr h
  have hS : va_S A s.heap s.heap [] := va_S.rf
  have hl := lv_entry ([.ref tp, .int p0, .int p1]) (n := 3) (Nat.le_of_ble_eq_true rfl)
  rw [lg_entry_eq]
  generalize (lg_sl ([.ref tp, .int p0, .int p1]) ++ List.replicate (3 - (lg_sl ([.ref tp, .int p0, .int p1])).length) Slot.unset).toArray = ls at hl ⊢
  generalize ([.ref tp, .int p0, .int p1] : List Value).toArray = av at hts ⊢
  generalize hQ : MQ below _ av s _ _ A = QQ
  have hl : lv_has ls 3 [(0, .ref tp), (1, .int p0), (2, .int p1)] := hl
  have hP : va_P g vwCl [(tp, .inr (8, [.int tp_length, .ref tp_told, .int tp_fault, .int tp_place, .ref tp_bytes, .int tp_at, .int tp_start, .int tp_kind, .int tp_number, .int tp_numberPlace]))] s.heap := hP
  refine lv_aload_n hx hb dX8_refuse_0 rfl (lv_at hl 0 rfl) ?_
  refine lv_iload_n hx hb dX8_refuse_1 rfl (lv_at hl 1 rfl) ?_
  refine va_put (D := g) (ci := 8) (v := .int p0) (ty := .int) (C := RX8) (T := TX8) (N := 10) hx hb hts iX8 tyX8 tyX8_ok nmX8 hown hK hP hD hS 0 rfl rfl 2 (by decide) (hts (.fieldLink RX8 22 "CardsAtYule$Tape" "fault" "I") (List.mem_cons_of_mem _ (List.mem_append_left _ (List.mem_of_getElem? (i := 0) rfl)))) (fun _ h9 => h9) rfl (by decide +kernel) rfl rfl (Nat.le_of_ble_eq_true rfl) dX8_refuse_2 (fun H locs hP hD hS => ?_)
  have hP : va_P g vwCl [(tp, .inr (8, [.int tp_length, .ref tp_told, .int p0, .int tp_place, .ref tp_bytes, .int tp_at, .int tp_start, .int tp_kind, .int tp_number, .int tp_numberPlace]))] H := hP
  have hD : va_D A [(tp, .inr (8, [.int tp_length, .ref tp_told, .int p0, .int tp_place, .ref tp_bytes, .int tp_at, .int tp_start, .int tp_kind, .int tp_number, .int tp_numberPlace]))] := hD
  refine lv_aload_n hx hb dX8_refuse_5 rfl (lv_at hl 0 rfl) ?_
  refine lv_iload_n hx hb dX8_refuse_6 rfl (lv_at hl 2 rfl) ?_
  refine va_put (D := g) (ci := 8) (v := .int p1) (ty := .int) (C := RX8) (T := TX8) (N := 10) hx hb hts iX8 tyX8 tyX8_ok nmX8 hown hK hP hD hS 0 rfl rfl 3 (by decide) (hts (.fieldLink RX8 25 "CardsAtYule$Tape" "place" "I") (List.mem_cons_of_mem _ (List.mem_append_left _ (List.mem_of_getElem? (i := 1) rfl)))) (fun _ h9 => h9) rfl (by decide +kernel) rfl rfl (Nat.le_of_ble_eq_true rfl) dX8_refuse_7 (fun H locs hP hD hS => ?_)
  have hP : va_P g vwCl [(tp, .inr (8, [.int tp_length, .ref tp_told, .int p0, .int p1, .ref tp_bytes, .int tp_at, .int tp_start, .int tp_kind, .int tp_number, .int tp_numberPlace]))] H := hP
  have hD : va_D A [(tp, .inr (8, [.int tp_length, .ref tp_told, .int p0, .int p1, .ref tp_bytes, .int tp_at, .int tp_start, .int tp_kind, .int tp_number, .int tp_numberPlace]))] := hD
  refine lv_iconst (v := 0) hx hb dX8_refuse_10 (by decide) ?_
  subst hQ
  have hP9 := hP.sub (ws' := [(tp, .inr (8, [.int tp_length, .ref tp_told, .int p0, .int p1, .ref tp_bytes, .int tp_at, .int tp_start, .int tp_kind, .int tp_number, .int tp_numberPlace]))]) [0] rfl
  have hD9 := hD.sub (ws' := [(tp, .inr (8, [.int tp_length, .ref tp_told, .int p0, .int p1, .ref tp_bytes, .int tp_at, .int tp_start, .int tp_kind, .int tp_number, .int tp_numberPlace]))]) [0] (by decide) rfl
  exact W.zret (v := 0) hx hb hr rfl (fun t ht hW => ⟨⟨0, (p0, p1), rfl, (show ir (0 : Int32).toInt 0 0 by decide), ⟨by rw [ht]; exact hP9, va_K.moved hW.alike hK, hD9⟩⟩, hS.F ht⟩) hS.2.2 dX8_refuse_11
def v_X8_valueOfToken : List Cond := .code yX8_valueOfToken cX8_valueOfToken 3 (some .int) :: (([.fieldLink RX8 103 "CardsAtYule$Tape" "start" "I", .fieldLink RX8 35 "CardsAtYule$Tape" "at" "I", .methodLink RX8 181 yX8_byteAt, .instanceMethod yX8_byteAt, .selects RX8 yX8_byteAt yX8_byteAt, .initialized RX8, .methodLink RX8 189 Lib.Math.min.name, .static Lib.Math.min.name, .initialized "java/lang/Math", .code Lib.Math.min.name Lib.Math.min.code 2 (some .int)] : List Cond) ++ (v_X8_byteAt ++ (wsX80 ++ ([] : List Cond))))
theorem good_v_X8_valueOfToken : v_X8_valueOfToken.all goodWord = true := ga_c (by decide +kernel) (ga_a (by decide +kernel) (ga_a good_v_X8_byteAt (ga_a good_wsX80 rfl)))
set_option maxHeartbeats 4000000 in
set_option maxRecDepth 100000 in
theorem q_X8_valueOfToken (l : Launch) (g : va_G) (cI cJ cB cZ cL : ClassId) (tp : Nat) (tp_length : Int32) (tp_told : Nat) (tp_fault : Int32) (tp_place : Int32) (tp_bytes : Nat) (tp_at : Int32) (tp_start : Int32) (tp_kind : Int32) (tp_number : Int32) (tp_numberPlace : Int32) (tp_bytes_c : Nat → Int32) (sz : Nat) (hv_tp_length : ir tp_length.toInt 0 1600) (hv_tp_at : ir tp_at.toInt 0 1600) (hv_tp_start : ir tp_start.toInt 0 1600) : Met l yX8_valueOfToken v_X8_valueOfToken ({ frames := 1, cells := 0, slots := 0, locals := 21 }) (va_Pc [.ref tp] (pRO g (tyT cI cJ cB cZ cL) [(tp, .inr (8, [.int tp_length, .ref tp_told, .int tp_fault, .int tp_place, .ref tp_bytes, .int tp_at, .int tp_start, .int tp_kind, .int tp_number, .int tp_numberPlace])), (tp_bytes, .inl (cB, 1600, .inl tp_bytes_c))] sz)) (va_Qi (fun (r : Int32) (u : Unit) => (ir r.toInt (-2147483648) 1000)) (fun (_ : Unit) (_ : State) => True) (va_A [] sz)) 0 0 (va_A [] sz) := by
  refine Met.ofW (cc := cX8_valueOfToken) (maxL := 3) (ret := (some .int)) (by decide) rfl ?_
  intro p e s m args below meth c s₁ B hml hv
  obtain ⟨rfl, hsz, hP, hK⟩ := hv
  have hx := B.exec
  have hb := B.bytes
  have hr := B.returns
  have hts := atoms_spec (ws := v_X8_valueOfToken) B.pre
  have hown : s.vm.findClass RX8 = some m.cls := findClass_of_methodNamed B.named
  have hlocks := B.notSynchronized
  clear B
  subst hsz
  have iX8 : ∀ w ∈ wsX80, w ∈ v_X8_valueOfToken := (fun _ h => List.mem_cons_of_mem _ (List.mem_append_right _ (List.mem_append_right _ (List.mem_append_left _ h))))
  generalize hAe : (va_A [] s.heap.size) = A
  have hA : ∀ q : Nat, s.heap.size ≤ q → A q := fun q h => by rw [← hAe]; exact Or.inr h
  have hS : va_S A s.heap s.heap [] := va_S.rf
  have hl := lv_entry ([.ref tp]) (n := 3) (Nat.le_of_ble_eq_true rfl)
  rw [lg_entry_eq]
  generalize (lg_sl ([.ref tp]) ++ List.replicate (3 - (lg_sl ([.ref tp])).length) Slot.unset).toArray = ls at hl ⊢
  generalize ([.ref tp] : List Value).toArray = av at hts ⊢
  generalize hQ : MQ below _ av s _ _ A = QQ
  have hl : lv_has ls 3 [(0, .ref tp)] := hl
  have hP : va_P g vwCl [(tp, .inr (8, [.int tp_length, .ref tp_told, .int tp_fault, .int tp_place, .ref tp_bytes, .int tp_at, .int tp_start, .int tp_kind, .int tp_number, .int tp_numberPlace])), (tp_bytes, .inl (cB, 1600, .inl tp_bytes_c))] s.heap := hP
  refine lv_iconst (v := 0) hx hb dX8_valueOfToken_0 (by decide) ?_
  refine lv_istore_n (lv' := [(1, .int 0), (0, .ref tp)]) hx hb dX8_valueOfToken_1 rfl hl (by decide) rfl (fun ls hl => ?_)
  refine lv_aload_n hx hb dX8_valueOfToken_2 rfl (lv_at hl 1 rfl) ?_
  refine va_get (D := g) (ci := 8) (v := .int tp_start) (C := RX8) (T := TX8) (N := 10) hx hb hts iX8 hown hK hP 0 rfl rfl 6 (by decide) (hts (.fieldLink RX8 103 "CardsAtYule$Tape" "start" "I") (List.mem_cons_of_mem _ (List.mem_append_left _ (List.mem_of_getElem? (i := 0) rfl)))) (fun _ h9 => h9) rfl dX8_valueOfToken_3 ?_
  refine lv_istore_n (lv' := [(2, .int tp_start), (1, .int 0), (0, .ref tp)]) hx hb dX8_valueOfToken_6 rfl hl (by decide) rfl (fun ls hl => ?_)
  have J7 : ∀ (n7 : Nat) (j7_l1 : Int32) (j7_l2 : Int32) (H : Heap) (locs : List Loc) (ls : Array Slot), (1601 - j7_l2.toInt).toNat < n7 → (ir j7_l1.toInt (-2147483648) 1000) → (ir j7_l2.toInt 0 1600) → va_P g vwCl [(tp, .inr (8, [.int tp_length, .ref tp_told, .int tp_fault, .int tp_place, .ref tp_bytes, .int tp_at, .int tp_start, .int tp_kind, .int tp_number, .int tp_numberPlace])), (tp_bytes, .inl (cB, 1600, .inl tp_bytes_c))] H → va_S A s.heap H locs → lv_has ls 3 [(0, .ref tp), (1, .int j7_l1), (2, .int j7_l2)] → W p l e (headSpec v_X8_valueOfToken ({ frames := 1, cells := 0, slots := 0, locals := 21 })).room s m av below meth c H locs 0 0 QQ (F0 m 7 ls []) := by
    intro n7
    induction n7 with
    | zero => exact fun j7_l1 j7_l2 H locs ls hn => absurd hn (Nat.not_lt_zero _)
    | succ n7 ih7 =>
      intro j7_l1 j7_l2 H locs ls hn7 hj7_l1 hj7_l2 hP hS hl
      refine lv_iload_n hx hb dX8_valueOfToken_7 rfl (lv_at hl 2 rfl) ?_
      refine lv_aload_n hx hb dX8_valueOfToken_8 rfl (lv_at hl 0 rfl) ?_
      refine va_get (D := g) (ci := 8) (v := .int tp_at) (C := RX8) (T := TX8) (N := 10) hx hb hts iX8 hown hK hP 0 rfl rfl 5 (by decide) (hts (.fieldLink RX8 35 "CardsAtYule$Tape" "at" "I") (List.mem_cons_of_mem _ (List.mem_append_left _ (List.mem_of_getElem? (i := 1) rfl)))) (fun _ h9 => h9) rfl dX8_valueOfToken_9 ?_
      refine lv_icmp_ge (tgt := 41) hx hb dX8_valueOfToken_12 (by decide) (fun c12 => ?_) (fun c12 => ?_)
      · have f12 := (show tp_at.toInt ≤ j7_l2.toInt from z_le rfl rfl c12)
        refine lv_iload_n hx hb dX8_valueOfToken_41 rfl (lv_at hl 1 rfl) ?_
        subst hQ
        exact W.iret (v := j7_l1) hx hb hr (fun t ht hW => ⟨⟨j7_l1, (), rfl, hj7_l1, trivial⟩, hS.F ht⟩) hS.2.2 dX8_valueOfToken_42
      have f12 := (show j7_l2.toInt < tp_at.toInt from z_nle rfl rfl c12)
      have r12a : ir j7_l2.toInt 0 1599 := ir_lta f12 hj7_l2 hv_tp_at (by decide)
      have r12b : ir tp_at.toInt 1 1600 := ir_ltb f12 hj7_l2 hv_tp_at (by decide)
      refine lv_sipush (v := 1000) hx hb dX8_valueOfToken_15 (by decide) ?_
      refine lv_bipush (v := 10) hx hb dX8_valueOfToken_18 (by decide) ?_
      refine lv_iload_n hx hb dX8_valueOfToken_20 rfl (lv_at hl 1 rfl) ?_
      refine lv_imul hx hb dX8_valueOfToken_21 ?_
      refine lv_topi (fun y21 e21 => ?_)
      refine lv_aload_n hx hb dX8_valueOfToken_22 rfl (lv_at hl 0 rfl) ?_
      refine lv_iload_n hx hb dX8_valueOfToken_23 rfl (lv_at hl 2 rfl) ?_
      refine ro_i (va_runV (As := [.int j7_l2]) (rest := [.int y21, .int 1000]) ⟨hx, hb, hml, hown, hts⟩ (q_X8_byteAt l g cI cJ cB cZ cL j7_l2 tp tp_length tp_told tp_fault tp_place tp_bytes tp_at tp_start tp_kind tp_number tp_numberPlace tp_bytes_c H.size hv_tp_length (ir_w r12b (by decide) (by decide)) hv_tp_start) (cwV 1 hts (goodIn_app (g_4 (List.mem_cons_of_mem _ (List.mem_append_left _ (List.mem_of_getElem? (i := 2) rfl))) (List.mem_cons_of_mem _ (List.mem_append_left _ (List.mem_of_getElem? (i := 3) rfl))) (List.mem_cons_of_mem _ (List.mem_append_left _ (List.mem_of_getElem? (i := 4) rfl))) (List.mem_cons_of_mem _ (List.mem_append_left _ (List.mem_of_getElem? (i := 5) rfl))) (by decide +kernel)) (goodIn_sub (fun _ h => List.mem_cons_of_mem _ (List.mem_append_right _ (List.mem_append_left _ h))) good_v_X8_byteAt)) rfl rfl rfl (by decide +kernel) ⟨Nat.le_of_ble_eq_true rfl, Nat.le_of_ble_eq_true rfl⟩) (pv_RO (q := (RX8, TX8, 10)) (ci := 8) (q0 := 0) (wc := [(tp, .inr (8, [.int tp_length, .ref tp_told, .int tp_fault, .int tp_place, .ref tp_bytes, .int tp_at, .int tp_start, .int tp_kind, .int tp_number, .int tp_numberPlace])), (tp_bytes, .inl (cB, 1600, .inl tp_bytes_c))]) hK hP [0, 1] rfl rfl rfl) rfl rfl hl.1 rfl (lv_room (Nat.le_of_ble_eq_true rfl)) dX8_valueOfToken_24 ⟨Nat.le_of_ble_eq_true rfl, Nat.le_of_ble_eq_true rfl⟩) hS hA hP (fun r24 u24 H locs hw24 hP hS => ?_)
      refine lv_iadd hx hb dX8_valueOfToken_27 ?_
      refine lv_topi (fun y27 e27 => ?_)
      refine lv_bipush (v := 48) hx hb dX8_valueOfToken_28 (by decide) ?_
      refine lv_isub hx hb dX8_valueOfToken_30 ?_
      refine lv_topi (fun y30 e30 => ?_)
      refine va_mmin hx hb (hml.trans hl.1.symm) hown (hts (.methodLink RX8 189 Lib.Math.min.name) (List.mem_cons_of_mem _ (List.mem_append_left _ (List.mem_of_getElem? (i := 6) rfl)))) (hts (.static Lib.Math.min.name) (List.mem_cons_of_mem _ (List.mem_append_left _ (List.mem_of_getElem? (i := 7) rfl)))) (hts (.initialized "java/lang/Math") (List.mem_cons_of_mem _ (List.mem_append_left _ (List.mem_of_getElem? (i := 8) rfl)))) (hts (.code Lib.Math.min.name Lib.Math.min.code 2 (some .int)) (List.mem_cons_of_mem _ (List.mem_append_left _ (List.mem_of_getElem? (i := 9) rfl)))) (Nat.le_of_ble_eq_true rfl) (Nat.le_of_ble_eq_true rfl) (Nat.le_of_ble_eq_true rfl) (Nat.le_of_ble_eq_true rfl) dX8_valueOfToken_31 ?_
      refine lv_topi (fun y31 e31 => ?_)
      have r31 : ir y31.toInt (-2147483648) 1000 := by rw [e31]; exact min_r rfl rfl (ir_c 1000) (rg_all y30) (by decide) (by decide) (by decide) (by decide)
      refine lv_istore_n (lv' := [(1, .int y31), (0, .ref tp), (2, .int j7_l2)]) hx hb dX8_valueOfToken_34 rfl hl (by decide) rfl (fun ls hl => ?_)
      obtain ⟨y35, e35⟩ : ∃ y : Int32, y = j7_l2 + 1 := ⟨_, rfl⟩
      have q35 : y35.toInt = j7_l2.toInt + 1 := by rw [e35]; exact ad_z rfl rfl r12a (ir_c 1) (by decide) (by decide)
      have r35 : ir y35.toInt 1 1600 := ad_r q35 r12a (ir_c 1) (by decide) (by decide)
      refine lv_iinc (v := y35) (lv' := [(2, .int y35), (1, .int y31), (0, .ref tp)]) hx hb dX8_valueOfToken_35 hl (k := 2) rfl e35.symm (by decide) rfl (fun ls hl => ?_)
      refine lv_goto (tgt := 7) hx hb dX8_valueOfToken_38 (by decide) ?_
      exact ih7 y31 y35 _ _ _ (by omega) r31 (ir_w r35 (by decide) (by decide)) (hP.sub [0, 1] rfl) hS (lv_sub hl [2, 1, 0] rfl)
  exact J7 _ 0 tp_start _ _ _ (Nat.lt_succ_self _) (by decide) hv_tp_start (hP.sub [0, 1] rfl) hS (lv_sub hl [2, 1, 0] rfl)
