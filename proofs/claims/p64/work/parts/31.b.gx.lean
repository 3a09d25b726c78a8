def v_X2_take : List Cond := .code yX2_take cX2_take 4 none :: (([.fieldLink RX2 29 "CardsAtYule$Land" "years" "I", .fieldLink RX2 35 "CardsAtYule$Course" "years" "I", .fieldLink RX2 36 "CardsAtYule$Land" "begun" "[I", .fieldLink RX2 39 "CardsAtYule$Course" "begun" "I", .fieldLink RX2 7 "CardsAtYule$Course" "rule" "[I", .methodLink RX2 41 yX4_ruleOfSide, .instanceMethod yX4_ruleOfSide, .selects RX4 yX4_ruleOfSide yX4_ruleOfSide, .initialized RX4, .fieldLink RX2 13 "CardsAtYule$Course" "may" "[J", .fieldLink RX2 45 "CardsAtYule$Land" "who" "[I", .methodLink RX2 48 yX4_livingYears, .instanceMethod yX4_livingYears, .selects RX4 yX4_livingYears yX4_livingYears, .fieldLink RX2 17 "CardsAtYule$Course" "reach" "[J", .methodLink RX2 52 yX4_reachOf, .instanceMethod yX4_reachOf, .selects RX4 yX4_reachOf yX4_reachOf] : List Cond) ++ (v_X4_ruleOfSide ++ (v_X4_livingYears ++ (v_X4_reachOf ++ (wsX40 ++ (wsX20 ++ ([] : List Cond)))))))
theorem good_v_X2_take : v_X2_take.all goodWord = true := ga_c (by decide +kernel) (ga_a (by decide +kernel) (ga_a good_v_X4_ruleOfSide (ga_a good_v_X4_livingYears (ga_a good_v_X4_reachOf (ga_a good_wsX40 (ga_a good_wsX20 rfl))))))
set_option maxHeartbeats 4000000 in
set_option maxRecDepth 100000 in
theorem q_X2_take (l : Launch) (g : va_G) (cI cJ cB cZ cL : ClassId) (p1 : Int32) (co : Nat) (ld : Nat) (ld_lines : Int32) (ld_years : Int32) (ld_card : Int32) (ld_hurt : Int32) (ld_people : Int32) (ld_pairs : Int32) (ld_strikes : Int64) (ld_rule : Nat) (ld_returns : Nat) (ld_forgets : Nat) (ld_death : Nat) (ld_move : Nat) (ld_begun : Nat) (ld_who : Nat) (ld_lost : Nat) (co_years : Int32) (co_begun : Int32) (co_rule : Nat) (co_may : Nat) (co_reach : Nat) (co_first : Nat) (co_back : Nat) (co_got : Nat) (ld_begun_c : Nat → Int32) (ld_who_c : Nat → Int32) (ld_rule_c : Nat → Int32) (ld_returns_c : Nat → Int32) (co_rule_c : Nat → Int32) (ld_death_c : Nat → Int32) (co_may_c : Nat → Int64) (ld_move_c : Nat → Int32) (ld_lost_c : Nat → Int64) (co_reach_c : Nat → Int64) (sz : Nat) (hv_p1 : ir p1.toInt 0 15) (hv_ld_years : ir ld_years.toInt 0 40) (hv_ld_people : ir ld_people.toInt 0 10) (hv_ld_pairs : ir ld_pairs.toInt 0 16) (ha_ld_begun_c : ar ld_begun_c 16 0 15) (ha_ld_who_c : ar ld_who_c 32 0 9) : Met l yX2_take v_X2_take ({ frames := 2, cells := 0, slots := 0, locals := 46 }) (va_Pc [.ref co, .ref ld, .int p1] (pRW g (tyT cI cJ cB cZ cL) [(ld, .inr (4, [.int ld_lines, .int ld_years, .int ld_card, .int ld_hurt, .int ld_people, .int ld_pairs, .long ld_strikes, .ref ld_rule, .ref ld_returns, .ref ld_forgets, .ref ld_death, .ref ld_move, .ref ld_begun, .ref ld_who, .ref ld_lost])), (co, .inr (2, [.int co_years, .int co_begun, .ref co_rule, .ref co_may, .ref co_reach, .ref co_first, .ref co_back, .ref co_got])), (ld_begun, .inl (cI, 16, .inl ld_begun_c)), (ld_who, .inl (cI, 32, .inl ld_who_c)), (ld_rule, .inl (cI, 10, .inl ld_rule_c)), (ld_returns, .inl (cI, 10, .inl ld_returns_c)), (co_rule, .inl (cI, 2, .inl co_rule_c)), (ld_death, .inl (cI, 10, .inl ld_death_c)), (co_may, .inl (cJ, 2, .inr (.inl co_may_c))), (ld_move, .inl (cI, 10, .inl ld_move_c)), (ld_lost, .inl (cJ, 32, .inr (.inl ld_lost_c))), (co_reach, .inl (cJ, 2, .inr (.inl co_reach_c)))] sz)) (va_Qv (fun (u : Int32 × Int32 × (Nat → Int32) × (Nat → Int64) × (Nat → Int64)) => match u with | (n_co_years, n_co_begun, n_co_rule_c, n_co_may_c, n_co_reach_c) => (ir n_co_years.toInt 0 40) ∧ (ir n_co_begun.toInt 0 15)) (fun (u : Int32 × Int32 × (Nat → Int32) × (Nat → Int64) × (Nat → Int64)) (t : State) => bRW g (tyT cI cJ cB cZ cL) (va_A [(ld, .inr (4, [.int ld_lines, .int ld_years, .int ld_card, .int ld_hurt, .int ld_people, .int ld_pairs, .long ld_strikes, .ref ld_rule, .ref ld_returns, .ref ld_forgets, .ref ld_death, .ref ld_move, .ref ld_begun, .ref ld_who, .ref ld_lost])), (co, .inr (2, [.int co_years, .int co_begun, .ref co_rule, .ref co_may, .ref co_reach, .ref co_first, .ref co_back, .ref co_got])), (ld_begun, .inl (cI, 16, .inl ld_begun_c)), (ld_who, .inl (cI, 32, .inl ld_who_c)), (ld_rule, .inl (cI, 10, .inl ld_rule_c)), (ld_returns, .inl (cI, 10, .inl ld_returns_c)), (co_rule, .inl (cI, 2, .inl co_rule_c)), (ld_death, .inl (cI, 10, .inl ld_death_c)), (co_may, .inl (cJ, 2, .inr (.inl co_may_c))), (ld_move, .inl (cI, 10, .inl ld_move_c)), (ld_lost, .inl (cJ, 32, .inr (.inl ld_lost_c))), (co_reach, .inl (cJ, 2, .inr (.inl co_reach_c)))] sz) (match u with | (n_co_years, n_co_begun, n_co_rule_c, n_co_may_c, n_co_reach_c) => [(ld, .inr (4, [.int ld_lines, .int ld_years, .int ld_card, .int ld_hurt, .int ld_people, .int ld_pairs, .long ld_strikes, .ref ld_rule, .ref ld_returns, .ref ld_forgets, .ref ld_death, .ref ld_move, .ref ld_begun, .ref ld_who, .ref ld_lost])), (co, .inr (2, [.int n_co_years, .int n_co_begun, .ref co_rule, .ref co_may, .ref co_reach, .ref co_first, .ref co_back, .ref co_got])), (ld_begun, .inl (cI, 16, .inl ld_begun_c)), (ld_who, .inl (cI, 32, .inl ld_who_c)), (ld_rule, .inl (cI, 10, .inl ld_rule_c)), (ld_returns, .inl (cI, 10, .inl ld_returns_c)), (co_rule, .inl (cI, 2, .inl n_co_rule_c)), (ld_death, .inl (cI, 10, .inl ld_death_c)), (co_may, .inl (cJ, 2, .inr (.inl n_co_may_c))), (ld_move, .inl (cI, 10, .inl ld_move_c)), (ld_lost, .inl (cJ, 32, .inr (.inl ld_lost_c))), (co_reach, .inl (cJ, 2, .inr (.inl n_co_reach_c)))]) t) (va_A [(ld, .inr (4, [.int ld_lines, .int ld_years, .int ld_card, .int ld_hurt, .int ld_people, .int ld_pairs, .long ld_strikes, .ref ld_rule, .ref ld_returns, .ref ld_forgets, .ref ld_death, .ref ld_move, .ref ld_begun, .ref ld_who, .ref ld_lost])), (co, .inr (2, [.int co_years, .int co_begun, .ref co_rule, .ref co_may, .ref co_reach, .ref co_first, .ref co_back, .ref co_got])), (ld_begun, .inl (cI, 16, .inl ld_begun_c)), (ld_who, .inl (cI, 32, .inl ld_who_c)), (ld_rule, .inl (cI, 10, .inl ld_rule_c)), (ld_returns, .inl (cI, 10, .inl ld_returns_c)), (co_rule, .inl (cI, 2, .inl co_rule_c)), (ld_death, .inl (cI, 10, .inl ld_death_c)), (co_may, .inl (cJ, 2, .inr (.inl co_may_c))), (ld_move, .inl (cI, 10, .inl ld_move_c)), (ld_lost, .inl (cJ, 32, .inr (.inl ld_lost_c))), (co_reach, .inl (cJ, 2, .inr (.inl co_reach_c)))] sz)) 0 0 (va_A [(ld, .inr (4, [.int ld_lines, .int ld_years, .int ld_card, .int ld_hurt, .int ld_people, .int ld_pairs, .long ld_strikes, .ref ld_rule, .ref ld_returns, .ref ld_forgets, .ref ld_death, .ref ld_move, .ref ld_begun, .ref ld_who, .ref ld_lost])), (co, .inr (2, [.int co_years, .int co_begun, .ref co_rule, .ref co_may, .ref co_reach, .ref co_first, .ref co_back, .ref co_got])), (ld_begun, .inl (cI, 16, .inl ld_begun_c)), (ld_who, .inl (cI, 32, .inl ld_who_c)), (ld_rule, .inl (cI, 10, .inl ld_rule_c)), (ld_returns, .inl (cI, 10, .inl ld_returns_c)), (co_rule, .inl (cI, 2, .inl co_rule_c)), (ld_death, .inl (cI, 10, .inl ld_death_c)), (co_may, .inl (cJ, 2, .inr (.inl co_may_c))), (ld_move, .inl (cI, 10, .inl ld_move_c)), (ld_lost, .inl (cJ, 32, .inr (.inl ld_lost_c))), (co_reach, .inl (cJ, 2, .inr (.inl co_reach_c)))] sz) := by
  refine Met.ofW (cc := cX2_take) (maxL := 4) (ret := none) (by decide) rfl ?_
  intro p e s m args below meth c s₁ B hml hv
  obtain ⟨rfl, hsz, hP, hK, hD0⟩ := hv
  have hx := B.exec
  have hb := B.bytes
  have hr := B.returns
  have hts := atoms_spec (ws := v_X2_take) B.pre
  have hown : s.vm.findClass RX2 = some m.cls := findClass_of_methodNamed B.named
  have hlocks := B.notSynchronized
  clear B
  subst hsz
  have iX4 : ∀ w ∈ wsX40, w ∈ v_X2_take := (fun _ h => List.mem_cons_of_mem _ (List.mem_append_right _ (List.mem_append_right _ (List.mem_append_right _ (List.mem_append_right _ (List.mem_append_left _ h))))))
  have iX2 : ∀ w ∈ wsX20, w ∈ v_X2_take := (fun _ h => List.mem_cons_of_mem _ (List.mem_append_right _ (List.mem_append_right _ (List.mem_append_right _ (List.mem_append_right _ (List.mem_append_right _ (List.mem_append_left _ h)))))))
  have hD := hD0.self (sz := s.heap.size)
  generalize hAe : (va_A [(ld, .inr (4, [.int ld_lines, .int ld_years, .int ld_card, .int ld_hurt, .int ld_people, .int ld_pairs, .long ld_strikes, .ref ld_rule, .ref ld_returns, .ref ld_forgets, .ref ld_death, .ref ld_move, .ref ld_begun, .ref ld_who, .ref ld_lost])), (co, .inr (2, [.int co_years, .int co_begun, .ref co_rule, .ref co_may, .ref co_reach, .ref co_first, .ref co_back, .ref co_got])), (ld_begun, .inl (cI, 16, .inl ld_begun_c)), (ld_who, .inl (cI, 32, .inl ld_who_c)), (ld_rule, .inl (cI, 10, .inl ld_rule_c)), (ld_returns, .inl (cI, 10, .inl ld_returns_c)), (co_rule, .inl (cI, 2, .inl co_rule_c)), (ld_death, .inl (cI, 10, .inl ld_death_c)), (co_may, .inl (cJ, 2, .inr (.inl co_may_c))), (ld_move, .inl (cI, 10, .inl ld_move_c)), (ld_lost, .inl (cJ, 32, .inr (.inl ld_lost_c))), (co_reach, .inl (cJ, 2, .inr (.inl co_reach_c)))] s.heap.size) = A at hD ⊢
  have hA : ∀ q : Nat, s.heap.size ≤ q → A q := fun q h => by rw [← hAe]; exact Or.inr h
  have hS : va_S A s.heap s.heap [] := va_S.rf
  have hl := lv_entry ([.ref co, .ref ld, .int p1]) (n := 4) (Nat.le_of_ble_eq_true rfl)
  rw [lg_entry_eq]
  generalize (lg_sl ([.ref co, .ref ld, .int p1]) ++ List.replicate (4 - (lg_sl ([.ref co, .ref ld, .int p1])).length) Slot.unset).toArray = ls at hl ⊢
  generalize ([.ref co, .ref ld, .int p1] : List Value).toArray = av at hts ⊢
  generalize hQ : MQ below _ av s _ _ A = QQ
  have hl : lv_has ls 4 [(0, .ref co), (1, .ref ld), (2, .int p1)] := hl
  have hP : va_P g vwCl [(ld, .inr (4, [.int ld_lines, .int ld_years, .int ld_card, .int ld_hurt, .int ld_people, .int ld_pairs, .long ld_strikes, .ref ld_rule, .ref ld_returns, .ref ld_forgets, .ref ld_death, .ref ld_move, .ref ld_begun, .ref ld_who, .ref ld_lost])), (co, .inr (2, [.int co_years, .int co_begun, .ref co_rule, .ref co_may, .ref co_reach, .ref co_first, .ref co_back, .ref co_got])), (ld_begun, .inl (cI, 16, .inl ld_begun_c)), (ld_who, .inl (cI, 32, .inl ld_who_c)), (ld_rule, .inl (cI, 10, .inl ld_rule_c)), (ld_returns, .inl (cI, 10, .inl ld_returns_c)), (co_rule, .inl (cI, 2, .inl co_rule_c)), (ld_death, .inl (cI, 10, .inl ld_death_c)), (co_may, .inl (cJ, 2, .inr (.inl co_may_c))), (ld_move, .inl (cI, 10, .inl ld_move_c)), (ld_lost, .inl (cJ, 32, .inr (.inl ld_lost_c))), (co_reach, .inl (cJ, 2, .inr (.inl co_reach_c)))] s.heap := hP
  refine lv_aload_n hx hb dX2_take_0 rfl (lv_at hl 0 rfl) ?_
  refine lv_aload_n hx hb dX2_take_1 rfl (lv_at hl 1 rfl) ?_
  refine va_get (D := g) (ci := 4) (v := .int ld_years) (C := RX4) (T := TX4) (N := 15) hx hb hts iX4 hown hK hP 0 rfl rfl 1 (by decide) (hts (.fieldLink RX2 29 "CardsAtYule$Land" "years" "I") (List.mem_cons_of_mem _ (List.mem_append_left _ (List.mem_of_getElem? (i := 0) rfl)))) (fun _ h9 => h9) rfl dX2_take_2 ?_
  refine va_put (D := g) (ci := 2) (v := .int ld_years) (ty := .int) (C := RX2) (T := TX2) (N := 8) hx hb hts iX2 tyX2 tyX2_ok nmX2 hown hK hP hD hS 1 rfl rfl 0 (by decide) (hts (.fieldLink RX2 35 "CardsAtYule$Course" "years" "I") (List.mem_cons_of_mem _ (List.mem_append_left _ (List.mem_of_getElem? (i := 1) rfl)))) (fun _ h9 => h9) rfl (by decide +kernel) rfl rfl (Nat.le_of_ble_eq_true rfl) dX2_take_5 (fun H locs hP hD hS => ?_)
  have hP : va_P g vwCl [(ld, .inr (4, [.int ld_lines, .int ld_years, .int ld_card, .int ld_hurt, .int ld_people, .int ld_pairs, .long ld_strikes, .ref ld_rule, .ref ld_returns, .ref ld_forgets, .ref ld_death, .ref ld_move, .ref ld_begun, .ref ld_who, .ref ld_lost])), (co, .inr (2, [.int ld_years, .int co_begun, .ref co_rule, .ref co_may, .ref co_reach, .ref co_first, .ref co_back, .ref co_got])), (ld_begun, .inl (cI, 16, .inl ld_begun_c)), (ld_who, .inl (cI, 32, .inl ld_who_c)), (ld_rule, .inl (cI, 10, .inl ld_rule_c)), (ld_returns, .inl (cI, 10, .inl ld_returns_c)), (co_rule, .inl (cI, 2, .inl co_rule_c)), (ld_death, .inl (cI, 10, .inl ld_death_c)), (co_may, .inl (cJ, 2, .inr (.inl co_may_c))), (ld_move, .inl (cI, 10, .inl ld_move_c)), (ld_lost, .inl (cJ, 32, .inr (.inl ld_lost_c))), (co_reach, .inl (cJ, 2, .inr (.inl co_reach_c)))] H := hP
  have hD : va_D A [(ld, .inr (4, [.int ld_lines, .int ld_years, .int ld_card, .int ld_hurt, .int ld_people, .int ld_pairs, .long ld_strikes, .ref ld_rule, .ref ld_returns, .ref ld_forgets, .ref ld_death, .ref ld_move, .ref ld_begun, .ref ld_who, .ref ld_lost])), (co, .inr (2, [.int ld_years, .int co_begun, .ref co_rule, .ref co_may, .ref co_reach, .ref co_first, .ref co_back, .ref co_got])), (ld_begun, .inl (cI, 16, .inl ld_begun_c)), (ld_who, .inl (cI, 32, .inl ld_who_c)), (ld_rule, .inl (cI, 10, .inl ld_rule_c)), (ld_returns, .inl (cI, 10, .inl ld_returns_c)), (co_rule, .inl (cI, 2, .inl co_rule_c)), (ld_death, .inl (cI, 10, .inl ld_death_c)), (co_may, .inl (cJ, 2, .inr (.inl co_may_c))), (ld_move, .inl (cI, 10, .inl ld_move_c)), (ld_lost, .inl (cJ, 32, .inr (.inl ld_lost_c))), (co_reach, .inl (cJ, 2, .inr (.inl co_reach_c)))] := hD
  refine lv_aload_n hx hb dX2_take_8 rfl (lv_at hl 0 rfl) ?_
  refine lv_aload_n hx hb dX2_take_9 rfl (lv_at hl 1 rfl) ?_
  refine va_get (D := g) (ci := 4) (v := .ref ld_begun) (C := RX4) (T := TX4) (N := 15) hx hb hts iX4 hown hK hP 0 rfl rfl 12 (by decide) (hts (.fieldLink RX2 36 "CardsAtYule$Land" "begun" "[I") (List.mem_cons_of_mem _ (List.mem_append_left _ (List.mem_of_getElem? (i := 2) rfl)))) (fun _ h9 => h9) rfl dX2_take_10 ?_
  refine lv_iload_n hx hb dX2_take_13 rfl (lv_at hl 2 rfl) ?_
  refine va_iald (D := g) hx hb hK hP 2 0 rfl rfl (vi_rg rfl hv_p1 (by decide) (by decide)) dX2_take_14 ?_
  refine lv_topi (fun y14 e14 => ?_)
  have r14 : ir y14.toInt 0 15 := by rw [e14]; exact ha_ld_begun_c _ (vi_cl (vi_rg rfl hv_p1 (by decide) (by decide)))
  refine va_put (D := g) (ci := 2) (v := .int y14) (ty := .int) (C := RX2) (T := TX2) (N := 8) hx hb hts iX2 tyX2 tyX2_ok nmX2 hown hK hP hD hS 1 rfl rfl 1 (by decide) (hts (.fieldLink RX2 39 "CardsAtYule$Course" "begun" "I") (List.mem_cons_of_mem _ (List.mem_append_left _ (List.mem_of_getElem? (i := 3) rfl)))) (fun _ h9 => h9) rfl (by decide +kernel) rfl rfl (Nat.le_of_ble_eq_true rfl) dX2_take_15 (fun H locs hP hD hS => ?_)
  have hP : va_P g vwCl [(ld, .inr (4, [.int ld_lines, .int ld_years, .int ld_card, .int ld_hurt, .int ld_people, .int ld_pairs, .long ld_strikes, .ref ld_rule, .ref ld_returns, .ref ld_forgets, .ref ld_death, .ref ld_move, .ref ld_begun, .ref ld_who, .ref ld_lost])), (co, .inr (2, [.int ld_years, .int y14, .ref co_rule, .ref co_may, .ref co_reach, .ref co_first, .ref co_back, .ref co_got])), (ld_begun, .inl (cI, 16, .inl ld_begun_c)), (ld_who, .inl (cI, 32, .inl ld_who_c)), (ld_rule, .inl (cI, 10, .inl ld_rule_c)), (ld_returns, .inl (cI, 10, .inl ld_returns_c)), (co_rule, .inl (cI, 2, .inl co_rule_c)), (ld_death, .inl (cI, 10, .inl ld_death_c)), (co_may, .inl (cJ, 2, .inr (.inl co_may_c))), (ld_move, .inl (cI, 10, .inl ld_move_c)), (ld_lost, .inl (cJ, 32, .inr (.inl ld_lost_c))), (co_reach, .inl (cJ, 2, .inr (.inl co_reach_c)))] H := hP
  have hD : va_D A [(ld, .inr (4, [.int ld_lines, .int ld_years, .int ld_card, .int ld_hurt, .int ld_people, .int ld_pairs, .long ld_strikes, .ref ld_rule, .ref ld_returns, .ref ld_forgets, .ref ld_death, .ref ld_move, .ref ld_begun, .ref ld_who, .ref ld_lost])), (co, .inr (2, [.int ld_years, .int y14, .ref co_rule, .ref co_may, .ref co_reach, .ref co_first, .ref co_back, .ref co_got])), (ld_begun, .inl (cI, 16, .inl ld_begun_c)), (ld_who, .inl (cI, 32, .inl ld_who_c)), (ld_rule, .inl (cI, 10, .inl ld_rule_c)), (ld_returns, .inl (cI, 10, .inl ld_returns_c)), (co_rule, .inl (cI, 2, .inl co_rule_c)), (ld_death, .inl (cI, 10, .inl ld_death_c)), (co_may, .inl (cJ, 2, .inr (.inl co_may_c))), (ld_move, .inl (cI, 10, .inl ld_move_c)), (ld_lost, .inl (cJ, 32, .inr (.inl ld_lost_c))), (co_reach, .inl (cJ, 2, .inr (.inl co_reach_c)))] := hD
  refine lv_iconst (v := 0) hx hb dX2_take_18 (by decide) ?_
  refine lv_istore_n (lv' := [(3, .int 0), (0, .ref co), (1, .ref ld), (2, .int p1)]) hx hb dX2_take_19 rfl hl (by decide) rfl (fun ls hl => ?_)
  have J20 : ∀ (n20 : Nat) (j20_l3 : Int32) (j20_co_rule_c : Nat → Int32) (j20_co_may_c : Nat → Int64) (j20_co_reach_c : Nat → Int64) (H : Heap) (locs : List Loc) (ls : Array Slot), (3 - j20_l3.toInt).toNat < n20 → (ir j20_l3.toInt 0 2) → va_P g vwCl [(ld, .inr (4, [.int ld_lines, .int ld_years, .int ld_card, .int ld_hurt, .int ld_people, .int ld_pairs, .long ld_strikes, .ref ld_rule, .ref ld_returns, .ref ld_forgets, .ref ld_death, .ref ld_move, .ref ld_begun, .ref ld_who, .ref ld_lost])), (co, .inr (2, [.int ld_years, .int y14, .ref co_rule, .ref co_may, .ref co_reach, .ref co_first, .ref co_back, .ref co_got])), (ld_begun, .inl (cI, 16, .inl ld_begun_c)), (ld_who, .inl (cI, 32, .inl ld_who_c)), (ld_rule, .inl (cI, 10, .inl ld_rule_c)), (ld_returns, .inl (cI, 10, .inl ld_returns_c)), (co_rule, .inl (cI, 2, .inl j20_co_rule_c)), (ld_death, .inl (cI, 10, .inl ld_death_c)), (co_may, .inl (cJ, 2, .inr (.inl j20_co_may_c))), (ld_move, .inl (cI, 10, .inl ld_move_c)), (ld_lost, .inl (cJ, 32, .inr (.inl ld_lost_c))), (co_reach, .inl (cJ, 2, .inr (.inl j20_co_reach_c)))] H → va_D A [(ld, .inr (4, [.int ld_lines, .int ld_years, .int ld_card, .int ld_hurt, .int ld_people, .int ld_pairs, .long ld_strikes, .ref ld_rule, .ref ld_returns, .ref ld_forgets, .ref ld_death, .ref ld_move, .ref ld_begun, .ref ld_who, .ref ld_lost])), (co, .inr (2, [.int ld_years, .int y14, .ref co_rule, .ref co_may, .ref co_reach, .ref co_first, .ref co_back, .ref co_got])), (ld_begun, .inl (cI, 16, .inl ld_begun_c)), (ld_who, .inl (cI, 32, .inl ld_who_c)), (ld_rule, .inl (cI, 10, .inl ld_rule_c)), (ld_returns, .inl (cI, 10, .inl ld_returns_c)), (co_rule, .inl (cI, 2, .inl j20_co_rule_c)), (ld_death, .inl (cI, 10, .inl ld_death_c)), (co_may, .inl (cJ, 2, .inr (.inl j20_co_may_c))), (ld_move, .inl (cI, 10, .inl ld_move_c)), (ld_lost, .inl (cJ, 32, .inr (.inl ld_lost_c))), (co_reach, .inl (cJ, 2, .inr (.inl j20_co_reach_c)))] → va_S A s.heap H locs → lv_has ls 4 [(0, .ref co), (1, .ref ld), (2, .int p1), (3, .int j20_l3)] → W p l e (headSpec v_X2_take ({ frames := 2, cells := 0, slots := 0, locals := 46 })).room s m av below meth c H locs 0 0 QQ (F0 m 20 ls []) := by
    intro n20
    induction n20 with
    | zero => exact fun j20_l3 j20_co_rule_c j20_co_may_c j20_co_reach_c H locs ls hn => absurd hn (Nat.not_lt_zero _)
    | succ n20 ih20 =>
      intro j20_l3 j20_co_rule_c j20_co_may_c j20_co_reach_c H locs ls hn20 hj20_l3 hP hD hS hl
      refine lv_iload_n hx hb dX2_take_20 rfl (lv_at hl 3 rfl) ?_
      refine lv_iconst (v := 2) hx hb dX2_take_21 (by decide) ?_
      refine lv_icmp_ge (tgt := 75) hx hb dX2_take_22 (by decide) (fun c22 => ?_) (fun c22 => ?_)
      · have f22 := (show 2 ≤ j20_l3.toInt from z_le rfl rfl c22)
        have r22a : ir j20_l3.toInt 2 2 := ir_leb f22 (ir_c 2) hj20_l3 (by decide)
        subst hQ
        have hP9 := hP.sub (ws' := [(ld, .inr (4, [.int ld_lines, .int ld_years, .int ld_card, .int ld_hurt, .int ld_people, .int ld_pairs, .long ld_strikes, .ref ld_rule, .ref ld_returns, .ref ld_forgets, .ref ld_death, .ref ld_move, .ref ld_begun, .ref ld_who, .ref ld_lost])), (co, .inr (2, [.int ld_years, .int y14, .ref co_rule, .ref co_may, .ref co_reach, .ref co_first, .ref co_back, .ref co_got])), (ld_begun, .inl (cI, 16, .inl ld_begun_c)), (ld_who, .inl (cI, 32, .inl ld_who_c)), (ld_rule, .inl (cI, 10, .inl ld_rule_c)), (ld_returns, .inl (cI, 10, .inl ld_returns_c)), (co_rule, .inl (cI, 2, .inl j20_co_rule_c)), (ld_death, .inl (cI, 10, .inl ld_death_c)), (co_may, .inl (cJ, 2, .inr (.inl j20_co_may_c))), (ld_move, .inl (cI, 10, .inl ld_move_c)), (ld_lost, .inl (cJ, 32, .inr (.inl ld_lost_c))), (co_reach, .inl (cJ, 2, .inr (.inl j20_co_reach_c)))]) [0, 1, 2, 3, 4, 5, 6, 7, 8, 9, 10, 11] rfl
        have hD9 := hD.sub (ws' := [(ld, .inr (4, [.int ld_lines, .int ld_years, .int ld_card, .int ld_hurt, .int ld_people, .int ld_pairs, .long ld_strikes, .ref ld_rule, .ref ld_returns, .ref ld_forgets, .ref ld_death, .ref ld_move, .ref ld_begun, .ref ld_who, .ref ld_lost])), (co, .inr (2, [.int ld_years, .int y14, .ref co_rule, .ref co_may, .ref co_reach, .ref co_first, .ref co_back, .ref co_got])), (ld_begun, .inl (cI, 16, .inl ld_begun_c)), (ld_who, .inl (cI, 32, .inl ld_who_c)), (ld_rule, .inl (cI, 10, .inl ld_rule_c)), (ld_returns, .inl (cI, 10, .inl ld_returns_c)), (co_rule, .inl (cI, 2, .inl j20_co_rule_c)), (ld_death, .inl (cI, 10, .inl ld_death_c)), (co_may, .inl (cJ, 2, .inr (.inl j20_co_may_c))), (ld_move, .inl (cI, 10, .inl ld_move_c)), (ld_lost, .inl (cJ, 32, .inr (.inl ld_lost_c))), (co_reach, .inl (cJ, 2, .inr (.inl j20_co_reach_c)))]) [0, 1, 2, 3, 4, 5, 6, 7, 8, 9, 10, 11] (by decide) rfl
        exact W.vret hx hb hr (fun t ht hW => ⟨⟨(ld_years, y14, j20_co_rule_c, j20_co_may_c, j20_co_reach_c), rfl, ⟨hv_ld_years, r14⟩, ⟨by rw [ht]; exact hP9, va_K.moved hW.alike hK, hD9⟩⟩, hS.F ht⟩) hS.2.2 dX2_take_75
      have f22 := (show j20_l3.toInt < 2 from z_nle rfl rfl c22)
      have r22a : ir j20_l3.toInt 0 1 := ir_lta f22 hj20_l3 (ir_c 2) (by decide)
      refine lv_aload_n hx hb dX2_take_25 rfl (lv_at hl 0 rfl) ?_
      refine va_get (D := g) (ci := 2) (v := .ref co_rule) (C := RX2) (T := TX2) (N := 8) hx hb hts iX2 hown hK hP 1 rfl rfl 2 (by decide) (hts (.fieldLink RX2 7 "CardsAtYule$Course" "rule" "[I") (List.mem_cons_of_mem _ (List.mem_append_left _ (List.mem_of_getElem? (i := 4) rfl)))) (fun _ h9 => h9) rfl dX2_take_26 ?_
      refine lv_iload_n hx hb dX2_take_29 rfl (lv_at hl 3 rfl) ?_
      refine lv_aload_n hx hb dX2_take_30 rfl (lv_at hl 1 rfl) ?_
      refine lv_iload_n hx hb dX2_take_31 rfl (lv_at hl 2 rfl) ?_
      refine lv_iload_n hx hb dX2_take_32 rfl (lv_at hl 3 rfl) ?_
      refine ro_i (va_runV (As := [.int p1, .int j20_l3]) (rest := [.int j20_l3, .ref co_rule]) ⟨hx, hb, hml, hown, hts⟩ (q_X4_ruleOfSide l g cI cJ cB cZ cL p1 j20_l3 ld ld_lines ld_years ld_card ld_hurt ld_people ld_pairs ld_strikes ld_rule ld_returns ld_forgets ld_death ld_move ld_begun ld_who ld_lost ld_who_c ld_rule_c ld_returns_c H.size hv_p1 r22a hv_ld_years hv_ld_people hv_ld_pairs ha_ld_who_c) (cwV 2 hts (goodIn_app (g_4 (List.mem_cons_of_mem _ (List.mem_append_left _ (List.mem_of_getElem? (i := 5) rfl))) (List.mem_cons_of_mem _ (List.mem_append_left _ (List.mem_of_getElem? (i := 6) rfl))) (List.mem_cons_of_mem _ (List.mem_append_left _ (List.mem_of_getElem? (i := 7) rfl))) (List.mem_cons_of_mem _ (List.mem_append_left _ (List.mem_of_getElem? (i := 8) rfl))) (by decide +kernel)) (goodIn_sub (fun _ h => List.mem_cons_of_mem _ (List.mem_append_right _ (List.mem_append_left _ h))) good_v_X4_ruleOfSide)) rfl rfl rfl (by decide +kernel) ⟨Nat.le_of_ble_eq_true rfl, Nat.le_of_ble_eq_true rfl⟩) (pv_RO (q := (RX4, TX4, 15)) (ci := 4) (q0 := 0) (wc := [(ld, .inr (4, [.int ld_lines, .int ld_years, .int ld_card, .int ld_hurt, .int ld_people, .int ld_pairs, .long ld_strikes, .ref ld_rule, .ref ld_returns, .ref ld_forgets, .ref ld_death, .ref ld_move, .ref ld_begun, .ref ld_who, .ref ld_lost])), (ld_who, .inl (cI, 32, .inl ld_who_c)), (ld_rule, .inl (cI, 10, .inl ld_rule_c)), (ld_returns, .inl (cI, 10, .inl ld_returns_c))]) hK hP [0, 3, 4, 5] rfl rfl rfl) rfl rfl hl.1 rfl (lv_room (Nat.le_of_ble_eq_true rfl)) dX2_take_33 ⟨Nat.le_of_ble_eq_true rfl, Nat.le_of_ble_eq_true rfl⟩) hS hA hP (fun r33 u33 H locs hw33 hP hS => ?_)
      refine va_iast (D := g) hx hb hK hP hD hS 6 0 rfl rfl (vi_rg rfl r22a (by decide) (by decide)) dX2_take_36 (fun H locs hP hD hS => ?_)
      obtain ⟨g36, e36⟩ : ∃ z, z = upd j20_co_rule_c j20_l3.toNatClampNeg r33 := ⟨_, rfl⟩
      have hP : va_P g vwCl [(ld, .inr (4, [.int ld_lines, .int ld_years, .int ld_card, .int ld_hurt, .int ld_people, .int ld_pairs, .long ld_strikes, .ref ld_rule, .ref ld_returns, .ref ld_forgets, .ref ld_death, .ref ld_move, .ref ld_begun, .ref ld_who, .ref ld_lost])), (co, .inr (2, [.int ld_years, .int y14, .ref co_rule, .ref co_may, .ref co_reach, .ref co_first, .ref co_back, .ref co_got])), (ld_begun, .inl (cI, 16, .inl ld_begun_c)), (ld_who, .inl (cI, 32, .inl ld_who_c)), (ld_rule, .inl (cI, 10, .inl ld_rule_c)), (ld_returns, .inl (cI, 10, .inl ld_returns_c)), (co_rule, .inl (cI, 2, .inl (upd j20_co_rule_c j20_l3.toNatClampNeg r33))), (ld_death, .inl (cI, 10, .inl ld_death_c)), (co_may, .inl (cJ, 2, .inr (.inl j20_co_may_c))), (ld_move, .inl (cI, 10, .inl ld_move_c)), (ld_lost, .inl (cJ, 32, .inr (.inl ld_lost_c))), (co_reach, .inl (cJ, 2, .inr (.inl j20_co_reach_c)))] H := hP
      have hD : va_D A [(ld, .inr (4, [.int ld_lines, .int ld_years, .int ld_card, .int ld_hurt, .int ld_people, .int ld_pairs, .long ld_strikes, .ref ld_rule, .ref ld_returns, .ref ld_forgets, .ref ld_death, .ref ld_move, .ref ld_begun, .ref ld_who, .ref ld_lost])), (co, .inr (2, [.int ld_years, .int y14, .ref co_rule, .ref co_may, .ref co_reach, .ref co_first, .ref co_back, .ref co_got])), (ld_begun, .inl (cI, 16, .inl ld_begun_c)), (ld_who, .inl (cI, 32, .inl ld_who_c)), (ld_rule, .inl (cI, 10, .inl ld_rule_c)), (ld_returns, .inl (cI, 10, .inl ld_returns_c)), (co_rule, .inl (cI, 2, .inl (upd j20_co_rule_c j20_l3.toNatClampNeg r33))), (ld_death, .inl (cI, 10, .inl ld_death_c)), (co_may, .inl (cJ, 2, .inr (.inl j20_co_may_c))), (ld_move, .inl (cI, 10, .inl ld_move_c)), (ld_lost, .inl (cJ, 32, .inr (.inl ld_lost_c))), (co_reach, .inl (cJ, 2, .inr (.inl j20_co_reach_c)))] := hD
      rw [← e36] at hP hD
      refine lv_aload_n hx hb dX2_take_37 rfl (lv_at hl 0 rfl) ?_
      refine va_get (D := g) (ci := 2) (v := .ref co_may) (C := RX2) (T := TX2) (N := 8) hx hb hts iX2 hown hK hP 1 rfl rfl 3 (by decide) (hts (.fieldLink RX2 13 "CardsAtYule$Course" "may" "[J") (List.mem_cons_of_mem _ (List.mem_append_left _ (List.mem_of_getElem? (i := 9) rfl)))) (fun _ h9 => h9) rfl dX2_take_38 ?_
      refine lv_iload_n hx hb dX2_take_41 rfl (lv_at hl 3 rfl) ?_
      refine lv_aload_n hx hb dX2_take_42 rfl (lv_at hl 1 rfl) ?_
      refine lv_aload_n hx hb dX2_take_43 rfl (lv_at hl 1 rfl) ?_
      refine va_get (D := g) (ci := 4) (v := .ref ld_who) (C := RX4) (T := TX4) (N := 15) hx hb hts iX4 hown hK hP 0 rfl rfl 13 (by decide) (hts (.fieldLink RX2 45 "CardsAtYule$Land" "who" "[I") (List.mem_cons_of_mem _ (List.mem_append_left _ (List.mem_of_getElem? (i := 10) rfl)))) (fun _ h9 => h9) rfl dX2_take_44 ?_
      refine lv_iconst (v := 2) hx hb dX2_take_47 (by decide) ?_
      refine lv_iload_n hx hb dX2_take_48 rfl (lv_at hl 2 rfl) ?_
      refine lv_imul hx hb dX2_take_49 ?_
      refine lv_topi (fun y49 e49 => ?_)
      have q49 : y49.toInt = 2 * p1.toInt := by rw [e49]; exact mu_z rfl rfl (ir_c 2) hv_p1 (by decide) (by decide) (by decide)
      have r49 : ir y49.toInt 0 30 := mu_r q49 (ir_c 2) hv_p1 (by decide) (by decide) (by decide) (by decide)
      refine lv_iload_n hx hb dX2_take_50 rfl (lv_at hl 3 rfl) ?_
      refine lv_iadd hx hb dX2_take_51 ?_
      refine lv_topi (fun y51 e51 => ?_)
      have q51 : y51.toInt = y49.toInt + j20_l3.toInt := by rw [e51]; exact ad_z rfl rfl r49 r22a (by decide) (by decide)
      have r51 : ir y51.toInt 0 31 := ad_r q51 r49 r22a (by decide) (by decide)
      refine va_iald (D := g) hx hb hK hP 3 0 rfl rfl (vi_rg rfl r51 (by decide) (by decide)) dX2_take_52 ?_
      refine lv_topi (fun y52 e52 => ?_)
      have r52 : ir y52.toInt 0 9 := by rw [e52]; exact ha_ld_who_c _ (vi_cl (vi_rg rfl r51 (by decide) (by decide)))
      refine ro_l (va_runV (As := [.int y52]) (rest := [.int j20_l3, .ref co_may]) ⟨hx, hb, hml, hown, hts⟩ (q_X4_livingYears l g cI cJ cB cZ cL y52 ld ld_lines ld_years ld_card ld_hurt ld_people ld_pairs ld_strikes ld_rule ld_returns ld_forgets ld_death ld_move ld_begun ld_who ld_lost ld_death_c H.size r52 hv_ld_years hv_ld_people hv_ld_pairs) (cwV 1 hts (goodIn_app (g_4 (List.mem_cons_of_mem _ (List.mem_append_left _ (List.mem_of_getElem? (i := 11) rfl))) (List.mem_cons_of_mem _ (List.mem_append_left _ (List.mem_of_getElem? (i := 12) rfl))) (List.mem_cons_of_mem _ (List.mem_append_left _ (List.mem_of_getElem? (i := 13) rfl))) (List.mem_cons_of_mem _ (List.mem_append_left _ (List.mem_of_getElem? (i := 8) rfl))) (by decide +kernel)) (goodIn_sub (fun _ h => List.mem_cons_of_mem _ (List.mem_append_right _ (List.mem_append_right _ (List.mem_append_left _ h)))) good_v_X4_livingYears)) rfl rfl rfl (by decide +kernel) ⟨Nat.le_of_ble_eq_true rfl, Nat.le_of_ble_eq_true rfl⟩) (pv_RO (q := (RX4, TX4, 15)) (ci := 4) (q0 := 0) (wc := [(ld, .inr (4, [.int ld_lines, .int ld_years, .int ld_card, .int ld_hurt, .int ld_people, .int ld_pairs, .long ld_strikes, .ref ld_rule, .ref ld_returns, .ref ld_forgets, .ref ld_death, .ref ld_move, .ref ld_begun, .ref ld_who, .ref ld_lost])), (ld_death, .inl (cI, 10, .inl ld_death_c))]) hK hP [0, 7] rfl rfl rfl) rfl rfl hl.1 rfl (lv_room (Nat.le_of_ble_eq_true rfl)) dX2_take_53 ⟨Nat.le_of_ble_eq_true rfl, Nat.le_of_ble_eq_true rfl⟩) hS hA hP (fun r53 u53 H locs hw53 hP hS => ?_)
      refine va_last (D := g) hx hb hK hP hD hS 8 1 rfl rfl (vi_rg rfl r22a (by decide) (by decide)) dX2_take_56 (fun H locs hP hD hS => ?_)
      obtain ⟨g56, e56⟩ : ∃ z, z = vp_updL j20_co_may_c j20_l3.toNatClampNeg r53 := ⟨_, rfl⟩
      have hP : va_P g vwCl [(ld, .inr (4, [.int ld_lines, .int ld_years, .int ld_card, .int ld_hurt, .int ld_people, .int ld_pairs, .long ld_strikes, .ref ld_rule, .ref ld_returns, .ref ld_forgets, .ref ld_death, .ref ld_move, .ref ld_begun, .ref ld_who, .ref ld_lost])), (co, .inr (2, [.int ld_years, .int y14, .ref co_rule, .ref co_may, .ref co_reach, .ref co_first, .ref co_back, .ref co_got])), (ld_begun, .inl (cI, 16, .inl ld_begun_c)), (ld_who, .inl (cI, 32, .inl ld_who_c)), (ld_rule, .inl (cI, 10, .inl ld_rule_c)), (ld_returns, .inl (cI, 10, .inl ld_returns_c)), (co_rule, .inl (cI, 2, .inl g36)), (ld_death, .inl (cI, 10, .inl ld_death_c)), (co_may, .inl (cJ, 2, .inr (.inl (vp_updL j20_co_may_c j20_l3.toNatClampNeg r53)))), (ld_move, .inl (cI, 10, .inl ld_move_c)), (ld_lost, .inl (cJ, 32, .inr (.inl ld_lost_c))), (co_reach, .inl (cJ, 2, .inr (.inl j20_co_reach_c)))] H := hP
      have hD : va_D A [(ld, .inr (4, [.int ld_lines, .int ld_years, .int ld_card, .int ld_hurt, .int ld_people, .int ld_pairs, .long ld_strikes, .ref ld_rule, .ref ld_returns, .ref ld_forgets, .ref ld_death, .ref ld_move, .ref ld_begun, .ref ld_who, .ref ld_lost])), (co, .inr (2, [.int ld_years, .int y14, .ref co_rule, .ref co_may, .ref co_reach, .ref co_first, .ref co_back, .ref co_got])), (ld_begun, .inl (cI, 16, .inl ld_begun_c)), (ld_who, .inl (cI, 32, .inl ld_who_c)), (ld_rule, .inl (cI, 10, .inl ld_rule_c)), (ld_returns, .inl (cI, 10, .inl ld_returns_c)), (co_rule, .inl (cI, 2, .inl g36)), (ld_death, .inl (cI, 10, .inl ld_death_c)), (co_may, .inl (cJ, 2, .inr (.inl (vp_updL j20_co_may_c j20_l3.toNatClampNeg r53)))), (ld_move, .inl (cI, 10, .inl ld_move_c)), (ld_lost, .inl (cJ, 32, .inr (.inl ld_lost_c))), (co_reach, .inl (cJ, 2, .inr (.inl j20_co_reach_c)))] := hD
      rw [← e56] at hP hD
      refine lv_aload_n hx hb dX2_take_57 rfl (lv_at hl 0 rfl) ?_
      refine va_get (D := g) (ci := 2) (v := .ref co_reach) (C := RX2) (T := TX2) (N := 8) hx hb hts iX2 hown hK hP 1 rfl rfl 4 (by decide) (hts (.fieldLink RX2 17 "CardsAtYule$Course" "reach" "[J") (List.mem_cons_of_mem _ (List.mem_append_left _ (List.mem_of_getElem? (i := 14) rfl)))) (fun _ h9 => h9) rfl dX2_take_58 ?_
      refine lv_iload_n hx hb dX2_take_61 rfl (lv_at hl 3 rfl) ?_
      refine lv_aload_n hx hb dX2_take_62 rfl (lv_at hl 1 rfl) ?_
      refine lv_iload_n hx hb dX2_take_63 rfl (lv_at hl 2 rfl) ?_
      refine lv_iload_n hx hb dX2_take_64 rfl (lv_at hl 3 rfl) ?_
      refine ro_l (va_runV (As := [.int p1, .int j20_l3]) (rest := [.int j20_l3, .ref co_reach]) ⟨hx, hb, hml, hown, hts⟩ (q_X4_reachOf l g cI cJ cB cZ cL p1 j20_l3 ld ld_lines ld_years ld_card ld_hurt ld_people ld_pairs ld_strikes ld_rule ld_returns ld_forgets ld_death ld_move ld_begun ld_who ld_lost ld_who_c ld_move_c ld_death_c ld_lost_c H.size hv_p1 r22a hv_ld_years hv_ld_people hv_ld_pairs ha_ld_who_c) (cwV 2 hts (goodIn_app (g_4 (List.mem_cons_of_mem _ (List.mem_append_left _ (List.mem_of_getElem? (i := 15) rfl))) (List.mem_cons_of_mem _ (List.mem_append_left _ (List.mem_of_getElem? (i := 16) rfl))) (List.mem_cons_of_mem _ (List.mem_append_left _ (List.mem_of_getElem? (i := 17) rfl))) (List.mem_cons_of_mem _ (List.mem_append_left _ (List.mem_of_getElem? (i := 8) rfl))) (by decide +kernel)) (goodIn_sub (fun _ h => List.mem_cons_of_mem _ (List.mem_append_right _ (List.mem_append_right _ (List.mem_append_right _ (List.mem_append_left _ h))))) good_v_X4_reachOf)) rfl rfl rfl (by decide +kernel) ⟨Nat.le_of_ble_eq_true rfl, Nat.le_of_ble_eq_true rfl⟩) (pv_RO (q := (RX4, TX4, 15)) (ci := 4) (q0 := 0) (wc := [(ld, .inr (4, [.int ld_lines, .int ld_years, .int ld_card, .int ld_hurt, .int ld_people, .int ld_pairs, .long ld_strikes, .ref ld_rule, .ref ld_returns, .ref ld_forgets, .ref ld_death, .ref ld_move, .ref ld_begun, .ref ld_who, .ref ld_lost])), (ld_who, .inl (cI, 32, .inl ld_who_c)), (ld_move, .inl (cI, 10, .inl ld_move_c)), (ld_death, .inl (cI, 10, .inl ld_death_c)), (ld_lost, .inl (cJ, 32, .inr (.inl ld_lost_c)))]) hK hP [0, 3, 9, 7, 10] rfl rfl rfl) rfl rfl hl.1 rfl (lv_room (Nat.le_of_ble_eq_true rfl)) dX2_take_65 ⟨Nat.le_of_ble_eq_true rfl, Nat.le_of_ble_eq_true rfl⟩) hS hA hP (fun r65 u65 H locs hw65 hP hS => ?_)
      refine va_last (D := g) hx hb hK hP hD hS 11 1 rfl rfl (vi_rg rfl r22a (by decide) (by decide)) dX2_take_68 (fun H locs hP hD hS => ?_)
      obtain ⟨g68, e68⟩ : ∃ z, z = vp_updL j20_co_reach_c j20_l3.toNatClampNeg r65 := ⟨_, rfl⟩
      have hP : va_P g vwCl [(ld, .inr (4, [.int ld_lines, .int ld_years, .int ld_card, .int ld_hurt, .int ld_people, .int ld_pairs, .long ld_strikes, .ref ld_rule, .ref ld_returns, .ref ld_forgets, .ref ld_death, .ref ld_move, .ref ld_begun, .ref ld_who, .ref ld_lost])), (co, .inr (2, [.int ld_years, .int y14, .ref co_rule, .ref co_may, .ref co_reach, .ref co_first, .ref co_back, .ref co_got])), (ld_begun, .inl (cI, 16, .inl ld_begun_c)), (ld_who, .inl (cI, 32, .inl ld_who_c)), (ld_rule, .inl (cI, 10, .inl ld_rule_c)), (ld_returns, .inl (cI, 10, .inl ld_returns_c)), (co_rule, .inl (cI, 2, .inl g36)), (ld_death, .inl (cI, 10, .inl ld_death_c)), (co_may, .inl (cJ, 2, .inr (.inl g56))), (ld_move, .inl (cI, 10, .inl ld_move_c)), (ld_lost, .inl (cJ, 32, .inr (.inl ld_lost_c))), (co_reach, .inl (cJ, 2, .inr (.inl (vp_updL j20_co_reach_c j20_l3.toNatClampNeg r65))))] H := hP
      have hD : va_D A [(ld, .inr (4, [.int ld_lines, .int ld_years, .int ld_card, .int ld_hurt, .int ld_people, .int ld_pairs, .long ld_strikes, .ref ld_rule, .ref ld_returns, .ref ld_forgets, .ref ld_death, .ref ld_move, .ref ld_begun, .ref ld_who, .ref ld_lost])), (co, .inr (2, [.int ld_years, .int y14, .ref co_rule, .ref co_may, .ref co_reach, .ref co_first, .ref co_back, .ref co_got])), (ld_begun, .inl (cI, 16, .inl ld_begun_c)), (ld_who, .inl (cI, 32, .inl ld_who_c)), (ld_rule, .inl (cI, 10, .inl ld_rule_c)), (ld_returns, .inl (cI, 10, .inl ld_returns_c)), (co_rule, .inl (cI, 2, .inl g36)), (ld_death, .inl (cI, 10, .inl ld_death_c)), (co_may, .inl (cJ, 2, .inr (.inl g56))), (ld_move, .inl (cI, 10, .inl ld_move_c)), (ld_lost, .inl (cJ, 32, .inr (.inl ld_lost_c))), (co_reach, .inl (cJ, 2, .inr (.inl (vp_updL j20_co_reach_c j20_l3.toNatClampNeg r65))))] := hD
      rw [← e68] at hP hD
      obtain ⟨y69, e69⟩ : ∃ y : Int32, y = j20_l3 + 1 := ⟨_, rfl⟩
      have q69 : y69.toInt = j20_l3.toInt + 1 := by rw [e69]; exact ad_z rfl rfl r22a (ir_c 1) (by decide) (by decide)
      have r69 : ir y69.toInt 1 2 := ad_r q69 r22a (ir_c 1) (by decide) (by decide)
      refine lv_iinc (v := y69) (lv' := [(3, .int y69), (0, .ref co), (1, .ref ld), (2, .int p1)]) hx hb dX2_take_69 hl (k := 3) rfl e69.symm (by decide) rfl (fun ls hl => ?_)
      refine lv_goto (tgt := 20) hx hb dX2_take_72 (by decide) ?_
      exact ih20 y69 g36 g56 g68 _ _ _ (by omega) (ir_w r69 (by decide) (by decide)) (hP.sub [0, 1, 2, 3, 4, 5, 6, 7, 8, 9, 10, 11] rfl) (hD.sub [0, 1, 2, 3, 4, 5, 6, 7, 8, 9, 10, 11] (by decide) rfl) hS (lv_sub hl [1, 2, 3, 0] rfl)
  exact J20 _ 0 co_rule_c co_may_c co_reach_c _ _ _ (Nat.lt_succ_self _) (by decide) (hP.sub [0, 1, 2, 3, 4, 5, 6, 7, 8, 9, 10, 11] rfl) (hD.sub [0, 1, 2, 3, 4, 5, 6, 7, 8, 9, 10, 11] (by decide) rfl) hS (lv_sub hl [1, 2, 3, 0] rfl)
def v_X2_runWhile : List Cond := .code yX2_runWhile cX2_runWhile 15 (some .boolean) :: (([.fieldLink RX2 7 "CardsAtYule$Course" "rule" "[I", .methodLink RX2 60 yX10_returning, .static yX10_returning, .initialized RX10, .fieldLink RX2 39 "CardsAtYule$Course" "begun" "I", .fieldLink RX2 35 "CardsAtYule$Course" "years" "I", .fieldLink RX2 13 "CardsAtYule$Course" "may" "[J", .methodLink RX2 65 yX2_sidesOf, .static yX2_sidesOf, .initialized RX2, .fieldLink RX2 17 "CardsAtYule$Course" "reach" "[J", .methodLink RX2 69 yX10_firsts, .static yX10_firsts, .methodLink RX2 73 yX10_backs, .static yX10_backs, .methodLink RX2 76 yX10_swapped, .static yX10_swapped, .fieldLink RX2 20 "CardsAtYule$Course" "first" "[J", .methodLink RX2 80 yX2_note, .static yX2_note, .fieldLink RX2 23 "CardsAtYule$Course" "back" "[J", .fieldLink RX2 26 "CardsAtYule$Course" "got" "[J", .initialized RX11, .static yX11_isAt, .methodLink RX2 90 yX10_after, .static yX10_after] : List Cond) ++ (v_X10_returning ++ (v_X2_sidesOf ++ (v_X10_firsts ++ (v_X10_backs ++ (v_X10_swapped ++ (v_X2_note ++ (v_X11_isAt ++ (v_X10_after ++ (wsX20 ++ ([] : List Cond)))))))))))
theorem good_v_X2_runWhile : v_X2_runWhile.all goodWord = true := ga_c (by decide +kernel) (ga_a (by decide +kernel) (ga_a good_v_X10_returning (ga_a good_v_X2_sidesOf (ga_a good_v_X10_firsts (ga_a good_v_X10_backs (ga_a good_v_X10_swapped (ga_a good_v_X2_note (ga_a good_v_X11_isAt (ga_a good_v_X10_after (ga_a good_wsX20 rfl))))))))))
set_option maxHeartbeats 4000000 in
set_option maxRecDepth 100000 in
theorem q_X2_runWhile (l : Launch) (g : va_G) (cI cJ cB cZ cL : ClassId) (kA : Nat → Nat) (vA : Nat → Nat) (p0 : Int64) (p1 : Int64) (p2 : Int64) (co : Nat) (co_years : Int32) (co_begun : Int32) (co_rule : Nat) (co_may : Nat) (co_reach : Nat) (co_first : Nat) (co_back : Nat) (co_got : Nat) (co_first_c : Nat → Int64) (co_back_c : Nat → Int64) (co_got_c : Nat → Int64) (co_rule_c : Nat → Int32) (co_may_c : Nat → Int64) (co_reach_c : Nat → Int64) (sz : Nat)  : Met l yX2_runWhile v_X2_runWhile ({ frames := 1, cells := 0, slots := 0, locals := 24 }) (va_Pc [.ref co, .long p0, .long p1, .long p2] (eRW g (tyT cI cJ cB cZ cL) [(co, .inr (2, [.int co_years, .int co_begun, .ref co_rule, .ref co_may, .ref co_reach, .ref co_first, .ref co_back, .ref co_got])), (co_first, .inl (cJ, 2, .inr (.inl co_first_c))), (co_back, .inl (cJ, 2, .inr (.inl co_back_c))), (co_got, .inl (cJ, 2, .inr (.inl co_got_c))), (co_rule, .inl (cI, 2, .inl co_rule_c)), (co_may, .inl (cJ, 2, .inr (.inl co_may_c))), (co_reach, .inl (cJ, 2, .inr (.inl co_reach_c)))] sz kA vA)) (va_Qi (fun (r : Int32) (u : (Nat → Int64) × (Nat → Int64) × (Nat → Int64)) => match u with | (n_co_first_c, n_co_back_c, n_co_got_c) => (ir r.toInt 0 1)) (fun (u : (Nat → Int64) × (Nat → Int64) × (Nat → Int64)) (t : State) => bRW g (tyT cI cJ cB cZ cL) (va_A [(co, .inr (2, [.int co_years, .int co_begun, .ref co_rule, .ref co_may, .ref co_reach, .ref co_first, .ref co_back, .ref co_got])), (co_first, .inl (cJ, 2, .inr (.inl co_first_c))), (co_back, .inl (cJ, 2, .inr (.inl co_back_c))), (co_got, .inl (cJ, 2, .inr (.inl co_got_c))), (co_rule, .inl (cI, 2, .inl co_rule_c)), (co_may, .inl (cJ, 2, .inr (.inl co_may_c))), (co_reach, .inl (cJ, 2, .inr (.inl co_reach_c)))] sz) (match u with | (n_co_first_c, n_co_back_c, n_co_got_c) => [(co, .inr (2, [.int co_years, .int co_begun, .ref co_rule, .ref co_may, .ref co_reach, .ref co_first, .ref co_back, .ref co_got])), (co_first, .inl (cJ, 2, .inr (.inl n_co_first_c))), (co_back, .inl (cJ, 2, .inr (.inl n_co_back_c))), (co_got, .inl (cJ, 2, .inr (.inl n_co_got_c))), (co_rule, .inl (cI, 2, .inl co_rule_c)), (co_may, .inl (cJ, 2, .inr (.inl co_may_c))), (co_reach, .inl (cJ, 2, .inr (.inl co_reach_c)))]) t) (va_A [(co, .inr (2, [.int co_years, .int co_begun, .ref co_rule, .ref co_may, .ref co_reach, .ref co_first, .ref co_back, .ref co_got])), (co_first, .inl (cJ, 2, .inr (.inl co_first_c))), (co_back, .inl (cJ, 2, .inr (.inl co_back_c))), (co_got, .inl (cJ, 2, .inr (.inl co_got_c))), (co_rule, .inl (cI, 2, .inl co_rule_c)), (co_may, .inl (cJ, 2, .inr (.inl co_may_c))), (co_reach, .inl (cJ, 2, .inr (.inl co_reach_c)))] sz)) 0 0 (va_A [(co, .inr (2, [.int co_years, .int co_begun, .ref co_rule, .ref co_may, .ref co_reach, .ref co_first, .ref co_back, .ref co_got])), (co_first, .inl (cJ, 2, .inr (.inl co_first_c))), (co_back, .inl (cJ, 2, .inr (.inl co_back_c))), (co_got, .inl (cJ, 2, .inr (.inl co_got_c))), (co_rule, .inl (cI, 2, .inl co_rule_c)), (co_may, .inl (cJ, 2, .inr (.inl co_may_c))), (co_reach, .inl (cJ, 2, .inr (.inl co_reach_c)))] sz) := by
  refine Met.ofW (cc := cX2_runWhile) (maxL := 15) (ret := (some .boolean)) (by decide) rfl ?_
  intro p e s m args below meth c s₁ B hml hv
  obtain ⟨rfl, ⟨hsz, hP, hK, hD0⟩, hE⟩ := hv
  have hx := B.exec
  have hb := B.bytes
  have hr := B.returns
  have hts := atoms_spec (ws := v_X2_runWhile) B.pre
  have hown : s.vm.findClass RX2 = some m.cls := findClass_of_methodNamed B.named
  have hlocks := B.notSynchronized
  clear B
  subst hsz
  have iX2 : ∀ w ∈ wsX20, w ∈ v_X2_runWhile := (fun _ h => List.mem_cons_of_mem _ (List.mem_append_right _ (List.mem_append_right _ (List.mem_append_right _ (List.mem_append_right _ (List.mem_append_right _ (List.mem_append_right _ (List.mem_append_right _ (List.mem_append_right _ (List.mem_append_right _ (List.mem_append_left _ h)))))))))))
  have hD := hD0.self (sz := s.heap.size)
  generalize hAe : (va_A [(co, .inr (2, [.int co_years, .int co_begun, .ref co_rule, .ref co_may, .ref co_reach, .ref co_first, .ref co_back, .ref co_got])), (co_first, .inl (cJ, 2, .inr (.inl co_first_c))), (co_back, .inl (cJ, 2, .inr (.inl co_back_c))), (co_got, .inl (cJ, 2, .inr (.inl co_got_c))), (co_rule, .inl (cI, 2, .inl co_rule_c)), (co_may, .inl (cJ, 2, .inr (.inl co_may_c))), (co_reach, .inl (cJ, 2, .inr (.inl co_reach_c)))] s.heap.size) = A at hD hE ⊢
  have hA : ∀ q : Nat, s.heap.size ≤ q → A q := fun q h => by rw [← hAe]; exact Or.inr h
  have hS : va_S A s.heap s.heap [] := va_S.rf
  have hl := lv_entry ([.ref co, .long p0, .long p1, .long p2]) (n := 15) (Nat.le_of_ble_eq_true rfl)
  rw [lg_entry_eq]
  generalize (lg_sl ([.ref co, .long p0, .long p1, .long p2]) ++ List.replicate (15 - (lg_sl ([.ref co, .long p0, .long p1, .long p2])).length) Slot.unset).toArray = ls at hl ⊢
  generalize ([.ref co, .long p0, .long p1, .long p2] : List Value).toArray = av at hts ⊢
  generalize hQ : MQ below _ av s _ _ A = QQ
  have hl : lv_has ls 15 [(0, .ref co), (1, .long p0), (3, .long p1), (5, .long p2)] := hl
  have hP : va_P g vwCl [(co, .inr (2, [.int co_years, .int co_begun, .ref co_rule, .ref co_may, .ref co_reach, .ref co_first, .ref co_back, .ref co_got])), (co_first, .inl (cJ, 2, .inr (.inl co_first_c))), (co_back, .inl (cJ, 2, .inr (.inl co_back_c))), (co_got, .inl (cJ, 2, .inr (.inl co_got_c))), (co_rule, .inl (cI, 2, .inl co_rule_c)), (co_may, .inl (cJ, 2, .inr (.inl co_may_c))), (co_reach, .inl (cJ, 2, .inr (.inl co_reach_c)))] s.heap := hP
  refine lv_iconst (v := 0) hx hb dX2_runWhile_0 (by decide) ?_
  refine lv_istore (lv' := [(7, .int 0), (0, .ref co), (1, .long p0), (3, .long p1), (5, .long p2)]) hx hb dX2_runWhile_1 hl (by decide) rfl (fun ls hl => ?_)
  have J3 : ∀ (n3 : Nat) (j3_l7 : Int32) (j3_co_first_c : Nat → Int64) (j3_co_back_c : Nat → Int64) (j3_co_got_c : Nat → Int64) (H : Heap) (locs : List Loc) (ls : Array Slot), (3 - j3_l7.toInt).toNat < n3 → (ir j3_l7.toInt 0 2) → va_P g vwCl [(co, .inr (2, [.int co_years, .int co_begun, .ref co_rule, .ref co_may, .ref co_reach, .ref co_first, .ref co_back, .ref co_got])), (co_first, .inl (cJ, 2, .inr (.inl j3_co_first_c))), (co_back, .inl (cJ, 2, .inr (.inl j3_co_back_c))), (co_got, .inl (cJ, 2, .inr (.inl j3_co_got_c))), (co_rule, .inl (cI, 2, .inl co_rule_c)), (co_may, .inl (cJ, 2, .inr (.inl co_may_c))), (co_reach, .inl (cJ, 2, .inr (.inl co_reach_c)))] H → va_D A [(co, .inr (2, [.int co_years, .int co_begun, .ref co_rule, .ref co_may, .ref co_reach, .ref co_first, .ref co_back, .ref co_got])), (co_first, .inl (cJ, 2, .inr (.inl j3_co_first_c))), (co_back, .inl (cJ, 2, .inr (.inl j3_co_back_c))), (co_got, .inl (cJ, 2, .inr (.inl j3_co_got_c))), (co_rule, .inl (cI, 2, .inl co_rule_c)), (co_may, .inl (cJ, 2, .inr (.inl co_may_c))), (co_reach, .inl (cJ, 2, .inr (.inl co_reach_c)))] → va_S A s.heap H locs → lv_has ls 15 [(0, .ref co), (1, .long p0), (3, .long p1), (5, .long p2), (7, .int j3_l7)] → W p l e (headSpec v_X2_runWhile ({ frames := 1, cells := 0, slots := 0, locals := 24 })).room s m av below meth c H locs 0 0 QQ (F0 m 3 ls []) := by
    intro n3
    induction n3 with
    | zero => exact fun j3_l7 j3_co_first_c j3_co_back_c j3_co_got_c H locs ls hn => absurd hn (Nat.not_lt_zero _)
    | succ n3 ih3 =>
      intro j3_l7 j3_co_first_c j3_co_back_c j3_co_got_c H locs ls hn3 hj3_l7 hP hD hS hl
      refine lv_iload hx hb dX2_runWhile_3 (lv_at hl 4 rfl) ?_
      refine lv_iconst (v := 2) hx hb dX2_runWhile_5 (by decide) ?_
      refine lv_icmp_ge (tgt := 39) hx hb dX2_runWhile_6 (by decide) (fun c6 => ?_) (fun c6 => ?_)
      rotate_left 1
      · have f6 := (show j3_l7.toInt < 2 from z_nle rfl rfl c6)
        have r6a : ir j3_l7.toInt 0 1 := ir_lta f6 hj3_l7 (ir_c 2) (by decide)
        refine lv_aload_n hx hb dX2_runWhile_9 rfl (lv_at hl 0 rfl) ?_
        refine va_get (D := g) (ci := 2) (v := .ref co_first) (C := RX2) (T := TX2) (N := 8) hx hb hts iX2 hown hK hP 0 rfl rfl 5 (by decide) (hts (.fieldLink RX2 20 "CardsAtYule$Course" "first" "[J") (List.mem_cons_of_mem _ (List.mem_append_left _ (List.mem_of_getElem? (i := 17) rfl)))) (fun _ h9 => h9) rfl dX2_runWhile_10 ?_
        refine lv_iload hx hb dX2_runWhile_13 (lv_at hl 4 rfl) ?_
        refine lv_lconst (v := 0) hx hb dX2_runWhile_15 (by decide) ?_
        refine va_last (D := g) hx hb hK hP hD hS 1 1 rfl rfl (vi_rg rfl r6a (by decide) (by decide)) dX2_runWhile_16 (fun H locs hP hD hS => ?_)
        obtain ⟨g16, e16⟩ : ∃ z, z = vp_updL j3_co_first_c j3_l7.toNatClampNeg (0 : Int64) := ⟨_, rfl⟩
        have hP : va_P g vwCl [(co, .inr (2, [.int co_years, .int co_begun, .ref co_rule, .ref co_may, .ref co_reach, .ref co_first, .ref co_back, .ref co_got])), (co_first, .inl (cJ, 2, .inr (.inl (vp_updL j3_co_first_c j3_l7.toNatClampNeg (0 : Int64))))), (co_back, .inl (cJ, 2, .inr (.inl j3_co_back_c))), (co_got, .inl (cJ, 2, .inr (.inl j3_co_got_c))), (co_rule, .inl (cI, 2, .inl co_rule_c)), (co_may, .inl (cJ, 2, .inr (.inl co_may_c))), (co_reach, .inl (cJ, 2, .inr (.inl co_reach_c)))] H := hP
        have hD : va_D A [(co, .inr (2, [.int co_years, .int co_begun, .ref co_rule, .ref co_may, .ref co_reach, .ref co_first, .ref co_back, .ref co_got])), (co_first, .inl (cJ, 2, .inr (.inl (vp_updL j3_co_first_c j3_l7.toNatClampNeg (0 : Int64))))), (co_back, .inl (cJ, 2, .inr (.inl j3_co_back_c))), (co_got, .inl (cJ, 2, .inr (.inl j3_co_got_c))), (co_rule, .inl (cI, 2, .inl co_rule_c)), (co_may, .inl (cJ, 2, .inr (.inl co_may_c))), (co_reach, .inl (cJ, 2, .inr (.inl co_reach_c)))] := hD
        rw [← e16] at hP hD
        refine lv_aload_n hx hb dX2_runWhile_17 rfl (lv_at hl 0 rfl) ?_
        refine va_get (D := g) (ci := 2) (v := .ref co_back) (C := RX2) (T := TX2) (N := 8) hx hb hts iX2 hown hK hP 0 rfl rfl 6 (by decide) (hts (.fieldLink RX2 23 "CardsAtYule$Course" "back" "[J") (List.mem_cons_of_mem _ (List.mem_append_left _ (List.mem_of_getElem? (i := 20) rfl)))) (fun _ h9 => h9) rfl dX2_runWhile_18 ?_
        refine lv_iload hx hb dX2_runWhile_21 (lv_at hl 4 rfl) ?_
        refine lv_lconst (v := 0) hx hb dX2_runWhile_23 (by decide) ?_
        refine va_last (D := g) hx hb hK hP hD hS 2 1 rfl rfl (vi_rg rfl r6a (by decide) (by decide)) dX2_runWhile_24 (fun H locs hP hD hS => ?_)
        obtain ⟨g24, e24⟩ : ∃ z, z = vp_updL j3_co_back_c j3_l7.toNatClampNeg (0 : Int64) := ⟨_, rfl⟩
        have hP : va_P g vwCl [(co, .inr (2, [.int co_years, .int co_begun, .ref co_rule, .ref co_may, .ref co_reach, .ref co_first, .ref co_back, .ref co_got])), (co_first, .inl (cJ, 2, .inr (.inl g16))), (co_back, .inl (cJ, 2, .inr (.inl (vp_updL j3_co_back_c j3_l7.toNatClampNeg (0 : Int64))))), (co_got, .inl (cJ, 2, .inr (.inl j3_co_got_c))), (co_rule, .inl (cI, 2, .inl co_rule_c)), (co_may, .inl (cJ, 2, .inr (.inl co_may_c))), (co_reach, .inl (cJ, 2, .inr (.inl co_reach_c)))] H := hP
        have hD : va_D A [(co, .inr (2, [.int co_years, .int co_begun, .ref co_rule, .ref co_may, .ref co_reach, .ref co_first, .ref co_back, .ref co_got])), (co_first, .inl (cJ, 2, .inr (.inl g16))), (co_back, .inl (cJ, 2, .inr (.inl (vp_updL j3_co_back_c j3_l7.toNatClampNeg (0 : Int64))))), (co_got, .inl (cJ, 2, .inr (.inl j3_co_got_c))), (co_rule, .inl (cI, 2, .inl co_rule_c)), (co_may, .inl (cJ, 2, .inr (.inl co_may_c))), (co_reach, .inl (cJ, 2, .inr (.inl co_reach_c)))] := hD
        rw [← e24] at hP hD
        refine lv_aload_n hx hb dX2_runWhile_25 rfl (lv_at hl 0 rfl) ?_
        refine va_get (D := g) (ci := 2) (v := .ref co_got) (C := RX2) (T := TX2) (N := 8) hx hb hts iX2 hown hK hP 0 rfl rfl 7 (by decide) (hts (.fieldLink RX2 26 "CardsAtYule$Course" "got" "[J") (List.mem_cons_of_mem _ (List.mem_append_left _ (List.mem_of_getElem? (i := 21) rfl)))) (fun _ h9 => h9) rfl dX2_runWhile_26 ?_
        refine lv_iload hx hb dX2_runWhile_29 (lv_at hl 4 rfl) ?_
        refine lv_lconst (v := 0) hx hb dX2_runWhile_31 (by decide) ?_
        refine va_last (D := g) hx hb hK hP hD hS 3 1 rfl rfl (vi_rg rfl r6a (by decide) (by decide)) dX2_runWhile_32 (fun H locs hP hD hS => ?_)
        obtain ⟨g32, e32⟩ : ∃ z, z = vp_updL j3_co_got_c j3_l7.toNatClampNeg (0 : Int64) := ⟨_, rfl⟩
        have hP : va_P g vwCl [(co, .inr (2, [.int co_years, .int co_begun, .ref co_rule, .ref co_may, .ref co_reach, .ref co_first, .ref co_back, .ref co_got])), (co_first, .inl (cJ, 2, .inr (.inl g16))), (co_back, .inl (cJ, 2, .inr (.inl g24))), (co_got, .inl (cJ, 2, .inr (.inl (vp_updL j3_co_got_c j3_l7.toNatClampNeg (0 : Int64))))), (co_rule, .inl (cI, 2, .inl co_rule_c)), (co_may, .inl (cJ, 2, .inr (.inl co_may_c))), (co_reach, .inl (cJ, 2, .inr (.inl co_reach_c)))] H := hP
        have hD : va_D A [(co, .inr (2, [.int co_years, .int co_begun, .ref co_rule, .ref co_may, .ref co_reach, .ref co_first, .ref co_back, .ref co_got])), (co_first, .inl (cJ, 2, .inr (.inl g16))), (co_back, .inl (cJ, 2, .inr (.inl g24))), (co_got, .inl (cJ, 2, .inr (.inl (vp_updL j3_co_got_c j3_l7.toNatClampNeg (0 : Int64))))), (co_rule, .inl (cI, 2, .inl co_rule_c)), (co_may, .inl (cJ, 2, .inr (.inl co_may_c))), (co_reach, .inl (cJ, 2, .inr (.inl co_reach_c)))] := hD
        rw [← e32] at hP hD
        obtain ⟨y33, e33⟩ : ∃ y : Int32, y = j3_l7 + 1 := ⟨_, rfl⟩
        have q33 : y33.toInt = j3_l7.toInt + 1 := by rw [e33]; exact ad_z rfl rfl r6a (ir_c 1) (by decide) (by decide)
        have r33 : ir y33.toInt 1 2 := ad_r q33 r6a (ir_c 1) (by decide) (by decide)
        refine lv_iinc (v := y33) (lv' := [(7, .int y33), (0, .ref co), (1, .long p0), (3, .long p1), (5, .long p2)]) hx hb dX2_runWhile_33 hl (k := 4) rfl e33.symm (by decide) rfl (fun ls hl => ?_)
        refine lv_goto (tgt := 3) hx hb dX2_runWhile_36 (by decide) ?_
        exact ih3 y33 g16 g24 g32 _ _ _ (by omega) (ir_w r33 (by decide) (by decide)) (hP.sub [0, 1, 2, 3, 4, 5, 6] rfl) (hD.sub [0, 1, 2, 3, 4, 5, 6] (by decide) rfl) hS (lv_sub hl [1, 2, 3, 4, 0] rfl)
      have f6 := (show 2 ≤ j3_l7.toInt from z_le rfl rfl c6)
      have r6a : ir j3_l7.toInt 2 2 := ir_leb f6 (ir_c 2) hj3_l7 (by decide)
      refine lv_aload_n hx hb dX2_runWhile_39 rfl (lv_at hl 0 rfl) ?_
      refine va_get (D := g) (ci := 2) (v := .ref co_rule) (C := RX2) (T := TX2) (N := 8) hx hb hts iX2 hown hK hP 0 rfl rfl 2 (by decide) (hts (.fieldLink RX2 7 "CardsAtYule$Course" "rule" "[I") (List.mem_cons_of_mem _ (List.mem_append_left _ (List.mem_of_getElem? (i := 0) rfl)))) (fun _ h9 => h9) rfl dX2_runWhile_40 ?_
      refine lv_iconst (v := 0) hx hb dX2_runWhile_43 (by decide) ?_
      refine va_iald (D := g) hx hb hK hP 4 0 rfl rfl (vc_in (by decide)) dX2_runWhile_44 ?_
      refine lv_topi (nm_r (e' := (co_rule_c 0)) rfl ?_)
      refine lv_aload_n hx hb dX2_runWhile_45 rfl (lv_at hl 0 rfl) ?_
      refine va_get (D := g) (ci := 2) (v := .ref co_rule) (C := RX2) (T := TX2) (N := 8) hx hb hts iX2 hown hK hP 0 rfl rfl 2 (by decide) (hts (.fieldLink RX2 7 "CardsAtYule$Course" "rule" "[I") (List.mem_cons_of_mem _ (List.mem_append_left _ (List.mem_of_getElem? (i := 0) rfl)))) (fun _ h9 => h9) rfl dX2_runWhile_46 ?_
      refine lv_iconst (v := 1) hx hb dX2_runWhile_49 (by decide) ?_
      refine va_iald (D := g) hx hb hK hP 4 0 rfl rfl (vc_in (by decide)) dX2_runWhile_50 ?_
      refine lv_topi (nm_r (e' := (co_rule_c 1)) rfl ?_)
      refine ro_i (va_runS (As := [.int (co_rule_c 0), .int (co_rule_c 1)]) (rest := []) ⟨hx, hb, hml, hown, hts⟩ (q_X10_returning l g cI cJ cB cZ cL (co_rule_c 0) (co_rule_c 1) H.size ) (va_cwS 2 hts (goodIn_app (g_3 (List.mem_cons_of_mem _ (List.mem_append_left _ (List.mem_of_getElem? (i := 1) rfl))) (List.mem_cons_of_mem _ (List.mem_append_left _ (List.mem_of_getElem? (i := 2) rfl))) (List.mem_cons_of_mem _ (List.mem_append_left _ (List.mem_of_getElem? (i := 3) rfl))) (by decide +kernel)) (goodIn_sub (fun _ h => List.mem_cons_of_mem _ (List.mem_append_right _ (List.mem_append_left _ h))) good_v_X10_returning)) rfl rfl rfl (by decide +kernel) ⟨Nat.le_of_ble_eq_true rfl, Nat.le_of_ble_eq_true rfl⟩) (ps_RO (wc := []) hK hP [] rfl) rfl rfl hl.1 rfl (lv_room (Nat.le_of_ble_eq_true rfl)) dX2_runWhile_51 ⟨Nat.le_of_ble_eq_true rfl, Nat.le_of_ble_eq_true rfl⟩) hS hA hP (fun r51 u51 H locs hw51 hP hS => ?_)
      have hw51_0 := hw51
      refine lv_istore (lv' := [(7, .int r51), (0, .ref co), (1, .long p0), (3, .long p1), (5, .long p2)]) hx hb dX2_runWhile_54 hl (by decide) rfl (fun ls hl => ?_)
      refine lv_aload_n hx hb dX2_runWhile_56 rfl (lv_at hl 1 rfl) ?_
      refine va_get (D := g) (ci := 2) (v := .int co_begun) (C := RX2) (T := TX2) (N := 8) hx hb hts iX2 hown hK hP 0 rfl rfl 1 (by decide) (hts (.fieldLink RX2 39 "CardsAtYule$Course" "begun" "I") (List.mem_cons_of_mem _ (List.mem_append_left _ (List.mem_of_getElem? (i := 4) rfl)))) (fun _ h9 => h9) rfl dX2_runWhile_57 ?_
      refine lv_istore (lv' := [(8, .int co_begun), (7, .int r51), (0, .ref co), (1, .long p0), (3, .long p1), (5, .long p2)]) hx hb dX2_runWhile_60 hl (by decide) rfl (fun ls hl => ?_)
      refine lv_iconst (v := 0) hx hb dX2_runWhile_62 (by decide) ?_
      refine lv_istore (lv' := [(9, .int 0), (8, .int co_begun), (7, .int r51), (0, .ref co), (1, .long p0), (3, .long p1), (5, .long p2)]) hx hb dX2_runWhile_63 hl (by decide) rfl (fun ls hl => ?_)
      have J65 : ∀ (n65 : Nat) (j65_l8 : Int32) (j65_l9 : Int32) (j65_co_first_c : Nat → Int64) (j65_co_back_c : Nat → Int64) (j65_co_got_c : Nat → Int64) (H : Heap) (locs : List Loc) (ls : Array Slot), (2147483648 - j65_l9.toInt).toNat < n65 → (ir j65_l9.toInt 0 2147483647) → va_P g vwCl [(co, .inr (2, [.int co_years, .int co_begun, .ref co_rule, .ref co_may, .ref co_reach, .ref co_first, .ref co_back, .ref co_got])), (co_first, .inl (cJ, 2, .inr (.inl j65_co_first_c))), (co_back, .inl (cJ, 2, .inr (.inl j65_co_back_c))), (co_got, .inl (cJ, 2, .inr (.inl j65_co_got_c))), (co_rule, .inl (cI, 2, .inl co_rule_c)), (co_may, .inl (cJ, 2, .inr (.inl co_may_c))), (co_reach, .inl (cJ, 2, .inr (.inl co_reach_c)))] H → va_D A [(co, .inr (2, [.int co_years, .int co_begun, .ref co_rule, .ref co_may, .ref co_reach, .ref co_first, .ref co_back, .ref co_got])), (co_first, .inl (cJ, 2, .inr (.inl j65_co_first_c))), (co_back, .inl (cJ, 2, .inr (.inl j65_co_back_c))), (co_got, .inl (cJ, 2, .inr (.inl j65_co_got_c))), (co_rule, .inl (cI, 2, .inl co_rule_c)), (co_may, .inl (cJ, 2, .inr (.inl co_may_c))), (co_reach, .inl (cJ, 2, .inr (.inl co_reach_c)))] → va_S A s.heap H locs → lv_has ls 15 [(0, .ref co), (1, .long p0), (3, .long p1), (5, .long p2), (7, .int r51), (8, .int j65_l8), (9, .int j65_l9)] → W p l e (headSpec v_X2_runWhile ({ frames := 1, cells := 0, slots := 0, locals := 24 })).room s m av below meth c H locs 0 0 QQ (F0 m 65 ls []) := by
        intro n65
        induction n65 with
        | zero => exact fun j65_l8 j65_l9 j65_co_first_c j65_co_back_c j65_co_got_c H locs ls hn => absurd hn (Nat.not_lt_zero _)
        | succ n65 ih65 =>
          intro j65_l8 j65_l9 j65_co_first_c j65_co_back_c j65_co_got_c H locs ls hn65 hj65_l9 hP hD hS hl
          refine lv_iload hx hb dX2_runWhile_65 (lv_at hl 6 rfl) ?_
          refine lv_aload_n hx hb dX2_runWhile_67 rfl (lv_at hl 0 rfl) ?_
          refine va_get (D := g) (ci := 2) (v := .int co_years) (C := RX2) (T := TX2) (N := 8) hx hb hts iX2 hown hK hP 0 rfl rfl 0 (by decide) (hts (.fieldLink RX2 35 "CardsAtYule$Course" "years" "I") (List.mem_cons_of_mem _ (List.mem_append_left _ (List.mem_of_getElem? (i := 5) rfl)))) (fun _ h9 => h9) rfl dX2_runWhile_68 ?_
          refine lv_icmp_ge (tgt := 233) hx hb dX2_runWhile_71 (by decide) (fun c71 => ?_) (fun c71 => ?_)
          · have f71 := (show co_years.toInt ≤ j65_l9.toInt from z_le rfl rfl c71)
            refine lv_iconst (v := 1) hx hb dX2_runWhile_233 (by decide) ?_
            subst hQ
            have hP9 := hP.sub (ws' := [(co, .inr (2, [.int co_years, .int co_begun, .ref co_rule, .ref co_may, .ref co_reach, .ref co_first, .ref co_back, .ref co_got])), (co_first, .inl (cJ, 2, .inr (.inl j65_co_first_c))), (co_back, .inl (cJ, 2, .inr (.inl j65_co_back_c))), (co_got, .inl (cJ, 2, .inr (.inl j65_co_got_c))), (co_rule, .inl (cI, 2, .inl co_rule_c)), (co_may, .inl (cJ, 2, .inr (.inl co_may_c))), (co_reach, .inl (cJ, 2, .inr (.inl co_reach_c)))]) [0, 1, 2, 3, 4, 5, 6] rfl
            have hD9 := hD.sub (ws' := [(co, .inr (2, [.int co_years, .int co_begun, .ref co_rule, .ref co_may, .ref co_reach, .ref co_first, .ref co_back, .ref co_got])), (co_first, .inl (cJ, 2, .inr (.inl j65_co_first_c))), (co_back, .inl (cJ, 2, .inr (.inl j65_co_back_c))), (co_got, .inl (cJ, 2, .inr (.inl j65_co_got_c))), (co_rule, .inl (cI, 2, .inl co_rule_c)), (co_may, .inl (cJ, 2, .inr (.inl co_may_c))), (co_reach, .inl (cJ, 2, .inr (.inl co_reach_c)))]) [0, 1, 2, 3, 4, 5, 6] (by decide) rfl
            exact W.zret (v := 1) hx hb hr rfl (fun t ht hW => ⟨⟨1, (j65_co_first_c, j65_co_back_c, j65_co_got_c), rfl, (show ir (1 : Int32).toInt 0 1 by decide), ⟨by rw [ht]; exact hP9, va_K.moved hW.alike hK, hD9⟩⟩, hS.F ht⟩) hS.2.2 dX2_runWhile_234
          have f71 := (show j65_l9.toInt < co_years.toInt from z_nle rfl rfl c71)
          have r71a : ir j65_l9.toInt 0 2147483646 := ir_lta f71 hj65_l9 (rg_all co_years) (by decide)
          have r71b : ir co_years.toInt 1 2147483647 := ir_ltb f71 hj65_l9 (rg_all co_years) (by decide)
          refine lv_aload_n hx hb dX2_runWhile_74 rfl (lv_at hl 0 rfl) ?_
          refine va_get (D := g) (ci := 2) (v := .ref co_may) (C := RX2) (T := TX2) (N := 8) hx hb hts iX2 hown hK hP 0 rfl rfl 3 (by decide) (hts (.fieldLink RX2 13 "CardsAtYule$Course" "may" "[J") (List.mem_cons_of_mem _ (List.mem_append_left _ (List.mem_of_getElem? (i := 6) rfl)))) (fun _ h9 => h9) rfl dX2_runWhile_75 ?_
          refine lv_iconst (v := 0) hx hb dX2_runWhile_78 (by decide) ?_
          refine va_lald (D := g) hx hb hK hP 5 1 rfl rfl (vc_in (by decide)) dX2_runWhile_79 ?_
          refine lv_topl (nm_r (e' := (co_may_c 0)) rfl ?_)
          refine lv_aload_n hx hb dX2_runWhile_80 rfl (lv_at hl 0 rfl) ?_
          refine va_get (D := g) (ci := 2) (v := .ref co_may) (C := RX2) (T := TX2) (N := 8) hx hb hts iX2 hown hK hP 0 rfl rfl 3 (by decide) (hts (.fieldLink RX2 13 "CardsAtYule$Course" "may" "[J") (List.mem_cons_of_mem _ (List.mem_append_left _ (List.mem_of_getElem? (i := 6) rfl)))) (fun _ h9 => h9) rfl dX2_runWhile_81 ?_
          refine lv_iconst (v := 1) hx hb dX2_runWhile_84 (by decide) ?_
          refine va_lald (D := g) hx hb hK hP 5 1 rfl rfl (vc_in (by decide)) dX2_runWhile_85 ?_
          refine lv_topl (nm_r (e' := (co_may_c 1)) rfl ?_)
          refine lv_iload hx hb dX2_runWhile_86 (lv_at hl 6 rfl) ?_
          refine ro_i (va_runS (As := [.long (co_may_c 0), .long (co_may_c 1), .int j65_l9]) (rest := []) ⟨hx, hb, hml, hown, hts⟩ (q_X2_sidesOf l g cI cJ cB cZ cL (co_may_c 0) (co_may_c 1) j65_l9 H.size ) (va_cwS 3 hts (goodIn_app (g_3 (List.mem_cons_of_mem _ (List.mem_append_left _ (List.mem_of_getElem? (i := 7) rfl))) (List.mem_cons_of_mem _ (List.mem_append_left _ (List.mem_of_getElem? (i := 8) rfl))) (List.mem_cons_of_mem _ (List.mem_append_left _ (List.mem_of_getElem? (i := 9) rfl))) (by decide +kernel)) (goodIn_sub (fun _ h => List.mem_cons_of_mem _ (List.mem_append_right _ (List.mem_append_right _ (List.mem_append_left _ h)))) good_v_X2_sidesOf)) rfl rfl rfl (by decide +kernel) ⟨Nat.le_of_ble_eq_true rfl, Nat.le_of_ble_eq_true rfl⟩) (ps_RO (wc := []) hK hP [] rfl) rfl rfl hl.1 rfl (lv_room (Nat.le_of_ble_eq_true rfl)) dX2_runWhile_88 ⟨Nat.le_of_ble_eq_true rfl, Nat.le_of_ble_eq_true rfl⟩) hS hA hP (fun r88 u88 H locs hw88 hP hS => ?_)
          have hw88_0 := hw88
          refine lv_istore (lv' := [(10, .int r88), (0, .ref co), (1, .long p0), (3, .long p1), (5, .long p2), (7, .int r51), (8, .int j65_l8), (9, .int j65_l9)]) hx hb dX2_runWhile_91 hl (by decide) rfl (fun ls hl => ?_)
          refine lv_aload_n hx hb dX2_runWhile_93 rfl (lv_at hl 1 rfl) ?_
          refine va_get (D := g) (ci := 2) (v := .ref co_reach) (C := RX2) (T := TX2) (N := 8) hx hb hts iX2 hown hK hP 0 rfl rfl 4 (by decide) (hts (.fieldLink RX2 17 "CardsAtYule$Course" "reach" "[J") (List.mem_cons_of_mem _ (List.mem_append_left _ (List.mem_of_getElem? (i := 10) rfl)))) (fun _ h9 => h9) rfl dX2_runWhile_94 ?_
          refine lv_iconst (v := 0) hx hb dX2_runWhile_97 (by decide) ?_
          refine va_lald (D := g) hx hb hK hP 6 1 rfl rfl (vc_in (by decide)) dX2_runWhile_98 ?_
          refine lv_topl (nm_r (e' := (co_reach_c 0)) rfl ?_)
          refine lv_aload_n hx hb dX2_runWhile_99 rfl (lv_at hl 1 rfl) ?_
          refine va_get (D := g) (ci := 2) (v := .ref co_reach) (C := RX2) (T := TX2) (N := 8) hx hb hts iX2 hown hK hP 0 rfl rfl 4 (by decide) (hts (.fieldLink RX2 17 "CardsAtYule$Course" "reach" "[J") (List.mem_cons_of_mem _ (List.mem_append_left _ (List.mem_of_getElem? (i := 10) rfl)))) (fun _ h9 => h9) rfl dX2_runWhile_100 ?_
          refine lv_iconst (v := 1) hx hb dX2_runWhile_103 (by decide) ?_
          refine va_lald (D := g) hx hb hK hP 6 1 rfl rfl (vc_in (by decide)) dX2_runWhile_104 ?_
          refine lv_topl (nm_r (e' := (co_reach_c 1)) rfl ?_)
          refine lv_iload hx hb dX2_runWhile_105 (lv_at hl 7 rfl) ?_
          refine ro_i (va_runS (As := [.long (co_reach_c 0), .long (co_reach_c 1), .int j65_l9]) (rest := []) ⟨hx, hb, hml, hown, hts⟩ (q_X2_sidesOf l g cI cJ cB cZ cL (co_reach_c 0) (co_reach_c 1) j65_l9 H.size ) (va_cwS 3 hts (goodIn_app (g_3 (List.mem_cons_of_mem _ (List.mem_append_left _ (List.mem_of_getElem? (i := 7) rfl))) (List.mem_cons_of_mem _ (List.mem_append_left _ (List.mem_of_getElem? (i := 8) rfl))) (List.mem_cons_of_mem _ (List.mem_append_left _ (List.mem_of_getElem? (i := 9) rfl))) (by decide +kernel)) (goodIn_sub (fun _ h => List.mem_cons_of_mem _ (List.mem_append_right _ (List.mem_append_right _ (List.mem_append_left _ h)))) good_v_X2_sidesOf)) rfl rfl rfl (by decide +kernel) ⟨Nat.le_of_ble_eq_true rfl, Nat.le_of_ble_eq_true rfl⟩) (ps_RO (wc := []) hK hP [] rfl) rfl rfl hl.1 rfl (lv_room (Nat.le_of_ble_eq_true rfl)) dX2_runWhile_107 ⟨Nat.le_of_ble_eq_true rfl, Nat.le_of_ble_eq_true rfl⟩) hS hA hP (fun r107 u107 H locs hw107 hP hS => ?_)
          have hw107_0 := hw107
          refine lv_istore (lv' := [(11, .int r107), (10, .int r88), (0, .ref co), (1, .long p0), (3, .long p1), (5, .long p2), (7, .int r51), (8, .int j65_l8), (9, .int j65_l9)]) hx hb dX2_runWhile_110 hl (by decide) rfl (fun ls hl => ?_)
          refine lv_aload_n hx hb dX2_runWhile_112 rfl (lv_at hl 2 rfl) ?_
          refine va_get (D := g) (ci := 2) (v := .ref co_rule) (C := RX2) (T := TX2) (N := 8) hx hb hts iX2 hown hK hP 0 rfl rfl 2 (by decide) (hts (.fieldLink RX2 7 "CardsAtYule$Course" "rule" "[I") (List.mem_cons_of_mem _ (List.mem_append_left _ (List.mem_of_getElem? (i := 0) rfl)))) (fun _ h9 => h9) rfl dX2_runWhile_113 ?_
          refine lv_iconst (v := 0) hx hb dX2_runWhile_116 (by decide) ?_
          refine va_iald (D := g) hx hb hK hP 4 0 rfl rfl (vc_in (by decide)) dX2_runWhile_117 ?_
          refine lv_topi (nm_r (e' := (co_rule_c 0)) rfl ?_)
          refine lv_aload_n hx hb dX2_runWhile_118 rfl (lv_at hl 2 rfl) ?_
          refine va_get (D := g) (ci := 2) (v := .ref co_rule) (C := RX2) (T := TX2) (N := 8) hx hb hts iX2 hown hK hP 0 rfl rfl 2 (by decide) (hts (.fieldLink RX2 7 "CardsAtYule$Course" "rule" "[I") (List.mem_cons_of_mem _ (List.mem_append_left _ (List.mem_of_getElem? (i := 0) rfl)))) (fun _ h9 => h9) rfl dX2_runWhile_119 ?_
          refine lv_iconst (v := 1) hx hb dX2_runWhile_122 (by decide) ?_
          refine va_iald (D := g) hx hb hK hP 4 0 rfl rfl (vc_in (by decide)) dX2_runWhile_123 ?_
          refine lv_topi (nm_r (e' := (co_rule_c 1)) rfl ?_)
          refine lv_iload hx hb dX2_runWhile_124 (lv_at hl 7 rfl) ?_
          refine ro_i (va_runS (As := [.int (co_rule_c 0), .int (co_rule_c 1), .int j65_l8]) (rest := []) ⟨hx, hb, hml, hown, hts⟩ (q_X10_firsts l g cI cJ cB cZ cL (co_rule_c 0) (co_rule_c 1) j65_l8 H.size ) (va_cwS 3 hts (goodIn_app (g_3 (List.mem_cons_of_mem _ (List.mem_append_left _ (List.mem_of_getElem? (i := 11) rfl))) (List.mem_cons_of_mem _ (List.mem_append_left _ (List.mem_of_getElem? (i := 12) rfl))) (List.mem_cons_of_mem _ (List.mem_append_left _ (List.mem_of_getElem? (i := 3) rfl))) (by decide +kernel)) (goodIn_sub (fun _ h => List.mem_cons_of_mem _ (List.mem_append_right _ (List.mem_append_right _ (List.mem_append_right _ (List.mem_append_left _ h))))) good_v_X10_firsts)) rfl rfl rfl (by decide +kernel) ⟨Nat.le_of_ble_eq_true rfl, Nat.le_of_ble_eq_true rfl⟩) (ps_RO (wc := []) hK hP [] rfl) rfl rfl hl.1 rfl (lv_room (Nat.le_of_ble_eq_true rfl)) dX2_runWhile_126 ⟨Nat.le_of_ble_eq_true rfl, Nat.le_of_ble_eq_true rfl⟩) hS hA hP (fun r126 u126 H locs hw126 hP hS => ?_)
          have hw126_0 := hw126
          refine lv_iload hx hb dX2_runWhile_129 (lv_at hl 1 rfl) ?_
          refine lv_iand hx hb dX2_runWhile_131 ?_
          refine lv_topi (fun y131 e131 => ?_)
          have r131 : ir y131.toInt 0 3 := by rw [e131]; exact an_y rfl hw88_0 (by decide)
          refine lv_istore (lv' := [(12, .int y131), (11, .int r107), (10, .int r88), (0, .ref co), (1, .long p0), (3, .long p1), (5, .long p2), (7, .int r51), (8, .int j65_l8), (9, .int j65_l9)]) hx hb dX2_runWhile_132 hl (by decide) rfl (fun ls hl => ?_)
          refine lv_iload hx hb dX2_runWhile_134 (lv_at hl 0 rfl) ?_
          refine lv_iload hx hb dX2_runWhile_136 (lv_at hl 7 rfl) ?_
          refine lv_iload hx hb dX2_runWhile_138 (lv_at hl 2 rfl) ?_
          refine lv_iand hx hb dX2_runWhile_140 ?_
          refine lv_topi (fun y140 e140 => ?_)
          have r140 : ir y140.toInt 0 3 := by rw [e140]; exact an_y rfl hw88_0 (by decide)
          refine lv_iload hx hb dX2_runWhile_141 (lv_at hl 1 rfl) ?_
          refine ro_i (va_runS (As := [.int y131, .int y140, .int r107]) (rest := []) ⟨hx, hb, hml, hown, hts⟩ (q_X10_backs l g cI cJ cB cZ cL y131 y140 r107 H.size r140) (va_cwS 3 hts (goodIn_app (g_3 (List.mem_cons_of_mem _ (List.mem_append_left _ (List.mem_of_getElem? (i := 13) rfl))) (List.mem_cons_of_mem _ (List.mem_append_left _ (List.mem_of_getElem? (i := 14) rfl))) (List.mem_cons_of_mem _ (List.mem_append_left _ (List.mem_of_getElem? (i := 3) rfl))) (by decide +kernel)) (goodIn_sub (fun _ h => List.mem_cons_of_mem _ (List.mem_append_right _ (List.mem_append_right _ (List.mem_append_right _ (List.mem_append_right _ (List.mem_append_left _ h)))))) good_v_X10_backs)) rfl rfl rfl (by decide +kernel) ⟨Nat.le_of_ble_eq_true rfl, Nat.le_of_ble_eq_true rfl⟩) (ps_RO (wc := []) hK hP [] rfl) rfl rfl hl.1 rfl (lv_room (Nat.le_of_ble_eq_true rfl)) dX2_runWhile_143 ⟨Nat.le_of_ble_eq_true rfl, Nat.le_of_ble_eq_true rfl⟩) hS hA hP (fun r143 u143 H locs hw143 hP hS => ?_)
          have hw143_0 := hw143
          refine lv_istore (lv' := [(13, .int r143), (12, .int y131), (11, .int r107), (10, .int r88), (0, .ref co), (1, .long p0), (3, .long p1), (5, .long p2), (7, .int r51), (8, .int j65_l8), (9, .int j65_l9)]) hx hb dX2_runWhile_146 hl (by decide) rfl (fun ls hl => ?_)
          refine lv_iload hx hb dX2_runWhile_148 (lv_at hl 1 rfl) ?_
          refine lv_iload hx hb dX2_runWhile_150 (lv_at hl 0 rfl) ?_
          refine lv_ior hx hb dX2_runWhile_152 ?_
          refine lv_topi (fun y152 e152 => ?_)
          have r152 : ir y152.toInt 0 3 := by rw [e152]; exact or_r 2 rfl rfl r131 hw143_0 (by decide) (by decide) (by decide) (by decide) (by decide)
          refine lv_iload hx hb dX2_runWhile_153 (lv_at hl 2 rfl) ?_
          refine lv_iand hx hb dX2_runWhile_155 ?_
          refine lv_topi (fun y155 e155 => ?_)
          have r155 : ir y155.toInt 0 3 := by rw [e155]; exact an_y rfl hw107_0 (by decide)
          refine ro_i (va_runS (As := [.int y155]) (rest := []) ⟨hx, hb, hml, hown, hts⟩ (q_X10_swapped l g cI cJ cB cZ cL y155 H.size ) (va_cwS 1 hts (goodIn_app (g_3 (List.mem_cons_of_mem _ (List.mem_append_left _ (List.mem_of_getElem? (i := 15) rfl))) (List.mem_cons_of_mem _ (List.mem_append_left _ (List.mem_of_getElem? (i := 16) rfl))) (List.mem_cons_of_mem _ (List.mem_append_left _ (List.mem_of_getElem? (i := 3) rfl))) (by decide +kernel)) (goodIn_sub (fun _ h => List.mem_cons_of_mem _ (List.mem_append_right _ (List.mem_append_right _ (List.mem_append_right _ (List.mem_append_right _ (List.mem_append_right _ (List.mem_append_left _ h))))))) good_v_X10_swapped)) rfl rfl rfl (by decide +kernel) ⟨Nat.le_of_ble_eq_true rfl, Nat.le_of_ble_eq_true rfl⟩) (ps_RO (wc := []) hK hP [] rfl) rfl rfl hl.1 rfl (lv_room (Nat.le_of_ble_eq_true rfl)) dX2_runWhile_156 ⟨Nat.le_of_ble_eq_true rfl, Nat.le_of_ble_eq_true rfl⟩) hS hA hP (fun r156 u156 H locs hw156 hP hS => ?_)
          have hw156_0 := hw156
          refine lv_istore (lv' := [(14, .int r156), (13, .int r143), (12, .int y131), (11, .int r107), (10, .int r88), (0, .ref co), (1, .long p0), (3, .long p1), (5, .long p2), (7, .int r51), (8, .int j65_l8), (9, .int j65_l9)]) hx hb dX2_runWhile_159 hl (by decide) rfl (fun ls hl => ?_)
          refine lv_aload_n hx hb dX2_runWhile_161 rfl (lv_at hl 5 rfl) ?_
          refine va_get (D := g) (ci := 2) (v := .ref co_first) (C := RX2) (T := TX2) (N := 8) hx hb hts iX2 hown hK hP 0 rfl rfl 5 (by decide) (hts (.fieldLink RX2 20 "CardsAtYule$Course" "first" "[J") (List.mem_cons_of_mem _ (List.mem_append_left _ (List.mem_of_getElem? (i := 17) rfl)))) (fun _ h9 => h9) rfl dX2_runWhile_162 ?_
          refine lv_iload hx hb dX2_runWhile_165 (lv_at hl 11 rfl) ?_
          refine lv_iload hx hb dX2_runWhile_167 (lv_at hl 2 rfl) ?_
          refine rw_v (wr := [(co, .inr (2, [.int co_years, .int co_begun, .ref co_rule, .ref co_may, .ref co_reach, .ref co_first, .ref co_back, .ref co_got])), (co_back, .inl (cJ, 2, .inr (.inl j65_co_back_c))), (co_got, .inl (cJ, 2, .inr (.inl j65_co_got_c))), (co_rule, .inl (cI, 2, .inl co_rule_c)), (co_may, .inl (cJ, 2, .inr (.inl co_may_c))), (co_reach, .inl (cJ, 2, .inr (.inl co_reach_c)))]) (va_runS (As := [.ref co_first, .int j65_l9, .int y131]) (rest := []) ⟨hx, hb, hml, hown, hts⟩ (q_X2_note l g cI cJ cB cZ cL j65_l9 y131 co_first j65_co_first_c H.size ) (va_cwS 3 hts (goodIn_app (g_3 (List.mem_cons_of_mem _ (List.mem_append_left _ (List.mem_of_getElem? (i := 18) rfl))) (List.mem_cons_of_mem _ (List.mem_append_left _ (List.mem_of_getElem? (i := 19) rfl))) (List.mem_cons_of_mem _ (List.mem_append_left _ (List.mem_of_getElem? (i := 9) rfl))) (by decide +kernel)) (goodIn_sub (fun _ h => List.mem_cons_of_mem _ (List.mem_append_right _ (List.mem_append_right _ (List.mem_append_right _ (List.mem_append_right _ (List.mem_append_right _ (List.mem_append_right _ (List.mem_append_left _ h)))))))) good_v_X2_note)) rfl rfl rfl (by decide +kernel) ⟨Nat.le_of_ble_eq_true rfl, Nat.le_of_ble_eq_true rfl⟩) (ps_RW (wc := [(co_first, .inl (cJ, 2, .inr (.inl j65_co_first_c)))]) hK hP hD [1] (by decide) rfl) rfl rfl hl.1 rfl (lv_room (Nat.le_of_ble_eq_true rfl)) dX2_runWhile_169 ⟨Nat.le_of_ble_eq_true rfl, Nat.le_of_ble_eq_true rfl⟩) hS hA hP hD [1] [0, 2, 3, 4, 5, 6] rfl rfl (by decide) (by decide) (fun u169 H locs hw169 hP hD hS => ?_)
          generalize u169 = n_r0_c_169 at hw169 hP hD
          have hP : va_P g vwCl [(co, .inr (2, [.int co_years, .int co_begun, .ref co_rule, .ref co_may, .ref co_reach, .ref co_first, .ref co_back, .ref co_got])), (co_back, .inl (cJ, 2, .inr (.inl j65_co_back_c))), (co_got, .inl (cJ, 2, .inr (.inl j65_co_got_c))), (co_rule, .inl (cI, 2, .inl co_rule_c)), (co_may, .inl (cJ, 2, .inr (.inl co_may_c))), (co_reach, .inl (cJ, 2, .inr (.inl co_reach_c))), (co_first, .inl (cJ, 2, .inr (.inl n_r0_c_169)))] H := hP
          have hD : va_D A [(co, .inr (2, [.int co_years, .int co_begun, .ref co_rule, .ref co_may, .ref co_reach, .ref co_first, .ref co_back, .ref co_got])), (co_back, .inl (cJ, 2, .inr (.inl j65_co_back_c))), (co_got, .inl (cJ, 2, .inr (.inl j65_co_got_c))), (co_rule, .inl (cI, 2, .inl co_rule_c)), (co_may, .inl (cJ, 2, .inr (.inl co_may_c))), (co_reach, .inl (cJ, 2, .inr (.inl co_reach_c))), (co_first, .inl (cJ, 2, .inr (.inl n_r0_c_169)))] := hD
          refine lv_aload_n hx hb dX2_runWhile_172 rfl (lv_at hl 5 rfl) ?_
          refine va_get (D := g) (ci := 2) (v := .ref co_back) (C := RX2) (T := TX2) (N := 8) hx hb hts iX2 hown hK hP 0 rfl rfl 6 (by decide) (hts (.fieldLink RX2 23 "CardsAtYule$Course" "back" "[J") (List.mem_cons_of_mem _ (List.mem_append_left _ (List.mem_of_getElem? (i := 20) rfl)))) (fun _ h9 => h9) rfl dX2_runWhile_173 ?_
          refine lv_iload hx hb dX2_runWhile_176 (lv_at hl 11 rfl) ?_
          refine lv_iload hx hb dX2_runWhile_178 (lv_at hl 1 rfl) ?_
          refine rw_v (wr := [(co, .inr (2, [.int co_years, .int co_begun, .ref co_rule, .ref co_may, .ref co_reach, .ref co_first, .ref co_back, .ref co_got])), (co_got, .inl (cJ, 2, .inr (.inl j65_co_got_c))), (co_rule, .inl (cI, 2, .inl co_rule_c)), (co_may, .inl (cJ, 2, .inr (.inl co_may_c))), (co_reach, .inl (cJ, 2, .inr (.inl co_reach_c))), (co_first, .inl (cJ, 2, .inr (.inl n_r0_c_169)))]) (va_runS (As := [.ref co_back, .int j65_l9, .int r143]) (rest := []) ⟨hx, hb, hml, hown, hts⟩ (q_X2_note l g cI cJ cB cZ cL j65_l9 r143 co_back j65_co_back_c H.size ) (va_cwS 3 hts (goodIn_app (g_3 (List.mem_cons_of_mem _ (List.mem_append_left _ (List.mem_of_getElem? (i := 18) rfl))) (List.mem_cons_of_mem _ (List.mem_append_left _ (List.mem_of_getElem? (i := 19) rfl))) (List.mem_cons_of_mem _ (List.mem_append_left _ (List.mem_of_getElem? (i := 9) rfl))) (by decide +kernel)) (goodIn_sub (fun _ h => List.mem_cons_of_mem _ (List.mem_append_right _ (List.mem_append_right _ (List.mem_append_right _ (List.mem_append_right _ (List.mem_append_right _ (List.mem_append_right _ (List.mem_append_left _ h)))))))) good_v_X2_note)) rfl rfl rfl (by decide +kernel) ⟨Nat.le_of_ble_eq_true rfl, Nat.le_of_ble_eq_true rfl⟩) (ps_RW (wc := [(co_back, .inl (cJ, 2, .inr (.inl j65_co_back_c)))]) hK hP hD [1] (by decide) rfl) rfl rfl hl.1 rfl (lv_room (Nat.le_of_ble_eq_true rfl)) dX2_runWhile_180 ⟨Nat.le_of_ble_eq_true rfl, Nat.le_of_ble_eq_true rfl⟩) hS hA hP hD [1] [0, 2, 3, 4, 5, 6] rfl rfl (by decide) (by decide) (fun u180 H locs hw180 hP hD hS => ?_)
          generalize u180 = n_r0_c_180 at hw180 hP hD
          have hP : va_P g vwCl [(co, .inr (2, [.int co_years, .int co_begun, .ref co_rule, .ref co_may, .ref co_reach, .ref co_first, .ref co_back, .ref co_got])), (co_got, .inl (cJ, 2, .inr (.inl j65_co_got_c))), (co_rule, .inl (cI, 2, .inl co_rule_c)), (co_may, .inl (cJ, 2, .inr (.inl co_may_c))), (co_reach, .inl (cJ, 2, .inr (.inl co_reach_c))), (co_first, .inl (cJ, 2, .inr (.inl n_r0_c_169))), (co_back, .inl (cJ, 2, .inr (.inl n_r0_c_180)))] H := hP
          have hD : va_D A [(co, .inr (2, [.int co_years, .int co_begun, .ref co_rule, .ref co_may, .ref co_reach, .ref co_first, .ref co_back, .ref co_got])), (co_got, .inl (cJ, 2, .inr (.inl j65_co_got_c))), (co_rule, .inl (cI, 2, .inl co_rule_c)), (co_may, .inl (cJ, 2, .inr (.inl co_may_c))), (co_reach, .inl (cJ, 2, .inr (.inl co_reach_c))), (co_first, .inl (cJ, 2, .inr (.inl n_r0_c_169))), (co_back, .inl (cJ, 2, .inr (.inl n_r0_c_180)))] := hD
          refine lv_aload_n hx hb dX2_runWhile_183 rfl (lv_at hl 5 rfl) ?_
          refine va_get (D := g) (ci := 2) (v := .ref co_got) (C := RX2) (T := TX2) (N := 8) hx hb hts iX2 hown hK hP 0 rfl rfl 7 (by decide) (hts (.fieldLink RX2 26 "CardsAtYule$Course" "got" "[J") (List.mem_cons_of_mem _ (List.mem_append_left _ (List.mem_of_getElem? (i := 21) rfl)))) (fun _ h9 => h9) rfl dX2_runWhile_184 ?_
          refine lv_iload hx hb dX2_runWhile_187 (lv_at hl 11 rfl) ?_
          refine lv_iload hx hb dX2_runWhile_189 (lv_at hl 0 rfl) ?_
          refine rw_v (wr := [(co, .inr (2, [.int co_years, .int co_begun, .ref co_rule, .ref co_may, .ref co_reach, .ref co_first, .ref co_back, .ref co_got])), (co_rule, .inl (cI, 2, .inl co_rule_c)), (co_may, .inl (cJ, 2, .inr (.inl co_may_c))), (co_reach, .inl (cJ, 2, .inr (.inl co_reach_c))), (co_first, .inl (cJ, 2, .inr (.inl n_r0_c_169))), (co_back, .inl (cJ, 2, .inr (.inl n_r0_c_180)))]) (va_runS (As := [.ref co_got, .int j65_l9, .int r156]) (rest := []) ⟨hx, hb, hml, hown, hts⟩ (q_X2_note l g cI cJ cB cZ cL j65_l9 r156 co_got j65_co_got_c H.size ) (va_cwS 3 hts (goodIn_app (g_3 (List.mem_cons_of_mem _ (List.mem_append_left _ (List.mem_of_getElem? (i := 18) rfl))) (List.mem_cons_of_mem _ (List.mem_append_left _ (List.mem_of_getElem? (i := 19) rfl))) (List.mem_cons_of_mem _ (List.mem_append_left _ (List.mem_of_getElem? (i := 9) rfl))) (by decide +kernel)) (goodIn_sub (fun _ h => List.mem_cons_of_mem _ (List.mem_append_right _ (List.mem_append_right _ (List.mem_append_right _ (List.mem_append_right _ (List.mem_append_right _ (List.mem_append_right _ (List.mem_append_left _ h)))))))) good_v_X2_note)) rfl rfl rfl (by decide +kernel) ⟨Nat.le_of_ble_eq_true rfl, Nat.le_of_ble_eq_true rfl⟩) (ps_RW (wc := [(co_got, .inl (cJ, 2, .inr (.inl j65_co_got_c)))]) hK hP hD [1] (by decide) rfl) rfl rfl hl.1 rfl (lv_room (Nat.le_of_ble_eq_true rfl)) dX2_runWhile_191 ⟨Nat.le_of_ble_eq_true rfl, Nat.le_of_ble_eq_true rfl⟩) hS hA hP hD [1] [0, 2, 3, 4, 5, 6] rfl rfl (by decide) (by decide) (fun u191 H locs hw191 hP hD hS => ?_)
          generalize u191 = n_r0_c_191 at hw191 hP hD
          have hP : va_P g vwCl [(co, .inr (2, [.int co_years, .int co_begun, .ref co_rule, .ref co_may, .ref co_reach, .ref co_first, .ref co_back, .ref co_got])), (co_rule, .inl (cI, 2, .inl co_rule_c)), (co_may, .inl (cJ, 2, .inr (.inl co_may_c))), (co_reach, .inl (cJ, 2, .inr (.inl co_reach_c))), (co_first, .inl (cJ, 2, .inr (.inl n_r0_c_169))), (co_back, .inl (cJ, 2, .inr (.inl n_r0_c_180))), (co_got, .inl (cJ, 2, .inr (.inl n_r0_c_191)))] H := hP
          have hD : va_D A [(co, .inr (2, [.int co_years, .int co_begun, .ref co_rule, .ref co_may, .ref co_reach, .ref co_first, .ref co_back, .ref co_got])), (co_rule, .inl (cI, 2, .inl co_rule_c)), (co_may, .inl (cJ, 2, .inr (.inl co_may_c))), (co_reach, .inl (cJ, 2, .inr (.inl co_reach_c))), (co_first, .inl (cJ, 2, .inr (.inl n_r0_c_169))), (co_back, .inl (cJ, 2, .inr (.inl n_r0_c_180))), (co_got, .inl (cJ, 2, .inr (.inl n_r0_c_191)))] := hD
          refine lv_lload_n hx hb dX2_runWhile_194 rfl (lv_at hl 6 rfl) ?_
          refine lv_iload hx hb dX2_runWhile_195 (lv_at hl 11 rfl) ?_
          refine ro_i (va_runSN (As := [.long p0, .int j65_l9]) (rest := []) ⟨hx, hb, hml, hown, hts⟩ (q_X11_isAt l g cI cJ cB cZ cL p0 j65_l9 H.size ) ⟨(va_cnB 2 hts (goodIn_sub (fun _ h => List.mem_cons_of_mem _ (List.mem_append_right _ (List.mem_append_right _ (List.mem_append_right _ (List.mem_append_right _ (List.mem_append_right _ (List.mem_append_right _ (List.mem_append_right _ (List.mem_append_left _ h))))))))) good_v_X11_isAt) rfl rfl rfl (hE.nest _ (List.mem_of_getElem? (i := 1) rfl)) (hts (.initialized RX11) (List.mem_cons_of_mem _ (List.mem_append_left _ (List.mem_of_getElem? (i := 22) rfl)))) (by decide +kernel) ⟨Nat.le_of_ble_eq_true rfl, Nat.le_of_ble_eq_true rfl⟩), (hts (.static yX11_isAt) (List.mem_cons_of_mem _ (List.mem_append_left _ (List.mem_of_getElem? (i := 23) rfl)))), trivial⟩ (ps_RO (wc := []) hK hP [] rfl) rfl rfl hl.1 rfl (lv_room (Nat.le_of_ble_eq_true rfl)) dX2_runWhile_197 ⟨Nat.le_of_ble_eq_true rfl, Nat.le_of_ble_eq_true rfl⟩) hS hA hP (fun r197 u197 H locs hw197 hP hS => ?_)
          have hw197_0 := hw197
          have J218 : ∀  (H : Heap) (locs : List Loc) (ls : Array Slot), va_P g vwCl [(co, .inr (2, [.int co_years, .int co_begun, .ref co_rule, .ref co_may, .ref co_reach, .ref co_first, .ref co_back, .ref co_got])), (co_rule, .inl (cI, 2, .inl co_rule_c)), (co_may, .inl (cJ, 2, .inr (.inl co_may_c))), (co_reach, .inl (cJ, 2, .inr (.inl co_reach_c))), (co_first, .inl (cJ, 2, .inr (.inl n_r0_c_169))), (co_back, .inl (cJ, 2, .inr (.inl n_r0_c_180))), (co_got, .inl (cJ, 2, .inr (.inl n_r0_c_191)))] H → va_D A [(co, .inr (2, [.int co_years, .int co_begun, .ref co_rule, .ref co_may, .ref co_reach, .ref co_first, .ref co_back, .ref co_got])), (co_rule, .inl (cI, 2, .inl co_rule_c)), (co_may, .inl (cJ, 2, .inr (.inl co_may_c))), (co_reach, .inl (cJ, 2, .inr (.inl co_reach_c))), (co_first, .inl (cJ, 2, .inr (.inl n_r0_c_169))), (co_back, .inl (cJ, 2, .inr (.inl n_r0_c_180))), (co_got, .inl (cJ, 2, .inr (.inl n_r0_c_191)))] → va_S A s.heap H locs → lv_has ls 15 [(0, .ref co), (1, .long p0), (3, .long p1), (5, .long p2), (7, .int r51), (8, .int j65_l8), (9, .int j65_l9), (14, .int r156)] → W p l e (headSpec v_X2_runWhile ({ frames := 1, cells := 0, slots := 0, locals := 24 })).room s m av below meth c H locs 0 0 QQ (F0 m 218 ls []) := by
            intro  H locs ls  hP hD hS hl
            refine lv_iload hx hb dX2_runWhile_218 (lv_at hl 5 rfl) ?_
            refine lv_iload hx hb dX2_runWhile_220 (lv_at hl 7 rfl) ?_
            refine ro_i (va_runS (As := [.int j65_l8, .int r156]) (rest := []) ⟨hx, hb, hml, hown, hts⟩ (q_X10_after l g cI cJ cB cZ cL j65_l8 r156 H.size ) (va_cwS 2 hts (goodIn_app (g_3 (List.mem_cons_of_mem _ (List.mem_append_left _ (List.mem_of_getElem? (i := 24) rfl))) (List.mem_cons_of_mem _ (List.mem_append_left _ (List.mem_of_getElem? (i := 25) rfl))) (List.mem_cons_of_mem _ (List.mem_append_left _ (List.mem_of_getElem? (i := 3) rfl))) (by decide +kernel)) (goodIn_sub (fun _ h => List.mem_cons_of_mem _ (List.mem_append_right _ (List.mem_append_right _ (List.mem_append_right _ (List.mem_append_right _ (List.mem_append_right _ (List.mem_append_right _ (List.mem_append_right _ (List.mem_append_right _ (List.mem_append_left _ h)))))))))) good_v_X10_after)) rfl rfl rfl (by decide +kernel) ⟨Nat.le_of_ble_eq_true rfl, Nat.le_of_ble_eq_true rfl⟩) (ps_RO (wc := []) hK hP [] rfl) rfl rfl hl.1 rfl (lv_room (Nat.le_of_ble_eq_true rfl)) dX2_runWhile_222 ⟨Nat.le_of_ble_eq_true rfl, Nat.le_of_ble_eq_true rfl⟩) hS hA hP (fun r222 u222 H locs hw222 hP hS => ?_)
            have hw222_0 := hw222
            refine lv_istore (lv' := [(8, .int r222), (0, .ref co), (1, .long p0), (3, .long p1), (5, .long p2), (7, .int r51), (9, .int j65_l9), (14, .int r156)]) hx hb dX2_runWhile_225 hl (by decide) rfl (fun ls hl => ?_)
            obtain ⟨y227, e227⟩ : ∃ y : Int32, y = j65_l9 + 1 := ⟨_, rfl⟩
            have q227 : y227.toInt = j65_l9.toInt + 1 := by rw [e227]; exact ad_z rfl rfl r71a (ir_c 1) (by decide) (by decide)
            have r227 : ir y227.toInt 1 2147483647 := ad_r q227 r71a (ir_c 1) (by decide) (by decide)
            refine lv_iinc (v := y227) (lv' := [(9, .int y227), (8, .int r222), (0, .ref co), (1, .long p0), (3, .long p1), (5, .long p2), (7, .int r51), (14, .int r156)]) hx hb dX2_runWhile_227 hl (k := 6) rfl e227.symm (by decide) rfl (fun ls hl => ?_)
            refine lv_goto (tgt := 65) hx hb dX2_runWhile_230 (by decide) ?_
            exact ih65 r222 y227 n_r0_c_169 n_r0_c_180 n_r0_c_191 _ _ _ (by omega) (ir_w r227 (by decide) (by decide)) (hP.sub [0, 4, 5, 6, 1, 2, 3] rfl) (hD.sub [0, 4, 5, 6, 1, 2, 3] (by decide) rfl) hS (lv_sub hl [2, 3, 4, 5, 6, 1, 0] rfl)
          refine lv_if_eq (tgt := 218) hx hb dX2_runWhile_200 (by decide) (fun c200 => ?_) (fun c200 => ?_)
          · have f200 := (show r197.toInt = 0 from z_eq rfl rfl c200)
            have r200a : ir r197.toInt 0 0 := ir_eqa f200 hw197_0 (ir_c 0) (by decide) (by decide)
            exact J218  _ _ _  (hP.sub [0, 1, 2, 3, 4, 5, 6] rfl) (hD.sub [0, 1, 2, 3, 4, 5, 6] (by decide) rfl) hS (lv_sub hl [5, 6, 7, 8, 9, 10, 11, 0] rfl)
          have f200 := (show r197.toInt ≠ 0 from z_ne rfl rfl c200)
          have r200a : ir r197.toInt 1 1 := ir_nel f200 hw197_0 (by decide) (by decide)
          refine lv_iload hx hb dX2_runWhile_203 (lv_at hl 0 rfl) ?_
          refine lv_lload_n hx hb dX2_runWhile_205 rfl (lv_at hl 7 rfl) ?_
          refine lv_lload hx hb dX2_runWhile_206 (lv_at hl 8 rfl) ?_
          refine lv_iload hx hb dX2_runWhile_208 (lv_at hl 11 rfl) ?_
          refine ro_i (va_runS (As := [.long p1, .long p2, .int j65_l9]) (rest := [.int r156]) ⟨hx, hb, hml, hown, hts⟩ (q_X2_sidesOf l g cI cJ cB cZ cL p1 p2 j65_l9 H.size ) (va_cwS 3 hts (goodIn_app (g_3 (List.mem_cons_of_mem _ (List.mem_append_left _ (List.mem_of_getElem? (i := 7) rfl))) (List.mem_cons_of_mem _ (List.mem_append_left _ (List.mem_of_getElem? (i := 8) rfl))) (List.mem_cons_of_mem _ (List.mem_append_left _ (List.mem_of_getElem? (i := 9) rfl))) (by decide +kernel)) (goodIn_sub (fun _ h => List.mem_cons_of_mem _ (List.mem_append_right _ (List.mem_append_right _ (List.mem_append_left _ h)))) good_v_X2_sidesOf)) rfl rfl rfl (by decide +kernel) ⟨Nat.le_of_ble_eq_true rfl, Nat.le_of_ble_eq_true rfl⟩) (ps_RO (wc := []) hK hP [] rfl) rfl rfl hl.1 rfl (lv_room (Nat.le_of_ble_eq_true rfl)) dX2_runWhile_210 ⟨Nat.le_of_ble_eq_true rfl, Nat.le_of_ble_eq_true rfl⟩) hS hA hP (fun r210 u210 H locs hw210 hP hS => ?_)
          have hw210_0 := hw210
          refine lv_icmp_eq (tgt := 218) hx hb dX2_runWhile_213 (by decide) (fun c213 => ?_) (fun c213 => ?_)
          · have f213 := (show r156.toInt = r210.toInt from z_eq rfl rfl c213)
            exact J218  _ _ _  (hP.sub [0, 1, 2, 3, 4, 5, 6] rfl) (hD.sub [0, 1, 2, 3, 4, 5, 6] (by decide) rfl) hS (lv_sub hl [5, 6, 7, 8, 9, 10, 11, 0] rfl)
          have f213 := (show r156.toInt ≠ r210.toInt from z_ne rfl rfl c213)
          refine lv_iconst (v := 0) hx hb dX2_runWhile_216 (by decide) ?_
          subst hQ
          have hP9 := hP.sub (ws' := [(co, .inr (2, [.int co_years, .int co_begun, .ref co_rule, .ref co_may, .ref co_reach, .ref co_first, .ref co_back, .ref co_got])), (co_first, .inl (cJ, 2, .inr (.inl n_r0_c_169))), (co_back, .inl (cJ, 2, .inr (.inl n_r0_c_180))), (co_got, .inl (cJ, 2, .inr (.inl n_r0_c_191))), (co_rule, .inl (cI, 2, .inl co_rule_c)), (co_may, .inl (cJ, 2, .inr (.inl co_may_c))), (co_reach, .inl (cJ, 2, .inr (.inl co_reach_c)))]) [0, 4, 5, 6, 1, 2, 3] rfl
          have hD9 := hD.sub (ws' := [(co, .inr (2, [.int co_years, .int co_begun, .ref co_rule, .ref co_may, .ref co_reach, .ref co_first, .ref co_back, .ref co_got])), (co_first, .inl (cJ, 2, .inr (.inl n_r0_c_169))), (co_back, .inl (cJ, 2, .inr (.inl n_r0_c_180))), (co_got, .inl (cJ, 2, .inr (.inl n_r0_c_191))), (co_rule, .inl (cI, 2, .inl co_rule_c)), (co_may, .inl (cJ, 2, .inr (.inl co_may_c))), (co_reach, .inl (cJ, 2, .inr (.inl co_reach_c)))]) [0, 4, 5, 6, 1, 2, 3] (by decide) rfl
          exact W.zret (v := 0) hx hb hr rfl (fun t ht hW => ⟨⟨0, (n_r0_c_169, n_r0_c_180, n_r0_c_191), rfl, (show ir (0 : Int32).toInt 0 1 by decide), ⟨by rw [ht]; exact hP9, va_K.moved hW.alike hK, hD9⟩⟩, hS.F ht⟩) hS.2.2 dX2_runWhile_217
      exact J65 _ co_begun 0 j3_co_first_c j3_co_back_c j3_co_got_c _ _ _ (Nat.lt_succ_self _) (by decide) (hP.sub [0, 1, 2, 3, 4, 5, 6] rfl) (hD.sub [0, 1, 2, 3, 4, 5, 6] (by decide) rfl) hS (lv_sub hl [3, 4, 5, 6, 2, 1, 0] rfl)
  exact J3 _ 0 co_first_c co_back_c co_got_c _ _ _ (Nat.lt_succ_self _) (by decide) (hP.sub [0, 1, 2, 3, 4, 5, 6] rfl) (hD.sub [0, 1, 2, 3, 4, 5, 6] (by decide) rfl) hS (lv_sub hl [1, 2, 3, 4, 0] rfl)
def v_X2_run : List Cond := .code yX2_run cX2_run 1 none :: (([.methodLink RX2 56 yX2_runWhile, .instanceMethod yX2_runWhile, .selects RX2 yX2_runWhile yX2_runWhile, .initialized RX2] : List Cond) ++ (v_X2_runWhile ++ ([] : List Cond)))
theorem good_v_X2_run : v_X2_run.all goodWord = true := ga_c (by decide +kernel) (ga_a (by decide +kernel) (ga_a good_v_X2_runWhile rfl))
set_option maxHeartbeats 4000000 in
set_option maxRecDepth 100000 in
theorem q_X2_run (l : Launch) (g : va_G) (cI cJ cB cZ cL : ClassId) (kA : Nat → Nat) (vA : Nat → Nat) (co : Nat) (co_years : Int32) (co_begun : Int32) (co_rule : Nat) (co_may : Nat) (co_reach : Nat) (co_first : Nat) (co_back : Nat) (co_got : Nat) (co_first_c : Nat → Int64) (co_back_c : Nat → Int64) (co_got_c : Nat → Int64) (co_rule_c : Nat → Int32) (co_may_c : Nat → Int64) (co_reach_c : Nat → Int64) (sz : Nat)  : Met l yX2_run v_X2_run ({ frames := 2, cells := 0, slots := 0, locals := 58 }) (va_Pc [.ref co] (eRW g (tyT cI cJ cB cZ cL) [(co, .inr (2, [.int co_years, .int co_begun, .ref co_rule, .ref co_may, .ref co_reach, .ref co_first, .ref co_back, .ref co_got])), (co_first, .inl (cJ, 2, .inr (.inl co_first_c))), (co_back, .inl (cJ, 2, .inr (.inl co_back_c))), (co_got, .inl (cJ, 2, .inr (.inl co_got_c))), (co_rule, .inl (cI, 2, .inl co_rule_c)), (co_may, .inl (cJ, 2, .inr (.inl co_may_c))), (co_reach, .inl (cJ, 2, .inr (.inl co_reach_c)))] sz kA vA)) (va_Qv (fun (u : (Nat → Int64) × (Nat → Int64) × (Nat → Int64)) => match u with | (n_co_first_c, n_co_back_c, n_co_got_c) => True) (fun (u : (Nat → Int64) × (Nat → Int64) × (Nat → Int64)) (t : State) => bRW g (tyT cI cJ cB cZ cL) (va_A [(co, .inr (2, [.int co_years, .int co_begun, .ref co_rule, .ref co_may, .ref co_reach, .ref co_first, .ref co_back, .ref co_got])), (co_first, .inl (cJ, 2, .inr (.inl co_first_c))), (co_back, .inl (cJ, 2, .inr (.inl co_back_c))), (co_got, .inl (cJ, 2, .inr (.inl co_got_c))), (co_rule, .inl (cI, 2, .inl co_rule_c)), (co_may, .inl (cJ, 2, .inr (.inl co_may_c))), (co_reach, .inl (cJ, 2, .inr (.inl co_reach_c)))] sz) (match u with | (n_co_first_c, n_co_back_c, n_co_got_c) => [(co, .inr (2, [.int co_years, .int co_begun, .ref co_rule, .ref co_may, .ref co_reach, .ref co_first, .ref co_back, .ref co_got])), (co_first, .inl (cJ, 2, .inr (.inl n_co_first_c))), (co_back, .inl (cJ, 2, .inr (.inl n_co_back_c))), (co_got, .inl (cJ, 2, .inr (.inl n_co_got_c))), (co_rule, .inl (cI, 2, .inl co_rule_c)), (co_may, .inl (cJ, 2, .inr (.inl co_may_c))), (co_reach, .inl (cJ, 2, .inr (.inl co_reach_c)))]) t) (va_A [(co, .inr (2, [.int co_years, .int co_begun, .ref co_rule, .ref co_may, .ref co_reach, .ref co_first, .ref co_back, .ref co_got])), (co_first, .inl (cJ, 2, .inr (.inl co_first_c))), (co_back, .inl (cJ, 2, .inr (.inl co_back_c))), (co_got, .inl (cJ, 2, .inr (.inl co_got_c))), (co_rule, .inl (cI, 2, .inl co_rule_c)), (co_may, .inl (cJ, 2, .inr (.inl co_may_c))), (co_reach, .inl (cJ, 2, .inr (.inl co_reach_c)))] sz)) 0 0 (va_A [(co, .inr (2, [.int co_years, .int co_begun, .ref co_rule, .ref co_may, .ref co_reach, .ref co_first, .ref co_back, .ref co_got])), (co_first, .inl (cJ, 2, .inr (.inl co_first_c))), (co_back, .inl (cJ, 2, .inr (.inl co_back_c))), (co_got, .inl (cJ, 2, .inr (.inl co_got_c))), (co_rule, .inl (cI, 2, .inl co_rule_c)), (co_may, .inl (cJ, 2, .inr (.inl co_may_c))), (co_reach, .inl (cJ, 2, .inr (.inl co_reach_c)))] sz) := by
  refine Met.ofW (cc := cX2_run) (maxL := 1) (ret := none) (by decide) rfl ?_
  intro p e s m args below meth c s₁ B hml hv
  obtain ⟨rfl, ⟨hsz, hP, hK, hD0⟩, hE⟩ := hv
  have hx := B.exec
  have hb := B.bytes
  have hr := B.returns
  have hts := atoms_spec (ws := v_X2_run) B.pre
  have hown : s.vm.findClass RX2 = some m.cls := findClass_of_methodNamed B.named
  have hlocks := B.notSynchronized
  clear B
  subst hsz
  have hD := hD0.self (sz := s.heap.size)
  generalize hAe : (va_A [(co, .inr (2, [.int co_years, .int co_begun, .ref co_rule, .ref co_may, .ref co_reach, .ref co_first, .ref co_back, .ref co_got])), (co_first, .inl (cJ, 2, .inr (.inl co_first_c))), (co_back, .inl (cJ, 2, .inr (.inl co_back_c))), (co_got, .inl (cJ, 2, .inr (.inl co_got_c))), (co_rule, .inl (cI, 2, .inl co_rule_c)), (co_may, .inl (cJ, 2, .inr (.inl co_may_c))), (co_reach, .inl (cJ, 2, .inr (.inl co_reach_c)))] s.heap.size) = A at hD hE ⊢
  have hA : ∀ q : Nat, s.heap.size ≤ q → A q := fun q h => by rw [← hAe]; exact Or.inr h
  have hS : va_S A s.heap s.heap [] := va_S.rf
  have hl := lv_entry ([.ref co]) (n := 1) (Nat.le_of_ble_eq_true rfl)
  rw [lg_entry_eq]
  generalize (lg_sl ([.ref co]) ++ List.replicate (1 - (lg_sl ([.ref co])).length) Slot.unset).toArray = ls at hl ⊢
  generalize ([.ref co] : List Value).toArray = av at hts ⊢
  generalize hQ : MQ below _ av s _ _ A = QQ
  have hl : lv_has ls 1 [(0, .ref co)] := hl
  have hP : va_P g vwCl [(co, .inr (2, [.int co_years, .int co_begun, .ref co_rule, .ref co_may, .ref co_reach, .ref co_first, .ref co_back, .ref co_got])), (co_first, .inl (cJ, 2, .inr (.inl co_first_c))), (co_back, .inl (cJ, 2, .inr (.inl co_back_c))), (co_got, .inl (cJ, 2, .inr (.inl co_got_c))), (co_rule, .inl (cI, 2, .inl co_rule_c)), (co_may, .inl (cJ, 2, .inr (.inl co_may_c))), (co_reach, .inl (cJ, 2, .inr (.inl co_reach_c)))] s.heap := hP
  refine lv_aload_n hx hb dX2_run_0 rfl (lv_at hl 0 rfl) ?_
  refine lv_lconst (v := 0) hx hb dX2_run_1 (by decide) ?_
  refine lv_lconst (v := 0) hx hb dX2_run_2 (by decide) ?_
  refine lv_lconst (v := 0) hx hb dX2_run_3 (by decide) ?_
  refine rw_i (wr := []) (va_runV (As := [.long 0, .long 0, .long 0]) (rest := []) ⟨hx, hb, hml, hown, hts⟩ (q_X2_runWhile l g cI cJ cB cZ cL kA vA 0 0 0 co co_years co_begun co_rule co_may co_reach co_first co_back co_got co_first_c co_back_c co_got_c co_rule_c co_may_c co_reach_c s.heap.size ) (cwV 3 hts (goodIn_app (g_4 (List.mem_cons_of_mem _ (List.mem_append_left _ (List.mem_of_getElem? (i := 0) rfl))) (List.mem_cons_of_mem _ (List.mem_append_left _ (List.mem_of_getElem? (i := 1) rfl))) (List.mem_cons_of_mem _ (List.mem_append_left _ (List.mem_of_getElem? (i := 2) rfl))) (List.mem_cons_of_mem _ (List.mem_append_left _ (List.mem_of_getElem? (i := 3) rfl))) (by decide +kernel)) (goodIn_sub (fun _ h => List.mem_cons_of_mem _ (List.mem_append_right _ (List.mem_append_left _ h))) good_v_X2_runWhile)) rfl rfl rfl (by decide +kernel) ⟨Nat.le_of_ble_eq_true rfl, Nat.le_of_ble_eq_true rfl⟩) (pvE_RW (pv_RW (q := (RX2, TX2, 8)) (ci := 2) (q0 := 0) (wc := [(co, .inr (2, [.int co_years, .int co_begun, .ref co_rule, .ref co_may, .ref co_reach, .ref co_first, .ref co_back, .ref co_got])), (co_first, .inl (cJ, 2, .inr (.inl co_first_c))), (co_back, .inl (cJ, 2, .inr (.inl co_back_c))), (co_got, .inl (cJ, 2, .inr (.inl co_got_c))), (co_rule, .inl (cI, 2, .inl co_rule_c)), (co_may, .inl (cJ, 2, .inr (.inl co_may_c))), (co_reach, .inl (cJ, 2, .inr (.inl co_reach_c)))]) hK hP hD [0, 1, 2, 3, 4, 5, 6] (by decide) rfl rfl rfl) hE hS (va_free hD hS hA [0, 1, 2, 3, 4, 5, 6] rfl)) rfl rfl hl.1 rfl (lv_room (Nat.le_of_ble_eq_true rfl)) dX2_run_4 ⟨Nat.le_of_ble_eq_true rfl, Nat.le_of_ble_eq_true rfl⟩) hS hA hP hD [0, 1, 2, 3, 4, 5, 6] [] rfl rfl (by decide) (by decide) (fun r4 u4 H locs hw4 hP hD hS => ?_)
  obtain ⟨n_co_first_c_4, n_co_back_c_4, n_co_got_c_4⟩ := u4
  have hP : va_P g vwCl [(co, .inr (2, [.int co_years, .int co_begun, .ref co_rule, .ref co_may, .ref co_reach, .ref co_first, .ref co_back, .ref co_got])), (co_first, .inl (cJ, 2, .inr (.inl n_co_first_c_4))), (co_back, .inl (cJ, 2, .inr (.inl n_co_back_c_4))), (co_got, .inl (cJ, 2, .inr (.inl n_co_got_c_4))), (co_rule, .inl (cI, 2, .inl co_rule_c)), (co_may, .inl (cJ, 2, .inr (.inl co_may_c))), (co_reach, .inl (cJ, 2, .inr (.inl co_reach_c)))] H := hP
  have hD : va_D A [(co, .inr (2, [.int co_years, .int co_begun, .ref co_rule, .ref co_may, .ref co_reach, .ref co_first, .ref co_back, .ref co_got])), (co_first, .inl (cJ, 2, .inr (.inl n_co_first_c_4))), (co_back, .inl (cJ, 2, .inr (.inl n_co_back_c_4))), (co_got, .inl (cJ, 2, .inr (.inl n_co_got_c_4))), (co_rule, .inl (cI, 2, .inl co_rule_c)), (co_may, .inl (cJ, 2, .inr (.inl co_may_c))), (co_reach, .inl (cJ, 2, .inr (.inl co_reach_c)))] := hD
  dsimp only at hw4
  have hw4_0 := hw4
  refine lv_pop hx hb dX2_run_7 rfl ?_
  subst hQ
  have hP9 := hP.sub (ws' := [(co, .inr (2, [.int co_years, .int co_begun, .ref co_rule, .ref co_may, .ref co_reach, .ref co_first, .ref co_back, .ref co_got])), (co_first, .inl (cJ, 2, .inr (.inl n_co_first_c_4))), (co_back, .inl (cJ, 2, .inr (.inl n_co_back_c_4))), (co_got, .inl (cJ, 2, .inr (.inl n_co_got_c_4))), (co_rule, .inl (cI, 2, .inl co_rule_c)), (co_may, .inl (cJ, 2, .inr (.inl co_may_c))), (co_reach, .inl (cJ, 2, .inr (.inl co_reach_c)))]) [0, 1, 2, 3, 4, 5, 6] rfl
  have hD9 := hD.sub (ws' := [(co, .inr (2, [.int co_years, .int co_begun, .ref co_rule, .ref co_may, .ref co_reach, .ref co_first, .ref co_back, .ref co_got])), (co_first, .inl (cJ, 2, .inr (.inl n_co_first_c_4))), (co_back, .inl (cJ, 2, .inr (.inl n_co_back_c_4))), (co_got, .inl (cJ, 2, .inr (.inl n_co_got_c_4))), (co_rule, .inl (cI, 2, .inl co_rule_c)), (co_may, .inl (cJ, 2, .inr (.inl co_may_c))), (co_reach, .inl (cJ, 2, .inr (.inl co_reach_c)))]) [0, 1, 2, 3, 4, 5, 6] (by decide) rfl
  exact W.vret hx hb hr (fun t ht hW => ⟨⟨(n_co_first_c_4, n_co_back_c_4, n_co_got_c_4), rfl, trivial, ⟨by rw [ht]; exact hP9, va_K.moved hW.alike hK, hD9⟩⟩, hS.F ht⟩) hS.2.2 dX2_run_8
def v_X2_hurtsOf : List Cond := .code yX2_hurtsOf cX2_hurtsOf 2 (some .int) :: (([.fieldLink RX2 20 "CardsAtYule$Course" "first" "[J", .fieldLink RX2 23 "CardsAtYule$Course" "back" "[J", .fieldLink RX2 26 "CardsAtYule$Course" "got" "[J", .constantLong RX2 93 (-1), .methodLink RX2 95 yJ13_bitCount_95d88, .static yJ13_bitCount_95d88, .initialized RJ13] : List Cond) ++ (v_J13_bitCount_95d88 ++ (wsX20 ++ ([] : List Cond))))
theorem good_v_X2_hurtsOf : v_X2_hurtsOf.all goodWord = true := ga_c (by decide +kernel) (ga_a (by decide +kernel) (ga_a good_v_J13_bitCount_95d88 (ga_a good_wsX20 rfl)))
set_option maxHeartbeats 4000000 in
set_option maxRecDepth 100000 in
theorem q_X2_hurtsOf (l : Launch) (g : va_G) (cI cJ cB cZ cL : ClassId) (p0 : Int32) (co : Nat) (co_years : Int32) (co_begun : Int32) (co_rule : Nat) (co_may : Nat) (co_reach : Nat) (co_first : Nat) (co_back : Nat) (co_got : Nat) (co_first_c : Nat → Int64) (co_back_c : Nat → Int64) (co_got_c : Nat → Int64) (sz : Nat) (hv_p0 : ir p0.toInt 0 1) : Met l yX2_hurtsOf v_X2_hurtsOf ({ frames := 1, cells := 0, slots := 0, locals := 21 }) (va_Pc [.ref co, .int p0] (pRO g (tyT cI cJ cB cZ cL) [(co, .inr (2, [.int co_years, .int co_begun, .ref co_rule, .ref co_may, .ref co_reach, .ref co_first, .ref co_back, .ref co_got])), (co_first, .inl (cJ, 2, .inr (.inl co_first_c))), (co_back, .inl (cJ, 2, .inr (.inl co_back_c))), (co_got, .inl (cJ, 2, .inr (.inl co_got_c)))] sz)) (va_Qi (fun (r : Int32) (u : Unit) => (ir r.toInt 0 127)) (fun (_ : Unit) (_ : State) => True) (va_A [] sz)) 0 0 (va_A [] sz) := by
  refine Met.ofW (cc := cX2_hurtsOf) (maxL := 2) (ret := (some .int)) (by decide) rfl ?_
  intro p e s m args below meth c s₁ B hml hv
  obtain ⟨rfl, hsz, hP, hK⟩ := hv
  have hx := B.exec
  have hb := B.bytes
  have hr := B.returns
  have hts := atoms_spec (ws := v_X2_hurtsOf) B.pre
  have hown : s.vm.findClass RX2 = some m.cls := findClass_of_methodNamed B.named
  have hlocks := B.notSynchronized
  clear B
  subst hsz
  have iX2 : ∀ w ∈ wsX20, w ∈ v_X2_hurtsOf := (fun _ h => List.mem_cons_of_mem _ (List.mem_append_right _ (List.mem_append_right _ (List.mem_append_left _ h))))
  generalize hAe : (va_A [] s.heap.size) = A
  have hA : ∀ q : Nat, s.heap.size ≤ q → A q := fun q h => by rw [← hAe]; exact Or.inr h
  have hS : va_S A s.heap s.heap [] := va_S.rf
  have hl := lv_entry ([.ref co, .int p0]) (n := 2) (Nat.le_of_ble_eq_true rfl)
  rw [lg_entry_eq]
  generalize (lg_sl ([.ref co, .int p0]) ++ List.replicate (2 - (lg_sl ([.ref co, .int p0])).length) Slot.unset).toArray = ls at hl ⊢
  generalize ([.ref co, .int p0] : List Value).toArray = av at hts ⊢
  generalize hQ : MQ below _ av s _ _ A = QQ
  have hl : lv_has ls 2 [(0, .ref co), (1, .int p0)] := hl
  have hP : va_P g vwCl [(co, .inr (2, [.int co_years, .int co_begun, .ref co_rule, .ref co_may, .ref co_reach, .ref co_first, .ref co_back, .ref co_got])), (co_first, .inl (cJ, 2, .inr (.inl co_first_c))), (co_back, .inl (cJ, 2, .inr (.inl co_back_c))), (co_got, .inl (cJ, 2, .inr (.inl co_got_c)))] s.heap := hP
  refine lv_aload_n hx hb dX2_hurtsOf_0 rfl (lv_at hl 0 rfl) ?_
  refine va_get (D := g) (ci := 2) (v := .ref co_first) (C := RX2) (T := TX2) (N := 8) hx hb hts iX2 hown hK hP 0 rfl rfl 5 (by decide) (hts (.fieldLink RX2 20 "CardsAtYule$Course" "first" "[J") (List.mem_cons_of_mem _ (List.mem_append_left _ (List.mem_of_getElem? (i := 0) rfl)))) (fun _ h9 => h9) rfl dX2_hurtsOf_1 ?_
  refine lv_iload_n hx hb dX2_hurtsOf_4 rfl (lv_at hl 1 rfl) ?_
  refine va_lald (D := g) hx hb hK hP 1 1 rfl rfl (vi_rg rfl hv_p0 (by decide) (by decide)) dX2_hurtsOf_5 ?_
  refine lv_topl (fun y5 e5 => ?_)
  refine lv_aload_n hx hb dX2_hurtsOf_6 rfl (lv_at hl 0 rfl) ?_
  refine va_get (D := g) (ci := 2) (v := .ref co_back) (C := RX2) (T := TX2) (N := 8) hx hb hts iX2 hown hK hP 0 rfl rfl 6 (by decide) (hts (.fieldLink RX2 23 "CardsAtYule$Course" "back" "[J") (List.mem_cons_of_mem _ (List.mem_append_left _ (List.mem_of_getElem? (i := 1) rfl)))) (fun _ h9 => h9) rfl dX2_hurtsOf_7 ?_
  refine lv_iload_n hx hb dX2_hurtsOf_10 rfl (lv_at hl 1 rfl) ?_
  refine va_lald (D := g) hx hb hK hP 2 1 rfl rfl (vi_rg rfl hv_p0 (by decide) (by decide)) dX2_hurtsOf_11 ?_
  refine lv_topl (fun y11 e11 => ?_)
  refine lv_lor hx hb dX2_hurtsOf_12 ?_
  refine lv_topl (fun y12 e12 => ?_)
  refine lv_aload_n hx hb dX2_hurtsOf_13 rfl (lv_at hl 0 rfl) ?_
  refine va_get (D := g) (ci := 2) (v := .ref co_got) (C := RX2) (T := TX2) (N := 8) hx hb hts iX2 hown hK hP 0 rfl rfl 7 (by decide) (hts (.fieldLink RX2 26 "CardsAtYule$Course" "got" "[J") (List.mem_cons_of_mem _ (List.mem_append_left _ (List.mem_of_getElem? (i := 2) rfl)))) (fun _ h9 => h9) rfl dX2_hurtsOf_14 ?_
  refine lv_iload_n hx hb dX2_hurtsOf_17 rfl (lv_at hl 1 rfl) ?_
  refine va_lald (D := g) hx hb hK hP 3 1 rfl rfl (vi_rg rfl hv_p0 (by decide) (by decide)) dX2_hurtsOf_18 ?_
  refine lv_topl (fun y18 e18 => ?_)
  refine lv_ldc2 (v := (-1)) hx hb hown (hts (.constantLong RX2 93 (-1)) (List.mem_cons_of_mem _ (List.mem_append_left _ (List.mem_of_getElem? (i := 3) rfl)))) dX2_hurtsOf_19 ?_
  refine lv_lxor hx hb dX2_hurtsOf_22 ?_
  refine lv_topl (fun y22 e22 => ?_)
  refine lv_land hx hb dX2_hurtsOf_23 ?_
  refine lv_topl (fun y23 e23 => ?_)
  refine ro_i (va_runS (As := [.long y23]) (rest := []) ⟨hx, hb, hml, hown, hts⟩ (q_J13_bitCount_95d88 l g cI cJ cB cZ cL y23 s.heap.size ) (va_cwS 1 hts (goodIn_app (g_3 (List.mem_cons_of_mem _ (List.mem_append_left _ (List.mem_of_getElem? (i := 4) rfl))) (List.mem_cons_of_mem _ (List.mem_append_left _ (List.mem_of_getElem? (i := 5) rfl))) (List.mem_cons_of_mem _ (List.mem_append_left _ (List.mem_of_getElem? (i := 6) rfl))) (by decide +kernel)) (goodIn_sub (fun _ h => List.mem_cons_of_mem _ (List.mem_append_right _ (List.mem_append_left _ h))) good_v_J13_bitCount_95d88)) rfl rfl rfl (by decide +kernel) ⟨Nat.le_of_ble_eq_true rfl, Nat.le_of_ble_eq_true rfl⟩) (ps_RO (wc := []) hK hP [] rfl) rfl rfl hl.1 rfl (lv_room (Nat.le_of_ble_eq_true rfl)) dX2_hurtsOf_24 ⟨Nat.le_of_ble_eq_true rfl, Nat.le_of_ble_eq_true rfl⟩) hS hA hP (fun r24 u24 H locs hw24 hP hS => ?_)
  have hw24_0 := hw24
  subst hQ
  exact W.iret (v := r24) hx hb hr (fun t ht hW => ⟨⟨r24, (), rfl, hw24_0, trivial⟩, hS.F ht⟩) hS.2.2 dX2_hurtsOf_27
def v_X2_costOf : List Cond := .code yX2_costOf cX2_costOf 3 (some .int) :: (([.fieldLink RX2 101 "CardsAtYule$Land" "card" "I", .fieldLink RX2 20 "CardsAtYule$Course" "first" "[J", .fieldLink RX2 23 "CardsAtYule$Course" "back" "[J", .methodLink RX2 95 yJ13_bitCount_95d88, .static yJ13_bitCount_95d88, .initialized RJ13, .fieldLink RX2 104 "CardsAtYule$Land" "hurt" "I", .methodLink RX2 107 yX2_hurtsOf, .instanceMethod yX2_hurtsOf, .selects RX2 yX2_hurtsOf yX2_hurtsOf, .initialized RX2] : List Cond) ++ (v_J13_bitCount_95d88 ++ (v_X2_hurtsOf ++ (wsX40 ++ (wsX20 ++ ([] : List Cond))))))
theorem good_v_X2_costOf : v_X2_costOf.all goodWord = true := ga_c (by decide +kernel) (ga_a (by decide +kernel) (ga_a good_v_J13_bitCount_95d88 (ga_a good_v_X2_hurtsOf (ga_a good_wsX40 (ga_a good_wsX20 rfl)))))
set_option maxHeartbeats 4000000 in
set_option maxRecDepth 100000 in
theorem q_X2_costOf (l : Launch) (g : va_G) (cI cJ cB cZ cL : ClassId) (p1 : Int32) (co : Nat) (ld : Nat) (ld_lines : Int32) (ld_years : Int32) (ld_card : Int32) (ld_hurt : Int32) (ld_people : Int32) (ld_pairs : Int32) (ld_strikes : Int64) (ld_rule : Nat) (ld_returns : Nat) (ld_forgets : Nat) (ld_death : Nat) (ld_move : Nat) (ld_begun : Nat) (ld_who : Nat) (ld_lost : Nat) (co_years : Int32) (co_begun : Int32) (co_rule : Nat) (co_may : Nat) (co_reach : Nat) (co_first : Nat) (co_back : Nat) (co_got : Nat) (co_first_c : Nat → Int64) (co_back_c : Nat → Int64) (co_got_c : Nat → Int64) (sz : Nat) (hv_p1 : ir p1.toInt 0 1) (hv_ld_years : ir ld_years.toInt 0 40) (hv_ld_people : ir ld_people.toInt 0 10) (hv_ld_pairs : ir ld_pairs.toInt 0 16) : Met l yX2_costOf v_X2_costOf ({ frames := 2, cells := 0, slots := 0, locals := 42 }) (va_Pc [.ref co, .ref ld, .int p1] (pRO g (tyT cI cJ cB cZ cL) [(ld, .inr (4, [.int ld_lines, .int ld_years, .int ld_card, .int ld_hurt, .int ld_people, .int ld_pairs, .long ld_strikes, .ref ld_rule, .ref ld_returns, .ref ld_forgets, .ref ld_death, .ref ld_move, .ref ld_begun, .ref ld_who, .ref ld_lost])), (co, .inr (2, [.int co_years, .int co_begun, .ref co_rule, .ref co_may, .ref co_reach, .ref co_first, .ref co_back, .ref co_got])), (co_first, .inl (cJ, 2, .inr (.inl co_first_c))), (co_back, .inl (cJ, 2, .inr (.inl co_back_c))), (co_got, .inl (cJ, 2, .inr (.inl co_got_c)))] sz)) (va_Qi (fun (r : Int32) (u : Unit) => True) (fun (_ : Unit) (_ : State) => True) (va_A [] sz)) 0 0 (va_A [] sz) := by
  refine Met.ofW (cc := cX2_costOf) (maxL := 3) (ret := (some .int)) (by decide) rfl ?_
  intro p e s m args below meth c s₁ B hml hv
  obtain ⟨rfl, hsz, hP, hK⟩ := hv
  have hx := B.exec
  have hb := B.bytes
  have hr := B.returns
  have hts := atoms_spec (ws := v_X2_costOf) B.pre
  have hown : s.vm.findClass RX2 = some m.cls := findClass_of_methodNamed B.named
  have hlocks := B.notSynchronized
  clear B
  subst hsz
  have iX4 : ∀ w ∈ wsX40, w ∈ v_X2_costOf := (fun _ h => List.mem_cons_of_mem _ (List.mem_append_right _ (List.mem_append_right _ (List.mem_append_right _ (List.mem_append_left _ h)))))
  have iX2 : ∀ w ∈ wsX20, w ∈ v_X2_costOf := (fun _ h => List.mem_cons_of_mem _ (List.mem_append_right _ (List.mem_append_right _ (List.mem_append_right _ (List.mem_append_right _ (List.mem_append_left _ h))))))
  generalize hAe : (va_A [] s.heap.size) = A
  have hA : ∀ q : Nat, s.heap.size ≤ q → A q := fun q h => by rw [← hAe]; exact Or.inr h
  have hS : va_S A s.heap s.heap [] := va_S.rf
  have hl := lv_entry ([.ref co, .ref ld, .int p1]) (n := 3) (Nat.le_of_ble_eq_true rfl)
  rw [lg_entry_eq]
  generalize (lg_sl ([.ref co, .ref ld, .int p1]) ++ List.replicate (3 - (lg_sl ([.ref co, .ref ld, .int p1])).length) Slot.unset).toArray = ls at hl ⊢
  generalize ([.ref co, .ref ld, .int p1] : List Value).toArray = av at hts ⊢
  generalize hQ : MQ below _ av s _ _ A = QQ
  have hl : lv_has ls 3 [(0, .ref co), (1, .ref ld), (2, .int p1)] := hl
  have hP : va_P g vwCl [(ld, .inr (4, [.int ld_lines, .int ld_years, .int ld_card, .int ld_hurt, .int ld_people, .int ld_pairs, .long ld_strikes, .ref ld_rule, .ref ld_returns, .ref ld_forgets, .ref ld_death, .ref ld_move, .ref ld_begun, .ref ld_who, .ref ld_lost])), (co, .inr (2, [.int co_years, .int co_begun, .ref co_rule, .ref co_may, .ref co_reach, .ref co_first, .ref co_back, .ref co_got])), (co_first, .inl (cJ, 2, .inr (.inl co_first_c))), (co_back, .inl (cJ, 2, .inr (.inl co_back_c))), (co_got, .inl (cJ, 2, .inr (.inl co_got_c)))] s.heap := hP
  refine lv_aload_n hx hb dX2_costOf_0 rfl (lv_at hl 1 rfl) ?_
  refine va_get (D := g) (ci := 4) (v := .int ld_card) (C := RX4) (T := TX4) (N := 15) hx hb hts iX4 hown hK hP 0 rfl rfl 2 (by decide) (hts (.fieldLink RX2 101 "CardsAtYule$Land" "card" "I") (List.mem_cons_of_mem _ (List.mem_append_left _ (List.mem_of_getElem? (i := 0) rfl)))) (fun _ h9 => h9) rfl dX2_costOf_1 ?_
  refine lv_aload_n hx hb dX2_costOf_4 rfl (lv_at hl 0 rfl) ?_
  refine va_get (D := g) (ci := 2) (v := .ref co_first) (C := RX2) (T := TX2) (N := 8) hx hb hts iX2 hown hK hP 1 rfl rfl 5 (by decide) (hts (.fieldLink RX2 20 "CardsAtYule$Course" "first" "[J") (List.mem_cons_of_mem _ (List.mem_append_left _ (List.mem_of_getElem? (i := 1) rfl)))) (fun _ h9 => h9) rfl dX2_costOf_5 ?_
  refine lv_iload_n hx hb dX2_costOf_8 rfl (lv_at hl 2 rfl) ?_
  refine va_lald (D := g) hx hb hK hP 2 1 rfl rfl (vi_rg rfl hv_p1 (by decide) (by decide)) dX2_costOf_9 ?_
  refine lv_topl (fun y9 e9 => ?_)
  refine lv_aload_n hx hb dX2_costOf_10 rfl (lv_at hl 0 rfl) ?_
  refine va_get (D := g) (ci := 2) (v := .ref co_back) (C := RX2) (T := TX2) (N := 8) hx hb hts iX2 hown hK hP 1 rfl rfl 6 (by decide) (hts (.fieldLink RX2 23 "CardsAtYule$Course" "back" "[J") (List.mem_cons_of_mem _ (List.mem_append_left _ (List.mem_of_getElem? (i := 2) rfl)))) (fun _ h9 => h9) rfl dX2_costOf_11 ?_
  refine lv_iload_n hx hb dX2_costOf_14 rfl (lv_at hl 2 rfl) ?_
  refine va_lald (D := g) hx hb hK hP 3 1 rfl rfl (vi_rg rfl hv_p1 (by decide) (by decide)) dX2_costOf_15 ?_
  refine lv_topl (fun y15 e15 => ?_)
  refine lv_lor hx hb dX2_costOf_16 ?_
  refine lv_topl (fun y16 e16 => ?_)
  refine ro_i (va_runS (As := [.long y16]) (rest := [.int ld_card]) ⟨hx, hb, hml, hown, hts⟩ (q_J13_bitCount_95d88 l g cI cJ cB cZ cL y16 s.heap.size ) (va_cwS 1 hts (goodIn_app (g_3 (List.mem_cons_of_mem _ (List.mem_append_left _ (List.mem_of_getElem? (i := 3) rfl))) (List.mem_cons_of_mem _ (List.mem_append_left _ (List.mem_of_getElem? (i := 4) rfl))) (List.mem_cons_of_mem _ (List.mem_append_left _ (List.mem_of_getElem? (i := 5) rfl))) (by decide +kernel)) (goodIn_sub (fun _ h => List.mem_cons_of_mem _ (List.mem_append_right _ (List.mem_append_left _ h))) good_v_J13_bitCount_95d88)) rfl rfl rfl (by decide +kernel) ⟨Nat.le_of_ble_eq_true rfl, Nat.le_of_ble_eq_true rfl⟩) (ps_RO (wc := []) hK hP [] rfl) rfl rfl hl.1 rfl (lv_room (Nat.le_of_ble_eq_true rfl)) dX2_costOf_17 ⟨Nat.le_of_ble_eq_true rfl, Nat.le_of_ble_eq_true rfl⟩) hS hA hP (fun r17 u17 H locs hw17 hP hS => ?_)
  have hw17_0 := hw17
  refine lv_imul hx hb dX2_costOf_20 ?_
  refine lv_topi (fun y20 e20 => ?_)
  refine lv_aload_n hx hb dX2_costOf_21 rfl (lv_at hl 1 rfl) ?_
  refine va_get (D := g) (ci := 4) (v := .int ld_hurt) (C := RX4) (T := TX4) (N := 15) hx hb hts iX4 hown hK hP 0 rfl rfl 3 (by decide) (hts (.fieldLink RX2 104 "CardsAtYule$Land" "hurt" "I") (List.mem_cons_of_mem _ (List.mem_append_left _ (List.mem_of_getElem? (i := 6) rfl)))) (fun _ h9 => h9) rfl dX2_costOf_22 ?_
  refine lv_aload_n hx hb dX2_costOf_25 rfl (lv_at hl 0 rfl) ?_
  refine lv_iload_n hx hb dX2_costOf_26 rfl (lv_at hl 2 rfl) ?_
  refine ro_i (va_runV (As := [.int p1]) (rest := [.int ld_hurt, .int y20]) ⟨hx, hb, hml, hown, hts⟩ (q_X2_hurtsOf l g cI cJ cB cZ cL p1 co co_years co_begun co_rule co_may co_reach co_first co_back co_got co_first_c co_back_c co_got_c H.size hv_p1) (cwV 1 hts (goodIn_app (g_4 (List.mem_cons_of_mem _ (List.mem_append_left _ (List.mem_of_getElem? (i := 7) rfl))) (List.mem_cons_of_mem _ (List.mem_append_left _ (List.mem_of_getElem? (i := 8) rfl))) (List.mem_cons_of_mem _ (List.mem_append_left _ (List.mem_of_getElem? (i := 9) rfl))) (List.mem_cons_of_mem _ (List.mem_append_left _ (List.mem_of_getElem? (i := 10) rfl))) (by decide +kernel)) (goodIn_sub (fun _ h => List.mem_cons_of_mem _ (List.mem_append_right _ (List.mem_append_right _ (List.mem_append_left _ h)))) good_v_X2_hurtsOf)) rfl rfl rfl (by decide +kernel) ⟨Nat.le_of_ble_eq_true rfl, Nat.le_of_ble_eq_true rfl⟩) (pv_RO (q := (RX2, TX2, 8)) (ci := 2) (q0 := 0) (wc := [(co, .inr (2, [.int co_years, .int co_begun, .ref co_rule, .ref co_may, .ref co_reach, .ref co_first, .ref co_back, .ref co_got])), (co_first, .inl (cJ, 2, .inr (.inl co_first_c))), (co_back, .inl (cJ, 2, .inr (.inl co_back_c))), (co_got, .inl (cJ, 2, .inr (.inl co_got_c)))]) hK hP [1, 2, 3, 4] rfl rfl rfl) rfl rfl hl.1 rfl (lv_room (Nat.le_of_ble_eq_true rfl)) dX2_costOf_27 ⟨Nat.le_of_ble_eq_true rfl, Nat.le_of_ble_eq_true rfl⟩) hS hA hP (fun r27 u27 H locs hw27 hP hS => ?_)
  have hw27_0 := hw27
  refine lv_imul hx hb dX2_costOf_30 ?_
  refine lv_topi (fun y30 e30 => ?_)
  refine lv_iadd hx hb dX2_costOf_31 ?_
  refine lv_topi (fun y31 e31 => ?_)
  subst hQ
  exact W.iret (v := y31) hx hb hr (fun t ht hW => ⟨⟨y31, (), rfl, trivial, trivial⟩, hS.F ht⟩) hS.2.2 dX2_costOf_32
def v_X0_stateOfSide : List Cond := .code yX0_stateOfSide cX0_stateOfSide 6 (some .int) :: (([] : List Cond) ++ ([] : List Cond))
theorem good_v_X0_stateOfSide : v_X0_stateOfSide.all goodWord = true := ga_c (by decide +kernel) (ga_a (by decide +kernel) rfl)
set_option maxHeartbeats 4000000 in
set_option maxRecDepth 100000 in
theorem q_X0_stateOfSide (l : Launch) (g : va_G) (cI cJ cB cZ cL : ClassId) (p0 : Int64) (p1 : Int32) (p2 : Int32) (sz : Nat)  : Met l yX0_stateOfSide v_X0_stateOfSide ({ frames := 0, cells := 0, slots := 0, locals := 0 }) (va_Pc [.long p0, .int p1, .int p2] (pRO g (tyT cI cJ cB cZ cL) [] sz)) (va_Qi (fun (r : Int32) (u : Unit) => (ir r.toInt 0 3)) (fun (_ : Unit) (_ : State) => True) (va_A [] sz)) 0 0 (va_A [] sz) := by
  refine Met.ofW (cc := cX0_stateOfSide) (maxL := 6) (ret := (some .int)) (by decide) rfl ?_
  intro p e s m args below meth c s₁ B hml hv
  obtain ⟨rfl, hsz, hP, hK⟩ := hv
  have hx := B.exec
  have hb := B.bytes
  have hr := B.returns
  have hts := atoms_spec (ws := v_X0_stateOfSide) B.pre
  have hown : s.vm.findClass RX0 = some m.cls := findClass_of_methodNamed B.named
  have hlocks := B.notSynchronized
  clear B
  subst hsz
  generalize hAe : (va_A [] s.heap.size) = A
  have hA : ∀ q : Nat, s.heap.size ≤ q → A q := fun q h => by rw [← hAe]; exact Or.inr h
  have hS : va_S A s.heap s.heap [] := va_S.rf
  have hl := lv_entry ([.long p0, .int p1, .int p2]) (n := 6) (Nat.le_of_ble_eq_true rfl)
  rw [lg_entry_eq]
  generalize (lg_sl ([.long p0, .int p1, .int p2]) ++ List.replicate (6 - (lg_sl ([.long p0, .int p1, .int p2])).length) Slot.unset).toArray = ls at hl ⊢
  generalize ([.long p0, .int p1, .int p2] : List Value).toArray = av at hts ⊢
  generalize hQ : MQ below _ av s _ _ A = QQ
  have hl : lv_has ls 6 [(0, .long p0), (2, .int p1), (3, .int p2)] := hl
  have hP : va_P g vwCl [] s.heap := hP
  refine lv_lload_n hx hb dX0_stateOfSide_0 rfl (lv_at hl 0 rfl) ?_
  refine lv_iconst (v := 2) hx hb dX0_stateOfSide_1 (by decide) ?_
  refine lv_lshl (v := (p0 <<< ((2 : Int32).toInt64 &&& 63))) hx hb dX0_stateOfSide_2 rfl ?_
  refine lv_topl (fun y2 e2 => ?_)
  refine lv_iload_n hx hb dX0_stateOfSide_3 rfl (lv_at hl 1 rfl) ?_
  refine lv_iconst (v := 1) hx hb dX0_stateOfSide_4 (by decide) ?_
  refine lv_iand hx hb dX0_stateOfSide_5 ?_
  refine lv_topi (fun y5 e5 => ?_)
  have r5 : ir y5.toInt 0 1 := by rw [e5]; exact an_y rfl (ir_c 1) (by decide)
  refine lv_iconst (v := 1) hx hb dX0_stateOfSide_6 (by decide) ?_
  refine lv_ishl hx hb dX0_stateOfSide_7 ?_
  refine lv_topi (fun y7 e7 => ?_)
  have r7 : ir y7.toInt 0 2 := by rw [e7]; exact sl_r 1 rfl r5 (by decide) (by decide) (by decide) (by decide) (by decide)
  refine lv_i2l (v := y7.toInt64) hx hb dX0_stateOfSide_8 rfl ?_
  refine lv_lor hx hb dX0_stateOfSide_9 ?_
  refine lv_topl (fun y9 e9 => ?_)
  refine lv_iload_n hx hb dX0_stateOfSide_10 rfl (lv_at hl 1 rfl) ?_
  refine lv_iconst (v := 1) hx hb dX0_stateOfSide_11 (by decide) ?_
  refine lv_ishr hx hb dX0_stateOfSide_12 ?_
  refine lv_topi (fun y12 e12 => ?_)
  refine lv_i2l (v := y12.toInt64) hx hb dX0_stateOfSide_13 rfl ?_
  refine lv_lor hx hb dX0_stateOfSide_14 ?_
  refine lv_topl (fun y14 e14 => ?_)
  refine lv_lstore (lv' := [(4, .long y14), (0, .long p0), (2, .int p1), (3, .int p2)]) hx hb dX0_stateOfSide_15 hl (by decide) rfl (fun ls hl => ?_)
  refine lv_lload hx hb dX0_stateOfSide_17 (lv_at hl 0 rfl) ?_
  refine lv_iload_n hx hb dX0_stateOfSide_19 rfl (lv_at hl 3 rfl) ?_
  refine lv_iconst (v := 1) hx hb dX0_stateOfSide_20 (by decide) ?_
  refine lv_iadd hx hb dX0_stateOfSide_21 ?_
  refine lv_topi (fun y21 e21 => ?_)
  refine lv_lshr (v := (y14 >>> (y21.toInt64 &&& 63))) hx hb dX0_stateOfSide_22 rfl ?_
  refine lv_topl (fun y22 e22 => ?_)
  refine lv_lconst (v := 1) hx hb dX0_stateOfSide_23 (by decide) ?_
  refine lv_land hx hb dX0_stateOfSide_24 ?_
  refine lv_topl (fun y24 e24 => ?_)
  have r24 : ir y24.toInt 0 1 := by rw [e24]; exact lan_y (by decide)
  refine lv_l2i (v := y24.toInt32) hx hb dX0_stateOfSide_25 rfl ?_
  refine lv_topi (fun y25 e25 => ?_)
  have q25 : y25.toInt = y24.toInt := by rw [e25]; exact li_z rfl r24 (by decide) (by decide)
  have r25 : ir y25.toInt 0 1 := q25 ▸ r24
  refine lv_lload hx hb dX0_stateOfSide_26 (lv_at hl 0 rfl) ?_
  refine lv_iload_n hx hb dX0_stateOfSide_28 rfl (lv_at hl 3 rfl) ?_
  refine lv_lshr (v := (y14 >>> (p2.toInt64 &&& 63))) hx hb dX0_stateOfSide_29 rfl ?_
  refine lv_topl (fun y29 e29 => ?_)
  refine lv_lconst (v := 1) hx hb dX0_stateOfSide_30 (by decide) ?_
  refine lv_land hx hb dX0_stateOfSide_31 ?_
  refine lv_topl (fun y31 e31 => ?_)
  have r31 : ir y31.toInt 0 1 := by rw [e31]; exact lan_y (by decide)
  refine lv_l2i (v := y31.toInt32) hx hb dX0_stateOfSide_32 rfl ?_
  refine lv_topi (fun y32 e32 => ?_)
  have q32 : y32.toInt = y31.toInt := by rw [e32]; exact li_z rfl r31 (by decide) (by decide)
  have r32 : ir y32.toInt 0 1 := q32 ▸ r31
  refine lv_iconst (v := 1) hx hb dX0_stateOfSide_33 (by decide) ?_
  refine lv_ishl hx hb dX0_stateOfSide_34 ?_
  refine lv_topi (fun y34 e34 => ?_)
  have r34 : ir y34.toInt 0 2 := by rw [e34]; exact sl_r 1 rfl r32 (by decide) (by decide) (by decide) (by decide) (by decide)
  refine lv_ior hx hb dX0_stateOfSide_35 ?_
  refine lv_topi (fun y35 e35 => ?_)
  have r35 : ir y35.toInt 0 3 := by rw [e35]; exact or_r 2 rfl rfl r25 r34 (by decide) (by decide) (by decide) (by decide) (by decide)
  subst hQ
  exact W.iret (v := y35) hx hb hr (fun t ht hW => ⟨⟨y35, (), rfl, r35, trivial⟩, hS.F ht⟩) hS.2.2 dX0_stateOfSide_36
def v_X0_writeAll : List Cond := .code yX0_writeAll cX0_writeAll 4 none :: (([.fieldLink RX0 25 "CardsAtYule$Land" "pairs" "I", .fieldLink RX0 9 "CardsAtYule$Book" "stale" "Z", .methodLink RX0 31 yX2_take, .instanceMethod yX2_take, .selects RX2 yX2_take yX2_take, .initialized RX2, .methodLink RX0 37 yX2_run, .instanceMethod yX2_run, .selects RX2 yX2_run yX2_run, .fieldLink RX0 40 "CardsAtYule$Course" "first" "[J", .fieldLink RX0 15 "CardsAtYule$Book" "first" "[J", .methodLink RX0 41 arraycopyName, .native arraycopyName, .static arraycopyName, .initialized "java/lang/System", .fieldLink RX0 47 "CardsAtYule$Course" "back" "[J", .fieldLink RX0 19 "CardsAtYule$Book" "back" "[J", .fieldLink RX0 48 "CardsAtYule$Course" "got" "[J", .fieldLink RX0 22 "CardsAtYule$Book" "got" "[J"] : List Cond) ++ (v_X2_take ++ (v_X2_run ++ (wsX40 ++ (wsX00 ++ (wsX20 ++ ([] : List Cond)))))))
theorem good_v_X0_writeAll : v_X0_writeAll.all goodWord = true := ga_c (by decide +kernel) (ga_a (by decide +kernel) (ga_a good_v_X2_take (ga_a good_v_X2_run (ga_a good_wsX40 (ga_a good_wsX00 (ga_a good_wsX20 rfl))))))
set_option maxHeartbeats 4000000 in
set_option maxRecDepth 100000 in
theorem q_X0_writeAll (l : Launch) (g : va_G) (cI cJ cB cZ cL : ClassId) (kA : Nat → Nat) (vA : Nat → Nat) (bk : Nat) (ld : Nat) (co : Nat) (ld_lines : Int32) (ld_years : Int32) (ld_card : Int32) (ld_hurt : Int32) (ld_people : Int32) (ld_pairs : Int32) (ld_strikes : Int64) (ld_rule : Nat) (ld_returns : Nat) (ld_forgets : Nat) (ld_death : Nat) (ld_move : Nat) (ld_begun : Nat) (ld_who : Nat) (ld_lost : Nat) (bk_stale : Int32) (bk_first : Nat) (bk_back : Nat) (bk_got : Nat) (co_years : Int32) (co_begun : Int32) (co_rule : Nat) (co_may : Nat) (co_reach : Nat) (co_first : Nat) (co_back : Nat) (co_got : Nat) (ld_begun_c : Nat → Int32) (ld_who_c : Nat → Int32) (ld_rule_c : Nat → Int32) (ld_returns_c : Nat → Int32) (co_rule_c : Nat → Int32) (ld_death_c : Nat → Int32) (co_may_c : Nat → Int64) (ld_move_c : Nat → Int32) (ld_lost_c : Nat → Int64) (co_reach_c : Nat → Int64) (co_first_c : Nat → Int64) (co_back_c : Nat → Int64) (co_got_c : Nat → Int64) (bk_first_c : Nat → Int64) (bk_back_c : Nat → Int64) (bk_got_c : Nat → Int64) (sz : Nat) (hv_ld_years : ir ld_years.toInt 0 40) (hv_ld_people : ir ld_people.toInt 0 10) (hv_ld_pairs : ir ld_pairs.toInt 0 16) (hv_bk_stale : ir bk_stale.toInt 0 1) (ha_ld_begun_c : ar ld_begun_c 16 0 15) (ha_ld_who_c : ar ld_who_c 32 0 9) : Met l yX0_writeAll v_X0_writeAll ({ frames := 3, cells := 0, slots := 0, locals := 78 }) (va_Pc [.ref bk, .ref ld, .ref co] (eRW g (tyT cI cJ cB cZ cL) [(ld, .inr (4, [.int ld_lines, .int ld_years, .int ld_card, .int ld_hurt, .int ld_people, .int ld_pairs, .long ld_strikes, .ref ld_rule, .ref ld_returns, .ref ld_forgets, .ref ld_death, .ref ld_move, .ref ld_begun, .ref ld_who, .ref ld_lost])), (bk, .inr (0, [.int bk_stale, .ref bk_first, .ref bk_back, .ref bk_got])), (co, .inr (2, [.int co_years, .int co_begun, .ref co_rule, .ref co_may, .ref co_reach, .ref co_first, .ref co_back, .ref co_got])), (ld_begun, .inl (cI, 16, .inl ld_begun_c)), (ld_who, .inl (cI, 32, .inl ld_who_c)), (ld_rule, .inl (cI, 10, .inl ld_rule_c)), (ld_returns, .inl (cI, 10, .inl ld_returns_c)), (co_rule, .inl (cI, 2, .inl co_rule_c)), (ld_death, .inl (cI, 10, .inl ld_death_c)), (co_may, .inl (cJ, 2, .inr (.inl co_may_c))), (ld_move, .inl (cI, 10, .inl ld_move_c)), (ld_lost, .inl (cJ, 32, .inr (.inl ld_lost_c))), (co_reach, .inl (cJ, 2, .inr (.inl co_reach_c))), (co_first, .inl (cJ, 2, .inr (.inl co_first_c))), (co_back, .inl (cJ, 2, .inr (.inl co_back_c))), (co_got, .inl (cJ, 2, .inr (.inl co_got_c))), (bk_first, .inl (cJ, 32, .inr (.inl bk_first_c))), (bk_back, .inl (cJ, 32, .inr (.inl bk_back_c))), (bk_got, .inl (cJ, 32, .inr (.inl bk_got_c)))] sz kA vA)) (va_Qv (fun (u : Int32 × Int32 × Int32 × (Nat → Int32) × (Nat → Int64) × (Nat → Int64) × (Nat → Int64) × (Nat → Int64) × (Nat → Int64) × (Nat → Int64) × (Nat → Int64) × (Nat → Int64)) => match u with | (n_bk_stale, n_co_years, n_co_begun, n_co_rule_c, n_co_may_c, n_co_reach_c, n_co_first_c, n_co_back_c, n_co_got_c, n_bk_first_c, n_bk_back_c, n_bk_got_c) => (ir n_bk_stale.toInt 0 0)) (fun (u : Int32 × Int32 × Int32 × (Nat → Int32) × (Nat → Int64) × (Nat → Int64) × (Nat → Int64) × (Nat → Int64) × (Nat → Int64) × (Nat → Int64) × (Nat → Int64) × (Nat → Int64)) (t : State) => bRW g (tyT cI cJ cB cZ cL) (va_A [(ld, .inr (4, [.int ld_lines, .int ld_years, .int ld_card, .int ld_hurt, .int ld_people, .int ld_pairs, .long ld_strikes, .ref ld_rule, .ref ld_returns, .ref ld_forgets, .ref ld_death, .ref ld_move, .ref ld_begun, .ref ld_who, .ref ld_lost])), (bk, .inr (0, [.int bk_stale, .ref bk_first, .ref bk_back, .ref bk_got])), (co, .inr (2, [.int co_years, .int co_begun, .ref co_rule, .ref co_may, .ref co_reach, .ref co_first, .ref co_back, .ref co_got])), (ld_begun, .inl (cI, 16, .inl ld_begun_c)), (ld_who, .inl (cI, 32, .inl ld_who_c)), (ld_rule, .inl (cI, 10, .inl ld_rule_c)), (ld_returns, .inl (cI, 10, .inl ld_returns_c)), (co_rule, .inl (cI, 2, .inl co_rule_c)), (ld_death, .inl (cI, 10, .inl ld_death_c)), (co_may, .inl (cJ, 2, .inr (.inl co_may_c))), (ld_move, .inl (cI, 10, .inl ld_move_c)), (ld_lost, .inl (cJ, 32, .inr (.inl ld_lost_c))), (co_reach, .inl (cJ, 2, .inr (.inl co_reach_c))), (co_first, .inl (cJ, 2, .inr (.inl co_first_c))), (co_back, .inl (cJ, 2, .inr (.inl co_back_c))), (co_got, .inl (cJ, 2, .inr (.inl co_got_c))), (bk_first, .inl (cJ, 32, .inr (.inl bk_first_c))), (bk_back, .inl (cJ, 32, .inr (.inl bk_back_c))), (bk_got, .inl (cJ, 32, .inr (.inl bk_got_c)))] sz) (match u with | (n_bk_stale, n_co_years, n_co_begun, n_co_rule_c, n_co_may_c, n_co_reach_c, n_co_first_c, n_co_back_c, n_co_got_c, n_bk_first_c, n_bk_back_c, n_bk_got_c) => [(ld, .inr (4, [.int ld_lines, .int ld_years, .int ld_card, .int ld_hurt, .int ld_people, .int ld_pairs, .long ld_strikes, .ref ld_rule, .ref ld_returns, .ref ld_forgets, .ref ld_death, .ref ld_move, .ref ld_begun, .ref ld_who, .ref ld_lost])), (bk, .inr (0, [.int n_bk_stale, .ref bk_first, .ref bk_back, .ref bk_got])), (co, .inr (2, [.int n_co_years, .int n_co_begun, .ref co_rule, .ref co_may, .ref co_reach, .ref co_first, .ref co_back, .ref co_got])), (ld_begun, .inl (cI, 16, .inl ld_begun_c)), (ld_who, .inl (cI, 32, .inl ld_who_c)), (ld_rule, .inl (cI, 10, .inl ld_rule_c)), (ld_returns, .inl (cI, 10, .inl ld_returns_c)), (co_rule, .inl (cI, 2, .inl n_co_rule_c)), (ld_death, .inl (cI, 10, .inl ld_death_c)), (co_may, .inl (cJ, 2, .inr (.inl n_co_may_c))), (ld_move, .inl (cI, 10, .inl ld_move_c)), (ld_lost, .inl (cJ, 32, .inr (.inl ld_lost_c))), (co_reach, .inl (cJ, 2, .inr (.inl n_co_reach_c))), (co_first, .inl (cJ, 2, .inr (.inl n_co_first_c))), (co_back, .inl (cJ, 2, .inr (.inl n_co_back_c))), (co_got, .inl (cJ, 2, .inr (.inl n_co_got_c))), (bk_first, .inl (cJ, 32, .inr (.inl n_bk_first_c))), (bk_back, .inl (cJ, 32, .inr (.inl n_bk_back_c))), (bk_got, .inl (cJ, 32, .inr (.inl n_bk_got_c)))]) t) (va_A [(ld, .inr (4, [.int ld_lines, .int ld_years, .int ld_card, .int ld_hurt, .int ld_people, .int ld_pairs, .long ld_strikes, .ref ld_rule, .ref ld_returns, .ref ld_forgets, .ref ld_death, .ref ld_move, .ref ld_begun, .ref ld_who, .ref ld_lost])), (bk, .inr (0, [.int bk_stale, .ref bk_first, .ref bk_back, .ref bk_got])), (co, .inr (2, [.int co_years, .int co_begun, .ref co_rule, .ref co_may, .ref co_reach, .ref co_first, .ref co_back, .ref co_got])), (ld_begun, .inl (cI, 16, .inl ld_begun_c)), (ld_who, .inl (cI, 32, .inl ld_who_c)), (ld_rule, .inl (cI, 10, .inl ld_rule_c)), (ld_returns, .inl (cI, 10, .inl ld_returns_c)), (co_rule, .inl (cI, 2, .inl co_rule_c)), (ld_death, .inl (cI, 10, .inl ld_death_c)), (co_may, .inl (cJ, 2, .inr (.inl co_may_c))), (ld_move, .inl (cI, 10, .inl ld_move_c)), (ld_lost, .inl (cJ, 32, .inr (.inl ld_lost_c))), (co_reach, .inl (cJ, 2, .inr (.inl co_reach_c))), (co_first, .inl (cJ, 2, .inr (.inl co_first_c))), (co_back, .inl (cJ, 2, .inr (.inl co_back_c))), (co_got, .inl (cJ, 2, .inr (.inl co_got_c))), (bk_first, .inl (cJ, 32, .inr (.inl bk_first_c))), (bk_back, .inl (cJ, 32, .inr (.inl bk_back_c))), (bk_got, .inl (cJ, 32, .inr (.inl bk_got_c)))] sz)) 0 0 (va_A [(ld, .inr (4, [.int ld_lines, .int ld_years, .int ld_card, .int ld_hurt, .int ld_people, .int ld_pairs, .long ld_strikes, .ref ld_rule, .ref ld_returns, .ref ld_forgets, .ref ld_death, .ref ld_move, .ref ld_begun, .ref ld_who, .ref ld_lost])), (bk, .inr (0, [.int bk_stale, .ref bk_first, .ref bk_back, .ref bk_got])), (co, .inr (2, [.int co_years, .int co_begun, .ref co_rule, .ref co_may, .ref co_reach, .ref co_first, .ref co_back, .ref co_got])), (ld_begun, .inl (cI, 16, .inl ld_begun_c)), (ld_who, .inl (cI, 32, .inl ld_who_c)), (ld_rule, .inl (cI, 10, .inl ld_rule_c)), (ld_returns, .inl (cI, 10, .inl ld_returns_c)), (co_rule, .inl (cI, 2, .inl co_rule_c)), (ld_death, .inl (cI, 10, .inl ld_death_c)), (co_may, .inl (cJ, 2, .inr (.inl co_may_c))), (ld_move, .inl (cI, 10, .inl ld_move_c)), (ld_lost, .inl (cJ, 32, .inr (.inl ld_lost_c))), (co_reach, .inl (cJ, 2, .inr (.inl co_reach_c))), (co_first, .inl (cJ, 2, .inr (.inl co_first_c))), (co_back, .inl (cJ, 2, .inr (.inl co_back_c))), (co_got, .inl (cJ, 2, .inr (.inl co_got_c))), (bk_first, .inl (cJ, 32, .inr (.inl bk_first_c))), (bk_back, .inl (cJ, 32, .inr (.inl bk_back_c))), (bk_got, .inl (cJ, 32, .inr (.inl bk_got_c)))] sz) := by
  refine Met.ofW (cc := cX0_writeAll) (maxL := 4) (ret := none) (by decide) rfl ?_
  intro p e s m args below meth c s₁ B hml hv
  obtain ⟨rfl, ⟨hsz, hP, hK, hD0⟩, hE⟩ := hv
  have hx := B.exec
  have hb := B.bytes
  have hr := B.returns
  have hts := atoms_spec (ws := v_X0_writeAll) B.pre
  have hown : s.vm.findClass RX0 = some m.cls := findClass_of_methodNamed B.named
  have hlocks := B.notSynchronized
  clear B
  subst hsz
  have iX4 : ∀ w ∈ wsX40, w ∈ v_X0_writeAll := (fun _ h => List.mem_cons_of_mem _ (List.mem_append_right _ (List.mem_append_right _ (List.mem_append_right _ (List.mem_append_left _ h)))))
  have iX0 : ∀ w ∈ wsX00, w ∈ v_X0_writeAll := (fun _ h => List.mem_cons_of_mem _ (List.mem_append_right _ (List.mem_append_right _ (List.mem_append_right _ (List.mem_append_right _ (List.mem_append_left _ h))))))
  have iX2 : ∀ w ∈ wsX20, w ∈ v_X0_writeAll := (fun _ h => List.mem_cons_of_mem _ (List.mem_append_right _ (List.mem_append_right _ (List.mem_append_right _ (List.mem_append_right _ (List.mem_append_right _ (List.mem_append_left _ h)))))))
  have hD := hD0.self (sz := s.heap.size)
  generalize hAe : (va_A [(ld, .inr (4, [.int ld_lines, .int ld_years, .int ld_card, .int ld_hurt, .int ld_people, .int ld_pairs, .long ld_strikes, .ref ld_rule, .ref ld_returns, .ref ld_forgets, .ref ld_death, .ref ld_move, .ref ld_begun, .ref ld_who, .ref ld_lost])), (bk, .inr (0, [.int bk_stale, .ref bk_first, .ref bk_back, .ref bk_got])), (co, .inr (2, [.int co_years, .int co_begun, .ref co_rule, .ref co_may, .ref co_reach, .ref co_first, .ref co_back, .ref co_got])), (ld_begun, .inl (cI, 16, .inl ld_begun_c)), (ld_who, .inl (cI, 32, .inl ld_who_c)), (ld_rule, .inl (cI, 10, .inl ld_rule_c)), (ld_returns, .inl (cI, 10, .inl ld_returns_c)), (co_rule, .inl (cI, 2, .inl co_rule_c)), (ld_death, .inl (cI, 10, .inl ld_death_c)), (co_may, .inl (cJ, 2, .inr (.inl co_may_c))), (ld_move, .inl (cI, 10, .inl ld_move_c)), (ld_lost, .inl (cJ, 32, .inr (.inl ld_lost_c))), (co_reach, .inl (cJ, 2, .inr (.inl co_reach_c))), (co_first, .inl (cJ, 2, .inr (.inl co_first_c))), (co_back, .inl (cJ, 2, .inr (.inl co_back_c))), (co_got, .inl (cJ, 2, .inr (.inl co_got_c))), (bk_first, .inl (cJ, 32, .inr (.inl bk_first_c))), (bk_back, .inl (cJ, 32, .inr (.inl bk_back_c))), (bk_got, .inl (cJ, 32, .inr (.inl bk_got_c)))] s.heap.size) = A at hD hE ⊢
  have hA : ∀ q : Nat, s.heap.size ≤ q → A q := fun q h => by rw [← hAe]; exact Or.inr h
  have hS : va_S A s.heap s.heap [] := va_S.rf
  have hl := lv_entry ([.ref bk, .ref ld, .ref co]) (n := 4) (Nat.le_of_ble_eq_true rfl)
  rw [lg_entry_eq]
  generalize (lg_sl ([.ref bk, .ref ld, .ref co]) ++ List.replicate (4 - (lg_sl ([.ref bk, .ref ld, .ref co])).length) Slot.unset).toArray = ls at hl ⊢
  generalize ([.ref bk, .ref ld, .ref co] : List Value).toArray = av at hts ⊢
  generalize hQ : MQ below _ av s _ _ A = QQ
  have hl : lv_has ls 4 [(0, .ref bk), (1, .ref ld), (2, .ref co)] := hl
  have hP : va_P g vwCl [(ld, .inr (4, [.int ld_lines, .int ld_years, .int ld_card, .int ld_hurt, .int ld_people, .int ld_pairs, .long ld_strikes, .ref ld_rule, .ref ld_returns, .ref ld_forgets, .ref ld_death, .ref ld_move, .ref ld_begun, .ref ld_who, .ref ld_lost])), (bk, .inr (0, [.int bk_stale, .ref bk_first, .ref bk_back, .ref bk_got])), (co, .inr (2, [.int co_years, .int co_begun, .ref co_rule, .ref co_may, .ref co_reach, .ref co_first, .ref co_back, .ref co_got])), (ld_begun, .inl (cI, 16, .inl ld_begun_c)), (ld_who, .inl (cI, 32, .inl ld_who_c)), (ld_rule, .inl (cI, 10, .inl ld_rule_c)), (ld_returns, .inl (cI, 10, .inl ld_returns_c)), (co_rule, .inl (cI, 2, .inl co_rule_c)), (ld_death, .inl (cI, 10, .inl ld_death_c)), (co_may, .inl (cJ, 2, .inr (.inl co_may_c))), (ld_move, .inl (cI, 10, .inl ld_move_c)), (ld_lost, .inl (cJ, 32, .inr (.inl ld_lost_c))), (co_reach, .inl (cJ, 2, .inr (.inl co_reach_c))), (co_first, .inl (cJ, 2, .inr (.inl co_first_c))), (co_back, .inl (cJ, 2, .inr (.inl co_back_c))), (co_got, .inl (cJ, 2, .inr (.inl co_got_c))), (bk_first, .inl (cJ, 32, .inr (.inl bk_first_c))), (bk_back, .inl (cJ, 32, .inr (.inl bk_back_c))), (bk_got, .inl (cJ, 32, .inr (.inl bk_got_c)))] s.heap := hP
  refine lv_iconst (v := 0) hx hb dX0_writeAll_0 (by decide) ?_
  refine lv_istore_n (lv' := [(3, .int 0), (0, .ref bk), (1, .ref ld), (2, .ref co)]) hx hb dX0_writeAll_1 rfl hl (by decide) rfl (fun ls hl => ?_)
  have J2 : ∀ (n2 : Nat) (j2_l3 : Int32) (j2_co_years : Int32) (j2_co_begun : Int32) (j2_co_first_c : Nat → Int64) (j2_co_back_c : Nat → Int64) (j2_co_got_c : Nat → Int64) (j2_co_rule_c : Nat → Int32) (j2_co_may_c : Nat → Int64) (j2_co_reach_c : Nat → Int64) (j2_bk_first_c : Nat → Int64) (j2_bk_back_c : Nat → Int64) (j2_bk_got_c : Nat → Int64) (H : Heap) (locs : List Loc) (ls : Array Slot), (17 - j2_l3.toInt).toNat < n2 → (ir j2_l3.toInt 0 16) → va_P g vwCl [(ld, .inr (4, [.int ld_lines, .int ld_years, .int ld_card, .int ld_hurt, .int ld_people, .int ld_pairs, .long ld_strikes, .ref ld_rule, .ref ld_returns, .ref ld_forgets, .ref ld_death, .ref ld_move, .ref ld_begun, .ref ld_who, .ref ld_lost])), (bk, .inr (0, [.int bk_stale, .ref bk_first, .ref bk_back, .ref bk_got])), (co, .inr (2, [.int j2_co_years, .int j2_co_begun, .ref co_rule, .ref co_may, .ref co_reach, .ref co_first, .ref co_back, .ref co_got])), (ld_begun, .inl (cI, 16, .inl ld_begun_c)), (ld_who, .inl (cI, 32, .inl ld_who_c)), (ld_rule, .inl (cI, 10, .inl ld_rule_c)), (ld_returns, .inl (cI, 10, .inl ld_returns_c)), (co_rule, .inl (cI, 2, .inl j2_co_rule_c)), (ld_death, .inl (cI, 10, .inl ld_death_c)), (co_may, .inl (cJ, 2, .inr (.inl j2_co_may_c))), (ld_move, .inl (cI, 10, .inl ld_move_c)), (ld_lost, .inl (cJ, 32, .inr (.inl ld_lost_c))), (co_reach, .inl (cJ, 2, .inr (.inl j2_co_reach_c))), (co_first, .inl (cJ, 2, .inr (.inl j2_co_first_c))), (co_back, .inl (cJ, 2, .inr (.inl j2_co_back_c))), (co_got, .inl (cJ, 2, .inr (.inl j2_co_got_c))), (bk_first, .inl (cJ, 32, .inr (.inl j2_bk_first_c))), (bk_back, .inl (cJ, 32, .inr (.inl j2_bk_back_c))), (bk_got, .inl (cJ, 32, .inr (.inl j2_bk_got_c)))] H → va_D A [(ld, .inr (4, [.int ld_lines, .int ld_years, .int ld_card, .int ld_hurt, .int ld_people, .int ld_pairs, .long ld_strikes, .ref ld_rule, .ref ld_returns, .ref ld_forgets, .ref ld_death, .ref ld_move, .ref ld_begun, .ref ld_who, .ref ld_lost])), (bk, .inr (0, [.int bk_stale, .ref bk_first, .ref bk_back, .ref bk_got])), (co, .inr (2, [.int j2_co_years, .int j2_co_begun, .ref co_rule, .ref co_may, .ref co_reach, .ref co_first, .ref co_back, .ref co_got])), (ld_begun, .inl (cI, 16, .inl ld_begun_c)), (ld_who, .inl (cI, 32, .inl ld_who_c)), (ld_rule, .inl (cI, 10, .inl ld_rule_c)), (ld_returns, .inl (cI, 10, .inl ld_returns_c)), (co_rule, .inl (cI, 2, .inl j2_co_rule_c)), (ld_death, .inl (cI, 10, .inl ld_death_c)), (co_may, .inl (cJ, 2, .inr (.inl j2_co_may_c))), (ld_move, .inl (cI, 10, .inl ld_move_c)), (ld_lost, .inl (cJ, 32, .inr (.inl ld_lost_c))), (co_reach, .inl (cJ, 2, .inr (.inl j2_co_reach_c))), (co_first, .inl (cJ, 2, .inr (.inl j2_co_first_c))), (co_back, .inl (cJ, 2, .inr (.inl j2_co_back_c))), (co_got, .inl (cJ, 2, .inr (.inl j2_co_got_c))), (bk_first, .inl (cJ, 32, .inr (.inl j2_bk_first_c))), (bk_back, .inl (cJ, 32, .inr (.inl j2_bk_back_c))), (bk_got, .inl (cJ, 32, .inr (.inl j2_bk_got_c)))] → va_S A s.heap H locs → lv_has ls 4 [(0, .ref bk), (1, .ref ld), (2, .ref co), (3, .int j2_l3)] → W p l e (headSpec v_X0_writeAll ({ frames := 3, cells := 0, slots := 0, locals := 78 })).room s m av below meth c H locs 0 0 QQ (F0 m 2 ls []) := by
    intro n2
    induction n2 with
    | zero => exact fun j2_l3 j2_co_years j2_co_begun j2_co_first_c j2_co_back_c j2_co_got_c j2_co_rule_c j2_co_may_c j2_co_reach_c j2_bk_first_c j2_bk_back_c j2_bk_got_c H locs ls hn => absurd hn (Nat.not_lt_zero _)
    | succ n2 ih2 =>
      intro j2_l3 j2_co_years j2_co_begun j2_co_first_c j2_co_back_c j2_co_got_c j2_co_rule_c j2_co_may_c j2_co_reach_c j2_bk_first_c j2_bk_back_c j2_bk_got_c H locs ls hn2 hj2_l3 hP hD hS hl
      refine lv_iload_n hx hb dX0_writeAll_2 rfl (lv_at hl 3 rfl) ?_
      refine lv_aload_n hx hb dX0_writeAll_3 rfl (lv_at hl 1 rfl) ?_
      refine va_get (D := g) (ci := 4) (v := .int ld_pairs) (C := RX4) (T := TX4) (N := 15) hx hb hts iX4 hown hK hP 0 rfl rfl 5 (by decide) (hts (.fieldLink RX0 25 "CardsAtYule$Land" "pairs" "I") (List.mem_cons_of_mem _ (List.mem_append_left _ (List.mem_of_getElem? (i := 0) rfl)))) (fun _ h9 => h9) rfl dX0_writeAll_4 ?_
      refine lv_icmp_ge (tgt := 74) hx hb dX0_writeAll_7 (by decide) (fun c7 => ?_) (fun c7 => ?_)
      · have f7 := (show ld_pairs.toInt ≤ j2_l3.toInt from z_le rfl rfl c7)
        refine lv_aload_n hx hb dX0_writeAll_74 rfl (lv_at hl 0 rfl) ?_
        refine lv_iconst (v := 0) hx hb dX0_writeAll_75 (by decide) ?_
        refine va_put (D := g) (ci := 0) (v := .int 0) (ty := .boolean) (C := RX0) (T := TX0) (N := 4) hx hb hts iX0 tyX0 tyX0_ok nmX0 hown hK hP hD hS 1 rfl rfl 0 (by decide) (hts (.fieldLink RX0 9 "CardsAtYule$Book" "stale" "Z") (List.mem_cons_of_mem _ (List.mem_append_left _ (List.mem_of_getElem? (i := 1) rfl)))) (fun _ h9 => h9) rfl (by decide +kernel) rfl rfl (Nat.le_of_ble_eq_true rfl) dX0_writeAll_76 (fun H locs hP hD hS => ?_)
        have hP : va_P g vwCl [(ld, .inr (4, [.int ld_lines, .int ld_years, .int ld_card, .int ld_hurt, .int ld_people, .int ld_pairs, .long ld_strikes, .ref ld_rule, .ref ld_returns, .ref ld_forgets, .ref ld_death, .ref ld_move, .ref ld_begun, .ref ld_who, .ref ld_lost])), (bk, .inr (0, [.int 0, .ref bk_first, .ref bk_back, .ref bk_got])), (co, .inr (2, [.int j2_co_years, .int j2_co_begun, .ref co_rule, .ref co_may, .ref co_reach, .ref co_first, .ref co_back, .ref co_got])), (ld_begun, .inl (cI, 16, .inl ld_begun_c)), (ld_who, .inl (cI, 32, .inl ld_who_c)), (ld_rule, .inl (cI, 10, .inl ld_rule_c)), (ld_returns, .inl (cI, 10, .inl ld_returns_c)), (co_rule, .inl (cI, 2, .inl j2_co_rule_c)), (ld_death, .inl (cI, 10, .inl ld_death_c)), (co_may, .inl (cJ, 2, .inr (.inl j2_co_may_c))), (ld_move, .inl (cI, 10, .inl ld_move_c)), (ld_lost, .inl (cJ, 32, .inr (.inl ld_lost_c))), (co_reach, .inl (cJ, 2, .inr (.inl j2_co_reach_c))), (co_first, .inl (cJ, 2, .inr (.inl j2_co_first_c))), (co_back, .inl (cJ, 2, .inr (.inl j2_co_back_c))), (co_got, .inl (cJ, 2, .inr (.inl j2_co_got_c))), (bk_first, .inl (cJ, 32, .inr (.inl j2_bk_first_c))), (bk_back, .inl (cJ, 32, .inr (.inl j2_bk_back_c))), (bk_got, .inl (cJ, 32, .inr (.inl j2_bk_got_c)))] H := hP
        have hD : va_D A [(ld, .inr (4, [.int ld_lines, .int ld_years, .int ld_card, .int ld_hurt, .int ld_people, .int ld_pairs, .long ld_strikes, .ref ld_rule, .ref ld_returns, .ref ld_forgets, .ref ld_death, .ref ld_move, .ref ld_begun, .ref ld_who, .ref ld_lost])), (bk, .inr (0, [.int 0, .ref bk_first, .ref bk_back, .ref bk_got])), (co, .inr (2, [.int j2_co_years, .int j2_co_begun, .ref co_rule, .ref co_may, .ref co_reach, .ref co_first, .ref co_back, .ref co_got])), (ld_begun, .inl (cI, 16, .inl ld_begun_c)), (ld_who, .inl (cI, 32, .inl ld_who_c)), (ld_rule, .inl (cI, 10, .inl ld_rule_c)), (ld_returns, .inl (cI, 10, .inl ld_returns_c)), (co_rule, .inl (cI, 2, .inl j2_co_rule_c)), (ld_death, .inl (cI, 10, .inl ld_death_c)), (co_may, .inl (cJ, 2, .inr (.inl j2_co_may_c))), (ld_move, .inl (cI, 10, .inl ld_move_c)), (ld_lost, .inl (cJ, 32, .inr (.inl ld_lost_c))), (co_reach, .inl (cJ, 2, .inr (.inl j2_co_reach_c))), (co_first, .inl (cJ, 2, .inr (.inl j2_co_first_c))), (co_back, .inl (cJ, 2, .inr (.inl j2_co_back_c))), (co_got, .inl (cJ, 2, .inr (.inl j2_co_got_c))), (bk_first, .inl (cJ, 32, .inr (.inl j2_bk_first_c))), (bk_back, .inl (cJ, 32, .inr (.inl j2_bk_back_c))), (bk_got, .inl (cJ, 32, .inr (.inl j2_bk_got_c)))] := hD
        subst hQ
        have hP9 := hP.sub (ws' := [(ld, .inr (4, [.int ld_lines, .int ld_years, .int ld_card, .int ld_hurt, .int ld_people, .int ld_pairs, .long ld_strikes, .ref ld_rule, .ref ld_returns, .ref ld_forgets, .ref ld_death, .ref ld_move, .ref ld_begun, .ref ld_who, .ref ld_lost])), (bk, .inr (0, [.int 0, .ref bk_first, .ref bk_back, .ref bk_got])), (co, .inr (2, [.int j2_co_years, .int j2_co_begun, .ref co_rule, .ref co_may, .ref co_reach, .ref co_first, .ref co_back, .ref co_got])), (ld_begun, .inl (cI, 16, .inl ld_begun_c)), (ld_who, .inl (cI, 32, .inl ld_who_c)), (ld_rule, .inl (cI, 10, .inl ld_rule_c)), (ld_returns, .inl (cI, 10, .inl ld_returns_c)), (co_rule, .inl (cI, 2, .inl j2_co_rule_c)), (ld_death, .inl (cI, 10, .inl ld_death_c)), (co_may, .inl (cJ, 2, .inr (.inl j2_co_may_c))), (ld_move, .inl (cI, 10, .inl ld_move_c)), (ld_lost, .inl (cJ, 32, .inr (.inl ld_lost_c))), (co_reach, .inl (cJ, 2, .inr (.inl j2_co_reach_c))), (co_first, .inl (cJ, 2, .inr (.inl j2_co_first_c))), (co_back, .inl (cJ, 2, .inr (.inl j2_co_back_c))), (co_got, .inl (cJ, 2, .inr (.inl j2_co_got_c))), (bk_first, .inl (cJ, 32, .inr (.inl j2_bk_first_c))), (bk_back, .inl (cJ, 32, .inr (.inl j2_bk_back_c))), (bk_got, .inl (cJ, 32, .inr (.inl j2_bk_got_c)))]) [0, 1, 2, 3, 4, 5, 6, 7, 8, 9, 10, 11, 12, 13, 14, 15, 16, 17, 18] rfl
        have hD9 := hD.sub (ws' := [(ld, .inr (4, [.int ld_lines, .int ld_years, .int ld_card, .int ld_hurt, .int ld_people, .int ld_pairs, .long ld_strikes, .ref ld_rule, .ref ld_returns, .ref ld_forgets, .ref ld_death, .ref ld_move, .ref ld_begun, .ref ld_who, .ref ld_lost])), (bk, .inr (0, [.int 0, .ref bk_first, .ref bk_back, .ref bk_got])), (co, .inr (2, [.int j2_co_years, .int j2_co_begun, .ref co_rule, .ref co_may, .ref co_reach, .ref co_first, .ref co_back, .ref co_got])), (ld_begun, .inl (cI, 16, .inl ld_begun_c)), (ld_who, .inl (cI, 32, .inl ld_who_c)), (ld_rule, .inl (cI, 10, .inl ld_rule_c)), (ld_returns, .inl (cI, 10, .inl ld_returns_c)), (co_rule, .inl (cI, 2, .inl j2_co_rule_c)), (ld_death, .inl (cI, 10, .inl ld_death_c)), (co_may, .inl (cJ, 2, .inr (.inl j2_co_may_c))), (ld_move, .inl (cI, 10, .inl ld_move_c)), (ld_lost, .inl (cJ, 32, .inr (.inl ld_lost_c))), (co_reach, .inl (cJ, 2, .inr (.inl j2_co_reach_c))), (co_first, .inl (cJ, 2, .inr (.inl j2_co_first_c))), (co_back, .inl (cJ, 2, .inr (.inl j2_co_back_c))), (co_got, .inl (cJ, 2, .inr (.inl j2_co_got_c))), (bk_first, .inl (cJ, 32, .inr (.inl j2_bk_first_c))), (bk_back, .inl (cJ, 32, .inr (.inl j2_bk_back_c))), (bk_got, .inl (cJ, 32, .inr (.inl j2_bk_got_c)))]) [0, 1, 2, 3, 4, 5, 6, 7, 8, 9, 10, 11, 12, 13, 14, 15, 16, 17, 18] (by decide) rfl
        exact W.vret hx hb hr (fun t ht hW => ⟨⟨(0, j2_co_years, j2_co_begun, j2_co_rule_c, j2_co_may_c, j2_co_reach_c, j2_co_first_c, j2_co_back_c, j2_co_got_c, j2_bk_first_c, j2_bk_back_c, j2_bk_got_c), rfl, (show ir (0 : Int32).toInt 0 0 by decide), ⟨by rw [ht]; exact hP9, va_K.moved hW.alike hK, hD9⟩⟩, hS.F ht⟩) hS.2.2 dX0_writeAll_79
      have f7 := (show j2_l3.toInt < ld_pairs.toInt from z_nle rfl rfl c7)
      have r7a : ir j2_l3.toInt 0 15 := ir_lta f7 hj2_l3 hv_ld_pairs (by decide)
      have r7b : ir ld_pairs.toInt 1 16 := ir_ltb f7 hj2_l3 hv_ld_pairs (by decide)
      refine lv_aload_n hx hb dX0_writeAll_10 rfl (lv_at hl 2 rfl) ?_
      refine lv_aload_n hx hb dX0_writeAll_11 rfl (lv_at hl 1 rfl) ?_
      refine lv_iload_n hx hb dX0_writeAll_12 rfl (lv_at hl 3 rfl) ?_
      refine rw_v (wr := [(bk, .inr (0, [.int bk_stale, .ref bk_first, .ref bk_back, .ref bk_got])), (co_first, .inl (cJ, 2, .inr (.inl j2_co_first_c))), (co_back, .inl (cJ, 2, .inr (.inl j2_co_back_c))), (co_got, .inl (cJ, 2, .inr (.inl j2_co_got_c))), (bk_first, .inl (cJ, 32, .inr (.inl j2_bk_first_c))), (bk_back, .inl (cJ, 32, .inr (.inl j2_bk_back_c))), (bk_got, .inl (cJ, 32, .inr (.inl j2_bk_got_c)))]) (va_runV (As := [.ref ld, .int j2_l3]) (rest := []) ⟨hx, hb, hml, hown, hts⟩ (q_X2_take l g cI cJ cB cZ cL j2_l3 co ld ld_lines ld_years ld_card ld_hurt ld_people ld_pairs ld_strikes ld_rule ld_returns ld_forgets ld_death ld_move ld_begun ld_who ld_lost j2_co_years j2_co_begun co_rule co_may co_reach co_first co_back co_got ld_begun_c ld_who_c ld_rule_c ld_returns_c j2_co_rule_c ld_death_c j2_co_may_c ld_move_c ld_lost_c j2_co_reach_c H.size r7a hv_ld_years hv_ld_people (ir_w r7b (by decide) (by decide)) ha_ld_begun_c ha_ld_who_c) (cwV 2 hts (goodIn_app (g_4 (List.mem_cons_of_mem _ (List.mem_append_left _ (List.mem_of_getElem? (i := 2) rfl))) (List.mem_cons_of_mem _ (List.mem_append_left _ (List.mem_of_getElem? (i := 3) rfl))) (List.mem_cons_of_mem _ (List.mem_append_left _ (List.mem_of_getElem? (i := 4) rfl))) (List.mem_cons_of_mem _ (List.mem_append_left _ (List.mem_of_getElem? (i := 5) rfl))) (by decide +kernel)) (goodIn_sub (fun _ h => List.mem_cons_of_mem _ (List.mem_append_right _ (List.mem_append_left _ h))) good_v_X2_take)) rfl rfl rfl (by decide +kernel) ⟨Nat.le_of_ble_eq_true rfl, Nat.le_of_ble_eq_true rfl⟩) (pv_RW (q := (RX2, TX2, 8)) (ci := 2) (q0 := 1) (wc := [(ld, .inr (4, [.int ld_lines, .int ld_years, .int ld_card, .int ld_hurt, .int ld_people, .int ld_pairs, .long ld_strikes, .ref ld_rule, .ref ld_returns, .ref ld_forgets, .ref ld_death, .ref ld_move, .ref ld_begun, .ref ld_who, .ref ld_lost])), (co, .inr (2, [.int j2_co_years, .int j2_co_begun, .ref co_rule, .ref co_may, .ref co_reach, .ref co_first, .ref co_back, .ref co_got])), (ld_begun, .inl (cI, 16, .inl ld_begun_c)), (ld_who, .inl (cI, 32, .inl ld_who_c)), (ld_rule, .inl (cI, 10, .inl ld_rule_c)), (ld_returns, .inl (cI, 10, .inl ld_returns_c)), (co_rule, .inl (cI, 2, .inl j2_co_rule_c)), (ld_death, .inl (cI, 10, .inl ld_death_c)), (co_may, .inl (cJ, 2, .inr (.inl j2_co_may_c))), (ld_move, .inl (cI, 10, .inl ld_move_c)), (ld_lost, .inl (cJ, 32, .inr (.inl ld_lost_c))), (co_reach, .inl (cJ, 2, .inr (.inl j2_co_reach_c)))]) hK hP hD [0, 2, 3, 4, 5, 6, 7, 8, 9, 10, 11, 12] (by decide) rfl rfl rfl) rfl rfl hl.1 rfl (lv_room (Nat.le_of_ble_eq_true rfl)) dX0_writeAll_13 ⟨Nat.le_of_ble_eq_true rfl, Nat.le_of_ble_eq_true rfl⟩) hS hA hP hD [0, 2, 3, 4, 5, 6, 7, 8, 9, 10, 11, 12] [1, 13, 14, 15, 16, 17, 18] rfl rfl (by decide) (by decide) (fun u13 H locs hw13 hP hD hS => ?_)
      obtain ⟨n_co_years_13, n_co_begun_13, n_co_rule_c_13, n_co_may_c_13, n_co_reach_c_13⟩ := u13
      have hP : va_P g vwCl [(bk, .inr (0, [.int bk_stale, .ref bk_first, .ref bk_back, .ref bk_got])), (co_first, .inl (cJ, 2, .inr (.inl j2_co_first_c))), (co_back, .inl (cJ, 2, .inr (.inl j2_co_back_c))), (co_got, .inl (cJ, 2, .inr (.inl j2_co_got_c))), (bk_first, .inl (cJ, 32, .inr (.inl j2_bk_first_c))), (bk_back, .inl (cJ, 32, .inr (.inl j2_bk_back_c))), (bk_got, .inl (cJ, 32, .inr (.inl j2_bk_got_c))), (ld, .inr (4, [.int ld_lines, .int ld_years, .int ld_card, .int ld_hurt, .int ld_people, .int ld_pairs, .long ld_strikes, .ref ld_rule, .ref ld_returns, .ref ld_forgets, .ref ld_death, .ref ld_move, .ref ld_begun, .ref ld_who, .ref ld_lost])), (co, .inr (2, [.int n_co_years_13, .int n_co_begun_13, .ref co_rule, .ref co_may, .ref co_reach, .ref co_first, .ref co_back, .ref co_got])), (ld_begun, .inl (cI, 16, .inl ld_begun_c)), (ld_who, .inl (cI, 32, .inl ld_who_c)), (ld_rule, .inl (cI, 10, .inl ld_rule_c)), (ld_returns, .inl (cI, 10, .inl ld_returns_c)), (co_rule, .inl (cI, 2, .inl n_co_rule_c_13)), (ld_death, .inl (cI, 10, .inl ld_death_c)), (co_may, .inl (cJ, 2, .inr (.inl n_co_may_c_13))), (ld_move, .inl (cI, 10, .inl ld_move_c)), (ld_lost, .inl (cJ, 32, .inr (.inl ld_lost_c))), (co_reach, .inl (cJ, 2, .inr (.inl n_co_reach_c_13)))] H := hP
      have hD : va_D A [(bk, .inr (0, [.int bk_stale, .ref bk_first, .ref bk_back, .ref bk_got])), (co_first, .inl (cJ, 2, .inr (.inl j2_co_first_c))), (co_back, .inl (cJ, 2, .inr (.inl j2_co_back_c))), (co_got, .inl (cJ, 2, .inr (.inl j2_co_got_c))), (bk_first, .inl (cJ, 32, .inr (.inl j2_bk_first_c))), (bk_back, .inl (cJ, 32, .inr (.inl j2_bk_back_c))), (bk_got, .inl (cJ, 32, .inr (.inl j2_bk_got_c))), (ld, .inr (4, [.int ld_lines, .int ld_years, .int ld_card, .int ld_hurt, .int ld_people, .int ld_pairs, .long ld_strikes, .ref ld_rule, .ref ld_returns, .ref ld_forgets, .ref ld_death, .ref ld_move, .ref ld_begun, .ref ld_who, .ref ld_lost])), (co, .inr (2, [.int n_co_years_13, .int n_co_begun_13, .ref co_rule, .ref co_may, .ref co_reach, .ref co_first, .ref co_back, .ref co_got])), (ld_begun, .inl (cI, 16, .inl ld_begun_c)), (ld_who, .inl (cI, 32, .inl ld_who_c)), (ld_rule, .inl (cI, 10, .inl ld_rule_c)), (ld_returns, .inl (cI, 10, .inl ld_returns_c)), (co_rule, .inl (cI, 2, .inl n_co_rule_c_13)), (ld_death, .inl (cI, 10, .inl ld_death_c)), (co_may, .inl (cJ, 2, .inr (.inl n_co_may_c_13))), (ld_move, .inl (cI, 10, .inl ld_move_c)), (ld_lost, .inl (cJ, 32, .inr (.inl ld_lost_c))), (co_reach, .inl (cJ, 2, .inr (.inl n_co_reach_c_13)))] := hD
      dsimp only at hw13
      obtain ⟨hw13_0, hw13_1⟩ := hw13
      refine lv_aload_n hx hb dX0_writeAll_16 rfl (lv_at hl 2 rfl) ?_
      refine rw_v (wr := [(bk, .inr (0, [.int bk_stale, .ref bk_first, .ref bk_back, .ref bk_got])), (bk_first, .inl (cJ, 32, .inr (.inl j2_bk_first_c))), (bk_back, .inl (cJ, 32, .inr (.inl j2_bk_back_c))), (bk_got, .inl (cJ, 32, .inr (.inl j2_bk_got_c))), (ld, .inr (4, [.int ld_lines, .int ld_years, .int ld_card, .int ld_hurt, .int ld_people, .int ld_pairs, .long ld_strikes, .ref ld_rule, .ref ld_returns, .ref ld_forgets, .ref ld_death, .ref ld_move, .ref ld_begun, .ref ld_who, .ref ld_lost])), (ld_begun, .inl (cI, 16, .inl ld_begun_c)), (ld_who, .inl (cI, 32, .inl ld_who_c)), (ld_rule, .inl (cI, 10, .inl ld_rule_c)), (ld_returns, .inl (cI, 10, .inl ld_returns_c)), (ld_death, .inl (cI, 10, .inl ld_death_c)), (ld_move, .inl (cI, 10, .inl ld_move_c)), (ld_lost, .inl (cJ, 32, .inr (.inl ld_lost_c)))]) (va_runV (As := []) (rest := []) ⟨hx, hb, hml, hown, hts⟩ (q_X2_run l g cI cJ cB cZ cL kA vA co n_co_years_13 n_co_begun_13 co_rule co_may co_reach co_first co_back co_got j2_co_first_c j2_co_back_c j2_co_got_c n_co_rule_c_13 n_co_may_c_13 n_co_reach_c_13 H.size ) (cwV 0 hts (goodIn_app (g_4 (List.mem_cons_of_mem _ (List.mem_append_left _ (List.mem_of_getElem? (i := 6) rfl))) (List.mem_cons_of_mem _ (List.mem_append_left _ (List.mem_of_getElem? (i := 7) rfl))) (List.mem_cons_of_mem _ (List.mem_append_left _ (List.mem_of_getElem? (i := 8) rfl))) (List.mem_cons_of_mem _ (List.mem_append_left _ (List.mem_of_getElem? (i := 5) rfl))) (by decide +kernel)) (goodIn_sub (fun _ h => List.mem_cons_of_mem _ (List.mem_append_right _ (List.mem_append_right _ (List.mem_append_left _ h)))) good_v_X2_run)) rfl rfl rfl (by decide +kernel) ⟨Nat.le_of_ble_eq_true rfl, Nat.le_of_ble_eq_true rfl⟩) (pvE_RW (pv_RW (q := (RX2, TX2, 8)) (ci := 2) (q0 := 0) (wc := [(co, .inr (2, [.int n_co_years_13, .int n_co_begun_13, .ref co_rule, .ref co_may, .ref co_reach, .ref co_first, .ref co_back, .ref co_got])), (co_first, .inl (cJ, 2, .inr (.inl j2_co_first_c))), (co_back, .inl (cJ, 2, .inr (.inl j2_co_back_c))), (co_got, .inl (cJ, 2, .inr (.inl j2_co_got_c))), (co_rule, .inl (cI, 2, .inl n_co_rule_c_13)), (co_may, .inl (cJ, 2, .inr (.inl n_co_may_c_13))), (co_reach, .inl (cJ, 2, .inr (.inl n_co_reach_c_13)))]) hK hP hD [8, 1, 2, 3, 13, 15, 18] (by decide) rfl rfl rfl) hE hS (va_free hD hS hA [8, 1, 2, 3, 13, 15, 18] rfl)) rfl rfl hl.1 rfl (lv_room (Nat.le_of_ble_eq_true rfl)) dX0_writeAll_17 ⟨Nat.le_of_ble_eq_true rfl, Nat.le_of_ble_eq_true rfl⟩) hS hA hP hD [8, 1, 2, 3, 13, 15, 18] [0, 4, 5, 6, 7, 9, 10, 11, 12, 14, 16, 17] rfl rfl (by decide) (by decide) (fun u17 H locs hw17 hP hD hS => ?_)
      obtain ⟨n_co_first_c_17, n_co_back_c_17, n_co_got_c_17⟩ := u17
      have hP : va_P g vwCl [(bk, .inr (0, [.int bk_stale, .ref bk_first, .ref bk_back, .ref bk_got])), (bk_first, .inl (cJ, 32, .inr (.inl j2_bk_first_c))), (bk_back, .inl (cJ, 32, .inr (.inl j2_bk_back_c))), (bk_got, .inl (cJ, 32, .inr (.inl j2_bk_got_c))), (ld, .inr (4, [.int ld_lines, .int ld_years, .int ld_card, .int ld_hurt, .int ld_people, .int ld_pairs, .long ld_strikes, .ref ld_rule, .ref ld_returns, .ref ld_forgets, .ref ld_death, .ref ld_move, .ref ld_begun, .ref ld_who, .ref ld_lost])), (ld_begun, .inl (cI, 16, .inl ld_begun_c)), (ld_who, .inl (cI, 32, .inl ld_who_c)), (ld_rule, .inl (cI, 10, .inl ld_rule_c)), (ld_returns, .inl (cI, 10, .inl ld_returns_c)), (ld_death, .inl (cI, 10, .inl ld_death_c)), (ld_move, .inl (cI, 10, .inl ld_move_c)), (ld_lost, .inl (cJ, 32, .inr (.inl ld_lost_c))), (co, .inr (2, [.int n_co_years_13, .int n_co_begun_13, .ref co_rule, .ref co_may, .ref co_reach, .ref co_first, .ref co_back, .ref co_got])), (co_first, .inl (cJ, 2, .inr (.inl n_co_first_c_17))), (co_back, .inl (cJ, 2, .inr (.inl n_co_back_c_17))), (co_got, .inl (cJ, 2, .inr (.inl n_co_got_c_17))), (co_rule, .inl (cI, 2, .inl n_co_rule_c_13)), (co_may, .inl (cJ, 2, .inr (.inl n_co_may_c_13))), (co_reach, .inl (cJ, 2, .inr (.inl n_co_reach_c_13)))] H := hP
      have hD : va_D A [(bk, .inr (0, [.int bk_stale, .ref bk_first, .ref bk_back, .ref bk_got])), (bk_first, .inl (cJ, 32, .inr (.inl j2_bk_first_c))), (bk_back, .inl (cJ, 32, .inr (.inl j2_bk_back_c))), (bk_got, .inl (cJ, 32, .inr (.inl j2_bk_got_c))), (ld, .inr (4, [.int ld_lines, .int ld_years, .int ld_card, .int ld_hurt, .int ld_people, .int ld_pairs, .long ld_strikes, .ref ld_rule, .ref ld_returns, .ref ld_forgets, .ref ld_death, .ref ld_move, .ref ld_begun, .ref ld_who, .ref ld_lost])), (ld_begun, .inl (cI, 16, .inl ld_begun_c)), (ld_who, .inl (cI, 32, .inl ld_who_c)), (ld_rule, .inl (cI, 10, .inl ld_rule_c)), (ld_returns, .inl (cI, 10, .inl ld_returns_c)), (ld_death, .inl (cI, 10, .inl ld_death_c)), (ld_move, .inl (cI, 10, .inl ld_move_c)), (ld_lost, .inl (cJ, 32, .inr (.inl ld_lost_c))), (co, .inr (2, [.int n_co_years_13, .int n_co_begun_13, .ref co_rule, .ref co_may, .ref co_reach, .ref co_first, .ref co_back, .ref co_got])), (co_first, .inl (cJ, 2, .inr (.inl n_co_first_c_17))), (co_back, .inl (cJ, 2, .inr (.inl n_co_back_c_17))), (co_got, .inl (cJ, 2, .inr (.inl n_co_got_c_17))), (co_rule, .inl (cI, 2, .inl n_co_rule_c_13)), (co_may, .inl (cJ, 2, .inr (.inl n_co_may_c_13))), (co_reach, .inl (cJ, 2, .inr (.inl n_co_reach_c_13)))] := hD
      refine lv_aload_n hx hb dX0_writeAll_20 rfl (lv_at hl 2 rfl) ?_
      refine va_get (D := g) (ci := 2) (v := .ref co_first) (C := RX2) (T := TX2) (N := 8) hx hb hts iX2 hown hK hP 12 rfl rfl 5 (by decide) (hts (.fieldLink RX0 40 "CardsAtYule$Course" "first" "[J") (List.mem_cons_of_mem _ (List.mem_append_left _ (List.mem_of_getElem? (i := 9) rfl)))) (fun _ h9 => h9) rfl dX0_writeAll_21 ?_
      refine lv_iconst (v := 0) hx hb dX0_writeAll_24 (by decide) ?_
      refine lv_aload_n hx hb dX0_writeAll_25 rfl (lv_at hl 0 rfl) ?_
      refine va_get (D := g) (ci := 0) (v := .ref bk_first) (C := RX0) (T := TX0) (N := 4) hx hb hts iX0 hown hK hP 0 rfl rfl 1 (by decide) (hts (.fieldLink RX0 15 "CardsAtYule$Book" "first" "[J") (List.mem_cons_of_mem _ (List.mem_append_left _ (List.mem_of_getElem? (i := 10) rfl)))) (fun _ h9 => h9) rfl dX0_writeAll_26 ?_
      refine lv_iconst (v := 2) hx hb dX0_writeAll_29 (by decide) ?_
      refine lv_iload_n hx hb dX0_writeAll_30 rfl (lv_at hl 3 rfl) ?_
      refine lv_imul hx hb dX0_writeAll_31 ?_
      refine lv_topi (fun y31 e31 => ?_)
      have q31 : y31.toInt = 2 * j2_l3.toInt := by rw [e31]; exact mu_z rfl rfl (ir_c 2) r7a (by decide) (by decide) (by decide)
      have r31 : ir y31.toInt 0 30 := mu_r q31 (ir_c 2) r7a (by decide) (by decide) (by decide) (by decide)
      refine lv_iconst (v := 2) hx hb dX0_writeAll_32 (by decide) ?_
      refine va_copyl (D := g) hx hb (hml.trans hl.1.symm) hown (hts (.methodLink RX0 41 arraycopyName) (List.mem_cons_of_mem _ (List.mem_append_left _ (List.mem_of_getElem? (i := 11) rfl)))) (hts (.native arraycopyName) (List.mem_cons_of_mem _ (List.mem_append_left _ (List.mem_of_getElem? (i := 12) rfl)))) (hts (.static arraycopyName) (List.mem_cons_of_mem _ (List.mem_append_left _ (List.mem_of_getElem? (i := 13) rfl)))) (hts (.initialized "java/lang/System") (List.mem_cons_of_mem _ (List.mem_append_left _ (List.mem_of_getElem? (i := 14) rfl)))) hK hP hD hS 13 1 1 1 rfl rfl rfl rfl rfl (by decide) (nn_i rfl r31 (by decide)) (by decide) (by decide) (cp_i rfl rfl r31 (ir_c 2) (by decide) (by decide) (by decide)) (fun _ _ => rfl) (Nat.le_of_ble_eq_true rfl) (Nat.le_of_ble_eq_true rfl) dX0_writeAll_33 (fun H locs hP hD hS => ?_)
      obtain ⟨g33, e33⟩ : ∃ z, z = va_cpy n_co_first_c_17 j2_bk_first_c 0 y31.toNatClampNeg 2 := ⟨_, rfl⟩
      have hP : va_P g vwCl [(bk, .inr (0, [.int bk_stale, .ref bk_first, .ref bk_back, .ref bk_got])), (bk_first, .inl (cJ, 32, .inr (.inl (va_cpy n_co_first_c_17 j2_bk_first_c 0 y31.toNatClampNeg 2)))), (bk_back, .inl (cJ, 32, .inr (.inl j2_bk_back_c))), (bk_got, .inl (cJ, 32, .inr (.inl j2_bk_got_c))), (ld, .inr (4, [.int ld_lines, .int ld_years, .int ld_card, .int ld_hurt, .int ld_people, .int ld_pairs, .long ld_strikes, .ref ld_rule, .ref ld_returns, .ref ld_forgets, .ref ld_death, .ref ld_move, .ref ld_begun, .ref ld_who, .ref ld_lost])), (ld_begun, .inl (cI, 16, .inl ld_begun_c)), (ld_who, .inl (cI, 32, .inl ld_who_c)), (ld_rule, .inl (cI, 10, .inl ld_rule_c)), (ld_returns, .inl (cI, 10, .inl ld_returns_c)), (ld_death, .inl (cI, 10, .inl ld_death_c)), (ld_move, .inl (cI, 10, .inl ld_move_c)), (ld_lost, .inl (cJ, 32, .inr (.inl ld_lost_c))), (co, .inr (2, [.int n_co_years_13, .int n_co_begun_13, .ref co_rule, .ref co_may, .ref co_reach, .ref co_first, .ref co_back, .ref co_got])), (co_first, .inl (cJ, 2, .inr (.inl n_co_first_c_17))), (co_back, .inl (cJ, 2, .inr (.inl n_co_back_c_17))), (co_got, .inl (cJ, 2, .inr (.inl n_co_got_c_17))), (co_rule, .inl (cI, 2, .inl n_co_rule_c_13)), (co_may, .inl (cJ, 2, .inr (.inl n_co_may_c_13))), (co_reach, .inl (cJ, 2, .inr (.inl n_co_reach_c_13)))] H := hP
      have hD : va_D A [(bk, .inr (0, [.int bk_stale, .ref bk_first, .ref bk_back, .ref bk_got])), (bk_first, .inl (cJ, 32, .inr (.inl (va_cpy n_co_first_c_17 j2_bk_first_c 0 y31.toNatClampNeg 2)))), (bk_back, .inl (cJ, 32, .inr (.inl j2_bk_back_c))), (bk_got, .inl (cJ, 32, .inr (.inl j2_bk_got_c))), (ld, .inr (4, [.int ld_lines, .int ld_years, .int ld_card, .int ld_hurt, .int ld_people, .int ld_pairs, .long ld_strikes, .ref ld_rule, .ref ld_returns, .ref ld_forgets, .ref ld_death, .ref ld_move, .ref ld_begun, .ref ld_who, .ref ld_lost])), (ld_begun, .inl (cI, 16, .inl ld_begun_c)), (ld_who, .inl (cI, 32, .inl ld_who_c)), (ld_rule, .inl (cI, 10, .inl ld_rule_c)), (ld_returns, .inl (cI, 10, .inl ld_returns_c)), (ld_death, .inl (cI, 10, .inl ld_death_c)), (ld_move, .inl (cI, 10, .inl ld_move_c)), (ld_lost, .inl (cJ, 32, .inr (.inl ld_lost_c))), (co, .inr (2, [.int n_co_years_13, .int n_co_begun_13, .ref co_rule, .ref co_may, .ref co_reach, .ref co_first, .ref co_back, .ref co_got])), (co_first, .inl (cJ, 2, .inr (.inl n_co_first_c_17))), (co_back, .inl (cJ, 2, .inr (.inl n_co_back_c_17))), (co_got, .inl (cJ, 2, .inr (.inl n_co_got_c_17))), (co_rule, .inl (cI, 2, .inl n_co_rule_c_13)), (co_may, .inl (cJ, 2, .inr (.inl n_co_may_c_13))), (co_reach, .inl (cJ, 2, .inr (.inl n_co_reach_c_13)))] := hD
      rw [← e33] at hP hD
      refine lv_aload_n hx hb dX0_writeAll_36 rfl (lv_at hl 2 rfl) ?_
      refine va_get (D := g) (ci := 2) (v := .ref co_back) (C := RX2) (T := TX2) (N := 8) hx hb hts iX2 hown hK hP 12 rfl rfl 6 (by decide) (hts (.fieldLink RX0 47 "CardsAtYule$Course" "back" "[J") (List.mem_cons_of_mem _ (List.mem_append_left _ (List.mem_of_getElem? (i := 15) rfl)))) (fun _ h9 => h9) rfl dX0_writeAll_37 ?_
      refine lv_iconst (v := 0) hx hb dX0_writeAll_40 (by decide) ?_
      refine lv_aload_n hx hb dX0_writeAll_41 rfl (lv_at hl 0 rfl) ?_
      refine va_get (D := g) (ci := 0) (v := .ref bk_back) (C := RX0) (T := TX0) (N := 4) hx hb hts iX0 hown hK hP 0 rfl rfl 2 (by decide) (hts (.fieldLink RX0 19 "CardsAtYule$Book" "back" "[J") (List.mem_cons_of_mem _ (List.mem_append_left _ (List.mem_of_getElem? (i := 16) rfl)))) (fun _ h9 => h9) rfl dX0_writeAll_42 ?_
      refine lv_iconst (v := 2) hx hb dX0_writeAll_45 (by decide) ?_
      refine lv_iload_n hx hb dX0_writeAll_46 rfl (lv_at hl 3 rfl) ?_
      refine lv_imul hx hb dX0_writeAll_47 ?_
      refine lv_topi (fun y47 e47 => ?_)
      have q47 : y47.toInt = 2 * j2_l3.toInt := by rw [e47]; exact mu_z rfl rfl (ir_c 2) r7a (by decide) (by decide) (by decide)
      have r47 : ir y47.toInt 0 30 := mu_r q47 (ir_c 2) r7a (by decide) (by decide) (by decide) (by decide)
      refine lv_iconst (v := 2) hx hb dX0_writeAll_48 (by decide) ?_
      refine va_copyl (D := g) hx hb (hml.trans hl.1.symm) hown (hts (.methodLink RX0 41 arraycopyName) (List.mem_cons_of_mem _ (List.mem_append_left _ (List.mem_of_getElem? (i := 11) rfl)))) (hts (.native arraycopyName) (List.mem_cons_of_mem _ (List.mem_append_left _ (List.mem_of_getElem? (i := 12) rfl)))) (hts (.static arraycopyName) (List.mem_cons_of_mem _ (List.mem_append_left _ (List.mem_of_getElem? (i := 13) rfl)))) (hts (.initialized "java/lang/System") (List.mem_cons_of_mem _ (List.mem_append_left _ (List.mem_of_getElem? (i := 14) rfl)))) hK hP hD hS 14 2 1 1 rfl rfl rfl rfl rfl (by decide) (nn_i rfl r47 (by decide)) (by decide) (by decide) (cp_i rfl rfl r47 (ir_c 2) (by decide) (by decide) (by decide)) (fun _ _ => rfl) (Nat.le_of_ble_eq_true rfl) (Nat.le_of_ble_eq_true rfl) dX0_writeAll_49 (fun H locs hP hD hS => ?_)
      obtain ⟨g49, e49⟩ : ∃ z, z = va_cpy n_co_back_c_17 j2_bk_back_c 0 y47.toNatClampNeg 2 := ⟨_, rfl⟩
      have hP : va_P g vwCl [(bk, .inr (0, [.int bk_stale, .ref bk_first, .ref bk_back, .ref bk_got])), (bk_first, .inl (cJ, 32, .inr (.inl g33))), (bk_back, .inl (cJ, 32, .inr (.inl (va_cpy n_co_back_c_17 j2_bk_back_c 0 y47.toNatClampNeg 2)))), (bk_got, .inl (cJ, 32, .inr (.inl j2_bk_got_c))), (ld, .inr (4, [.int ld_lines, .int ld_years, .int ld_card, .int ld_hurt, .int ld_people, .int ld_pairs, .long ld_strikes, .ref ld_rule, .ref ld_returns, .ref ld_forgets, .ref ld_death, .ref ld_move, .ref ld_begun, .ref ld_who, .ref ld_lost])), (ld_begun, .inl (cI, 16, .inl ld_begun_c)), (ld_who, .inl (cI, 32, .inl ld_who_c)), (ld_rule, .inl (cI, 10, .inl ld_rule_c)), (ld_returns, .inl (cI, 10, .inl ld_returns_c)), (ld_death, .inl (cI, 10, .inl ld_death_c)), (ld_move, .inl (cI, 10, .inl ld_move_c)), (ld_lost, .inl (cJ, 32, .inr (.inl ld_lost_c))), (co, .inr (2, [.int n_co_years_13, .int n_co_begun_13, .ref co_rule, .ref co_may, .ref co_reach, .ref co_first, .ref co_back, .ref co_got])), (co_first, .inl (cJ, 2, .inr (.inl n_co_first_c_17))), (co_back, .inl (cJ, 2, .inr (.inl n_co_back_c_17))), (co_got, .inl (cJ, 2, .inr (.inl n_co_got_c_17))), (co_rule, .inl (cI, 2, .inl n_co_rule_c_13)), (co_may, .inl (cJ, 2, .inr (.inl n_co_may_c_13))), (co_reach, .inl (cJ, 2, .inr (.inl n_co_reach_c_13)))] H := hP
      have hD : va_D A [(bk, .inr (0, [.int bk_stale, .ref bk_first, .ref bk_back, .ref bk_got])), (bk_first, .inl (cJ, 32, .inr (.inl g33))), (bk_back, .inl (cJ, 32, .inr (.inl (va_cpy n_co_back_c_17 j2_bk_back_c 0 y47.toNatClampNeg 2)))), (bk_got, .inl (cJ, 32, .inr (.inl j2_bk_got_c))), (ld, .inr (4, [.int ld_lines, .int ld_years, .int ld_card, .int ld_hurt, .int ld_people, .int ld_pairs, .long ld_strikes, .ref ld_rule, .ref ld_returns, .ref ld_forgets, .ref ld_death, .ref ld_move, .ref ld_begun, .ref ld_who, .ref ld_lost])), (ld_begun, .inl (cI, 16, .inl ld_begun_c)), (ld_who, .inl (cI, 32, .inl ld_who_c)), (ld_rule, .inl (cI, 10, .inl ld_rule_c)), (ld_returns, .inl (cI, 10, .inl ld_returns_c)), (ld_death, .inl (cI, 10, .inl ld_death_c)), (ld_move, .inl (cI, 10, .inl ld_move_c)), (ld_lost, .inl (cJ, 32, .inr (.inl ld_lost_c))), (co, .inr (2, [.int n_co_years_13, .int n_co_begun_13, .ref co_rule, .ref co_may, .ref co_reach, .ref co_first, .ref co_back, .ref co_got])), (co_first, .inl (cJ, 2, .inr (.inl n_co_first_c_17))), (co_back, .inl (cJ, 2, .inr (.inl n_co_back_c_17))), (co_got, .inl (cJ, 2, .inr (.inl n_co_got_c_17))), (co_rule, .inl (cI, 2, .inl n_co_rule_c_13)), (co_may, .inl (cJ, 2, .inr (.inl n_co_may_c_13))), (co_reach, .inl (cJ, 2, .inr (.inl n_co_reach_c_13)))] := hD
      rw [← e49] at hP hD
      refine lv_aload_n hx hb dX0_writeAll_52 rfl (lv_at hl 2 rfl) ?_
      refine va_get (D := g) (ci := 2) (v := .ref co_got) (C := RX2) (T := TX2) (N := 8) hx hb hts iX2 hown hK hP 12 rfl rfl 7 (by decide) (hts (.fieldLink RX0 48 "CardsAtYule$Course" "got" "[J") (List.mem_cons_of_mem _ (List.mem_append_left _ (List.mem_of_getElem? (i := 17) rfl)))) (fun _ h9 => h9) rfl dX0_writeAll_53 ?_
      refine lv_iconst (v := 0) hx hb dX0_writeAll_56 (by decide) ?_
      refine lv_aload_n hx hb dX0_writeAll_57 rfl (lv_at hl 0 rfl) ?_
      refine va_get (D := g) (ci := 0) (v := .ref bk_got) (C := RX0) (T := TX0) (N := 4) hx hb hts iX0 hown hK hP 0 rfl rfl 3 (by decide) (hts (.fieldLink RX0 22 "CardsAtYule$Book" "got" "[J") (List.mem_cons_of_mem _ (List.mem_append_left _ (List.mem_of_getElem? (i := 18) rfl)))) (fun _ h9 => h9) rfl dX0_writeAll_58 ?_
      refine lv_iconst (v := 2) hx hb dX0_writeAll_61 (by decide) ?_
      refine lv_iload_n hx hb dX0_writeAll_62 rfl (lv_at hl 3 rfl) ?_
      refine lv_imul hx hb dX0_writeAll_63 ?_
      refine lv_topi (fun y63 e63 => ?_)
      have q63 : y63.toInt = 2 * j2_l3.toInt := by rw [e63]; exact mu_z rfl rfl (ir_c 2) r7a (by decide) (by decide) (by decide)
      have r63 : ir y63.toInt 0 30 := mu_r q63 (ir_c 2) r7a (by decide) (by decide) (by decide) (by decide)
      refine lv_iconst (v := 2) hx hb dX0_writeAll_64 (by decide) ?_
      refine va_copyl (D := g) hx hb (hml.trans hl.1.symm) hown (hts (.methodLink RX0 41 arraycopyName) (List.mem_cons_of_mem _ (List.mem_append_left _ (List.mem_of_getElem? (i := 11) rfl)))) (hts (.native arraycopyName) (List.mem_cons_of_mem _ (List.mem_append_left _ (List.mem_of_getElem? (i := 12) rfl)))) (hts (.static arraycopyName) (List.mem_cons_of_mem _ (List.mem_append_left _ (List.mem_of_getElem? (i := 13) rfl)))) (hts (.initialized "java/lang/System") (List.mem_cons_of_mem _ (List.mem_append_left _ (List.mem_of_getElem? (i := 14) rfl)))) hK hP hD hS 15 3 1 1 rfl rfl rfl rfl rfl (by decide) (nn_i rfl r63 (by decide)) (by decide) (by decide) (cp_i rfl rfl r63 (ir_c 2) (by decide) (by decide) (by decide)) (fun _ _ => rfl) (Nat.le_of_ble_eq_true rfl) (Nat.le_of_ble_eq_true rfl) dX0_writeAll_65 (fun H locs hP hD hS => ?_)
      obtain ⟨g65, e65⟩ : ∃ z, z = va_cpy n_co_got_c_17 j2_bk_got_c 0 y63.toNatClampNeg 2 := ⟨_, rfl⟩
      have hP : va_P g vwCl [(bk, .inr (0, [.int bk_stale, .ref bk_first, .ref bk_back, .ref bk_got])), (bk_first, .inl (cJ, 32, .inr (.inl g33))), (bk_back, .inl (cJ, 32, .inr (.inl g49))), (bk_got, .inl (cJ, 32, .inr (.inl (va_cpy n_co_got_c_17 j2_bk_got_c 0 y63.toNatClampNeg 2)))), (ld, .inr (4, [.int ld_lines, .int ld_years, .int ld_card, .int ld_hurt, .int ld_people, .int ld_pairs, .long ld_strikes, .ref ld_rule, .ref ld_returns, .ref ld_forgets, .ref ld_death, .ref ld_move, .ref ld_begun, .ref ld_who, .ref ld_lost])), (ld_begun, .inl (cI, 16, .inl ld_begun_c)), (ld_who, .inl (cI, 32, .inl ld_who_c)), (ld_rule, .inl (cI, 10, .inl ld_rule_c)), (ld_returns, .inl (cI, 10, .inl ld_returns_c)), (ld_death, .inl (cI, 10, .inl ld_death_c)), (ld_move, .inl (cI, 10, .inl ld_move_c)), (ld_lost, .inl (cJ, 32, .inr (.inl ld_lost_c))), (co, .inr (2, [.int n_co_years_13, .int n_co_begun_13, .ref co_rule, .ref co_may, .ref co_reach, .ref co_first, .ref co_back, .ref co_got])), (co_first, .inl (cJ, 2, .inr (.inl n_co_first_c_17))), (co_back, .inl (cJ, 2, .inr (.inl n_co_back_c_17))), (co_got, .inl (cJ, 2, .inr (.inl n_co_got_c_17))), (co_rule, .inl (cI, 2, .inl n_co_rule_c_13)), (co_may, .inl (cJ, 2, .inr (.inl n_co_may_c_13))), (co_reach, .inl (cJ, 2, .inr (.inl n_co_reach_c_13)))] H := hP
      have hD : va_D A [(bk, .inr (0, [.int bk_stale, .ref bk_first, .ref bk_back, .ref bk_got])), (bk_first, .inl (cJ, 32, .inr (.inl g33))), (bk_back, .inl (cJ, 32, .inr (.inl g49))), (bk_got, .inl (cJ, 32, .inr (.inl (va_cpy n_co_got_c_17 j2_bk_got_c 0 y63.toNatClampNeg 2)))), (ld, .inr (4, [.int ld_lines, .int ld_years, .int ld_card, .int ld_hurt, .int ld_people, .int ld_pairs, .long ld_strikes, .ref ld_rule, .ref ld_returns, .ref ld_forgets, .ref ld_death, .ref ld_move, .ref ld_begun, .ref ld_who, .ref ld_lost])), (ld_begun, .inl (cI, 16, .inl ld_begun_c)), (ld_who, .inl (cI, 32, .inl ld_who_c)), (ld_rule, .inl (cI, 10, .inl ld_rule_c)), (ld_returns, .inl (cI, 10, .inl ld_returns_c)), (ld_death, .inl (cI, 10, .inl ld_death_c)), (ld_move, .inl (cI, 10, .inl ld_move_c)), (ld_lost, .inl (cJ, 32, .inr (.inl ld_lost_c))), (co, .inr (2, [.int n_co_years_13, .int n_co_begun_13, .ref co_rule, .ref co_may, .ref co_reach, .ref co_first, .ref co_back, .ref co_got])), (co_first, .inl (cJ, 2, .inr (.inl n_co_first_c_17))), (co_back, .inl (cJ, 2, .inr (.inl n_co_back_c_17))), (co_got, .inl (cJ, 2, .inr (.inl n_co_got_c_17))), (co_rule, .inl (cI, 2, .inl n_co_rule_c_13)), (co_may, .inl (cJ, 2, .inr (.inl n_co_may_c_13))), (co_reach, .inl (cJ, 2, .inr (.inl n_co_reach_c_13)))] := hD
      rw [← e65] at hP hD
      obtain ⟨y68, e68⟩ : ∃ y : Int32, y = j2_l3 + 1 := ⟨_, rfl⟩
      have q68 : y68.toInt = j2_l3.toInt + 1 := by rw [e68]; exact ad_z rfl rfl r7a (ir_c 1) (by decide) (by decide)
      have r68 : ir y68.toInt 1 16 := ad_r q68 r7a (ir_c 1) (by decide) (by decide)
      refine lv_iinc (v := y68) (lv' := [(3, .int y68), (0, .ref bk), (1, .ref ld), (2, .ref co)]) hx hb dX0_writeAll_68 hl (k := 3) rfl e68.symm (by decide) rfl (fun ls hl => ?_)
      refine lv_goto (tgt := 2) hx hb dX0_writeAll_71 (by decide) ?_
      exact ih2 y68 n_co_years_13 n_co_begun_13 n_co_first_c_17 n_co_back_c_17 n_co_got_c_17 n_co_rule_c_13 n_co_may_c_13 n_co_reach_c_13 g33 g49 g65 _ _ _ (by omega) (ir_w r68 (by decide) (by decide)) (hP.sub [4, 0, 12, 5, 6, 7, 8, 16, 9, 17, 10, 11, 18, 13, 14, 15, 1, 2, 3] rfl) (hD.sub [4, 0, 12, 5, 6, 7, 8, 16, 9, 17, 10, 11, 18, 13, 14, 15, 1, 2, 3] (by decide) rfl) hS (lv_sub hl [1, 2, 3, 0] rfl)
  exact J2 _ 0 co_years co_begun co_first_c co_back_c co_got_c co_rule_c co_may_c co_reach_c bk_first_c bk_back_c bk_got_c _ _ _ (Nat.lt_succ_self _) (by decide) (hP.sub [0, 1, 2, 3, 4, 5, 6, 7, 8, 9, 10, 11, 12, 13, 14, 15, 16, 17, 18] rfl) (hD.sub [0, 1, 2, 3, 4, 5, 6, 7, 8, 9, 10, 11, 12, 13, 14, 15, 16, 17, 18] (by decide) rfl) hS (lv_sub hl [1, 2, 3, 0] rfl)
def v_X0_sentOf : List Cond := .code yX0_sentOf cX0_sentOf 2 (some .long) :: (([.fieldLink RX0 15 "CardsAtYule$Book" "first" "[J", .fieldLink RX0 19 "CardsAtYule$Book" "back" "[J"] : List Cond) ++ (wsX00 ++ ([] : List Cond)))
theorem good_v_X0_sentOf : v_X0_sentOf.all goodWord = true := ga_c (by decide +kernel) (ga_a (by decide +kernel) (ga_a good_wsX00 rfl))
set_option maxHeartbeats 4000000 in
set_option maxRecDepth 100000 in
theorem q_X0_sentOf (l : Launch) (g : va_G) (cI cJ cB cZ cL : ClassId) (p0 : Int32) (bk : Nat) (bk_stale : Int32) (bk_first : Nat) (bk_back : Nat) (bk_got : Nat) (bk_first_c : Nat → Int64) (bk_back_c : Nat → Int64) (sz : Nat) (hv_p0 : ir p0.toInt 0 31) (hv_bk_stale : ir bk_stale.toInt 0 1) : Met l yX0_sentOf v_X0_sentOf ({ frames := 0, cells := 0, slots := 0, locals := 0 }) (va_Pc [.ref bk, .int p0] (pRO g (tyT cI cJ cB cZ cL) [(bk, .inr (0, [.int bk_stale, .ref bk_first, .ref bk_back, .ref bk_got])), (bk_first, .inl (cJ, 32, .inr (.inl bk_first_c))), (bk_back, .inl (cJ, 32, .inr (.inl bk_back_c)))] sz)) (va_Ql (fun (r : Int64) (u : Unit) => True) (fun (_ : Unit) (_ : State) => True) (va_A [] sz)) 0 0 (va_A [] sz) := by
  refine Met.ofW (cc := cX0_sentOf) (maxL := 2) (ret := (some .long)) (by decide) rfl ?_
  intro p e s m args below meth c s₁ B hml hv
  obtain ⟨rfl, hsz, hP, hK⟩ := hv
  have hx := B.exec
  have hb := B.bytes
  have hr := B.returns
  have hts := atoms_spec (ws := v_X0_sentOf) B.pre
  have hown : s.vm.findClass RX0 = some m.cls := findClass_of_methodNamed B.named
  have hlocks := B.notSynchronized
  clear B
  subst hsz
  have iX0 : ∀ w ∈ wsX00, w ∈ v_X0_sentOf := (fun _ h => List.mem_cons_of_mem _ (List.mem_append_right _ (List.mem_append_left _ h)))
  generalize hAe : (va_A [] s.heap.size) = A
  have hA : ∀ q : Nat, s.heap.size ≤ q → A q := fun q h => by rw [← hAe]; exact Or.inr h
  have hS : va_S A s.heap s.heap [] := va_S.rf
  have hl := lv_entry ([.ref bk, .int p0]) (n := 2) (Nat.le_of_ble_eq_true rfl)
  rw [lg_entry_eq]
  generalize (lg_sl ([.ref bk, .int p0]) ++ List.replicate (2 - (lg_sl ([.ref bk, .int p0])).length) Slot.unset).toArray = ls at hl ⊢
  generalize ([.ref bk, .int p0] : List Value).toArray = av at hts ⊢
  generalize hQ : MQ below _ av s _ _ A = QQ
  have hl : lv_has ls 2 [(0, .ref bk), (1, .int p0)] := hl
  have hP : va_P g vwCl [(bk, .inr (0, [.int bk_stale, .ref bk_first, .ref bk_back, .ref bk_got])), (bk_first, .inl (cJ, 32, .inr (.inl bk_first_c))), (bk_back, .inl (cJ, 32, .inr (.inl bk_back_c)))] s.heap := hP
  refine lv_aload_n hx hb dX0_sentOf_0 rfl (lv_at hl 0 rfl) ?_
  refine va_get (D := g) (ci := 0) (v := .ref bk_first) (C := RX0) (T := TX0) (N := 4) hx hb hts iX0 hown hK hP 0 rfl rfl 1 (by decide) (hts (.fieldLink RX0 15 "CardsAtYule$Book" "first" "[J") (List.mem_cons_of_mem _ (List.mem_append_left _ (List.mem_of_getElem? (i := 0) rfl)))) (fun _ h9 => h9) rfl dX0_sentOf_1 ?_
  refine lv_iload_n hx hb dX0_sentOf_4 rfl (lv_at hl 1 rfl) ?_
  refine va_lald (D := g) hx hb hK hP 1 1 rfl rfl (vi_rg rfl hv_p0 (by decide) (by decide)) dX0_sentOf_5 ?_
  refine lv_topl (fun y5 e5 => ?_)
  refine lv_aload_n hx hb dX0_sentOf_6 rfl (lv_at hl 0 rfl) ?_
  refine va_get (D := g) (ci := 0) (v := .ref bk_back) (C := RX0) (T := TX0) (N := 4) hx hb hts iX0 hown hK hP 0 rfl rfl 2 (by decide) (hts (.fieldLink RX0 19 "CardsAtYule$Book" "back" "[J") (List.mem_cons_of_mem _ (List.mem_append_left _ (List.mem_of_getElem? (i := 1) rfl)))) (fun _ h9 => h9) rfl dX0_sentOf_7 ?_
  refine lv_iload_n hx hb dX0_sentOf_10 rfl (lv_at hl 1 rfl) ?_
  refine va_lald (D := g) hx hb hK hP 2 1 rfl rfl (vi_rg rfl hv_p0 (by decide) (by decide)) dX0_sentOf_11 ?_
  refine lv_topl (fun y11 e11 => ?_)
  refine lv_lor hx hb dX0_sentOf_12 ?_
  refine lv_topl (fun y12 e12 => ?_)
  subst hQ
  exact W.lret (v := y12) hx hb hr (fun t ht hW => ⟨⟨y12, (), rfl, trivial, trivial⟩, hS.F ht⟩) hS.2.2 dX0_sentOf_13
def v_X0_sentByAny : List Cond := .code yX0_sentByAny cX0_sentByAny 2 (some .long) :: (([.methodLink RX0 49 yX0_sentOf, .instanceMethod yX0_sentOf, .selects RX0 yX0_sentOf yX0_sentOf, .initialized RX0] : List Cond) ++ (v_X0_sentOf ++ ([] : List Cond)))
theorem good_v_X0_sentByAny : v_X0_sentByAny.all goodWord = true := ga_c (by decide +kernel) (ga_a (by decide +kernel) (ga_a good_v_X0_sentOf rfl))
set_option maxHeartbeats 4000000 in
set_option maxRecDepth 100000 in
theorem q_X0_sentByAny (l : Launch) (g : va_G) (cI cJ cB cZ cL : ClassId) (p0 : Int32) (bk : Nat) (bk_stale : Int32) (bk_first : Nat) (bk_back : Nat) (bk_got : Nat) (bk_first_c : Nat → Int64) (bk_back_c : Nat → Int64) (sz : Nat) (hv_p0 : ir p0.toInt 0 15) (hv_bk_stale : ir bk_stale.toInt 0 1) : Met l yX0_sentByAny v_X0_sentByAny ({ frames := 1, cells := 0, slots := 0, locals := 21 }) (va_Pc [.ref bk, .int p0] (pRO g (tyT cI cJ cB cZ cL) [(bk, .inr (0, [.int bk_stale, .ref bk_first, .ref bk_back, .ref bk_got])), (bk_first, .inl (cJ, 32, .inr (.inl bk_first_c))), (bk_back, .inl (cJ, 32, .inr (.inl bk_back_c)))] sz)) (va_Ql (fun (r : Int64) (u : Unit) => True) (fun (_ : Unit) (_ : State) => True) (va_A [] sz)) 0 0 (va_A [] sz) := by
  refine Met.ofW (cc := cX0_sentByAny) (maxL := 2) (ret := (some .long)) (by decide) rfl ?_
  intro p e s m args below meth c s₁ B hml hv
  obtain ⟨rfl, hsz, hP, hK⟩ := hv
  have hx := B.exec
  have hb := B.bytes
  have hr := B.returns
  have hts := atoms_spec (ws := v_X0_sentByAny) B.pre
  have hown : s.vm.findClass RX0 = some m.cls := findClass_of_methodNamed B.named
  have hlocks := B.notSynchronized
  clear B
  subst hsz
  generalize hAe : (va_A [] s.heap.size) = A
  have hA : ∀ q : Nat, s.heap.size ≤ q → A q := fun q h => by rw [← hAe]; exact Or.inr h
  have hS : va_S A s.heap s.heap [] := va_S.rf
  have hl := lv_entry ([.ref bk, .int p0]) (n := 2) (Nat.le_of_ble_eq_true rfl)
  rw [lg_entry_eq]
  generalize (lg_sl ([.ref bk, .int p0]) ++ List.replicate (2 - (lg_sl ([.ref bk, .int p0])).length) Slot.unset).toArray = ls at hl ⊢
  generalize ([.ref bk, .int p0] : List Value).toArray = av at hts ⊢
  generalize hQ : MQ below _ av s _ _ A = QQ
  have hl : lv_has ls 2 [(0, .ref bk), (1, .int p0)] := hl
  have hP : va_P g vwCl [(bk, .inr (0, [.int bk_stale, .ref bk_first, .ref bk_back, .ref bk_got])), (bk_first, .inl (cJ, 32, .inr (.inl bk_first_c))), (bk_back, .inl (cJ, 32, .inr (.inl bk_back_c)))] s.heap := hP
  refine lv_aload_n hx hb dX0_sentByAny_0 rfl (lv_at hl 0 rfl) ?_
  refine lv_iconst (v := 2) hx hb dX0_sentByAny_1 (by decide) ?_
  refine lv_iload_n hx hb dX0_sentByAny_2 rfl (lv_at hl 1 rfl) ?_
  refine lv_imul hx hb dX0_sentByAny_3 ?_
  refine lv_topi (fun y3 e3 => ?_)
  have q3 : y3.toInt = 2 * p0.toInt := by rw [e3]; exact mu_z rfl rfl (ir_c 2) hv_p0 (by decide) (by decide) (by decide)
  have r3 : ir y3.toInt 0 30 := mu_r q3 (ir_c 2) hv_p0 (by decide) (by decide) (by decide) (by decide)
  refine ro_l (va_runV (As := [.int y3]) (rest := []) ⟨hx, hb, hml, hown, hts⟩ (q_X0_sentOf l g cI cJ cB cZ cL y3 bk bk_stale bk_first bk_back bk_got bk_first_c bk_back_c s.heap.size (ir_w r3 (by decide) (by decide)) hv_bk_stale) (cwV 1 hts (goodIn_app (g_4 (List.mem_cons_of_mem _ (List.mem_append_left _ (List.mem_of_getElem? (i := 0) rfl))) (List.mem_cons_of_mem _ (List.mem_append_left _ (List.mem_of_getElem? (i := 1) rfl))) (List.mem_cons_of_mem _ (List.mem_append_left _ (List.mem_of_getElem? (i := 2) rfl))) (List.mem_cons_of_mem _ (List.mem_append_left _ (List.mem_of_getElem? (i := 3) rfl))) (by decide +kernel)) (goodIn_sub (fun _ h => List.mem_cons_of_mem _ (List.mem_append_right _ (List.mem_append_left _ h))) good_v_X0_sentOf)) rfl rfl rfl (by decide +kernel) ⟨Nat.le_of_ble_eq_true rfl, Nat.le_of_ble_eq_true rfl⟩) (pv_RO (q := (RX0, TX0, 4)) (ci := 0) (q0 := 0) (wc := [(bk, .inr (0, [.int bk_stale, .ref bk_first, .ref bk_back, .ref bk_got])), (bk_first, .inl (cJ, 32, .inr (.inl bk_first_c))), (bk_back, .inl (cJ, 32, .inr (.inl bk_back_c)))]) hK hP [0, 1, 2] rfl rfl rfl) rfl rfl hl.1 rfl (lv_room (Nat.le_of_ble_eq_true rfl)) dX0_sentByAny_4 ⟨Nat.le_of_ble_eq_true rfl, Nat.le_of_ble_eq_true rfl⟩) hS hA hP (fun r4 u4 H locs hw4 hP hS => ?_)
  refine lv_aload_n hx hb dX0_sentByAny_7 rfl (lv_at hl 0 rfl) ?_
  refine lv_iconst (v := 2) hx hb dX0_sentByAny_8 (by decide) ?_
  refine lv_iload_n hx hb dX0_sentByAny_9 rfl (lv_at hl 1 rfl) ?_
  refine lv_imul hx hb dX0_sentByAny_10 ?_
  refine lv_topi (fun y10 e10 => ?_)
  have q10 : y10.toInt = 2 * p0.toInt := by rw [e10]; exact mu_z rfl rfl (ir_c 2) hv_p0 (by decide) (by decide) (by decide)
  have r10 : ir y10.toInt 0 30 := mu_r q10 (ir_c 2) hv_p0 (by decide) (by decide) (by decide) (by decide)
  refine lv_iconst (v := 1) hx hb dX0_sentByAny_11 (by decide) ?_
  refine lv_iadd hx hb dX0_sentByAny_12 ?_
  refine lv_topi (fun y12 e12 => ?_)
  have q12 : y12.toInt = y10.toInt + 1 := by rw [e12]; exact ad_z rfl rfl r10 (ir_c 1) (by decide) (by decide)
  have r12 : ir y12.toInt 1 31 := ad_r q12 r10 (ir_c 1) (by decide) (by decide)
  refine ro_l (va_runV (As := [.int y12]) (rest := [.long r4]) ⟨hx, hb, hml, hown, hts⟩ (q_X0_sentOf l g cI cJ cB cZ cL y12 bk bk_stale bk_first bk_back bk_got bk_first_c bk_back_c H.size (ir_w r12 (by decide) (by decide)) hv_bk_stale) (cwV 1 hts (goodIn_app (g_4 (List.mem_cons_of_mem _ (List.mem_append_left _ (List.mem_of_getElem? (i := 0) rfl))) (List.mem_cons_of_mem _ (List.mem_append_left _ (List.mem_of_getElem? (i := 1) rfl))) (List.mem_cons_of_mem _ (List.mem_append_left _ (List.mem_of_getElem? (i := 2) rfl))) (List.mem_cons_of_mem _ (List.mem_append_left _ (List.mem_of_getElem? (i := 3) rfl))) (by decide +kernel)) (goodIn_sub (fun _ h => List.mem_cons_of_mem _ (List.mem_append_right _ (List.mem_append_left _ h))) good_v_X0_sentOf)) rfl rfl rfl (by decide +kernel) ⟨Nat.le_of_ble_eq_true rfl, Nat.le_of_ble_eq_true rfl⟩) (pv_RO (q := (RX0, TX0, 4)) (ci := 0) (q0 := 0) (wc := [(bk, .inr (0, [.int bk_stale, .ref bk_first, .ref bk_back, .ref bk_got])), (bk_first, .inl (cJ, 32, .inr (.inl bk_first_c))), (bk_back, .inl (cJ, 32, .inr (.inl bk_back_c)))]) hK hP [0, 1, 2] rfl rfl rfl) rfl rfl hl.1 rfl (lv_room (Nat.le_of_ble_eq_true rfl)) dX0_sentByAny_13 ⟨Nat.le_of_ble_eq_true rfl, Nat.le_of_ble_eq_true rfl⟩) hS hA hP (fun r13 u13 H locs hw13 hP hS => ?_)
  refine lv_lor hx hb dX0_sentByAny_16 ?_
  refine lv_topl (fun y16 e16 => ?_)
  subst hQ
  exact W.lret (v := y16) hx hb hr (fun t ht hW => ⟨⟨y16, (), rfl, trivial, trivial⟩, hS.F ht⟩) hS.2.2 dX0_sentByAny_17
def v_X0_stateAhead : List Cond := .code yX0_stateAhead cX0_stateAhead 5 (some .int) :: (([.fieldLink RX0 53 "CardsAtYule$Land" "begun" "[I", .fieldLink RX0 22 "CardsAtYule$Book" "got" "[J", .methodLink RX0 57 yX0_stateOfSide, .static yX0_stateOfSide, .initialized RX0] : List Cond) ++ (v_X0_stateOfSide ++ (wsX40 ++ (wsX00 ++ ([] : List Cond)))))
theorem good_v_X0_stateAhead : v_X0_stateAhead.all goodWord = true := ga_c (by decide +kernel) (ga_a (by decide +kernel) (ga_a good_v_X0_stateOfSide (ga_a good_wsX40 (ga_a good_wsX00 rfl))))
set_option maxHeartbeats 4000000 in
set_option maxRecDepth 100000 in
theorem q_X0_stateAhead (l : Launch) (g : va_G) (cI cJ cB cZ cL : ClassId) (p1 : Int32) (p2 : Int32) (bk : Nat) (ld : Nat) (ld_lines : Int32) (ld_years : Int32) (ld_card : Int32) (ld_hurt : Int32) (ld_people : Int32) (ld_pairs : Int32) (ld_strikes : Int64) (ld_rule : Nat) (ld_returns : Nat) (ld_forgets : Nat) (ld_death : Nat) (ld_move : Nat) (ld_begun : Nat) (ld_who : Nat) (ld_lost : Nat) (ld_begun_c : Nat → Int32) (bk_stale : Int32) (bk_first : Nat) (bk_back : Nat) (bk_got : Nat) (bk_got_c : Nat → Int64) (sz : Nat) (hv_p1 : ir p1.toInt 0 15) (hv_ld_years : ir ld_years.toInt 0 40) (hv_ld_people : ir ld_people.toInt 0 10) (hv_ld_pairs : ir ld_pairs.toInt 0 16) (ha_ld_begun_c : ar ld_begun_c 16 0 15) (hv_bk_stale : ir bk_stale.toInt 0 1) : Met l yX0_stateAhead v_X0_stateAhead ({ frames := 1, cells := 0, slots := 0, locals := 25 }) (va_Pc [.ref bk, .ref ld, .int p1, .int p2] (pRO g (tyT cI cJ cB cZ cL) [(ld, .inr (4, [.int ld_lines, .int ld_years, .int ld_card, .int ld_hurt, .int ld_people, .int ld_pairs, .long ld_strikes, .ref ld_rule, .ref ld_returns, .ref ld_forgets, .ref ld_death, .ref ld_move, .ref ld_begun, .ref ld_who, .ref ld_lost])), (ld_begun, .inl (cI, 16, .inl ld_begun_c)), (bk, .inr (0, [.int bk_stale, .ref bk_first, .ref bk_back, .ref bk_got])), (bk_got, .inl (cJ, 32, .inr (.inl bk_got_c)))] sz)) (va_Qi (fun (r : Int32) (u : Unit) => (ir r.toInt 0 15)) (fun (_ : Unit) (_ : State) => True) (va_A [] sz)) 0 0 (va_A [] sz) := by
  refine Met.ofW (cc := cX0_stateAhead) (maxL := 5) (ret := (some .int)) (by decide) rfl ?_
  intro p e s m args below meth c s₁ B hml hv
  obtain ⟨rfl, hsz, hP, hK⟩ := hv
  have hx := B.exec
  have hb := B.bytes
  have hr := B.returns
  have hts := atoms_spec (ws := v_X0_stateAhead) B.pre
  have hown : s.vm.findClass RX0 = some m.cls := findClass_of_methodNamed B.named
  have hlocks := B.notSynchronized
  clear B
  subst hsz
  have iX4 : ∀ w ∈ wsX40, w ∈ v_X0_stateAhead := (fun _ h => List.mem_cons_of_mem _ (List.mem_append_right _ (List.mem_append_right _ (List.mem_append_left _ h))))
  have iX0 : ∀ w ∈ wsX00, w ∈ v_X0_stateAhead := (fun _ h => List.mem_cons_of_mem _ (List.mem_append_right _ (List.mem_append_right _ (List.mem_append_right _ (List.mem_append_left _ h)))))
  generalize hAe : (va_A [] s.heap.size) = A
  have hA : ∀ q : Nat, s.heap.size ≤ q → A q := fun q h => by rw [← hAe]; exact Or.inr h
  have hS : va_S A s.heap s.heap [] := va_S.rf
  have hl := lv_entry ([.ref bk, .ref ld, .int p1, .int p2]) (n := 5) (Nat.le_of_ble_eq_true rfl)
  rw [lg_entry_eq]
  generalize (lg_sl ([.ref bk, .ref ld, .int p1, .int p2]) ++ List.replicate (5 - (lg_sl ([.ref bk, .ref ld, .int p1, .int p2])).length) Slot.unset).toArray = ls at hl ⊢
  generalize ([.ref bk, .ref ld, .int p1, .int p2] : List Value).toArray = av at hts ⊢
  generalize hQ : MQ below _ av s _ _ A = QQ
  have hl : lv_has ls 5 [(0, .ref bk), (1, .ref ld), (2, .int p1), (3, .int p2)] := hl
  have hP : va_P g vwCl [(ld, .inr (4, [.int ld_lines, .int ld_years, .int ld_card, .int ld_hurt, .int ld_people, .int ld_pairs, .long ld_strikes, .ref ld_rule, .ref ld_returns, .ref ld_forgets, .ref ld_death, .ref ld_move, .ref ld_begun, .ref ld_who, .ref ld_lost])), (ld_begun, .inl (cI, 16, .inl ld_begun_c)), (bk, .inr (0, [.int bk_stale, .ref bk_first, .ref bk_back, .ref bk_got])), (bk_got, .inl (cJ, 32, .inr (.inl bk_got_c)))] s.heap := hP
  refine lv_aload_n hx hb dX0_stateAhead_0 rfl (lv_at hl 1 rfl) ?_
  refine va_get (D := g) (ci := 4) (v := .ref ld_begun) (C := RX4) (T := TX4) (N := 15) hx hb hts iX4 hown hK hP 0 rfl rfl 12 (by decide) (hts (.fieldLink RX0 53 "CardsAtYule$Land" "begun" "[I") (List.mem_cons_of_mem _ (List.mem_append_left _ (List.mem_of_getElem? (i := 0) rfl)))) (fun _ h9 => h9) rfl dX0_stateAhead_1 ?_
  refine lv_iload_n hx hb dX0_stateAhead_4 rfl (lv_at hl 2 rfl) ?_
  refine va_iald (D := g) hx hb hK hP 1 0 rfl rfl (vi_rg rfl hv_p1 (by decide) (by decide)) dX0_stateAhead_5 ?_
  refine lv_topi (fun y5 e5 => ?_)
  have r5 : ir y5.toInt 0 15 := by rw [e5]; exact ha_ld_begun_c _ (vi_cl (vi_rg rfl hv_p1 (by decide) (by decide)))
  refine lv_istore (lv' := [(4, .int y5), (0, .ref bk), (1, .ref ld), (2, .int p1), (3, .int p2)]) hx hb dX0_stateAhead_6 hl (by decide) rfl (fun ls hl => ?_)
  refine lv_aload_n hx hb dX0_stateAhead_8 rfl (lv_at hl 1 rfl) ?_
  refine va_get (D := g) (ci := 0) (v := .ref bk_got) (C := RX0) (T := TX0) (N := 4) hx hb hts iX0 hown hK hP 2 rfl rfl 3 (by decide) (hts (.fieldLink RX0 22 "CardsAtYule$Book" "got" "[J") (List.mem_cons_of_mem _ (List.mem_append_left _ (List.mem_of_getElem? (i := 1) rfl)))) (fun _ h9 => h9) rfl dX0_stateAhead_9 ?_
  refine lv_iconst (v := 2) hx hb dX0_stateAhead_12 (by decide) ?_
  refine lv_iload_n hx hb dX0_stateAhead_13 rfl (lv_at hl 3 rfl) ?_
  refine lv_imul hx hb dX0_stateAhead_14 ?_
  refine lv_topi (fun y14 e14 => ?_)
  have q14 : y14.toInt = 2 * p1.toInt := by rw [e14]; exact mu_z rfl rfl (ir_c 2) hv_p1 (by decide) (by decide) (by decide)
  have r14 : ir y14.toInt 0 30 := mu_r q14 (ir_c 2) hv_p1 (by decide) (by decide) (by decide) (by decide)
  refine va_lald (D := g) hx hb hK hP 3 1 rfl rfl (vi_rg rfl r14 (by decide) (by decide)) dX0_stateAhead_15 ?_
  refine lv_topl (fun y15 e15 => ?_)
  refine lv_iload hx hb dX0_stateAhead_16 (lv_at hl 0 rfl) ?_
  refine lv_iconst (v := 3) hx hb dX0_stateAhead_18 (by decide) ?_
  refine lv_iand hx hb dX0_stateAhead_19 ?_
  refine lv_topi (fun y19 e19 => ?_)
  have r19 : ir y19.toInt 0 3 := by rw [e19]; exact an_y rfl (ir_c 3) (by decide)
  refine lv_iload_n hx hb dX0_stateAhead_20 rfl (lv_at hl 4 rfl) ?_
  refine ro_i (va_runS (As := [.long y15, .int y19, .int p2]) (rest := []) ⟨hx, hb, hml, hown, hts⟩ (q_X0_stateOfSide l g cI cJ cB cZ cL y15 y19 p2 s.heap.size ) (va_cwS 3 hts (goodIn_app (g_3 (List.mem_cons_of_mem _ (List.mem_append_left _ (List.mem_of_getElem? (i := 2) rfl))) (List.mem_cons_of_mem _ (List.mem_append_left _ (List.mem_of_getElem? (i := 3) rfl))) (List.mem_cons_of_mem _ (List.mem_append_left _ (List.mem_of_getElem? (i := 4) rfl))) (by decide +kernel)) (goodIn_sub (fun _ h => List.mem_cons_of_mem _ (List.mem_append_right _ (List.mem_append_left _ h))) good_v_X0_stateOfSide)) rfl rfl rfl (by decide +kernel) ⟨Nat.le_of_ble_eq_true rfl, Nat.le_of_ble_eq_true rfl⟩) (ps_RO (wc := []) hK hP [] rfl) rfl rfl hl.1 rfl (lv_room (Nat.le_of_ble_eq_true rfl)) dX0_stateAhead_21 ⟨Nat.le_of_ble_eq_true rfl, Nat.le_of_ble_eq_true rfl⟩) hS hA hP (fun r21 u21 H locs hw21 hP hS => ?_)
  have hw21_0 := hw21
  refine lv_aload_n hx hb dX0_stateAhead_24 rfl (lv_at hl 1 rfl) ?_
  refine va_get (D := g) (ci := 0) (v := .ref bk_got) (C := RX0) (T := TX0) (N := 4) hx hb hts iX0 hown hK hP 2 rfl rfl 3 (by decide) (hts (.fieldLink RX0 22 "CardsAtYule$Book" "got" "[J") (List.mem_cons_of_mem _ (List.mem_append_left _ (List.mem_of_getElem? (i := 1) rfl)))) (fun _ h9 => h9) rfl dX0_stateAhead_25 ?_
  refine lv_iconst (v := 2) hx hb dX0_stateAhead_28 (by decide) ?_
  refine lv_iload_n hx hb dX0_stateAhead_29 rfl (lv_at hl 3 rfl) ?_
  refine lv_imul hx hb dX0_stateAhead_30 ?_
  refine lv_topi (fun y30 e30 => ?_)
  have q30 : y30.toInt = 2 * p1.toInt := by rw [e30]; exact mu_z rfl rfl (ir_c 2) hv_p1 (by decide) (by decide) (by decide)
  have r30 : ir y30.toInt 0 30 := mu_r q30 (ir_c 2) hv_p1 (by decide) (by decide) (by decide) (by decide)
  refine lv_iconst (v := 1) hx hb dX0_stateAhead_31 (by decide) ?_
  refine lv_iadd hx hb dX0_stateAhead_32 ?_
  refine lv_topi (fun y32 e32 => ?_)
  have q32 : y32.toInt = y30.toInt + 1 := by rw [e32]; exact ad_z rfl rfl r30 (ir_c 1) (by decide) (by decide)
  have r32 : ir y32.toInt 1 31 := ad_r q32 r30 (ir_c 1) (by decide) (by decide)
  refine va_lald (D := g) hx hb hK hP 3 1 rfl rfl (vi_rg rfl r32 (by decide) (by decide)) dX0_stateAhead_33 ?_
  refine lv_topl (fun y33 e33 => ?_)
  refine lv_iload hx hb dX0_stateAhead_34 (lv_at hl 0 rfl) ?_
  refine lv_iconst (v := 2) hx hb dX0_stateAhead_36 (by decide) ?_
  refine lv_ishr hx hb dX0_stateAhead_37 ?_
  refine lv_topi (fun y37 e37 => ?_)
  have r37 : ir y37.toInt 0 3 := by rw [e37]; exact sr_r 2 rfl r5 (by decide) (by decide) (by decide) (by decide)
  refine lv_iload_n hx hb dX0_stateAhead_38 rfl (lv_at hl 4 rfl) ?_
  refine ro_i (va_runS (As := [.long y33, .int y37, .int p2]) (rest := [.int r21]) ⟨hx, hb, hml, hown, hts⟩ (q_X0_stateOfSide l g cI cJ cB cZ cL y33 y37 p2 H.size ) (va_cwS 3 hts (goodIn_app (g_3 (List.mem_cons_of_mem _ (List.mem_append_left _ (List.mem_of_getElem? (i := 2) rfl))) (List.mem_cons_of_mem _ (List.mem_append_left _ (List.mem_of_getElem? (i := 3) rfl))) (List.mem_cons_of_mem _ (List.mem_append_left _ (List.mem_of_getElem? (i := 4) rfl))) (by decide +kernel)) (goodIn_sub (fun _ h => List.mem_cons_of_mem _ (List.mem_append_right _ (List.mem_append_left _ h))) good_v_X0_stateOfSide)) rfl rfl rfl (by decide +kernel) ⟨Nat.le_of_ble_eq_true rfl, Nat.le_of_ble_eq_true rfl⟩) (ps_RO (wc := []) hK hP [] rfl) rfl rfl hl.1 rfl (lv_room (Nat.le_of_ble_eq_true rfl)) dX0_stateAhead_39 ⟨Nat.le_of_ble_eq_true rfl, Nat.le_of_ble_eq_true rfl⟩) hS hA hP (fun r39 u39 H locs hw39 hP hS => ?_)
  have hw39_0 := hw39
  refine lv_iconst (v := 2) hx hb dX0_stateAhead_42 (by decide) ?_
  refine lv_ishl hx hb dX0_stateAhead_43 ?_
  refine lv_topi (fun y43 e43 => ?_)
  have r43 : ir y43.toInt 0 12 := by rw [e43]; exact sl_r 2 rfl hw39_0 (by decide) (by decide) (by decide) (by decide) (by decide)
  refine lv_ior hx hb dX0_stateAhead_44 ?_
  refine lv_topi (fun y44 e44 => ?_)
  have r44 : ir y44.toInt 0 15 := by rw [e44]; exact or_r 4 rfl rfl hw21_0 r43 (by decide) (by decide) (by decide) (by decide) (by decide)
  subst hQ
  exact W.iret (v := y44) hx hb hr (fun t ht hW => ⟨⟨y44, (), rfl, r44, trivial⟩, hS.F ht⟩) hS.2.2 dX0_stateAhead_45
def v_X0_sentIn : List Cond := .code yX0_sentIn cX0_sentIn 5 (some .int) :: (([.fieldLink RX0 25 "CardsAtYule$Land" "pairs" "I", .methodLink RX0 49 yX0_sentOf, .instanceMethod yX0_sentOf, .selects RX0 yX0_sentOf yX0_sentOf, .initialized RX0, .initialized RX11, .static yX11_isAt] : List Cond) ++ (v_X0_sentOf ++ (v_X11_isAt ++ (wsX40 ++ ([] : List Cond)))))
theorem good_v_X0_sentIn : v_X0_sentIn.all goodWord = true := ga_c (by decide +kernel) (ga_a (by decide +kernel) (ga_a good_v_X0_sentOf (ga_a good_v_X11_isAt (ga_a good_wsX40 rfl))))
set_option maxHeartbeats 4000000 in
set_option maxRecDepth 100000 in
theorem q_X0_sentIn (l : Launch) (g : va_G) (cI cJ cB cZ cL : ClassId) (kA : Nat → Nat) (vA : Nat → Nat) (p1 : Int32) (bk : Nat) (ld : Nat) (ld_lines : Int32) (ld_years : Int32) (ld_card : Int32) (ld_hurt : Int32) (ld_people : Int32) (ld_pairs : Int32) (ld_strikes : Int64) (ld_rule : Nat) (ld_returns : Nat) (ld_forgets : Nat) (ld_death : Nat) (ld_move : Nat) (ld_begun : Nat) (ld_who : Nat) (ld_lost : Nat) (bk_stale : Int32) (bk_first : Nat) (bk_back : Nat) (bk_got : Nat) (bk_first_c : Nat → Int64) (bk_back_c : Nat → Int64) (sz : Nat) (hv_ld_years : ir ld_years.toInt 0 40) (hv_ld_people : ir ld_people.toInt 0 10) (hv_ld_pairs : ir ld_pairs.toInt 0 16) (hv_bk_stale : ir bk_stale.toInt 0 1) : Met l yX0_sentIn v_X0_sentIn ({ frames := 1, cells := 0, slots := 0, locals := 22 }) (va_Pc [.ref bk, .ref ld, .int p1] (eRO g (tyT cI cJ cB cZ cL) [(ld, .inr (4, [.int ld_lines, .int ld_years, .int ld_card, .int ld_hurt, .int ld_people, .int ld_pairs, .long ld_strikes, .ref ld_rule, .ref ld_returns, .ref ld_forgets, .ref ld_death, .ref ld_move, .ref ld_begun, .ref ld_who, .ref ld_lost])), (bk, .inr (0, [.int bk_stale, .ref bk_first, .ref bk_back, .ref bk_got])), (bk_first, .inl (cJ, 32, .inr (.inl bk_first_c))), (bk_back, .inl (cJ, 32, .inr (.inl bk_back_c)))] sz kA vA)) (va_Qi (fun (r : Int32) (u : Unit) => True) (fun (_ : Unit) (_ : State) => True) (va_A [] sz)) 0 0 (va_A [] sz) := by
  refine Met.ofW (cc := cX0_sentIn) (maxL := 5) (ret := (some .int)) (by decide) rfl ?_
  intro p e s m args below meth c s₁ B hml hv
  obtain ⟨rfl, ⟨hsz, hP, hK⟩, hE⟩ := hv
  have hx := B.exec
  have hb := B.bytes
  have hr := B.returns
  have hts := atoms_spec (ws := v_X0_sentIn) B.pre
  have hown : s.vm.findClass RX0 = some m.cls := findClass_of_methodNamed B.named
  have hlocks := B.notSynchronized
  clear B
  subst hsz
  have iX4 : ∀ w ∈ wsX40, w ∈ v_X0_sentIn := (fun _ h => List.mem_cons_of_mem _ (List.mem_append_right _ (List.mem_append_right _ (List.mem_append_right _ (List.mem_append_left _ h)))))
  generalize hAe : (va_A [] s.heap.size) = A at hE ⊢
  have hA : ∀ q : Nat, s.heap.size ≤ q → A q := fun q h => by rw [← hAe]; exact Or.inr h
  have hS : va_S A s.heap s.heap [] := va_S.rf
  have hl := lv_entry ([.ref bk, .ref ld, .int p1]) (n := 5) (Nat.le_of_ble_eq_true rfl)
  rw [lg_entry_eq]
  generalize (lg_sl ([.ref bk, .ref ld, .int p1]) ++ List.replicate (5 - (lg_sl ([.ref bk, .ref ld, .int p1])).length) Slot.unset).toArray = ls at hl ⊢
  generalize ([.ref bk, .ref ld, .int p1] : List Value).toArray = av at hts ⊢
  generalize hQ : MQ below _ av s _ _ A = QQ
  have hl : lv_has ls 5 [(0, .ref bk), (1, .ref ld), (2, .int p1)] := hl
  have hP : va_P g vwCl [(ld, .inr (4, [.int ld_lines, .int ld_years, .int ld_card, .int ld_hurt, .int ld_people, .int ld_pairs, .long ld_strikes, .ref ld_rule, .ref ld_returns, .ref ld_forgets, .ref ld_death, .ref ld_move, .ref ld_begun, .ref ld_who, .ref ld_lost])), (bk, .inr (0, [.int bk_stale, .ref bk_first, .ref bk_back, .ref bk_got])), (bk_first, .inl (cJ, 32, .inr (.inl bk_first_c))), (bk_back, .inl (cJ, 32, .inr (.inl bk_back_c)))] s.heap := hP
  refine lv_iconst (v := 0) hx hb dX0_sentIn_0 (by decide) ?_
  refine lv_istore_n (lv' := [(3, .int 0), (0, .ref bk), (1, .ref ld), (2, .int p1)]) hx hb dX0_sentIn_1 rfl hl (by decide) rfl (fun ls hl => ?_)
  refine lv_iconst (v := 0) hx hb dX0_sentIn_2 (by decide) ?_
  refine lv_istore (lv' := [(4, .int 0), (3, .int 0), (0, .ref bk), (1, .ref ld), (2, .int p1)]) hx hb dX0_sentIn_3 hl (by decide) rfl (fun ls hl => ?_)
  have J5 : ∀ (n5 : Nat) (j5_l3 : Int32) (j5_l4 : Int32) (H : Heap) (locs : List Loc) (ls : Array Slot), (33 - j5_l4.toInt).toNat < n5 → (ir j5_l4.toInt 0 32) → va_P g vwCl [(ld, .inr (4, [.int ld_lines, .int ld_years, .int ld_card, .int ld_hurt, .int ld_people, .int ld_pairs, .long ld_strikes, .ref ld_rule, .ref ld_returns, .ref ld_forgets, .ref ld_death, .ref ld_move, .ref ld_begun, .ref ld_who, .ref ld_lost])), (bk, .inr (0, [.int bk_stale, .ref bk_first, .ref bk_back, .ref bk_got])), (bk_first, .inl (cJ, 32, .inr (.inl bk_first_c))), (bk_back, .inl (cJ, 32, .inr (.inl bk_back_c)))] H → va_S A s.heap H locs → lv_has ls 5 [(0, .ref bk), (1, .ref ld), (2, .int p1), (3, .int j5_l3), (4, .int j5_l4)] → W p l e (headSpec v_X0_sentIn ({ frames := 1, cells := 0, slots := 0, locals := 22 })).room s m av below meth c H locs 0 0 QQ (F0 m 5 ls []) := by
    intro n5
    induction n5 with
    | zero => exact fun j5_l3 j5_l4 H locs ls hn => absurd hn (Nat.not_lt_zero _)
    | succ n5 ih5 =>
      intro j5_l3 j5_l4 H locs ls hn5 hj5_l4 hP hS hl
      refine lv_iload hx hb dX0_sentIn_5 (lv_at hl 4 rfl) ?_
      refine lv_iconst (v := 2) hx hb dX0_sentIn_7 (by decide) ?_
      refine lv_aload_n hx hb dX0_sentIn_8 rfl (lv_at hl 1 rfl) ?_
      refine va_get (D := g) (ci := 4) (v := .int ld_pairs) (C := RX4) (T := TX4) (N := 15) hx hb hts iX4 hown hK hP 0 rfl rfl 5 (by decide) (hts (.fieldLink RX0 25 "CardsAtYule$Land" "pairs" "I") (List.mem_cons_of_mem _ (List.mem_append_left _ (List.mem_of_getElem? (i := 0) rfl)))) (fun _ h9 => h9) rfl dX0_sentIn_9 ?_
      refine lv_imul hx hb dX0_sentIn_12 ?_
      refine lv_topi (fun y12 e12 => ?_)
      have q12 : y12.toInt = 2 * ld_pairs.toInt := by rw [e12]; exact mu_z rfl rfl (ir_c 2) hv_ld_pairs (by decide) (by decide) (by decide)
      have r12 : ir y12.toInt 0 32 := mu_r q12 (ir_c 2) hv_ld_pairs (by decide) (by decide) (by decide) (by decide)
      refine lv_icmp_ge (tgt := 43) hx hb dX0_sentIn_13 (by decide) (fun c13 => ?_) (fun c13 => ?_)
      · have f13 := (show y12.toInt ≤ j5_l4.toInt from z_le rfl rfl c13)
        refine lv_iload_n hx hb dX0_sentIn_43 rfl (lv_at hl 3 rfl) ?_
        subst hQ
        exact W.iret (v := j5_l3) hx hb hr (fun t ht hW => ⟨⟨j5_l3, (), rfl, trivial, trivial⟩, hS.F ht⟩) hS.2.2 dX0_sentIn_44
      have f13 := (show j5_l4.toInt < y12.toInt from z_nle rfl rfl c13)
      have r13a : ir j5_l4.toInt 0 31 := ir_lta f13 hj5_l4 r12 (by decide)
      have r13b : ir y12.toInt 1 32 := ir_ltb f13 hj5_l4 r12 (by decide)
      refine lv_iload_n hx hb dX0_sentIn_16 rfl (lv_at hl 3 rfl) ?_
      refine lv_aload_n hx hb dX0_sentIn_17 rfl (lv_at hl 0 rfl) ?_
      refine lv_iload hx hb dX0_sentIn_18 (lv_at hl 4 rfl) ?_
      refine ro_l (va_runV (As := [.int j5_l4]) (rest := [.int j5_l3]) ⟨hx, hb, hml, hown, hts⟩ (q_X0_sentOf l g cI cJ cB cZ cL j5_l4 bk bk_stale bk_first bk_back bk_got bk_first_c bk_back_c H.size r13a hv_bk_stale) (cwV 1 hts (goodIn_app (g_4 (List.mem_cons_of_mem _ (List.mem_append_left _ (List.mem_of_getElem? (i := 1) rfl))) (List.mem_cons_of_mem _ (List.mem_append_left _ (List.mem_of_getElem? (i := 2) rfl))) (List.mem_cons_of_mem _ (List.mem_append_left _ (List.mem_of_getElem? (i := 3) rfl))) (List.mem_cons_of_mem _ (List.mem_append_left _ (List.mem_of_getElem? (i := 4) rfl))) (by decide +kernel)) (goodIn_sub (fun _ h => List.mem_cons_of_mem _ (List.mem_append_right _ (List.mem_append_left _ h))) good_v_X0_sentOf)) rfl rfl rfl (by decide +kernel) ⟨Nat.le_of_ble_eq_true rfl, Nat.le_of_ble_eq_true rfl⟩) (pv_RO (q := (RX0, TX0, 4)) (ci := 0) (q0 := 0) (wc := [(bk, .inr (0, [.int bk_stale, .ref bk_first, .ref bk_back, .ref bk_got])), (bk_first, .inl (cJ, 32, .inr (.inl bk_first_c))), (bk_back, .inl (cJ, 32, .inr (.inl bk_back_c)))]) hK hP [1, 2, 3] rfl rfl rfl) rfl rfl hl.1 rfl (lv_room (Nat.le_of_ble_eq_true rfl)) dX0_sentIn_20 ⟨Nat.le_of_ble_eq_true rfl, Nat.le_of_ble_eq_true rfl⟩) hS hA hP (fun r20 u20 H locs hw20 hP hS => ?_)
      refine lv_iload_n hx hb dX0_sentIn_23 rfl (lv_at hl 2 rfl) ?_
      refine ro_i (va_runSN (As := [.long r20, .int p1]) (rest := [.int j5_l3]) ⟨hx, hb, hml, hown, hts⟩ (q_X11_isAt l g cI cJ cB cZ cL r20 p1 H.size ) ⟨(va_cnB 2 hts (goodIn_sub (fun _ h => List.mem_cons_of_mem _ (List.mem_append_right _ (List.mem_append_right _ (List.mem_append_left _ h)))) good_v_X11_isAt) rfl rfl rfl (hE.nest _ (List.mem_of_getElem? (i := 0) rfl)) (hts (.initialized RX11) (List.mem_cons_of_mem _ (List.mem_append_left _ (List.mem_of_getElem? (i := 5) rfl)))) (by decide +kernel) ⟨Nat.le_of_ble_eq_true rfl, Nat.le_of_ble_eq_true rfl⟩), (hts (.static yX11_isAt) (List.mem_cons_of_mem _ (List.mem_append_left _ (List.mem_of_getElem? (i := 6) rfl)))), trivial⟩ (ps_RO (wc := []) hK hP [] rfl) rfl rfl hl.1 rfl (lv_room (Nat.le_of_ble_eq_true rfl)) dX0_sentIn_24 ⟨Nat.le_of_ble_eq_true rfl, Nat.le_of_ble_eq_true rfl⟩) hS hA hP (fun r24 u24 H locs hw24 hP hS => ?_)
      have hw24_0 := hw24
      have J35 : ∀ (j35_s0 : Int32) (H : Heap) (locs : List Loc) (ls : Array Slot), (ir j35_s0.toInt 0 1) → va_P g vwCl [(ld, .inr (4, [.int ld_lines, .int ld_years, .int ld_card, .int ld_hurt, .int ld_people, .int ld_pairs, .long ld_strikes, .ref ld_rule, .ref ld_returns, .ref ld_forgets, .ref ld_death, .ref ld_move, .ref ld_begun, .ref ld_who, .ref ld_lost])), (bk, .inr (0, [.int bk_stale, .ref bk_first, .ref bk_back, .ref bk_got])), (bk_first, .inl (cJ, 32, .inr (.inl bk_first_c))), (bk_back, .inl (cJ, 32, .inr (.inl bk_back_c)))] H → va_S A s.heap H locs → lv_has ls 5 [(0, .ref bk), (1, .ref ld), (2, .int p1), (4, .int j5_l4)] → W p l e (headSpec v_X0_sentIn ({ frames := 1, cells := 0, slots := 0, locals := 22 })).room s m av below meth c H locs 0 0 QQ (F0 m 35 ls [.int j35_s0, .int j5_l3]) := by
        intro j35_s0 H locs ls hj35_s0 hP hS hl
        refine lv_iadd hx hb dX0_sentIn_35 ?_
        refine lv_topi (fun y35 e35 => ?_)
        refine lv_istore_n (lv' := [(3, .int y35), (0, .ref bk), (1, .ref ld), (2, .int p1), (4, .int j5_l4)]) hx hb dX0_sentIn_36 rfl hl (by decide) rfl (fun ls hl => ?_)
        obtain ⟨y37, e37⟩ : ∃ y : Int32, y = j5_l4 + 1 := ⟨_, rfl⟩
        have q37 : y37.toInt = j5_l4.toInt + 1 := by rw [e37]; exact ad_z rfl rfl r13a (ir_c 1) (by decide) (by decide)
        have r37 : ir y37.toInt 1 32 := ad_r q37 r13a (ir_c 1) (by decide) (by decide)
        refine lv_iinc (v := y37) (lv' := [(4, .int y37), (3, .int y35), (0, .ref bk), (1, .ref ld), (2, .int p1)]) hx hb dX0_sentIn_37 hl (k := 4) rfl e37.symm (by decide) rfl (fun ls hl => ?_)
        refine lv_goto (tgt := 5) hx hb dX0_sentIn_40 (by decide) ?_
        exact ih5 y35 y37 _ _ _ (by omega) (ir_w r37 (by decide) (by decide)) (hP.sub [0, 1, 2, 3] rfl) hS (lv_sub hl [2, 3, 4, 1, 0] rfl)
      refine lv_if_eq (tgt := 34) hx hb dX0_sentIn_27 (by decide) (fun c27 => ?_) (fun c27 => ?_)
      · have f27 := (show r24.toInt = 0 from z_eq rfl rfl c27)
        have r27a : ir r24.toInt 0 0 := ir_eqa f27 hw24_0 (ir_c 0) (by decide) (by decide)
        refine lv_iconst (v := 0) hx hb dX0_sentIn_34 (by decide) ?_
        exact J35 0 _ _ _ (by decide) (hP.sub [0, 1, 2, 3] rfl) hS (lv_sub hl [0, 1, 2, 4] rfl)
      have f27 := (show r24.toInt ≠ 0 from z_ne rfl rfl c27)
      have r27a : ir r24.toInt 1 1 := ir_nel f27 hw24_0 (by decide) (by decide)
      refine lv_iconst (v := 1) hx hb dX0_sentIn_30 (by decide) ?_
      refine lv_goto (tgt := 35) hx hb dX0_sentIn_31 (by decide) ?_
      exact J35 1 _ _ _ (by decide) (hP.sub [0, 1, 2, 3] rfl) hS (lv_sub hl [0, 1, 2, 4] rfl)
  exact J5 _ 0 0 _ _ _ (Nat.lt_succ_self _) (by decide) (hP.sub [0, 1, 2, 3] rfl) hS (lv_sub hl [2, 3, 4, 1, 0] rfl)
def v_X0_comeIn : List Cond := .code yX0_comeIn cX0_comeIn 5 (some .int) :: (([.fieldLink RX0 25 "CardsAtYule$Land" "pairs" "I", .fieldLink RX0 22 "CardsAtYule$Book" "got" "[J", .initialized RX11, .static yX11_isAt] : List Cond) ++ (v_X11_isAt ++ (wsX40 ++ (wsX00 ++ ([] : List Cond)))))
theorem good_v_X0_comeIn : v_X0_comeIn.all goodWord = true := ga_c (by decide +kernel) (ga_a (by decide +kernel) (ga_a good_v_X11_isAt (ga_a good_wsX40 (ga_a good_wsX00 rfl))))
set_option maxHeartbeats 4000000 in
set_option maxRecDepth 100000 in
theorem q_X0_comeIn (l : Launch) (g : va_G) (cI cJ cB cZ cL : ClassId) (kA : Nat → Nat) (vA : Nat → Nat) (p1 : Int32) (bk : Nat) (ld : Nat) (ld_lines : Int32) (ld_years : Int32) (ld_card : Int32) (ld_hurt : Int32) (ld_people : Int32) (ld_pairs : Int32) (ld_strikes : Int64) (ld_rule : Nat) (ld_returns : Nat) (ld_forgets : Nat) (ld_death : Nat) (ld_move : Nat) (ld_begun : Nat) (ld_who : Nat) (ld_lost : Nat) (bk_stale : Int32) (bk_first : Nat) (bk_back : Nat) (bk_got : Nat) (bk_got_c : Nat → Int64) (sz : Nat) (hv_ld_years : ir ld_years.toInt 0 40) (hv_ld_people : ir ld_people.toInt 0 10) (hv_ld_pairs : ir ld_pairs.toInt 0 16) (hv_bk_stale : ir bk_stale.toInt 0 1) : Met l yX0_comeIn v_X0_comeIn ({ frames := 1, cells := 0, slots := 0, locals := 22 }) (va_Pc [.ref bk, .ref ld, .int p1] (eRO g (tyT cI cJ cB cZ cL) [(ld, .inr (4, [.int ld_lines, .int ld_years, .int ld_card, .int ld_hurt, .int ld_people, .int ld_pairs, .long ld_strikes, .ref ld_rule, .ref ld_returns, .ref ld_forgets, .ref ld_death, .ref ld_move, .ref ld_begun, .ref ld_who, .ref ld_lost])), (bk, .inr (0, [.int bk_stale, .ref bk_first, .ref bk_back, .ref bk_got])), (bk_got, .inl (cJ, 32, .inr (.inl bk_got_c)))] sz kA vA)) (va_Qi (fun (r : Int32) (u : Unit) => True) (fun (_ : Unit) (_ : State) => True) (va_A [] sz)) 0 0 (va_A [] sz) := by
  refine Met.ofW (cc := cX0_comeIn) (maxL := 5) (ret := (some .int)) (by decide) rfl ?_
  intro p e s m args below meth c s₁ B hml hv
  obtain ⟨rfl, ⟨hsz, hP, hK⟩, hE⟩ := hv
  have hx := B.exec
  have hb := B.bytes
  have hr := B.returns
  have hts := atoms_spec (ws := v_X0_comeIn) B.pre
  have hown : s.vm.findClass RX0 = some m.cls := findClass_of_methodNamed B.named
  have hlocks := B.notSynchronized
  clear B
  subst hsz
  have iX4 : ∀ w ∈ wsX40, w ∈ v_X0_comeIn := (fun _ h => List.mem_cons_of_mem _ (List.mem_append_right _ (List.mem_append_right _ (List.mem_append_left _ h))))
  have iX0 : ∀ w ∈ wsX00, w ∈ v_X0_comeIn := (fun _ h => List.mem_cons_of_mem _ (List.mem_append_right _ (List.mem_append_right _ (List.mem_append_right _ (List.mem_append_left _ h)))))
  generalize hAe : (va_A [] s.heap.size) = A at hE ⊢
  have hA : ∀ q : Nat, s.heap.size ≤ q → A q := fun q h => by rw [← hAe]; exact Or.inr h
  have hS : va_S A s.heap s.heap [] := va_S.rf
  have hl := lv_entry ([.ref bk, .ref ld, .int p1]) (n := 5) (Nat.le_of_ble_eq_true rfl)
  rw [lg_entry_eq]
  generalize (lg_sl ([.ref bk, .ref ld, .int p1]) ++ List.replicate (5 - (lg_sl ([.ref bk, .ref ld, .int p1])).length) Slot.unset).toArray = ls at hl ⊢
  generalize ([.ref bk, .ref ld, .int p1] : List Value).toArray = av at hts ⊢
  generalize hQ : MQ below _ av s _ _ A = QQ
  have hl : lv_has ls 5 [(0, .ref bk), (1, .ref ld), (2, .int p1)] := hl
  have hP : va_P g vwCl [(ld, .inr (4, [.int ld_lines, .int ld_years, .int ld_card, .int ld_hurt, .int ld_people, .int ld_pairs, .long ld_strikes, .ref ld_rule, .ref ld_returns, .ref ld_forgets, .ref ld_death, .ref ld_move, .ref ld_begun, .ref ld_who, .ref ld_lost])), (bk, .inr (0, [.int bk_stale, .ref bk_first, .ref bk_back, .ref bk_got])), (bk_got, .inl (cJ, 32, .inr (.inl bk_got_c)))] s.heap := hP
  refine lv_iconst (v := 0) hx hb dX0_comeIn_0 (by decide) ?_
  refine lv_istore_n (lv' := [(3, .int 0), (0, .ref bk), (1, .ref ld), (2, .int p1)]) hx hb dX0_comeIn_1 rfl hl (by decide) rfl (fun ls hl => ?_)
  refine lv_iconst (v := 0) hx hb dX0_comeIn_2 (by decide) ?_
  refine lv_istore (lv' := [(4, .int 0), (3, .int 0), (0, .ref bk), (1, .ref ld), (2, .int p1)]) hx hb dX0_comeIn_3 hl (by decide) rfl (fun ls hl => ?_)
  have J5 : ∀ (n5 : Nat) (j5_l3 : Int32) (j5_l4 : Int32) (H : Heap) (locs : List Loc) (ls : Array Slot), (33 - j5_l4.toInt).toNat < n5 → (ir j5_l4.toInt 0 32) → va_P g vwCl [(ld, .inr (4, [.int ld_lines, .int ld_years, .int ld_card, .int ld_hurt, .int ld_people, .int ld_pairs, .long ld_strikes, .ref ld_rule, .ref ld_returns, .ref ld_forgets, .ref ld_death, .ref ld_move, .ref ld_begun, .ref ld_who, .ref ld_lost])), (bk, .inr (0, [.int bk_stale, .ref bk_first, .ref bk_back, .ref bk_got])), (bk_got, .inl (cJ, 32, .inr (.inl bk_got_c)))] H → va_S A s.heap H locs → lv_has ls 5 [(0, .ref bk), (1, .ref ld), (2, .int p1), (3, .int j5_l3), (4, .int j5_l4)] → W p l e (headSpec v_X0_comeIn ({ frames := 1, cells := 0, slots := 0, locals := 22 })).room s m av below meth c H locs 0 0 QQ (F0 m 5 ls []) := by
    intro n5
    induction n5 with
    | zero => exact fun j5_l3 j5_l4 H locs ls hn => absurd hn (Nat.not_lt_zero _)
    | succ n5 ih5 =>
      intro j5_l3 j5_l4 H locs ls hn5 hj5_l4 hP hS hl
      refine lv_iload hx hb dX0_comeIn_5 (lv_at hl 4 rfl) ?_
      refine lv_iconst (v := 2) hx hb dX0_comeIn_7 (by decide) ?_
      refine lv_aload_n hx hb dX0_comeIn_8 rfl (lv_at hl 1 rfl) ?_
      refine va_get (D := g) (ci := 4) (v := .int ld_pairs) (C := RX4) (T := TX4) (N := 15) hx hb hts iX4 hown hK hP 0 rfl rfl 5 (by decide) (hts (.fieldLink RX0 25 "CardsAtYule$Land" "pairs" "I") (List.mem_cons_of_mem _ (List.mem_append_left _ (List.mem_of_getElem? (i := 0) rfl)))) (fun _ h9 => h9) rfl dX0_comeIn_9 ?_
      refine lv_imul hx hb dX0_comeIn_12 ?_
      refine lv_topi (fun y12 e12 => ?_)
      have q12 : y12.toInt = 2 * ld_pairs.toInt := by rw [e12]; exact mu_z rfl rfl (ir_c 2) hv_ld_pairs (by decide) (by decide) (by decide)
      have r12 : ir y12.toInt 0 32 := mu_r q12 (ir_c 2) hv_ld_pairs (by decide) (by decide) (by decide) (by decide)
      refine lv_icmp_ge (tgt := 44) hx hb dX0_comeIn_13 (by decide) (fun c13 => ?_) (fun c13 => ?_)
      · have f13 := (show y12.toInt ≤ j5_l4.toInt from z_le rfl rfl c13)
        refine lv_iload_n hx hb dX0_comeIn_44 rfl (lv_at hl 3 rfl) ?_
        subst hQ
        exact W.iret (v := j5_l3) hx hb hr (fun t ht hW => ⟨⟨j5_l3, (), rfl, trivial, trivial⟩, hS.F ht⟩) hS.2.2 dX0_comeIn_45
      have f13 := (show j5_l4.toInt < y12.toInt from z_nle rfl rfl c13)
      have r13a : ir j5_l4.toInt 0 31 := ir_lta f13 hj5_l4 r12 (by decide)
      have r13b : ir y12.toInt 1 32 := ir_ltb f13 hj5_l4 r12 (by decide)
      refine lv_iload_n hx hb dX0_comeIn_16 rfl (lv_at hl 3 rfl) ?_
      refine lv_aload_n hx hb dX0_comeIn_17 rfl (lv_at hl 0 rfl) ?_
      refine va_get (D := g) (ci := 0) (v := .ref bk_got) (C := RX0) (T := TX0) (N := 4) hx hb hts iX0 hown hK hP 1 rfl rfl 3 (by decide) (hts (.fieldLink RX0 22 "CardsAtYule$Book" "got" "[J") (List.mem_cons_of_mem _ (List.mem_append_left _ (List.mem_of_getElem? (i := 1) rfl)))) (fun _ h9 => h9) rfl dX0_comeIn_18 ?_
      refine lv_iload hx hb dX0_comeIn_21 (lv_at hl 4 rfl) ?_
      refine va_lald (D := g) hx hb hK hP 2 1 rfl rfl (vi_rg rfl r13a (by decide) (by decide)) dX0_comeIn_23 ?_
      refine lv_topl (fun y23 e23 => ?_)
      refine lv_iload_n hx hb dX0_comeIn_24 rfl (lv_at hl 2 rfl) ?_
      refine ro_i (va_runSN (As := [.long y23, .int p1]) (rest := [.int j5_l3]) ⟨hx, hb, hml, hown, hts⟩ (q_X11_isAt l g cI cJ cB cZ cL y23 p1 H.size ) ⟨(va_cnB 2 hts (goodIn_sub (fun _ h => List.mem_cons_of_mem _ (List.mem_append_right _ (List.mem_append_left _ h))) good_v_X11_isAt) rfl rfl rfl (hE.nest _ (List.mem_of_getElem? (i := 0) rfl)) (hts (.initialized RX11) (List.mem_cons_of_mem _ (List.mem_append_left _ (List.mem_of_getElem? (i := 2) rfl)))) (by decide +kernel) ⟨Nat.le_of_ble_eq_true rfl, Nat.le_of_ble_eq_true rfl⟩), (hts (.static yX11_isAt) (List.mem_cons_of_mem _ (List.mem_append_left _ (List.mem_of_getElem? (i := 3) rfl)))), trivial⟩ (ps_RO (wc := []) hK hP [] rfl) rfl rfl hl.1 rfl (lv_room (Nat.le_of_ble_eq_true rfl)) dX0_comeIn_25 ⟨Nat.le_of_ble_eq_true rfl, Nat.le_of_ble_eq_true rfl⟩) hS hA hP (fun r25 u25 H locs hw25 hP hS => ?_)
      have hw25_0 := hw25
      have J36 : ∀ (j36_s0 : Int32) (H : Heap) (locs : List Loc) (ls : Array Slot), (ir j36_s0.toInt 0 1) → va_P g vwCl [(ld, .inr (4, [.int ld_lines, .int ld_years, .int ld_card, .int ld_hurt, .int ld_people, .int ld_pairs, .long ld_strikes, .ref ld_rule, .ref ld_returns, .ref ld_forgets, .ref ld_death, .ref ld_move, .ref ld_begun, .ref ld_who, .ref ld_lost])), (bk, .inr (0, [.int bk_stale, .ref bk_first, .ref bk_back, .ref bk_got])), (bk_got, .inl (cJ, 32, .inr (.inl bk_got_c)))] H → va_S A s.heap H locs → lv_has ls 5 [(0, .ref bk), (1, .ref ld), (2, .int p1), (4, .int j5_l4)] → W p l e (headSpec v_X0_comeIn ({ frames := 1, cells := 0, slots := 0, locals := 22 })).room s m av below meth c H locs 0 0 QQ (F0 m 36 ls [.int j36_s0, .int j5_l3]) := by
        intro j36_s0 H locs ls hj36_s0 hP hS hl
        refine lv_iadd hx hb dX0_comeIn_36 ?_
        refine lv_topi (fun y36 e36 => ?_)
        refine lv_istore_n (lv' := [(3, .int y36), (0, .ref bk), (1, .ref ld), (2, .int p1), (4, .int j5_l4)]) hx hb dX0_comeIn_37 rfl hl (by decide) rfl (fun ls hl => ?_)
        obtain ⟨y38, e38⟩ : ∃ y : Int32, y = j5_l4 + 1 := ⟨_, rfl⟩
        have q38 : y38.toInt = j5_l4.toInt + 1 := by rw [e38]; exact ad_z rfl rfl r13a (ir_c 1) (by decide) (by decide)
        have r38 : ir y38.toInt 1 32 := ad_r q38 r13a (ir_c 1) (by decide) (by decide)
        refine lv_iinc (v := y38) (lv' := [(4, .int y38), (3, .int y36), (0, .ref bk), (1, .ref ld), (2, .int p1)]) hx hb dX0_comeIn_38 hl (k := 4) rfl e38.symm (by decide) rfl (fun ls hl => ?_)
        refine lv_goto (tgt := 5) hx hb dX0_comeIn_41 (by decide) ?_
        exact ih5 y36 y38 _ _ _ (by omega) (ir_w r38 (by decide) (by decide)) (hP.sub [0, 1, 2] rfl) hS (lv_sub hl [2, 3, 4, 1, 0] rfl)
      refine lv_if_eq (tgt := 35) hx hb dX0_comeIn_28 (by decide) (fun c28 => ?_) (fun c28 => ?_)
      · have f28 := (show r25.toInt = 0 from z_eq rfl rfl c28)
        have r28a : ir r25.toInt 0 0 := ir_eqa f28 hw25_0 (ir_c 0) (by decide) (by decide)
        refine lv_iconst (v := 0) hx hb dX0_comeIn_35 (by decide) ?_
        exact J36 0 _ _ _ (by decide) (hP.sub [0, 1, 2] rfl) hS (lv_sub hl [0, 1, 2, 4] rfl)
      have f28 := (show r25.toInt ≠ 0 from z_ne rfl rfl c28)
      have r28a : ir r25.toInt 1 1 := ir_nel f28 hw25_0 (by decide) (by decide)
      refine lv_iconst (v := 1) hx hb dX0_comeIn_31 (by decide) ?_
      refine lv_goto (tgt := 36) hx hb dX0_comeIn_32 (by decide) ?_
      exact J36 1 _ _ _ (by decide) (hP.sub [0, 1, 2] rfl) hS (lv_sub hl [0, 1, 2, 4] rfl)
  exact J5 _ 0 0 _ _ _ (Nat.lt_succ_self _) (by decide) (hP.sub [0, 1, 2] rfl) hS (lv_sub hl [2, 3, 4, 1, 0] rfl)
def v_X0_costOf : List Cond := .code yX0_costOf cX0_costOf 7 (some .int) :: (([.fieldLink RX0 25 "CardsAtYule$Land" "pairs" "I", .fieldLink RX0 65 "CardsAtYule$Land" "who" "[I", .methodLink RX0 49 yX0_sentOf, .instanceMethod yX0_sentOf, .selects RX0 yX0_sentOf yX0_sentOf, .initialized RX0, .fieldLink RX0 68 "CardsAtYule$Land" "card" "I", .methodLink RX0 71 yJ13_bitCount_95d88, .static yJ13_bitCount_95d88, .initialized RJ13, .fieldLink RX0 77 "CardsAtYule$Land" "hurt" "I", .fieldLink RX0 22 "CardsAtYule$Book" "got" "[J", .constantLong RX0 80 (-1)] : List Cond) ++ (v_X0_sentOf ++ (v_J13_bitCount_95d88 ++ (wsX40 ++ (wsX00 ++ ([] : List Cond))))))
theorem good_v_X0_costOf : v_X0_costOf.all goodWord = true := ga_c (by decide +kernel) (ga_a (by decide +kernel) (ga_a good_v_X0_sentOf (ga_a good_v_J13_bitCount_95d88 (ga_a good_wsX40 (ga_a good_wsX00 rfl)))))
set_option maxHeartbeats 4000000 in
set_option maxRecDepth 100000 in
theorem q_X0_costOf (l : Launch) (g : va_G) (cI cJ cB cZ cL : ClassId) (p1 : Int32) (bk : Nat) (ld : Nat) (ld_lines : Int32) (ld_years : Int32) (ld_card : Int32) (ld_hurt : Int32) (ld_people : Int32) (ld_pairs : Int32) (ld_strikes : Int64) (ld_rule : Nat) (ld_returns : Nat) (ld_forgets : Nat) (ld_death : Nat) (ld_move : Nat) (ld_begun : Nat) (ld_who : Nat) (ld_lost : Nat) (ld_who_c : Nat → Int32) (bk_stale : Int32) (bk_first : Nat) (bk_back : Nat) (bk_got : Nat) (bk_first_c : Nat → Int64) (bk_back_c : Nat → Int64) (bk_got_c : Nat → Int64) (sz : Nat) (hv_ld_years : ir ld_years.toInt 0 40) (hv_ld_people : ir ld_people.toInt 0 10) (hv_ld_pairs : ir ld_pairs.toInt 0 16) (ha_ld_who_c : ar ld_who_c 32 0 9) (hv_bk_stale : ir bk_stale.toInt 0 1) : Met l yX0_costOf v_X0_costOf ({ frames := 1, cells := 0, slots := 0, locals := 21 }) (va_Pc [.ref bk, .ref ld, .int p1] (pRO g (tyT cI cJ cB cZ cL) [(ld, .inr (4, [.int ld_lines, .int ld_years, .int ld_card, .int ld_hurt, .int ld_people, .int ld_pairs, .long ld_strikes, .ref ld_rule, .ref ld_returns, .ref ld_forgets, .ref ld_death, .ref ld_move, .ref ld_begun, .ref ld_who, .ref ld_lost])), (ld_who, .inl (cI, 32, .inl ld_who_c)), (bk, .inr (0, [.int bk_stale, .ref bk_first, .ref bk_back, .ref bk_got])), (bk_first, .inl (cJ, 32, .inr (.inl bk_first_c))), (bk_back, .inl (cJ, 32, .inr (.inl bk_back_c))), (bk_got, .inl (cJ, 32, .inr (.inl bk_got_c)))] sz)) (va_Qi (fun (r : Int32) (u : Unit) => True) (fun (_ : Unit) (_ : State) => True) (va_A [] sz)) 0 0 (va_A [] sz) := by
  refine Met.ofW (cc := cX0_costOf) (maxL := 7) (ret := (some .int)) (by decide) rfl ?_
  intro p e s m args below meth c s₁ B hml hv
  obtain ⟨rfl, hsz, hP, hK⟩ := hv
  have hx := B.exec
  have hb := B.bytes
  have hr := B.returns
  have hts := atoms_spec (ws := v_X0_costOf) B.pre
  have hown : s.vm.findClass RX0 = some m.cls := findClass_of_methodNamed B.named
  have hlocks := B.notSynchronized
  clear B
  subst hsz
  have iX4 : ∀ w ∈ wsX40, w ∈ v_X0_costOf := (fun _ h => List.mem_cons_of_mem _ (List.mem_append_right _ (List.mem_append_right _ (List.mem_append_right _ (List.mem_append_left _ h)))))
  have iX0 : ∀ w ∈ wsX00, w ∈ v_X0_costOf := (fun _ h => List.mem_cons_of_mem _ (List.mem_append_right _ (List.mem_append_right _ (List.mem_append_right _ (List.mem_append_right _ (List.mem_append_left _ h))))))
  generalize hAe : (va_A [] s.heap.size) = A
  have hA : ∀ q : Nat, s.heap.size ≤ q → A q := fun q h => by rw [← hAe]; exact Or.inr h
  have hS : va_S A s.heap s.heap [] := va_S.rf
  have hl := lv_entry ([.ref bk, .ref ld, .int p1]) (n := 7) (Nat.le_of_ble_eq_true rfl)
  rw [lg_entry_eq]
  generalize (lg_sl ([.ref bk, .ref ld, .int p1]) ++ List.replicate (7 - (lg_sl ([.ref bk, .ref ld, .int p1])).length) Slot.unset).toArray = ls at hl ⊢
  generalize ([.ref bk, .ref ld, .int p1] : List Value).toArray = av at hts ⊢
  generalize hQ : MQ below _ av s _ _ A = QQ
  have hl : lv_has ls 7 [(0, .ref bk), (1, .ref ld), (2, .int p1)] := hl
  have hP : va_P g vwCl [(ld, .inr (4, [.int ld_lines, .int ld_years, .int ld_card, .int ld_hurt, .int ld_people, .int ld_pairs, .long ld_strikes, .ref ld_rule, .ref ld_returns, .ref ld_forgets, .ref ld_death, .ref ld_move, .ref ld_begun, .ref ld_who, .ref ld_lost])), (ld_who, .inl (cI, 32, .inl ld_who_c)), (bk, .inr (0, [.int bk_stale, .ref bk_first, .ref bk_back, .ref bk_got])), (bk_first, .inl (cJ, 32, .inr (.inl bk_first_c))), (bk_back, .inl (cJ, 32, .inr (.inl bk_back_c))), (bk_got, .inl (cJ, 32, .inr (.inl bk_got_c)))] s.heap := hP
  refine lv_iconst (v := 0) hx hb dX0_costOf_0 (by decide) ?_
  refine lv_istore_n (lv' := [(3, .int 0), (0, .ref bk), (1, .ref ld), (2, .int p1)]) hx hb dX0_costOf_1 rfl hl (by decide) rfl (fun ls hl => ?_)
  refine lv_iconst (v := 0) hx hb dX0_costOf_2 (by decide) ?_
  refine lv_istore (lv' := [(4, .int 0), (3, .int 0), (0, .ref bk), (1, .ref ld), (2, .int p1)]) hx hb dX0_costOf_3 hl (by decide) rfl (fun ls hl => ?_)
  have J5 : ∀ (n5 : Nat) (j5_l3 : Int32) (j5_l4 : Int32) (H : Heap) (locs : List Loc) (ls : Array Slot), (33 - j5_l4.toInt).toNat < n5 → (ir j5_l4.toInt 0 32) → va_P g vwCl [(ld, .inr (4, [.int ld_lines, .int ld_years, .int ld_card, .int ld_hurt, .int ld_people, .int ld_pairs, .long ld_strikes, .ref ld_rule, .ref ld_returns, .ref ld_forgets, .ref ld_death, .ref ld_move, .ref ld_begun, .ref ld_who, .ref ld_lost])), (ld_who, .inl (cI, 32, .inl ld_who_c)), (bk, .inr (0, [.int bk_stale, .ref bk_first, .ref bk_back, .ref bk_got])), (bk_first, .inl (cJ, 32, .inr (.inl bk_first_c))), (bk_back, .inl (cJ, 32, .inr (.inl bk_back_c))), (bk_got, .inl (cJ, 32, .inr (.inl bk_got_c)))] H → va_S A s.heap H locs → lv_has ls 7 [(0, .ref bk), (1, .ref ld), (2, .int p1), (3, .int j5_l3), (4, .int j5_l4)] → W p l e (headSpec v_X0_costOf ({ frames := 1, cells := 0, slots := 0, locals := 21 })).room s m av below meth c H locs 0 0 QQ (F0 m 5 ls []) := by
    intro n5
    induction n5 with
    | zero => exact fun j5_l3 j5_l4 H locs ls hn => absurd hn (Nat.not_lt_zero _)
    | succ n5 ih5 =>
      intro j5_l3 j5_l4 H locs ls hn5 hj5_l4 hP hS hl
      refine lv_iload hx hb dX0_costOf_5 (lv_at hl 4 rfl) ?_
      refine lv_iconst (v := 2) hx hb dX0_costOf_7 (by decide) ?_
      refine lv_aload_n hx hb dX0_costOf_8 rfl (lv_at hl 1 rfl) ?_
      refine va_get (D := g) (ci := 4) (v := .int ld_pairs) (C := RX4) (T := TX4) (N := 15) hx hb hts iX4 hown hK hP 0 rfl rfl 5 (by decide) (hts (.fieldLink RX0 25 "CardsAtYule$Land" "pairs" "I") (List.mem_cons_of_mem _ (List.mem_append_left _ (List.mem_of_getElem? (i := 0) rfl)))) (fun _ h9 => h9) rfl dX0_costOf_9 ?_
      refine lv_imul hx hb dX0_costOf_12 ?_
      refine lv_topi (fun y12 e12 => ?_)
      have q12 : y12.toInt = 2 * ld_pairs.toInt := by rw [e12]; exact mu_z rfl rfl (ir_c 2) hv_ld_pairs (by decide) (by decide) (by decide)
      have r12 : ir y12.toInt 0 32 := mu_r q12 (ir_c 2) hv_ld_pairs (by decide) (by decide) (by decide) (by decide)
      refine lv_icmp_ge (tgt := 77) hx hb dX0_costOf_13 (by decide) (fun c13 => ?_) (fun c13 => ?_)
      · have f13 := (show y12.toInt ≤ j5_l4.toInt from z_le rfl rfl c13)
        refine lv_iload_n hx hb dX0_costOf_77 rfl (lv_at hl 3 rfl) ?_
        subst hQ
        exact W.iret (v := j5_l3) hx hb hr (fun t ht hW => ⟨⟨j5_l3, (), rfl, trivial, trivial⟩, hS.F ht⟩) hS.2.2 dX0_costOf_78
      have f13 := (show j5_l4.toInt < y12.toInt from z_nle rfl rfl c13)
      have r13a : ir j5_l4.toInt 0 31 := ir_lta f13 hj5_l4 r12 (by decide)
      have r13b : ir y12.toInt 1 32 := ir_ltb f13 hj5_l4 r12 (by decide)
      refine lv_aload_n hx hb dX0_costOf_16 rfl (lv_at hl 1 rfl) ?_
      refine va_get (D := g) (ci := 4) (v := .ref ld_who) (C := RX4) (T := TX4) (N := 15) hx hb hts iX4 hown hK hP 0 rfl rfl 13 (by decide) (hts (.fieldLink RX0 65 "CardsAtYule$Land" "who" "[I") (List.mem_cons_of_mem _ (List.mem_append_left _ (List.mem_of_getElem? (i := 1) rfl)))) (fun _ h9 => h9) rfl dX0_costOf_17 ?_
      refine lv_iload hx hb dX0_costOf_20 (lv_at hl 4 rfl) ?_
      refine va_iald (D := g) hx hb hK hP 1 0 rfl rfl (vi_rg rfl r13a (by decide) (by decide)) dX0_costOf_22 ?_
      refine lv_topi (fun y22 e22 => ?_)
      have r22 : ir y22.toInt 0 9 := by rw [e22]; exact ha_ld_who_c _ (vi_cl (vi_rg rfl r13a (by decide) (by decide)))
      refine lv_iload_n hx hb dX0_costOf_23 rfl (lv_at hl 2 rfl) ?_
      have J71 : ∀ (j71_l3 : Int32) (H : Heap) (locs : List Loc) (ls : Array Slot), va_P g vwCl [(ld, .inr (4, [.int ld_lines, .int ld_years, .int ld_card, .int ld_hurt, .int ld_people, .int ld_pairs, .long ld_strikes, .ref ld_rule, .ref ld_returns, .ref ld_forgets, .ref ld_death, .ref ld_move, .ref ld_begun, .ref ld_who, .ref ld_lost])), (ld_who, .inl (cI, 32, .inl ld_who_c)), (bk, .inr (0, [.int bk_stale, .ref bk_first, .ref bk_back, .ref bk_got])), (bk_first, .inl (cJ, 32, .inr (.inl bk_first_c))), (bk_back, .inl (cJ, 32, .inr (.inl bk_back_c))), (bk_got, .inl (cJ, 32, .inr (.inl bk_got_c)))] H → va_S A s.heap H locs → lv_has ls 7 [(0, .ref bk), (1, .ref ld), (2, .int p1), (3, .int j71_l3), (4, .int j5_l4)] → W p l e (headSpec v_X0_costOf ({ frames := 1, cells := 0, slots := 0, locals := 21 })).room s m av below meth c H locs 0 0 QQ (F0 m 71 ls []) := by
        intro j71_l3 H locs ls  hP hS hl
        obtain ⟨y71, e71⟩ : ∃ y : Int32, y = j5_l4 + 1 := ⟨_, rfl⟩
        have q71 : y71.toInt = j5_l4.toInt + 1 := by rw [e71]; exact ad_z rfl rfl r13a (ir_c 1) (by decide) (by decide)
        have r71 : ir y71.toInt 1 32 := ad_r q71 r13a (ir_c 1) (by decide) (by decide)
        refine lv_iinc (v := y71) (lv' := [(4, .int y71), (0, .ref bk), (1, .ref ld), (2, .int p1), (3, .int j71_l3)]) hx hb dX0_costOf_71 hl (k := 4) rfl e71.symm (by decide) rfl (fun ls hl => ?_)
        refine lv_goto (tgt := 5) hx hb dX0_costOf_74 (by decide) ?_
        exact ih5 j71_l3 y71 _ _ _ (by omega) (ir_w r71 (by decide) (by decide)) (hP.sub [0, 1, 2, 3, 4, 5] rfl) hS (lv_sub hl [1, 2, 3, 4, 0] rfl)
      refine lv_icmp_ne (tgt := 71) hx hb dX0_costOf_24 (by decide) (fun c24 => ?_) (fun c24 => ?_)
      · have f24 := (show y22.toInt ≠ p1.toInt from z_ne rfl rfl c24)
        exact J71 j5_l3 _ _ _  (hP.sub [0, 1, 2, 3, 4, 5] rfl) hS (lv_sub hl [0, 1, 2, 3, 4] rfl)
      have f24 := (show y22.toInt = p1.toInt from z_eq rfl rfl c24)
      have r24b : ir p1.toInt 0 9 := ir_eqb f24 r22 (rg_all p1) (by decide) (by decide)
      refine lv_aload_n hx hb dX0_costOf_27 rfl (lv_at hl 0 rfl) ?_
      refine lv_iload hx hb dX0_costOf_28 (lv_at hl 4 rfl) ?_
      refine ro_l (va_runV (As := [.int j5_l4]) (rest := []) ⟨hx, hb, hml, hown, hts⟩ (q_X0_sentOf l g cI cJ cB cZ cL j5_l4 bk bk_stale bk_first bk_back bk_got bk_first_c bk_back_c H.size r13a hv_bk_stale) (cwV 1 hts (goodIn_app (g_4 (List.mem_cons_of_mem _ (List.mem_append_left _ (List.mem_of_getElem? (i := 2) rfl))) (List.mem_cons_of_mem _ (List.mem_append_left _ (List.mem_of_getElem? (i := 3) rfl))) (List.mem_cons_of_mem _ (List.mem_append_left _ (List.mem_of_getElem? (i := 4) rfl))) (List.mem_cons_of_mem _ (List.mem_append_left _ (List.mem_of_getElem? (i := 5) rfl))) (by decide +kernel)) (goodIn_sub (fun _ h => List.mem_cons_of_mem _ (List.mem_append_right _ (List.mem_append_left _ h))) good_v_X0_sentOf)) rfl rfl rfl (by decide +kernel) ⟨Nat.le_of_ble_eq_true rfl, Nat.le_of_ble_eq_true rfl⟩) (pv_RO (q := (RX0, TX0, 4)) (ci := 0) (q0 := 0) (wc := [(bk, .inr (0, [.int bk_stale, .ref bk_first, .ref bk_back, .ref bk_got])), (bk_first, .inl (cJ, 32, .inr (.inl bk_first_c))), (bk_back, .inl (cJ, 32, .inr (.inl bk_back_c)))]) hK hP [2, 3, 4] rfl rfl rfl) rfl rfl hl.1 rfl (lv_room (Nat.le_of_ble_eq_true rfl)) dX0_costOf_30 ⟨Nat.le_of_ble_eq_true rfl, Nat.le_of_ble_eq_true rfl⟩) hS hA hP (fun r30 u30 H locs hw30 hP hS => ?_)
      refine lv_lstore (lv' := [(5, .long r30), (0, .ref bk), (1, .ref ld), (2, .int p1), (3, .int j5_l3), (4, .int j5_l4)]) hx hb dX0_costOf_33 hl (by decide) rfl (fun ls hl => ?_)
      refine lv_iload_n hx hb dX0_costOf_35 rfl (lv_at hl 4 rfl) ?_
      refine lv_aload_n hx hb dX0_costOf_36 rfl (lv_at hl 2 rfl) ?_
      refine va_get (D := g) (ci := 4) (v := .int ld_card) (C := RX4) (T := TX4) (N := 15) hx hb hts iX4 hown hK hP 0 rfl rfl 2 (by decide) (hts (.fieldLink RX0 68 "CardsAtYule$Land" "card" "I") (List.mem_cons_of_mem _ (List.mem_append_left _ (List.mem_of_getElem? (i := 6) rfl)))) (fun _ h9 => h9) rfl dX0_costOf_37 ?_
      refine lv_lload hx hb dX0_costOf_40 (lv_at hl 0 rfl) ?_
      refine ro_i (va_runS (As := [.long r30]) (rest := [.int ld_card, .int j5_l3]) ⟨hx, hb, hml, hown, hts⟩ (q_J13_bitCount_95d88 l g cI cJ cB cZ cL r30 H.size ) (va_cwS 1 hts (goodIn_app (g_3 (List.mem_cons_of_mem _ (List.mem_append_left _ (List.mem_of_getElem? (i := 7) rfl))) (List.mem_cons_of_mem _ (List.mem_append_left _ (List.mem_of_getElem? (i := 8) rfl))) (List.mem_cons_of_mem _ (List.mem_append_left _ (List.mem_of_getElem? (i := 9) rfl))) (by decide +kernel)) (goodIn_sub (fun _ h => List.mem_cons_of_mem _ (List.mem_append_right _ (List.mem_append_right _ (List.mem_append_left _ h)))) good_v_J13_bitCount_95d88)) rfl rfl rfl (by decide +kernel) ⟨Nat.le_of_ble_eq_true rfl, Nat.le_of_ble_eq_true rfl⟩) (ps_RO (wc := []) hK hP [] rfl) rfl rfl hl.1 rfl (lv_room (Nat.le_of_ble_eq_true rfl)) dX0_costOf_42 ⟨Nat.le_of_ble_eq_true rfl, Nat.le_of_ble_eq_true rfl⟩) hS hA hP (fun r42 u42 H locs hw42 hP hS => ?_)
      have hw42_0 := hw42
      refine lv_imul hx hb dX0_costOf_45 ?_
      refine lv_topi (fun y45 e45 => ?_)
      refine lv_aload_n hx hb dX0_costOf_46 rfl (lv_at hl 2 rfl) ?_
      refine va_get (D := g) (ci := 4) (v := .int ld_hurt) (C := RX4) (T := TX4) (N := 15) hx hb hts iX4 hown hK hP 0 rfl rfl 3 (by decide) (hts (.fieldLink RX0 77 "CardsAtYule$Land" "hurt" "I") (List.mem_cons_of_mem _ (List.mem_append_left _ (List.mem_of_getElem? (i := 10) rfl)))) (fun _ h9 => h9) rfl dX0_costOf_47 ?_
      refine lv_lload hx hb dX0_costOf_50 (lv_at hl 0 rfl) ?_
      refine lv_aload_n hx hb dX0_costOf_52 rfl (lv_at hl 1 rfl) ?_
      refine va_get (D := g) (ci := 0) (v := .ref bk_got) (C := RX0) (T := TX0) (N := 4) hx hb hts iX0 hown hK hP 2 rfl rfl 3 (by decide) (hts (.fieldLink RX0 22 "CardsAtYule$Book" "got" "[J") (List.mem_cons_of_mem _ (List.mem_append_left _ (List.mem_of_getElem? (i := 11) rfl)))) (fun _ h9 => h9) rfl dX0_costOf_53 ?_
      refine lv_iload hx hb dX0_costOf_56 (lv_at hl 5 rfl) ?_
      refine va_lald (D := g) hx hb hK hP 5 1 rfl rfl (vi_rg rfl r13a (by decide) (by decide)) dX0_costOf_58 ?_
      refine lv_topl (fun y58 e58 => ?_)
      refine lv_ldc2 (v := (-1)) hx hb hown (hts (.constantLong RX0 80 (-1)) (List.mem_cons_of_mem _ (List.mem_append_left _ (List.mem_of_getElem? (i := 12) rfl)))) dX0_costOf_59 ?_
      refine lv_lxor hx hb dX0_costOf_62 ?_
      refine lv_topl (fun y62 e62 => ?_)
      refine lv_land hx hb dX0_costOf_63 ?_
      refine lv_topl (fun y63 e63 => ?_)
      refine ro_i (va_runS (As := [.long y63]) (rest := [.int ld_hurt, .int y45, .int j5_l3]) ⟨hx, hb, hml, hown, hts⟩ (q_J13_bitCount_95d88 l g cI cJ cB cZ cL y63 H.size ) (va_cwS 1 hts (goodIn_app (g_3 (List.mem_cons_of_mem _ (List.mem_append_left _ (List.mem_of_getElem? (i := 7) rfl))) (List.mem_cons_of_mem _ (List.mem_append_left _ (List.mem_of_getElem? (i := 8) rfl))) (List.mem_cons_of_mem _ (List.mem_append_left _ (List.mem_of_getElem? (i := 9) rfl))) (by decide +kernel)) (goodIn_sub (fun _ h => List.mem_cons_of_mem _ (List.mem_append_right _ (List.mem_append_right _ (List.mem_append_left _ h)))) good_v_J13_bitCount_95d88)) rfl rfl rfl (by decide +kernel) ⟨Nat.le_of_ble_eq_true rfl, Nat.le_of_ble_eq_true rfl⟩) (ps_RO (wc := []) hK hP [] rfl) rfl rfl hl.1 rfl (lv_room (Nat.le_of_ble_eq_true rfl)) dX0_costOf_64 ⟨Nat.le_of_ble_eq_true rfl, Nat.le_of_ble_eq_true rfl⟩) hS hA hP (fun r64 u64 H locs hw64 hP hS => ?_)
      have hw64_0 := hw64
      refine lv_imul hx hb dX0_costOf_67 ?_
      refine lv_topi (fun y67 e67 => ?_)
      refine lv_iadd hx hb dX0_costOf_68 ?_
      refine lv_topi (fun y68 e68 => ?_)
      refine lv_iadd hx hb dX0_costOf_69 ?_
      refine lv_topi (fun y69 e69 => ?_)
      refine lv_istore_n (lv' := [(3, .int y69), (5, .long r30), (0, .ref bk), (1, .ref ld), (2, .int p1), (4, .int j5_l4)]) hx hb dX0_costOf_70 rfl hl (by decide) rfl (fun ls hl => ?_)
      exact J71 y69 _ _ _  (hP.sub [0, 1, 2, 3, 4, 5] rfl) hS (lv_sub hl [2, 3, 4, 0, 5] rfl)
  exact J5 _ 0 0 _ _ _ (Nat.lt_succ_self _) (by decide) (hP.sub [0, 1, 2, 3, 4, 5] rfl) hS (lv_sub hl [2, 3, 4, 1, 0] rfl)
def v_X3_sentIn : List Cond := .code yX3_sentIn cX3_sentIn 4 (some .int) :: (([.fieldLink RX3 15 "CardsAtYule$Fate" "rule0" "I", .fieldLink RX3 19 "CardsAtYule$Fate" "rule1" "I", .methodLink RX3 61 yX10_firsts, .static yX10_firsts, .initialized RX10, .methodLink RX3 67 yX10_returning, .static yX10_returning, .methodLink RX3 70 yX10_backs, .static yX10_backs] : List Cond) ++ (v_X10_firsts ++ (v_X10_returning ++ (v_X10_backs ++ (wsX30 ++ ([] : List Cond))))))
theorem good_v_X3_sentIn : v_X3_sentIn.all goodWord = true := ga_c (by decide +kernel) (ga_a (by decide +kernel) (ga_a good_v_X10_firsts (ga_a good_v_X10_returning (ga_a good_v_X10_backs (ga_a good_wsX30 rfl)))))
set_option maxHeartbeats 4000000 in
set_option maxRecDepth 100000 in
theorem q_X3_sentIn (l : Launch) (g : va_G) (cI cJ cB cZ cL : ClassId) (p0 : Int32) (p1 : Int32) (fa : Nat) (fa_begins : Int32) (fa_length : Int32) (fa_cards : Int32) (fa_round : Int32) (fa_rule0 : Int32) (fa_rule1 : Int32) (fa_yearOf : Nat) (sz : Nat) (hv_fa_round : ir fa_round.toInt 0 15) : Met l yX3_sentIn v_X3_sentIn ({ frames := 1, cells := 0, slots := 0, locals := 23 }) (va_Pc [.ref fa, .int p0, .int p1] (pRO g (tyT cI cJ cB cZ cL) [(fa, .inr (3, [.int fa_begins, .int fa_length, .int fa_cards, .int fa_round, .int fa_rule0, .int fa_rule1, .ref fa_yearOf]))] sz)) (va_Qi (fun (r : Int32) (u : Unit) => (ir r.toInt 0 3)) (fun (_ : Unit) (_ : State) => True) (va_A [] sz)) 0 0 (va_A [] sz) := by
  refine Met.ofW (cc := cX3_sentIn) (maxL := 4) (ret := (some .int)) (by decide) rfl ?_
  intro p e s m args below meth c s₁ B hml hv
  obtain ⟨rfl, hsz, hP, hK⟩ := hv
  have hx := B.exec
  have hb := B.bytes
  have hr := B.returns
  have hts := atoms_spec (ws := v_X3_sentIn) B.pre
  have hown : s.vm.findClass RX3 = some m.cls := findClass_of_methodNamed B.named
  have hlocks := B.notSynchronized
  clear B
  subst hsz
  have iX3 : ∀ w ∈ wsX30, w ∈ v_X3_sentIn := (fun _ h => List.mem_cons_of_mem _ (List.mem_append_right _ (List.mem_append_right _ (List.mem_append_right _ (List.mem_append_right _ (List.mem_append_left _ h))))))
  generalize hAe : (va_A [] s.heap.size) = A
  have hA : ∀ q : Nat, s.heap.size ≤ q → A q := fun q h => by rw [← hAe]; exact Or.inr h
  have hS : va_S A s.heap s.heap [] := va_S.rf
  have hl := lv_entry ([.ref fa, .int p0, .int p1]) (n := 4) (Nat.le_of_ble_eq_true rfl)
  rw [lg_entry_eq]
  generalize (lg_sl ([.ref fa, .int p0, .int p1]) ++ List.replicate (4 - (lg_sl ([.ref fa, .int p0, .int p1])).length) Slot.unset).toArray = ls at hl ⊢
  generalize ([.ref fa, .int p0, .int p1] : List Value).toArray = av at hts ⊢
  generalize hQ : MQ below _ av s _ _ A = QQ
  have hl : lv_has ls 4 [(0, .ref fa), (1, .int p0), (2, .int p1)] := hl
  have hP : va_P g vwCl [(fa, .inr (3, [.int fa_begins, .int fa_length, .int fa_cards, .int fa_round, .int fa_rule0, .int fa_rule1, .ref fa_yearOf]))] s.heap := hP
  refine lv_aload_n hx hb dX3_sentIn_0 rfl (lv_at hl 0 rfl) ?_
  refine va_get (D := g) (ci := 3) (v := .int fa_rule0) (C := RX3) (T := TX3) (N := 7) hx hb hts iX3 hown hK hP 0 rfl rfl 4 (by decide) (hts (.fieldLink RX3 15 "CardsAtYule$Fate" "rule0" "I") (List.mem_cons_of_mem _ (List.mem_append_left _ (List.mem_of_getElem? (i := 0) rfl)))) (fun _ h9 => h9) rfl dX3_sentIn_1 ?_
  refine lv_aload_n hx hb dX3_sentIn_4 rfl (lv_at hl 0 rfl) ?_
  refine va_get (D := g) (ci := 3) (v := .int fa_rule1) (C := RX3) (T := TX3) (N := 7) hx hb hts iX3 hown hK hP 0 rfl rfl 5 (by decide) (hts (.fieldLink RX3 19 "CardsAtYule$Fate" "rule1" "I") (List.mem_cons_of_mem _ (List.mem_append_left _ (List.mem_of_getElem? (i := 1) rfl)))) (fun _ h9 => h9) rfl dX3_sentIn_5 ?_
  refine lv_iload_n hx hb dX3_sentIn_8 rfl (lv_at hl 1 rfl) ?_
  refine ro_i (va_runS (As := [.int fa_rule0, .int fa_rule1, .int p0]) (rest := []) ⟨hx, hb, hml, hown, hts⟩ (q_X10_firsts l g cI cJ cB cZ cL fa_rule0 fa_rule1 p0 s.heap.size ) (va_cwS 3 hts (goodIn_app (g_3 (List.mem_cons_of_mem _ (List.mem_append_left _ (List.mem_of_getElem? (i := 2) rfl))) (List.mem_cons_of_mem _ (List.mem_append_left _ (List.mem_of_getElem? (i := 3) rfl))) (List.mem_cons_of_mem _ (List.mem_append_left _ (List.mem_of_getElem? (i := 4) rfl))) (by decide +kernel)) (goodIn_sub (fun _ h => List.mem_cons_of_mem _ (List.mem_append_right _ (List.mem_append_left _ h))) good_v_X10_firsts)) rfl rfl rfl (by decide +kernel) ⟨Nat.le_of_ble_eq_true rfl, Nat.le_of_ble_eq_true rfl⟩) (ps_RO (wc := []) hK hP [] rfl) rfl rfl hl.1 rfl (lv_room (Nat.le_of_ble_eq_true rfl)) dX3_sentIn_9 ⟨Nat.le_of_ble_eq_true rfl, Nat.le_of_ble_eq_true rfl⟩) hS hA hP (fun r9 u9 H locs hw9 hP hS => ?_)
  have hw9_0 := hw9
  refine lv_istore_n (lv' := [(3, .int r9), (0, .ref fa), (1, .int p0), (2, .int p1)]) hx hb dX3_sentIn_12 rfl hl (by decide) rfl (fun ls hl => ?_)
  refine lv_iload_n hx hb dX3_sentIn_13 rfl (lv_at hl 0 rfl) ?_
  refine lv_iload_n hx hb dX3_sentIn_14 rfl (lv_at hl 0 rfl) ?_
  refine lv_aload_n hx hb dX3_sentIn_15 rfl (lv_at hl 1 rfl) ?_
  refine va_get (D := g) (ci := 3) (v := .int fa_rule0) (C := RX3) (T := TX3) (N := 7) hx hb hts iX3 hown hK hP 0 rfl rfl 4 (by decide) (hts (.fieldLink RX3 15 "CardsAtYule$Fate" "rule0" "I") (List.mem_cons_of_mem _ (List.mem_append_left _ (List.mem_of_getElem? (i := 0) rfl)))) (fun _ h9 => h9) rfl dX3_sentIn_16 ?_
  refine lv_aload_n hx hb dX3_sentIn_19 rfl (lv_at hl 1 rfl) ?_
  refine va_get (D := g) (ci := 3) (v := .int fa_rule1) (C := RX3) (T := TX3) (N := 7) hx hb hts iX3 hown hK hP 0 rfl rfl 5 (by decide) (hts (.fieldLink RX3 19 "CardsAtYule$Fate" "rule1" "I") (List.mem_cons_of_mem _ (List.mem_append_left _ (List.mem_of_getElem? (i := 1) rfl)))) (fun _ h9 => h9) rfl dX3_sentIn_20 ?_
  refine ro_i (va_runS (As := [.int fa_rule0, .int fa_rule1]) (rest := [.int r9, .int r9]) ⟨hx, hb, hml, hown, hts⟩ (q_X10_returning l g cI cJ cB cZ cL fa_rule0 fa_rule1 H.size ) (va_cwS 2 hts (goodIn_app (g_3 (List.mem_cons_of_mem _ (List.mem_append_left _ (List.mem_of_getElem? (i := 5) rfl))) (List.mem_cons_of_mem _ (List.mem_append_left _ (List.mem_of_getElem? (i := 6) rfl))) (List.mem_cons_of_mem _ (List.mem_append_left _ (List.mem_of_getElem? (i := 4) rfl))) (by decide +kernel)) (goodIn_sub (fun _ h => List.mem_cons_of_mem _ (List.mem_append_right _ (List.mem_append_right _ (List.mem_append_left _ h)))) good_v_X10_returning)) rfl rfl rfl (by decide +kernel) ⟨Nat.le_of_ble_eq_true rfl, Nat.le_of_ble_eq_true rfl⟩) (ps_RO (wc := []) hK hP [] rfl) rfl rfl hl.1 rfl (lv_room (Nat.le_of_ble_eq_true rfl)) dX3_sentIn_23 ⟨Nat.le_of_ble_eq_true rfl, Nat.le_of_ble_eq_true rfl⟩) hS hA hP (fun r23 u23 H locs hw23 hP hS => ?_)
  have hw23_0 := hw23
  refine lv_iload_n hx hb dX3_sentIn_26 rfl (lv_at hl 3 rfl) ?_
  refine ro_i (va_runS (As := [.int r9, .int r23, .int p1]) (rest := [.int r9]) ⟨hx, hb, hml, hown, hts⟩ (q_X10_backs l g cI cJ cB cZ cL r9 r23 p1 H.size hw23_0) (va_cwS 3 hts (goodIn_app (g_3 (List.mem_cons_of_mem _ (List.mem_append_left _ (List.mem_of_getElem? (i := 7) rfl))) (List.mem_cons_of_mem _ (List.mem_append_left _ (List.mem_of_getElem? (i := 8) rfl))) (List.mem_cons_of_mem _ (List.mem_append_left _ (List.mem_of_getElem? (i := 4) rfl))) (by decide +kernel)) (goodIn_sub (fun _ h => List.mem_cons_of_mem _ (List.mem_append_right _ (List.mem_append_right _ (List.mem_append_right _ (List.mem_append_left _ h))))) good_v_X10_backs)) rfl rfl rfl (by decide +kernel) ⟨Nat.le_of_ble_eq_true rfl, Nat.le_of_ble_eq_true rfl⟩) (ps_RO (wc := []) hK hP [] rfl) rfl rfl hl.1 rfl (lv_room (Nat.le_of_ble_eq_true rfl)) dX3_sentIn_27 ⟨Nat.le_of_ble_eq_true rfl, Nat.le_of_ble_eq_true rfl⟩) hS hA hP (fun r27 u27 H locs hw27 hP hS => ?_)
  have hw27_0 := hw27
  refine lv_ior hx hb dX3_sentIn_30 ?_
  refine lv_topi (fun y30 e30 => ?_)
  have r30 : ir y30.toInt 0 3 := by rw [e30]; exact or_r 2 rfl rfl hw9_0 hw27_0 (by decide) (by decide) (by decide) (by decide) (by decide)
  subst hQ
  exact W.iret (v := y30) hx hb hr (fun t ht hW => ⟨⟨y30, (), rfl, r30, trivial⟩, hS.F ht⟩) hS.2.2 dX3_sentIn_31
def v_X3_next : List Cond := .code yX3_next cX3_next 3 (some .int) :: (([.methodLink RX3 44 yX3_sentIn, .instanceMethod yX3_sentIn, .selects RX3 yX3_sentIn yX3_sentIn, .initialized RX3, .methodLink RX3 73 yX10_swapped, .static yX10_swapped, .initialized RX10, .methodLink RX3 76 yX10_after, .static yX10_after] : List Cond) ++ (v_X3_sentIn ++ (v_X10_swapped ++ (v_X10_after ++ ([] : List Cond)))))
theorem good_v_X3_next : v_X3_next.all goodWord = true := ga_c (by decide +kernel) (ga_a (by decide +kernel) (ga_a good_v_X3_sentIn (ga_a good_v_X10_swapped (ga_a good_v_X10_after rfl))))
set_option maxHeartbeats 4000000 in
set_option maxRecDepth 100000 in
theorem q_X3_next (l : Launch) (g : va_G) (cI cJ cB cZ cL : ClassId) (p0 : Int32) (p1 : Int32) (fa : Nat) (fa_begins : Int32) (fa_length : Int32) (fa_cards : Int32) (fa_round : Int32) (fa_rule0 : Int32) (fa_rule1 : Int32) (fa_yearOf : Nat) (sz : Nat) (hv_fa_round : ir fa_round.toInt 0 15) : Met l yX3_next v_X3_next ({ frames := 2, cells := 0, slots := 0, locals := 46 }) (va_Pc [.ref fa, .int p0, .int p1] (pRO g (tyT cI cJ cB cZ cL) [(fa, .inr (3, [.int fa_begins, .int fa_length, .int fa_cards, .int fa_round, .int fa_rule0, .int fa_rule1, .ref fa_yearOf]))] sz)) (va_Qi (fun (r : Int32) (u : Unit) => (ir r.toInt 0 15)) (fun (_ : Unit) (_ : State) => True) (va_A [] sz)) 0 0 (va_A [] sz) := by
  refine Met.ofW (cc := cX3_next) (maxL := 3) (ret := (some .int)) (by decide) rfl ?_
  intro p e s m args below meth c s₁ B hml hv
  obtain ⟨rfl, hsz, hP, hK⟩ := hv
  have hx := B.exec
  have hb := B.bytes
  have hr := B.returns
  have hts := atoms_spec (ws := v_X3_next) B.pre
  have hown : s.vm.findClass RX3 = some m.cls := findClass_of_methodNamed B.named
  have hlocks := B.notSynchronized
  clear B
  subst hsz
  generalize hAe : (va_A [] s.heap.size) = A
  have hA : ∀ q : Nat, s.heap.size ≤ q → A q := fun q h => by rw [← hAe]; exact Or.inr h
  have hS : va_S A s.heap s.heap [] := va_S.rf
  have hl := lv_entry ([.ref fa, .int p0, .int p1]) (n := 3) (Nat.le_of_ble_eq_true rfl)
  rw [lg_entry_eq]
  generalize (lg_sl ([.ref fa, .int p0, .int p1]) ++ List.replicate (3 - (lg_sl ([.ref fa, .int p0, .int p1])).length) Slot.unset).toArray = ls at hl ⊢
  generalize ([.ref fa, .int p0, .int p1] : List Value).toArray = av at hts ⊢
  generalize hQ : MQ below _ av s _ _ A = QQ
  have hl : lv_has ls 3 [(0, .ref fa), (1, .int p0), (2, .int p1)] := hl
  have hP : va_P g vwCl [(fa, .inr (3, [.int fa_begins, .int fa_length, .int fa_cards, .int fa_round, .int fa_rule0, .int fa_rule1, .ref fa_yearOf]))] s.heap := hP
  refine lv_iload_n hx hb dX3_next_0 rfl (lv_at hl 1 rfl) ?_
  refine lv_aload_n hx hb dX3_next_1 rfl (lv_at hl 0 rfl) ?_
  refine lv_iload_n hx hb dX3_next_2 rfl (lv_at hl 1 rfl) ?_
  refine lv_iload_n hx hb dX3_next_3 rfl (lv_at hl 2 rfl) ?_
  refine ro_i (va_runV (As := [.int p0, .int p1]) (rest := [.int p0]) ⟨hx, hb, hml, hown, hts⟩ (q_X3_sentIn l g cI cJ cB cZ cL p0 p1 fa fa_begins fa_length fa_cards fa_round fa_rule0 fa_rule1 fa_yearOf s.heap.size hv_fa_round) (cwV 2 hts (goodIn_app (g_4 (List.mem_cons_of_mem _ (List.mem_append_left _ (List.mem_of_getElem? (i := 0) rfl))) (List.mem_cons_of_mem _ (List.mem_append_left _ (List.mem_of_getElem? (i := 1) rfl))) (List.mem_cons_of_mem _ (List.mem_append_left _ (List.mem_of_getElem? (i := 2) rfl))) (List.mem_cons_of_mem _ (List.mem_append_left _ (List.mem_of_getElem? (i := 3) rfl))) (by decide +kernel)) (goodIn_sub (fun _ h => List.mem_cons_of_mem _ (List.mem_append_right _ (List.mem_append_left _ h))) good_v_X3_sentIn)) rfl rfl rfl (by decide +kernel) ⟨Nat.le_of_ble_eq_true rfl, Nat.le_of_ble_eq_true rfl⟩) (pv_RO (q := (RX3, TX3, 7)) (ci := 3) (q0 := 0) (wc := [(fa, .inr (3, [.int fa_begins, .int fa_length, .int fa_cards, .int fa_round, .int fa_rule0, .int fa_rule1, .ref fa_yearOf]))]) hK hP [0] rfl rfl rfl) rfl rfl hl.1 rfl (lv_room (Nat.le_of_ble_eq_true rfl)) dX3_next_4 ⟨Nat.le_of_ble_eq_true rfl, Nat.le_of_ble_eq_true rfl⟩) hS hA hP (fun r4 u4 H locs hw4 hP hS => ?_)
  have hw4_0 := hw4
  refine lv_iload_n hx hb dX3_next_7 rfl (lv_at hl 2 rfl) ?_
  refine lv_iand hx hb dX3_next_8 ?_
  refine lv_topi (fun y8 e8 => ?_)
  have r8 : ir y8.toInt 0 3 := by rw [e8]; exact an_x rfl hw4_0 (by decide)
  refine ro_i (va_runS (As := [.int y8]) (rest := [.int p0]) ⟨hx, hb, hml, hown, hts⟩ (q_X10_swapped l g cI cJ cB cZ cL y8 H.size ) (va_cwS 1 hts (goodIn_app (g_3 (List.mem_cons_of_mem _ (List.mem_append_left _ (List.mem_of_getElem? (i := 4) rfl))) (List.mem_cons_of_mem _ (List.mem_append_left _ (List.mem_of_getElem? (i := 5) rfl))) (List.mem_cons_of_mem _ (List.mem_append_left _ (List.mem_of_getElem? (i := 6) rfl))) (by decide +kernel)) (goodIn_sub (fun _ h => List.mem_cons_of_mem _ (List.mem_append_right _ (List.mem_append_right _ (List.mem_append_left _ h)))) good_v_X10_swapped)) rfl rfl rfl (by decide +kernel) ⟨Nat.le_of_ble_eq_true rfl, Nat.le_of_ble_eq_true rfl⟩) (ps_RO (wc := []) hK hP [] rfl) rfl rfl hl.1 rfl (lv_room (Nat.le_of_ble_eq_true rfl)) dX3_next_9 ⟨Nat.le_of_ble_eq_true rfl, Nat.le_of_ble_eq_true rfl⟩) hS hA hP (fun r9 u9 H locs hw9 hP hS => ?_)
  have hw9_0 := hw9
  refine ro_i (va_runS (As := [.int p0, .int r9]) (rest := []) ⟨hx, hb, hml, hown, hts⟩ (q_X10_after l g cI cJ cB cZ cL p0 r9 H.size ) (va_cwS 2 hts (goodIn_app (g_3 (List.mem_cons_of_mem _ (List.mem_append_left _ (List.mem_of_getElem? (i := 7) rfl))) (List.mem_cons_of_mem _ (List.mem_append_left _ (List.mem_of_getElem? (i := 8) rfl))) (List.mem_cons_of_mem _ (List.mem_append_left _ (List.mem_of_getElem? (i := 6) rfl))) (by decide +kernel)) (goodIn_sub (fun _ h => List.mem_cons_of_mem _ (List.mem_append_right _ (List.mem_append_right _ (List.mem_append_right _ (List.mem_append_left _ h))))) good_v_X10_after)) rfl rfl rfl (by decide +kernel) ⟨Nat.le_of_ble_eq_true rfl, Nat.le_of_ble_eq_true rfl⟩) (ps_RO (wc := []) hK hP [] rfl) rfl rfl hl.1 rfl (lv_room (Nat.le_of_ble_eq_true rfl)) dX3_next_12 ⟨Nat.le_of_ble_eq_true rfl, Nat.le_of_ble_eq_true rfl⟩) hS hA hP (fun r12 u12 H locs hw12 hP hS => ?_)
  have hw12_0 := hw12
  subst hQ
  exact W.iret (v := r12) hx hb hr (fun t ht hW => ⟨⟨r12, (), rfl, hw12_0, trivial⟩, hS.F ht⟩) hS.2.2 dX3_next_15
def v_X3_find : List Cond := .code yX3_find cX3_find 7 none :: (([.fieldLink RX3 15 "CardsAtYule$Fate" "rule0" "I", .fieldLink RX3 19 "CardsAtYule$Fate" "rule1" "I", .fieldLink RX3 9 "CardsAtYule$Fate" "yearOf" "[I", .methodLink RX3 22 yJ7_fill_53178, .static yJ7_fill_53178, .initialized RJ7, .fieldLink RX3 32 "CardsAtYule$Fate" "round" "I", .fieldLink RX3 35 "CardsAtYule$Fate" "begins" "I", .fieldLink RX3 38 "CardsAtYule$Fate" "length" "I", .fieldLink RX3 41 "CardsAtYule$Fate" "cards" "I", .methodLink RX3 44 yX3_sentIn, .instanceMethod yX3_sentIn, .selects RX3 yX3_sentIn yX3_sentIn, .initialized RX3, .methodLink RX3 47 yJ6_bitCount_0f7a4, .static yJ6_bitCount_0f7a4, .initialized RJ6, .methodLink RX3 28 yX3_next, .instanceMethod yX3_next, .selects RX3 yX3_next yX3_next] : List Cond) ++ (v_J7_filli16 ++ (v_X3_sentIn ++ (v_J6_bitCount_0f7a4 ++ (v_X3_next ++ (wsX30 ++ ([] : List Cond)))))))
theorem good_v_X3_find : v_X3_find.all goodWord = true := ga_c (by decide +kernel) (ga_a (by decide +kernel) (ga_a good_v_J7_filli16 (ga_a good_v_X3_sentIn (ga_a good_v_J6_bitCount_0f7a4 (ga_a good_v_X3_next (ga_a good_wsX30 rfl))))))
set_option maxHeartbeats 4000000 in
set_option maxRecDepth 100000 in
theorem q_X3_find (l : Launch) (g : va_G) (cI cJ cB cZ cL : ClassId) (p0 : Int32) (p1 : Int32) (p2 : Int32) (fa : Nat) (fa_begins : Int32) (fa_length : Int32) (fa_cards : Int32) (fa_round : Int32) (fa_rule0 : Int32) (fa_rule1 : Int32) (fa_yearOf : Nat) (fa_yearOf_c : Nat → Int32) (sz : Nat) (hv_p2 : ir p2.toInt 0 15) (hv_fa_round : ir fa_round.toInt 0 15) : Met l yX3_find v_X3_find ({ frames := 3, cells := 0, slots := 0, locals := 68 }) (va_Pc [.ref fa, .int p0, .int p1, .int p2] (pRW g (tyT cI cJ cB cZ cL) [(fa, .inr (3, [.int fa_begins, .int fa_length, .int fa_cards, .int fa_round, .int fa_rule0, .int fa_rule1, .ref fa_yearOf])), (fa_yearOf, .inl (cI, 16, .inl fa_yearOf_c))] sz)) (va_Qv (fun (u : Int32 × Int32 × Int32 × Int32 × Int32 × Int32 × (Nat → Int32)) => match u with | (n_fa_begins, n_fa_length, n_fa_cards, n_fa_round, n_fa_rule0, n_fa_rule1, n_fa_yearOf_c) => (ir n_fa_round.toInt 0 15)) (fun (u : Int32 × Int32 × Int32 × Int32 × Int32 × Int32 × (Nat → Int32)) (t : State) => bRW g (tyT cI cJ cB cZ cL) (va_A [(fa, .inr (3, [.int fa_begins, .int fa_length, .int fa_cards, .int fa_round, .int fa_rule0, .int fa_rule1, .ref fa_yearOf])), (fa_yearOf, .inl (cI, 16, .inl fa_yearOf_c))] sz) (match u with | (n_fa_begins, n_fa_length, n_fa_cards, n_fa_round, n_fa_rule0, n_fa_rule1, n_fa_yearOf_c) => [(fa, .inr (3, [.int n_fa_begins, .int n_fa_length, .int n_fa_cards, .int n_fa_round, .int n_fa_rule0, .int n_fa_rule1, .ref fa_yearOf])), (fa_yearOf, .inl (cI, 16, .inl n_fa_yearOf_c))]) t) (va_A [(fa, .inr (3, [.int fa_begins, .int fa_length, .int fa_cards, .int fa_round, .int fa_rule0, .int fa_rule1, .ref fa_yearOf])), (fa_yearOf, .inl (cI, 16, .inl fa_yearOf_c))] sz)) 0 0 (va_A [(fa, .inr (3, [.int fa_begins, .int fa_length, .int fa_cards, .int fa_round, .int fa_rule0, .int fa_rule1, .ref fa_yearOf])), (fa_yearOf, .inl (cI, 16, .inl fa_yearOf_c))] sz) := by
  refine Met.ofW (cc := cX3_find) (maxL := 7) (ret := none) (by decide) rfl ?_
  intro p e s m args below meth c s₁ B hml hv
  obtain ⟨rfl, hsz, hP, hK, hD0⟩ := hv
  have hx := B.exec
  have hb := B.bytes
  have hr := B.returns
  have hts := atoms_spec (ws := v_X3_find) B.pre
  have hown : s.vm.findClass RX3 = some m.cls := findClass_of_methodNamed B.named
  have hlocks := B.notSynchronized
  clear B
  subst hsz
  have iX3 : ∀ w ∈ wsX30, w ∈ v_X3_find := (fun _ h => List.mem_cons_of_mem _ (List.mem_append_right _ (List.mem_append_right _ (List.mem_append_right _ (List.mem_append_right _ (List.mem_append_right _ (List.mem_append_left _ h)))))))
  have hD := hD0.self (sz := s.heap.size)
  generalize hAe : (va_A [(fa, .inr (3, [.int fa_begins, .int fa_length, .int fa_cards, .int fa_round, .int fa_rule0, .int fa_rule1, .ref fa_yearOf])), (fa_yearOf, .inl (cI, 16, .inl fa_yearOf_c))] s.heap.size) = A at hD ⊢
  have hA : ∀ q : Nat, s.heap.size ≤ q → A q := fun q h => by rw [← hAe]; exact Or.inr h
  have hS : va_S A s.heap s.heap [] := va_S.rf
  have hl := lv_entry ([.ref fa, .int p0, .int p1, .int p2]) (n := 7) (Nat.le_of_ble_eq_true rfl)
  rw [lg_entry_eq]
  generalize (lg_sl ([.ref fa, .int p0, .int p1, .int p2]) ++ List.replicate (7 - (lg_sl ([.ref fa, .int p0, .int p1, .int p2])).length) Slot.unset).toArray = ls at hl ⊢
  generalize ([.ref fa, .int p0, .int p1, .int p2] : List Value).toArray = av at hts ⊢
  generalize hQ : MQ below _ av s _ _ A = QQ
  have hl : lv_has ls 7 [(0, .ref fa), (1, .int p0), (2, .int p1), (3, .int p2)] := hl
  have hP : va_P g vwCl [(fa, .inr (3, [.int fa_begins, .int fa_length, .int fa_cards, .int fa_round, .int fa_rule0, .int fa_rule1, .ref fa_yearOf])), (fa_yearOf, .inl (cI, 16, .inl fa_yearOf_c))] s.heap := hP
  refine lv_aload_n hx hb dX3_find_0 rfl (lv_at hl 0 rfl) ?_
  refine lv_iload_n hx hb dX3_find_1 rfl (lv_at hl 1 rfl) ?_
  refine va_put (D := g) (ci := 3) (v := .int p0) (ty := .int) (C := RX3) (T := TX3) (N := 7) hx hb hts iX3 tyX3 tyX3_ok nmX3 hown hK hP hD hS 0 rfl rfl 4 (by decide) (hts (.fieldLink RX3 15 "CardsAtYule$Fate" "rule0" "I") (List.mem_cons_of_mem _ (List.mem_append_left _ (List.mem_of_getElem? (i := 0) rfl)))) (fun _ h9 => h9) rfl (by decide +kernel) rfl rfl (Nat.le_of_ble_eq_true rfl) dX3_find_2 (fun H locs hP hD hS => ?_)
  have hP : va_P g vwCl [(fa, .inr (3, [.int fa_begins, .int fa_length, .int fa_cards, .int fa_round, .int p0, .int fa_rule1, .ref fa_yearOf])), (fa_yearOf, .inl (cI, 16, .inl fa_yearOf_c))] H := hP
  have hD : va_D A [(fa, .inr (3, [.int fa_begins, .int fa_length, .int fa_cards, .int fa_round, .int p0, .int fa_rule1, .ref fa_yearOf])), (fa_yearOf, .inl (cI, 16, .inl fa_yearOf_c))] := hD
  refine lv_aload_n hx hb dX3_find_5 rfl (lv_at hl 0 rfl) ?_
  refine lv_iload_n hx hb dX3_find_6 rfl (lv_at hl 2 rfl) ?_
  refine va_put (D := g) (ci := 3) (v := .int p1) (ty := .int) (C := RX3) (T := TX3) (N := 7) hx hb hts iX3 tyX3 tyX3_ok nmX3 hown hK hP hD hS 0 rfl rfl 5 (by decide) (hts (.fieldLink RX3 19 "CardsAtYule$Fate" "rule1" "I") (List.mem_cons_of_mem _ (List.mem_append_left _ (List.mem_of_getElem? (i := 1) rfl)))) (fun _ h9 => h9) rfl (by decide +kernel) rfl rfl (Nat.le_of_ble_eq_true rfl) dX3_find_7 (fun H locs hP hD hS => ?_)
  have hP : va_P g vwCl [(fa, .inr (3, [.int fa_begins, .int fa_length, .int fa_cards, .int fa_round, .int p0, .int p1, .ref fa_yearOf])), (fa_yearOf, .inl (cI, 16, .inl fa_yearOf_c))] H := hP
  have hD : va_D A [(fa, .inr (3, [.int fa_begins, .int fa_length, .int fa_cards, .int fa_round, .int p0, .int p1, .ref fa_yearOf])), (fa_yearOf, .inl (cI, 16, .inl fa_yearOf_c))] := hD
  refine lv_aload_n hx hb dX3_find_10 rfl (lv_at hl 0 rfl) ?_
  refine va_get (D := g) (ci := 3) (v := .ref fa_yearOf) (C := RX3) (T := TX3) (N := 7) hx hb hts iX3 hown hK hP 0 rfl rfl 6 (by decide) (hts (.fieldLink RX3 9 "CardsAtYule$Fate" "yearOf" "[I") (List.mem_cons_of_mem _ (List.mem_append_left _ (List.mem_of_getElem? (i := 2) rfl)))) (fun _ h9 => h9) rfl dX3_find_11 ?_
  refine lv_iconst (v := (-1)) hx hb dX3_find_14 (by decide) ?_
  refine rw_v (wr := [(fa, .inr (3, [.int fa_begins, .int fa_length, .int fa_cards, .int fa_round, .int p0, .int p1, .ref fa_yearOf]))]) (va_runS (As := [.ref fa_yearOf, .int (-1)]) (rest := []) ⟨hx, hb, hml, hown, hts⟩ (q_J7_filli16 l g cI cJ cB cZ cL (-1) fa_yearOf fa_yearOf_c H.size ) (va_cwS 2 hts (goodIn_app (g_3 (List.mem_cons_of_mem _ (List.mem_append_left _ (List.mem_of_getElem? (i := 3) rfl))) (List.mem_cons_of_mem _ (List.mem_append_left _ (List.mem_of_getElem? (i := 4) rfl))) (List.mem_cons_of_mem _ (List.mem_append_left _ (List.mem_of_getElem? (i := 5) rfl))) (by decide +kernel)) (goodIn_sub (fun _ h => List.mem_cons_of_mem _ (List.mem_append_right _ (List.mem_append_left _ h))) good_v_J7_filli16)) rfl rfl rfl (by decide +kernel) ⟨Nat.le_of_ble_eq_true rfl, Nat.le_of_ble_eq_true rfl⟩) (ps_RW (wc := [(fa_yearOf, .inl (cI, 16, .inl fa_yearOf_c))]) hK hP hD [1] (by decide) rfl) rfl rfl hl.1 rfl (lv_room (Nat.le_of_ble_eq_true rfl)) dX3_find_15 ⟨Nat.le_of_ble_eq_true rfl, Nat.le_of_ble_eq_true rfl⟩) hS hA hP hD [1] [0] rfl rfl (by decide) (by decide) (fun u15 H locs hw15 hP hD hS => ?_)
  generalize u15 = n_r0_c_15 at hw15 hP hD
  have hP : va_P g vwCl [(fa, .inr (3, [.int fa_begins, .int fa_length, .int fa_cards, .int fa_round, .int p0, .int p1, .ref fa_yearOf])), (fa_yearOf, .inl (cI, 16, .inl n_r0_c_15))] H := hP
  have hD : va_D A [(fa, .inr (3, [.int fa_begins, .int fa_length, .int fa_cards, .int fa_round, .int p0, .int p1, .ref fa_yearOf])), (fa_yearOf, .inl (cI, 16, .inl n_r0_c_15))] := hD
  refine lv_iload_n hx hb dX3_find_18 rfl (lv_at hl 3 rfl) ?_
  refine lv_istore (lv' := [(4, .int p2), (0, .ref fa), (1, .int p0), (2, .int p1), (3, .int p2)]) hx hb dX3_find_19 hl (by decide) rfl (fun ls hl => ?_)
  refine lv_iconst (v := 0) hx hb dX3_find_21 (by decide) ?_
  refine lv_istore (lv' := [(5, .int 0), (4, .int p2), (0, .ref fa), (1, .int p0), (2, .int p1), (3, .int p2)]) hx hb dX3_find_22 hl (by decide) rfl (fun ls hl => ?_)
  have J24 : ∀ (n24 : Nat) (j24_l4 : Int32) (j24_l5 : Int32) (j24_fa_yearOf_c : Nat → Int32) (H : Heap) (locs : List Loc) (ls : Array Slot), (17 - j24_l5.toInt).toNat < n24 → (ir j24_l4.toInt 0 15) → (ir j24_l5.toInt 0 16) → va_P g vwCl [(fa, .inr (3, [.int fa_begins, .int fa_length, .int fa_cards, .int fa_round, .int p0, .int p1, .ref fa_yearOf])), (fa_yearOf, .inl (cI, 16, .inl j24_fa_yearOf_c))] H → va_D A [(fa, .inr (3, [.int fa_begins, .int fa_length, .int fa_cards, .int fa_round, .int p0, .int p1, .ref fa_yearOf])), (fa_yearOf, .inl (cI, 16, .inl j24_fa_yearOf_c))] → va_S A s.heap H locs → lv_has ls 7 [(0, .ref fa), (4, .int j24_l4), (5, .int j24_l5)] → W p l e (headSpec v_X3_find ({ frames := 3, cells := 0, slots := 0, locals := 68 })).room s m av below meth c H locs 0 0 QQ (F0 m 24 ls []) := by
    intro n24
    induction n24 with
    | zero => exact fun j24_l4 j24_l5 j24_fa_yearOf_c H locs ls hn => absurd hn (Nat.not_lt_zero _)
    | succ n24 ih24 =>
      intro j24_l4 j24_l5 j24_fa_yearOf_c H locs ls hn24 hj24_l4 hj24_l5 hP hD hS hl
      refine lv_iload hx hb dX3_find_24 (lv_at hl 2 rfl) ?_
      refine lv_bipush (v := 16) hx hb dX3_find_26 (by decide) ?_
      have J66 : ∀  (H : Heap) (locs : List Loc) (ls : Array Slot), va_P g vwCl [(fa, .inr (3, [.int fa_begins, .int fa_length, .int fa_cards, .int fa_round, .int p0, .int p1, .ref fa_yearOf])), (fa_yearOf, .inl (cI, 16, .inl j24_fa_yearOf_c))] H → va_D A [(fa, .inr (3, [.int fa_begins, .int fa_length, .int fa_cards, .int fa_round, .int p0, .int p1, .ref fa_yearOf])), (fa_yearOf, .inl (cI, 16, .inl j24_fa_yearOf_c))] → va_S A s.heap H locs → lv_has ls 7 [(0, .ref fa), (4, .int j24_l4), (5, .int j24_l5)] → W p l e (headSpec v_X3_find ({ frames := 3, cells := 0, slots := 0, locals := 68 })).room s m av below meth c H locs 0 0 QQ (F0 m 66 ls []) := by
        intro  H locs ls  hP hD hS hl
        refine lv_aload_n hx hb dX3_find_66 rfl (lv_at hl 0 rfl) ?_
        refine lv_iload hx hb dX3_find_67 (lv_at hl 1 rfl) ?_
        refine va_put (D := g) (ci := 3) (v := .int j24_l4) (ty := .int) (C := RX3) (T := TX3) (N := 7) hx hb hts iX3 tyX3 tyX3_ok nmX3 hown hK hP hD hS 0 rfl rfl 3 (by decide) (hts (.fieldLink RX3 32 "CardsAtYule$Fate" "round" "I") (List.mem_cons_of_mem _ (List.mem_append_left _ (List.mem_of_getElem? (i := 6) rfl)))) (fun _ h9 => h9) rfl (by decide +kernel) rfl rfl (Nat.le_of_ble_eq_true rfl) dX3_find_69 (fun H locs hP hD hS => ?_)
        have hP : va_P g vwCl [(fa, .inr (3, [.int fa_begins, .int fa_length, .int fa_cards, .int j24_l4, .int p0, .int p1, .ref fa_yearOf])), (fa_yearOf, .inl (cI, 16, .inl j24_fa_yearOf_c))] H := hP
        have hD : va_D A [(fa, .inr (3, [.int fa_begins, .int fa_length, .int fa_cards, .int j24_l4, .int p0, .int p1, .ref fa_yearOf])), (fa_yearOf, .inl (cI, 16, .inl j24_fa_yearOf_c))] := hD
        refine lv_aload_n hx hb dX3_find_72 rfl (lv_at hl 0 rfl) ?_
        refine lv_aload_n hx hb dX3_find_73 rfl (lv_at hl 0 rfl) ?_
        refine va_get (D := g) (ci := 3) (v := .ref fa_yearOf) (C := RX3) (T := TX3) (N := 7) hx hb hts iX3 hown hK hP 0 rfl rfl 6 (by decide) (hts (.fieldLink RX3 9 "CardsAtYule$Fate" "yearOf" "[I") (List.mem_cons_of_mem _ (List.mem_append_left _ (List.mem_of_getElem? (i := 2) rfl)))) (fun _ h9 => h9) rfl dX3_find_74 ?_
        refine lv_iload hx hb dX3_find_77 (lv_at hl 1 rfl) ?_
        refine va_iald (D := g) hx hb hK hP 1 0 rfl rfl (vi_rg rfl hj24_l4 (by decide) (by decide)) dX3_find_79 ?_
        refine lv_topi (fun y79 e79 => ?_)
        refine va_put (D := g) (ci := 3) (v := .int y79) (ty := .int) (C := RX3) (T := TX3) (N := 7) hx hb hts iX3 tyX3 tyX3_ok nmX3 hown hK hP hD hS 0 rfl rfl 0 (by decide) (hts (.fieldLink RX3 35 "CardsAtYule$Fate" "begins" "I") (List.mem_cons_of_mem _ (List.mem_append_left _ (List.mem_of_getElem? (i := 7) rfl)))) (fun _ h9 => h9) rfl (by decide +kernel) rfl rfl (Nat.le_of_ble_eq_true rfl) dX3_find_80 (fun H locs hP hD hS => ?_)
        have hP : va_P g vwCl [(fa, .inr (3, [.int y79, .int fa_length, .int fa_cards, .int j24_l4, .int p0, .int p1, .ref fa_yearOf])), (fa_yearOf, .inl (cI, 16, .inl j24_fa_yearOf_c))] H := hP
        have hD : va_D A [(fa, .inr (3, [.int y79, .int fa_length, .int fa_cards, .int j24_l4, .int p0, .int p1, .ref fa_yearOf])), (fa_yearOf, .inl (cI, 16, .inl j24_fa_yearOf_c))] := hD
        refine lv_aload_n hx hb dX3_find_83 rfl (lv_at hl 0 rfl) ?_
        refine lv_iload hx hb dX3_find_84 (lv_at hl 2 rfl) ?_
        refine lv_aload_n hx hb dX3_find_86 rfl (lv_at hl 0 rfl) ?_
        refine va_get (D := g) (ci := 3) (v := .int y79) (C := RX3) (T := TX3) (N := 7) hx hb hts iX3 hown hK hP 0 rfl rfl 0 (by decide) (hts (.fieldLink RX3 35 "CardsAtYule$Fate" "begins" "I") (List.mem_cons_of_mem _ (List.mem_append_left _ (List.mem_of_getElem? (i := 7) rfl)))) (fun _ h9 => h9) rfl dX3_find_87 ?_
        refine lv_isub hx hb dX3_find_90 ?_
        refine lv_topi (fun y90 e90 => ?_)
        refine va_put (D := g) (ci := 3) (v := .int y90) (ty := .int) (C := RX3) (T := TX3) (N := 7) hx hb hts iX3 tyX3 tyX3_ok nmX3 hown hK hP hD hS 0 rfl rfl 1 (by decide) (hts (.fieldLink RX3 38 "CardsAtYule$Fate" "length" "I") (List.mem_cons_of_mem _ (List.mem_append_left _ (List.mem_of_getElem? (i := 8) rfl)))) (fun _ h9 => h9) rfl (by decide +kernel) rfl rfl (Nat.le_of_ble_eq_true rfl) dX3_find_91 (fun H locs hP hD hS => ?_)
        have hP : va_P g vwCl [(fa, .inr (3, [.int y79, .int y90, .int fa_cards, .int j24_l4, .int p0, .int p1, .ref fa_yearOf])), (fa_yearOf, .inl (cI, 16, .inl j24_fa_yearOf_c))] H := hP
        have hD : va_D A [(fa, .inr (3, [.int y79, .int y90, .int fa_cards, .int j24_l4, .int p0, .int p1, .ref fa_yearOf])), (fa_yearOf, .inl (cI, 16, .inl j24_fa_yearOf_c))] := hD
        refine lv_aload_n hx hb dX3_find_94 rfl (lv_at hl 0 rfl) ?_
        refine lv_iconst (v := 0) hx hb dX3_find_95 (by decide) ?_
        refine va_put (D := g) (ci := 3) (v := .int 0) (ty := .int) (C := RX3) (T := TX3) (N := 7) hx hb hts iX3 tyX3 tyX3_ok nmX3 hown hK hP hD hS 0 rfl rfl 2 (by decide) (hts (.fieldLink RX3 41 "CardsAtYule$Fate" "cards" "I") (List.mem_cons_of_mem _ (List.mem_append_left _ (List.mem_of_getElem? (i := 9) rfl)))) (fun _ h9 => h9) rfl (by decide +kernel) rfl rfl (Nat.le_of_ble_eq_true rfl) dX3_find_96 (fun H locs hP hD hS => ?_)
        have hP : va_P g vwCl [(fa, .inr (3, [.int y79, .int y90, .int 0, .int j24_l4, .int p0, .int p1, .ref fa_yearOf])), (fa_yearOf, .inl (cI, 16, .inl j24_fa_yearOf_c))] H := hP
        have hD : va_D A [(fa, .inr (3, [.int y79, .int y90, .int 0, .int j24_l4, .int p0, .int p1, .ref fa_yearOf])), (fa_yearOf, .inl (cI, 16, .inl j24_fa_yearOf_c))] := hD
        refine lv_iconst (v := 0) hx hb dX3_find_99 (by decide) ?_
        refine lv_istore (lv' := [(6, .int 0), (0, .ref fa), (4, .int j24_l4), (5, .int j24_l5)]) hx hb dX3_find_100 hl (by decide) rfl (fun ls hl => ?_)
        have J102 : ∀ (n102 : Nat) (j102_l4 : Int32) (j102_l6 : Int32) (j102_fa_cards : Int32) (H : Heap) (locs : List Loc) (ls : Array Slot), (2147483648 - j102_l6.toInt).toNat < n102 → (ir j102_l4.toInt 0 15) → (ir j102_l6.toInt 0 2147483647) → va_P g vwCl [(fa, .inr (3, [.int y79, .int y90, .int j102_fa_cards, .int j24_l4, .int p0, .int p1, .ref fa_yearOf])), (fa_yearOf, .inl (cI, 16, .inl j24_fa_yearOf_c))] H → va_D A [(fa, .inr (3, [.int y79, .int y90, .int j102_fa_cards, .int j24_l4, .int p0, .int p1, .ref fa_yearOf])), (fa_yearOf, .inl (cI, 16, .inl j24_fa_yearOf_c))] → va_S A s.heap H locs → lv_has ls 7 [(0, .ref fa), (4, .int j102_l4), (6, .int j102_l6)] → W p l e (headSpec v_X3_find ({ frames := 3, cells := 0, slots := 0, locals := 68 })).room s m av below meth c H locs 0 0 QQ (F0 m 102 ls []) := by
          intro n102
          induction n102 with
          | zero => exact fun j102_l4 j102_l6 j102_fa_cards H locs ls hn => absurd hn (Nat.not_lt_zero _)
          | succ n102 ih102 =>
            intro j102_l4 j102_l6 j102_fa_cards H locs ls hn102 hj102_l4 hj102_l6 hP hD hS hl
            refine lv_iload hx hb dX3_find_102 (lv_at hl 2 rfl) ?_
            refine lv_aload_n hx hb dX3_find_104 rfl (lv_at hl 0 rfl) ?_
            refine va_get (D := g) (ci := 3) (v := .int y90) (C := RX3) (T := TX3) (N := 7) hx hb hts iX3 hown hK hP 0 rfl rfl 1 (by decide) (hts (.fieldLink RX3 38 "CardsAtYule$Fate" "length" "I") (List.mem_cons_of_mem _ (List.mem_append_left _ (List.mem_of_getElem? (i := 8) rfl)))) (fun _ h9 => h9) rfl dX3_find_105 ?_
            refine lv_icmp_ge (tgt := 145) hx hb dX3_find_108 (by decide) (fun c108 => ?_) (fun c108 => ?_)
            · have f108 := (show y90.toInt ≤ j102_l6.toInt from z_le rfl rfl c108)
              subst hQ
              have hP9 := hP.sub (ws' := [(fa, .inr (3, [.int y79, .int y90, .int j102_fa_cards, .int j24_l4, .int p0, .int p1, .ref fa_yearOf])), (fa_yearOf, .inl (cI, 16, .inl j24_fa_yearOf_c))]) [0, 1] rfl
              have hD9 := hD.sub (ws' := [(fa, .inr (3, [.int y79, .int y90, .int j102_fa_cards, .int j24_l4, .int p0, .int p1, .ref fa_yearOf])), (fa_yearOf, .inl (cI, 16, .inl j24_fa_yearOf_c))]) [0, 1] (by decide) rfl
              exact W.vret hx hb hr (fun t ht hW => ⟨⟨(y79, y90, j102_fa_cards, j24_l4, p0, p1, j24_fa_yearOf_c), rfl, hj24_l4, ⟨by rw [ht]; exact hP9, va_K.moved hW.alike hK, hD9⟩⟩, hS.F ht⟩) hS.2.2 dX3_find_145
            have f108 := (show j102_l6.toInt < y90.toInt from z_nle rfl rfl c108)
            have r108a : ir j102_l6.toInt 0 2147483646 := ir_lta f108 hj102_l6 (rg_all y90) (by decide)
            have r108b : ir y90.toInt 1 2147483647 := ir_ltb f108 hj102_l6 (rg_all y90) (by decide)
            refine lv_aload_n hx hb dX3_find_111 rfl (lv_at hl 0 rfl) ?_
            refine lv_dup hx hb dX3_find_112 rfl ?_
            refine va_get (D := g) (ci := 3) (v := .int j102_fa_cards) (C := RX3) (T := TX3) (N := 7) hx hb hts iX3 hown hK hP 0 rfl rfl 2 (by decide) (hts (.fieldLink RX3 41 "CardsAtYule$Fate" "cards" "I") (List.mem_cons_of_mem _ (List.mem_append_left _ (List.mem_of_getElem? (i := 9) rfl)))) (fun _ h9 => h9) rfl dX3_find_113 ?_
            refine lv_aload_n hx hb dX3_find_116 rfl (lv_at hl 0 rfl) ?_
            refine lv_iload hx hb dX3_find_117 (lv_at hl 1 rfl) ?_
            refine lv_iconst (v := 3) hx hb dX3_find_119 (by decide) ?_
            refine ro_i (va_runV (As := [.int j102_l4, .int 3]) (rest := [.int j102_fa_cards, .ref fa]) ⟨hx, hb, hml, hown, hts⟩ (q_X3_sentIn l g cI cJ cB cZ cL j102_l4 3 fa y79 y90 j102_fa_cards j24_l4 p0 p1 fa_yearOf H.size hj24_l4) (cwV 2 hts (goodIn_app (g_4 (List.mem_cons_of_mem _ (List.mem_append_left _ (List.mem_of_getElem? (i := 10) rfl))) (List.mem_cons_of_mem _ (List.mem_append_left _ (List.mem_of_getElem? (i := 11) rfl))) (List.mem_cons_of_mem _ (List.mem_append_left _ (List.mem_of_getElem? (i := 12) rfl))) (List.mem_cons_of_mem _ (List.mem_append_left _ (List.mem_of_getElem? (i := 13) rfl))) (by decide +kernel)) (goodIn_sub (fun _ h => List.mem_cons_of_mem _ (List.mem_append_right _ (List.mem_append_right _ (List.mem_append_left _ h)))) good_v_X3_sentIn)) rfl rfl rfl (by decide +kernel) ⟨Nat.le_of_ble_eq_true rfl, Nat.le_of_ble_eq_true rfl⟩) (pv_RO (q := (RX3, TX3, 7)) (ci := 3) (q0 := 0) (wc := [(fa, .inr (3, [.int y79, .int y90, .int j102_fa_cards, .int j24_l4, .int p0, .int p1, .ref fa_yearOf]))]) hK hP [0] rfl rfl rfl) rfl rfl hl.1 rfl (lv_room (Nat.le_of_ble_eq_true rfl)) dX3_find_120 ⟨Nat.le_of_ble_eq_true rfl, Nat.le_of_ble_eq_true rfl⟩) hS hA hP (fun r120 u120 H locs hw120 hP hS => ?_)
            have hw120_0 := hw120
            refine ro_i (va_runS (As := [.int r120]) (rest := [.int j102_fa_cards, .ref fa]) ⟨hx, hb, hml, hown, hts⟩ (q_J6_bitCount_0f7a4 l g cI cJ cB cZ cL r120 H.size ) (va_cwS 1 hts (goodIn_app (g_3 (List.mem_cons_of_mem _ (List.mem_append_left _ (List.mem_of_getElem? (i := 14) rfl))) (List.mem_cons_of_mem _ (List.mem_append_left _ (List.mem_of_getElem? (i := 15) rfl))) (List.mem_cons_of_mem _ (List.mem_append_left _ (List.mem_of_getElem? (i := 16) rfl))) (by decide +kernel)) (goodIn_sub (fun _ h => List.mem_cons_of_mem _ (List.mem_append_right _ (List.mem_append_right _ (List.mem_append_right _ (List.mem_append_left _ h))))) good_v_J6_bitCount_0f7a4)) rfl rfl rfl (by decide +kernel) ⟨Nat.le_of_ble_eq_true rfl, Nat.le_of_ble_eq_true rfl⟩) (ps_RO (wc := []) hK hP [] rfl) rfl rfl hl.1 rfl (lv_room (Nat.le_of_ble_eq_true rfl)) dX3_find_123 ⟨Nat.le_of_ble_eq_true rfl, Nat.le_of_ble_eq_true rfl⟩) hS hA hP (fun r123 u123 H locs hw123 hP hS => ?_)
            have hw123_0 := hw123
            refine lv_iadd hx hb dX3_find_126 ?_
            refine lv_topi (fun y126 e126 => ?_)
            refine va_put (D := g) (ci := 3) (v := .int y126) (ty := .int) (C := RX3) (T := TX3) (N := 7) hx hb hts iX3 tyX3 tyX3_ok nmX3 hown hK hP hD hS 0 rfl rfl 2 (by decide) (hts (.fieldLink RX3 41 "CardsAtYule$Fate" "cards" "I") (List.mem_cons_of_mem _ (List.mem_append_left _ (List.mem_of_getElem? (i := 9) rfl)))) (fun _ h9 => h9) rfl (by decide +kernel) rfl rfl (Nat.le_of_ble_eq_true rfl) dX3_find_127 (fun H locs hP hD hS => ?_)
            have hP : va_P g vwCl [(fa, .inr (3, [.int y79, .int y90, .int y126, .int j24_l4, .int p0, .int p1, .ref fa_yearOf])), (fa_yearOf, .inl (cI, 16, .inl j24_fa_yearOf_c))] H := hP
            have hD : va_D A [(fa, .inr (3, [.int y79, .int y90, .int y126, .int j24_l4, .int p0, .int p1, .ref fa_yearOf])), (fa_yearOf, .inl (cI, 16, .inl j24_fa_yearOf_c))] := hD
            refine lv_aload_n hx hb dX3_find_130 rfl (lv_at hl 0 rfl) ?_
            refine lv_iload hx hb dX3_find_131 (lv_at hl 1 rfl) ?_
            refine lv_iconst (v := 3) hx hb dX3_find_133 (by decide) ?_
            refine ro_i (va_runV (As := [.int j102_l4, .int 3]) (rest := []) ⟨hx, hb, hml, hown, hts⟩ (q_X3_next l g cI cJ cB cZ cL j102_l4 3 fa y79 y90 y126 j24_l4 p0 p1 fa_yearOf H.size hj24_l4) (cwV 2 hts (goodIn_app (g_4 (List.mem_cons_of_mem _ (List.mem_append_left _ (List.mem_of_getElem? (i := 17) rfl))) (List.mem_cons_of_mem _ (List.mem_append_left _ (List.mem_of_getElem? (i := 18) rfl))) (List.mem_cons_of_mem _ (List.mem_append_left _ (List.mem_of_getElem? (i := 19) rfl))) (List.mem_cons_of_mem _ (List.mem_append_left _ (List.mem_of_getElem? (i := 13) rfl))) (by decide +kernel)) (goodIn_sub (fun _ h => List.mem_cons_of_mem _ (List.mem_append_right _ (List.mem_append_right _ (List.mem_append_right _ (List.mem_append_right _ (List.mem_append_left _ h)))))) good_v_X3_next)) rfl rfl rfl (by decide +kernel) ⟨Nat.le_of_ble_eq_true rfl, Nat.le_of_ble_eq_true rfl⟩) (pv_RO (q := (RX3, TX3, 7)) (ci := 3) (q0 := 0) (wc := [(fa, .inr (3, [.int y79, .int y90, .int y126, .int j24_l4, .int p0, .int p1, .ref fa_yearOf]))]) hK hP [0] rfl rfl rfl) rfl rfl hl.1 rfl (lv_room (Nat.le_of_ble_eq_true rfl)) dX3_find_134 ⟨Nat.le_of_ble_eq_true rfl, Nat.le_of_ble_eq_true rfl⟩) hS hA hP (fun r134 u134 H locs hw134 hP hS => ?_)
            have hw134_0 := hw134
            refine lv_istore (lv' := [(4, .int r134), (0, .ref fa), (6, .int j102_l6)]) hx hb dX3_find_137 hl (by decide) rfl (fun ls hl => ?_)
            obtain ⟨y139, e139⟩ : ∃ y : Int32, y = j102_l6 + 1 := ⟨_, rfl⟩
            have q139 : y139.toInt = j102_l6.toInt + 1 := by rw [e139]; exact ad_z rfl rfl r108a (ir_c 1) (by decide) (by decide)
            have r139 : ir y139.toInt 1 2147483647 := ad_r q139 r108a (ir_c 1) (by decide) (by decide)
            refine lv_iinc (v := y139) (lv' := [(6, .int y139), (4, .int r134), (0, .ref fa)]) hx hb dX3_find_139 hl (k := 2) rfl e139.symm (by decide) rfl (fun ls hl => ?_)
            refine lv_goto (tgt := 102) hx hb dX3_find_142 (by decide) ?_
            exact ih102 r134 y139 y126 _ _ _ (by omega) hw134_0 (ir_w r139 (by decide) (by decide)) (hP.sub [0, 1] rfl) (hD.sub [0, 1] (by decide) rfl) hS (lv_sub hl [2, 1, 0] rfl)
        exact J102 _ j24_l4 0 0 _ _ _ (Nat.lt_succ_self _) hj24_l4 (by decide) (hP.sub [0, 1] rfl) (hD.sub [0, 1] (by decide) rfl) hS (lv_sub hl [1, 2, 0] rfl)
      refine lv_icmp_ge (tgt := 66) hx hb dX3_find_28 (by decide) (fun c28 => ?_) (fun c28 => ?_)
      · have f28 := (show 16 ≤ j24_l5.toInt from z_le rfl rfl c28)
        have r28a : ir j24_l5.toInt 16 16 := ir_leb f28 (ir_c 16) hj24_l5 (by decide)
        exact J66  _ _ _  (hP.sub [0, 1] rfl) (hD.sub [0, 1] (by decide) rfl) hS (lv_sub hl [0, 1, 2] rfl)
      have f28 := (show j24_l5.toInt < 16 from z_nle rfl rfl c28)
      have r28a : ir j24_l5.toInt 0 15 := ir_lta f28 hj24_l5 (ir_c 16) (by decide)
      refine lv_aload_n hx hb dX3_find_31 rfl (lv_at hl 0 rfl) ?_
      refine va_get (D := g) (ci := 3) (v := .ref fa_yearOf) (C := RX3) (T := TX3) (N := 7) hx hb hts iX3 hown hK hP 0 rfl rfl 6 (by decide) (hts (.fieldLink RX3 9 "CardsAtYule$Fate" "yearOf" "[I") (List.mem_cons_of_mem _ (List.mem_append_left _ (List.mem_of_getElem? (i := 2) rfl)))) (fun _ h9 => h9) rfl dX3_find_32 ?_
      refine lv_iload hx hb dX3_find_35 (lv_at hl 1 rfl) ?_
      refine va_iald (D := g) hx hb hK hP 1 0 rfl rfl (vi_rg rfl hj24_l4 (by decide) (by decide)) dX3_find_37 ?_
      refine lv_topi (fun y37 e37 => ?_)
      refine lv_iconst (v := (-1)) hx hb dX3_find_38 (by decide) ?_
      refine lv_icmp_ne (tgt := 66) hx hb dX3_find_39 (by decide) (fun c39 => ?_) (fun c39 => ?_)
      · have f39 := (show y37.toInt ≠ (-1) from z_ne rfl rfl c39)
        exact J66  _ _ _  (hP.sub [0, 1] rfl) (hD.sub [0, 1] (by decide) rfl) hS (lv_sub hl [0, 1, 2] rfl)
      have f39 := (show y37.toInt = (-1) from z_eq rfl rfl c39)
      have r39a : ir y37.toInt (-1) (-1) := ir_eqa f39 (rg_all y37) (ir_c (-1)) (by decide) (by decide)
      refine lv_aload_n hx hb dX3_find_42 rfl (lv_at hl 0 rfl) ?_
      refine va_get (D := g) (ci := 3) (v := .ref fa_yearOf) (C := RX3) (T := TX3) (N := 7) hx hb hts iX3 hown hK hP 0 rfl rfl 6 (by decide) (hts (.fieldLink RX3 9 "CardsAtYule$Fate" "yearOf" "[I") (List.mem_cons_of_mem _ (List.mem_append_left _ (List.mem_of_getElem? (i := 2) rfl)))) (fun _ h9 => h9) rfl dX3_find_43 ?_
      refine lv_iload hx hb dX3_find_46 (lv_at hl 1 rfl) ?_
      refine lv_iload hx hb dX3_find_48 (lv_at hl 2 rfl) ?_
      refine va_iast (D := g) hx hb hK hP hD hS 1 0 rfl rfl (vi_rg rfl hj24_l4 (by decide) (by decide)) dX3_find_50 (fun H locs hP hD hS => ?_)
      obtain ⟨g50, e50⟩ : ∃ z, z = upd j24_fa_yearOf_c j24_l4.toNatClampNeg j24_l5 := ⟨_, rfl⟩
      have hP : va_P g vwCl [(fa, .inr (3, [.int fa_begins, .int fa_length, .int fa_cards, .int fa_round, .int p0, .int p1, .ref fa_yearOf])), (fa_yearOf, .inl (cI, 16, .inl (upd j24_fa_yearOf_c j24_l4.toNatClampNeg j24_l5)))] H := hP
      have hD : va_D A [(fa, .inr (3, [.int fa_begins, .int fa_length, .int fa_cards, .int fa_round, .int p0, .int p1, .ref fa_yearOf])), (fa_yearOf, .inl (cI, 16, .inl (upd j24_fa_yearOf_c j24_l4.toNatClampNeg j24_l5)))] := hD
      rw [← e50] at hP hD
      obtain ⟨y51, e51⟩ : ∃ y : Int32, y = j24_l5 + 1 := ⟨_, rfl⟩
      have q51 : y51.toInt = j24_l5.toInt + 1 := by rw [e51]; exact ad_z rfl rfl r28a (ir_c 1) (by decide) (by decide)
      have r51 : ir y51.toInt 1 16 := ad_r q51 r28a (ir_c 1) (by decide) (by decide)
      refine lv_iinc (v := y51) (lv' := [(5, .int y51), (0, .ref fa), (4, .int j24_l4)]) hx hb dX3_find_51 hl (k := 2) rfl e51.symm (by decide) rfl (fun ls hl => ?_)
      refine lv_aload_n hx hb dX3_find_54 rfl (lv_at hl 1 rfl) ?_
      refine lv_iload hx hb dX3_find_55 (lv_at hl 2 rfl) ?_
      refine lv_iconst (v := 3) hx hb dX3_find_57 (by decide) ?_
      refine ro_i (va_runV (As := [.int j24_l4, .int 3]) (rest := []) ⟨hx, hb, hml, hown, hts⟩ (q_X3_next l g cI cJ cB cZ cL j24_l4 3 fa fa_begins fa_length fa_cards fa_round p0 p1 fa_yearOf H.size hv_fa_round) (cwV 2 hts (goodIn_app (g_4 (List.mem_cons_of_mem _ (List.mem_append_left _ (List.mem_of_getElem? (i := 17) rfl))) (List.mem_cons_of_mem _ (List.mem_append_left _ (List.mem_of_getElem? (i := 18) rfl))) (List.mem_cons_of_mem _ (List.mem_append_left _ (List.mem_of_getElem? (i := 19) rfl))) (List.mem_cons_of_mem _ (List.mem_append_left _ (List.mem_of_getElem? (i := 13) rfl))) (by decide +kernel)) (goodIn_sub (fun _ h => List.mem_cons_of_mem _ (List.mem_append_right _ (List.mem_append_right _ (List.mem_append_right _ (List.mem_append_right _ (List.mem_append_left _ h)))))) good_v_X3_next)) rfl rfl rfl (by decide +kernel) ⟨Nat.le_of_ble_eq_true rfl, Nat.le_of_ble_eq_true rfl⟩) (pv_RO (q := (RX3, TX3, 7)) (ci := 3) (q0 := 0) (wc := [(fa, .inr (3, [.int fa_begins, .int fa_length, .int fa_cards, .int fa_round, .int p0, .int p1, .ref fa_yearOf]))]) hK hP [0] rfl rfl rfl) rfl rfl hl.1 rfl (lv_room (Nat.le_of_ble_eq_true rfl)) dX3_find_58 ⟨Nat.le_of_ble_eq_true rfl, Nat.le_of_ble_eq_true rfl⟩) hS hA hP (fun r58 u58 H locs hw58 hP hS => ?_)
      have hw58_0 := hw58
      refine lv_istore (lv' := [(4, .int r58), (5, .int y51), (0, .ref fa)]) hx hb dX3_find_61 hl (by decide) rfl (fun ls hl => ?_)
      refine lv_goto (tgt := 24) hx hb dX3_find_63 (by decide) ?_
      exact ih24 r58 y51 g50 _ _ _ (by omega) hw58_0 (ir_w r51 (by decide) (by decide)) (hP.sub [0, 1] rfl) (hD.sub [0, 1] (by decide) rfl) hS (lv_sub hl [2, 0, 1] rfl)
  exact J24 _ p2 0 n_r0_c_15 _ _ _ (Nat.lt_succ_self _) hv_p2 (by decide) (hP.sub [0, 1] rfl) (hD.sub [0, 1] (by decide) rfl) hS (lv_sub hl [2, 1, 0] rfl)
def v_X3_kind : List Cond := .code yX3_kind cX3_kind 1 (some .int) :: (([.fieldLink RX3 41 "CardsAtYule$Fate" "cards" "I", .fieldLink RX3 38 "CardsAtYule$Fate" "length" "I"] : List Cond) ++ (wsX30 ++ ([] : List Cond)))
theorem good_v_X3_kind : v_X3_kind.all goodWord = true := ga_c (by decide +kernel) (ga_a (by decide +kernel) (ga_a good_wsX30 rfl))
set_option maxHeartbeats 4000000 in
set_option maxRecDepth 100000 in
theorem q_X3_kind (l : Launch) (g : va_G) (cI cJ cB cZ cL : ClassId) (fa : Nat) (fa_begins : Int32) (fa_length : Int32) (fa_cards : Int32) (fa_round : Int32) (fa_rule0 : Int32) (fa_rule1 : Int32) (fa_yearOf : Nat) (sz : Nat) (hv_fa_round : ir fa_round.toInt 0 15) : Met l yX3_kind v_X3_kind ({ frames := 0, cells := 0, slots := 0, locals := 0 }) (va_Pc [.ref fa] (pRO g (tyT cI cJ cB cZ cL) [(fa, .inr (3, [.int fa_begins, .int fa_length, .int fa_cards, .int fa_round, .int fa_rule0, .int fa_rule1, .ref fa_yearOf]))] sz)) (va_Qi (fun (r : Int32) (u : Unit) => (ir r.toInt 0 2)) (fun (_ : Unit) (_ : State) => True) (va_A [] sz)) 0 0 (va_A [] sz) := by
  refine Met.ofW (cc := cX3_kind) (maxL := 1) (ret := (some .int)) (by decide) rfl ?_
  intro p e s m args below meth c s₁ B hml hv
  obtain ⟨rfl, hsz, hP, hK⟩ := hv
  have hx := B.exec
  have hb := B.bytes
  have hr := B.returns
  have hts := atoms_spec (ws := v_X3_kind) B.pre
  have hown : s.vm.findClass RX3 = some m.cls := findClass_of_methodNamed B.named
  have hlocks := B.notSynchronized
  clear B
  subst hsz
  have iX3 : ∀ w ∈ wsX30, w ∈ v_X3_kind := (fun _ h => List.mem_cons_of_mem _ (List.mem_append_right _ (List.mem_append_left _ h)))
  generalize hAe : (va_A [] s.heap.size) = A
  have hA : ∀ q : Nat, s.heap.size ≤ q → A q := fun q h => by rw [← hAe]; exact Or.inr h
  have hS : va_S A s.heap s.heap [] := va_S.rf
  have hl := lv_entry ([.ref fa]) (n := 1) (Nat.le_of_ble_eq_true rfl)
  rw [lg_entry_eq]
  generalize (lg_sl ([.ref fa]) ++ List.replicate (1 - (lg_sl ([.ref fa])).length) Slot.unset).toArray = ls at hl ⊢
  generalize ([.ref fa] : List Value).toArray = av at hts ⊢
  generalize hQ : MQ below _ av s _ _ A = QQ
  have hl : lv_has ls 1 [(0, .ref fa)] := hl
  have hP : va_P g vwCl [(fa, .inr (3, [.int fa_begins, .int fa_length, .int fa_cards, .int fa_round, .int fa_rule0, .int fa_rule1, .ref fa_yearOf]))] s.heap := hP
  refine lv_aload_n hx hb dX3_kind_0 rfl (lv_at hl 0 rfl) ?_
  refine va_get (D := g) (ci := 3) (v := .int fa_cards) (C := RX3) (T := TX3) (N := 7) hx hb hts iX3 hown hK hP 0 rfl rfl 2 (by decide) (hts (.fieldLink RX3 41 "CardsAtYule$Fate" "cards" "I") (List.mem_cons_of_mem _ (List.mem_append_left _ (List.mem_of_getElem? (i := 0) rfl)))) (fun _ h9 => h9) rfl dX3_kind_1 ?_
  refine lv_if_ne (tgt := 9) hx hb dX3_kind_4 (by decide) (fun c4 => ?_) (fun c4 => ?_)
  rotate_left 1
  · have f4 := (show fa_cards.toInt = 0 from z_eq rfl rfl c4)
    have r4a : ir fa_cards.toInt 0 0 := ir_eqa f4 (rg_all fa_cards) (ir_c 0) (by decide) (by decide)
    refine lv_iconst (v := 0) hx hb dX3_kind_7 (by decide) ?_
    subst hQ
    exact W.iret (v := 0) hx hb hr (fun t ht hW => ⟨⟨0, (), rfl, (show ir (0 : Int32).toInt 0 2 by decide), trivial⟩, hS.F ht⟩) hS.2.2 dX3_kind_8
  have f4 := (show fa_cards.toInt ≠ 0 from z_ne rfl rfl c4)
  refine lv_aload_n hx hb dX3_kind_9 rfl (lv_at hl 0 rfl) ?_
  refine va_get (D := g) (ci := 3) (v := .int fa_cards) (C := RX3) (T := TX3) (N := 7) hx hb hts iX3 hown hK hP 0 rfl rfl 2 (by decide) (hts (.fieldLink RX3 41 "CardsAtYule$Fate" "cards" "I") (List.mem_cons_of_mem _ (List.mem_append_left _ (List.mem_of_getElem? (i := 0) rfl)))) (fun _ h9 => h9) rfl dX3_kind_10 ?_
  refine lv_iconst (v := 2) hx hb dX3_kind_13 (by decide) ?_
  refine lv_aload_n hx hb dX3_kind_14 rfl (lv_at hl 0 rfl) ?_
  refine va_get (D := g) (ci := 3) (v := .int fa_length) (C := RX3) (T := TX3) (N := 7) hx hb hts iX3 hown hK hP 0 rfl rfl 1 (by decide) (hts (.fieldLink RX3 38 "CardsAtYule$Fate" "length" "I") (List.mem_cons_of_mem _ (List.mem_append_left _ (List.mem_of_getElem? (i := 1) rfl)))) (fun _ h9 => h9) rfl dX3_kind_15 ?_
  refine lv_imul hx hb dX3_kind_18 ?_
  refine lv_topi (fun y18 e18 => ?_)
  refine lv_icmp_ne (tgt := 26) hx hb dX3_kind_19 (by decide) (fun c19 => ?_) (fun c19 => ?_)
  · have f19 := (show fa_cards.toInt ≠ y18.toInt from z_ne rfl rfl c19)
    refine lv_iconst (v := 2) hx hb dX3_kind_26 (by decide) ?_
    subst hQ
    exact W.iret (v := 2) hx hb hr (fun t ht hW => ⟨⟨2, (), rfl, (show ir (2 : Int32).toInt 0 2 by decide), trivial⟩, hS.F ht⟩) hS.2.2 dX3_kind_27
  have f19 := (show fa_cards.toInt = y18.toInt from z_eq rfl rfl c19)
  refine lv_iconst (v := 1) hx hb dX3_kind_22 (by decide) ?_
  refine lv_goto (tgt := 27) hx hb dX3_kind_23 (by decide) ?_
  subst hQ
  exact W.iret (v := 1) hx hb hr (fun t ht hW => ⟨⟨1, (), rfl, (show ir (1 : Int32).toInt 0 2 by decide), trivial⟩, hS.F ht⟩) hS.2.2 dX3_kind_27
def v_X3_tell : List Cond := .code yX3_tell cX3_tell 2 (some .int) :: (([.methodLink RX3 53 yX3_kind, .instanceMethod yX3_kind, .selects RX3 yX3_kind yX3_kind, .initialized RX3, .fieldLink RX3 35 "CardsAtYule$Fate" "begins" "I", .fieldLink RX3 38 "CardsAtYule$Fate" "length" "I", .fieldLink RX3 41 "CardsAtYule$Fate" "cards" "I"] : List Cond) ++ (v_X3_kind ++ (wsX30 ++ ([] : List Cond))))
theorem good_v_X3_tell : v_X3_tell.all goodWord = true := ga_c (by decide +kernel) (ga_a (by decide +kernel) (ga_a good_v_X3_kind (ga_a good_wsX30 rfl)))
set_option maxHeartbeats 4000000 in
set_option maxRecDepth 100000 in
theorem q_X3_tell (l : Launch) (g : va_G) (cI cJ cB cZ cL : ClassId) (p0 : Int32) (fa : Nat) (fa_begins : Int32) (fa_length : Int32) (fa_cards : Int32) (fa_round : Int32) (fa_rule0 : Int32) (fa_rule1 : Int32) (fa_yearOf : Nat) (sz : Nat) (hv_fa_round : ir fa_round.toInt 0 15) : Met l yX3_tell v_X3_tell ({ frames := 1, cells := 0, slots := 0, locals := 20 }) (va_Pc [.ref fa, .int p0] (pRO g (tyT cI cJ cB cZ cL) [(fa, .inr (3, [.int fa_begins, .int fa_length, .int fa_cards, .int fa_round, .int fa_rule0, .int fa_rule1, .ref fa_yearOf]))] sz)) (va_Qi (fun (r : Int32) (u : Unit) => True) (fun (_ : Unit) (_ : State) => True) (va_A [] sz)) 0 0 (va_A [] sz) := by
  refine Met.ofW (cc := cX3_tell) (maxL := 2) (ret := (some .int)) (by decide) rfl ?_
  intro p e s m args below meth c s₁ B hml hv
  obtain ⟨rfl, hsz, hP, hK⟩ := hv
  have hx := B.exec
  have hb := B.bytes
  have hr := B.returns
  have hts := atoms_spec (ws := v_X3_tell) B.pre
  have hown : s.vm.findClass RX3 = some m.cls := findClass_of_methodNamed B.named
  have hlocks := B.notSynchronized
  clear B
  subst hsz
  have iX3 : ∀ w ∈ wsX30, w ∈ v_X3_tell := (fun _ h => List.mem_cons_of_mem _ (List.mem_append_right _ (List.mem_append_right _ (List.mem_append_left _ h))))
  generalize hAe : (va_A [] s.heap.size) = A
  have hA : ∀ q : Nat, s.heap.size ≤ q → A q := fun q h => by rw [← hAe]; exact Or.inr h
  have hS : va_S A s.heap s.heap [] := va_S.rf
  have hl := lv_entry ([.ref fa, .int p0]) (n := 2) (Nat.le_of_ble_eq_true rfl)
  rw [lg_entry_eq]
  generalize (lg_sl ([.ref fa, .int p0]) ++ List.replicate (2 - (lg_sl ([.ref fa, .int p0])).length) Slot.unset).toArray = ls at hl ⊢
  generalize ([.ref fa, .int p0] : List Value).toArray = av at hts ⊢
  generalize hQ : MQ below _ av s _ _ A = QQ
  have hl : lv_has ls 2 [(0, .ref fa), (1, .int p0)] := hl
  have hP : va_P g vwCl [(fa, .inr (3, [.int fa_begins, .int fa_length, .int fa_cards, .int fa_round, .int fa_rule0, .int fa_rule1, .ref fa_yearOf]))] s.heap := hP
  refine lv_iload_n hx hb dX3_tell_0 rfl (lv_at hl 1 rfl) ?_
  rcases tsw 2 p0 with hz1 | ⟨j1, hj1, ej1⟩
  · refine lv_tableOut (tgt := 43) hx hb dX3_tell_1 hz1 (by decide) ?_
    refine lv_aload_n hx hb dX3_tell_43 rfl (lv_at hl 0 rfl) ?_
    refine ro_i (va_runV (As := []) (rest := []) ⟨hx, hb, hml, hown, hts⟩ (q_X3_kind l g cI cJ cB cZ cL fa fa_begins fa_length fa_cards fa_round fa_rule0 fa_rule1 fa_yearOf s.heap.size hv_fa_round) (cwV 0 hts (goodIn_app (g_4 (List.mem_cons_of_mem _ (List.mem_append_left _ (List.mem_of_getElem? (i := 0) rfl))) (List.mem_cons_of_mem _ (List.mem_append_left _ (List.mem_of_getElem? (i := 1) rfl))) (List.mem_cons_of_mem _ (List.mem_append_left _ (List.mem_of_getElem? (i := 2) rfl))) (List.mem_cons_of_mem _ (List.mem_append_left _ (List.mem_of_getElem? (i := 3) rfl))) (by decide +kernel)) (goodIn_sub (fun _ h => List.mem_cons_of_mem _ (List.mem_append_right _ (List.mem_append_left _ h))) good_v_X3_kind)) rfl rfl rfl (by decide +kernel) ⟨Nat.le_of_ble_eq_true rfl, Nat.le_of_ble_eq_true rfl⟩) (pv_RO (q := (RX3, TX3, 7)) (ci := 3) (q0 := 0) (wc := [(fa, .inr (3, [.int fa_begins, .int fa_length, .int fa_cards, .int fa_round, .int fa_rule0, .int fa_rule1, .ref fa_yearOf]))]) hK hP [0] rfl rfl rfl) rfl rfl hl.1 rfl (lv_room (Nat.le_of_ble_eq_true rfl)) dX3_tell_44 ⟨Nat.le_of_ble_eq_true rfl, Nat.le_of_ble_eq_true rfl⟩) hS hA hP (fun r44 u44 H locs hw44 hP hS => ?_)
    have hw44_0 := hw44
    subst hQ
    exact W.iret (v := r44) hx hb hr (fun t ht hW => ⟨⟨r44, (), rfl, trivial, trivial⟩, hS.F ht⟩) hS.2.2 dX3_tell_47
  · match j1, hj1, ej1 with
    | 0, _, ej1 =>
        have rs28_0 : ir p0.toInt 0 0 := sw_c ej1 (by decide)
        rw [show p0 = 0 from ej1]
        refine lv_tableIn (off := 27) (tgt := 28) hx hb dX3_tell_1 (by decide) (by decide) (by decide) (by decide) ?_
        refine lv_aload_n hx hb dX3_tell_28 rfl (lv_at hl 0 rfl) ?_
        refine va_get (D := g) (ci := 3) (v := .int fa_begins) (C := RX3) (T := TX3) (N := 7) hx hb hts iX3 hown hK hP 0 rfl rfl 0 (by decide) (hts (.fieldLink RX3 35 "CardsAtYule$Fate" "begins" "I") (List.mem_cons_of_mem _ (List.mem_append_left _ (List.mem_of_getElem? (i := 4) rfl)))) (fun _ h9 => h9) rfl dX3_tell_29 ?_
        subst hQ
        exact W.iret (v := fa_begins) hx hb hr (fun t ht hW => ⟨⟨fa_begins, (), rfl, trivial, trivial⟩, hS.F ht⟩) hS.2.2 dX3_tell_32
    | 1, _, ej1 =>
        have rs33_1 : ir p0.toInt 1 1 := sw_c ej1 (by decide)
        rw [show p0 = 1 from ej1]
        refine lv_tableIn (off := 32) (tgt := 33) hx hb dX3_tell_1 (by decide) (by decide) (by decide) (by decide) ?_
        refine lv_aload_n hx hb dX3_tell_33 rfl (lv_at hl 0 rfl) ?_
        refine va_get (D := g) (ci := 3) (v := .int fa_length) (C := RX3) (T := TX3) (N := 7) hx hb hts iX3 hown hK hP 0 rfl rfl 1 (by decide) (hts (.fieldLink RX3 38 "CardsAtYule$Fate" "length" "I") (List.mem_cons_of_mem _ (List.mem_append_left _ (List.mem_of_getElem? (i := 5) rfl)))) (fun _ h9 => h9) rfl dX3_tell_34 ?_
        subst hQ
        exact W.iret (v := fa_length) hx hb hr (fun t ht hW => ⟨⟨fa_length, (), rfl, trivial, trivial⟩, hS.F ht⟩) hS.2.2 dX3_tell_37
    | 2, _, ej1 =>
        have rs38_2 : ir p0.toInt 2 2 := sw_c ej1 (by decide)
        rw [show p0 = 2 from ej1]
        refine lv_tableIn (off := 37) (tgt := 38) hx hb dX3_tell_1 (by decide) (by decide) (by decide) (by decide) ?_
        refine lv_aload_n hx hb dX3_tell_38 rfl (lv_at hl 0 rfl) ?_
        refine va_get (D := g) (ci := 3) (v := .int fa_cards) (C := RX3) (T := TX3) (N := 7) hx hb hts iX3 hown hK hP 0 rfl rfl 2 (by decide) (hts (.fieldLink RX3 41 "CardsAtYule$Fate" "cards" "I") (List.mem_cons_of_mem _ (List.mem_append_left _ (List.mem_of_getElem? (i := 6) rfl)))) (fun _ h9 => h9) rfl dX3_tell_39 ?_
        subst hQ
        exact W.iret (v := fa_cards) hx hb hr (fun t ht hW => ⟨⟨fa_cards, (), rfl, trivial, trivial⟩, hS.F ht⟩) hS.2.2 dX3_tell_42
    | n + 3, h, _ => exact absurd h (by omega)
def v_X3_everDies : List Cond := .code yX3_everDies cX3_everDies 4 (some .boolean) :: (([.methodLink RX3 57 yX3_find, .instanceMethod yX3_find, .selects RX3 yX3_find yX3_find, .initialized RX3, .methodLink RX3 53 yX3_kind, .instanceMethod yX3_kind, .selects RX3 yX3_kind yX3_kind] : List Cond) ++ (v_X3_find ++ (v_X3_kind ++ ([] : List Cond))))
theorem good_v_X3_everDies : v_X3_everDies.all goodWord = true := ga_c (by decide +kernel) (ga_a (by decide +kernel) (ga_a good_v_X3_find (ga_a good_v_X3_kind rfl)))
set_option maxHeartbeats 4000000 in
set_option maxRecDepth 100000 in
theorem q_X3_everDies (l : Launch) (g : va_G) (cI cJ cB cZ cL : ClassId) (p0 : Int32) (p1 : Int32) (fa : Nat) (fa_begins : Int32) (fa_length : Int32) (fa_cards : Int32) (fa_round : Int32) (fa_rule0 : Int32) (fa_rule1 : Int32) (fa_yearOf : Nat) (fa_yearOf_c : Nat → Int32) (sz : Nat) (hv_fa_round : ir fa_round.toInt 0 15) : Met l yX3_everDies v_X3_everDies ({ frames := 4, cells := 0, slots := 0, locals := 94 }) (va_Pc [.ref fa, .int p0, .int p1] (pRW g (tyT cI cJ cB cZ cL) [(fa, .inr (3, [.int fa_begins, .int fa_length, .int fa_cards, .int fa_round, .int fa_rule0, .int fa_rule1, .ref fa_yearOf])), (fa_yearOf, .inl (cI, 16, .inl fa_yearOf_c))] sz)) (va_Qi (fun (r : Int32) (u : Int32 × Int32 × Int32 × Int32 × Int32 × Int32 × (Nat → Int32)) => match u with | (n_fa_begins, n_fa_length, n_fa_cards, n_fa_round, n_fa_rule0, n_fa_rule1, n_fa_yearOf_c) => (ir n_fa_round.toInt 0 15) ∧ (ir r.toInt 0 1)) (fun (u : Int32 × Int32 × Int32 × Int32 × Int32 × Int32 × (Nat → Int32)) (t : State) => bRW g (tyT cI cJ cB cZ cL) (va_A [(fa, .inr (3, [.int fa_begins, .int fa_length, .int fa_cards, .int fa_round, .int fa_rule0, .int fa_rule1, .ref fa_yearOf])), (fa_yearOf, .inl (cI, 16, .inl fa_yearOf_c))] sz) (match u with | (n_fa_begins, n_fa_length, n_fa_cards, n_fa_round, n_fa_rule0, n_fa_rule1, n_fa_yearOf_c) => [(fa, .inr (3, [.int n_fa_begins, .int n_fa_length, .int n_fa_cards, .int n_fa_round, .int n_fa_rule0, .int n_fa_rule1, .ref fa_yearOf])), (fa_yearOf, .inl (cI, 16, .inl n_fa_yearOf_c))]) t) (va_A [(fa, .inr (3, [.int fa_begins, .int fa_length, .int fa_cards, .int fa_round, .int fa_rule0, .int fa_rule1, .ref fa_yearOf])), (fa_yearOf, .inl (cI, 16, .inl fa_yearOf_c))] sz)) 0 0 (va_A [(fa, .inr (3, [.int fa_begins, .int fa_length, .int fa_cards, .int fa_round, .int fa_rule0, .int fa_rule1, .ref fa_yearOf])), (fa_yearOf, .inl (cI, 16, .inl fa_yearOf_c))] sz) := by
  refine Met.ofW (cc := cX3_everDies) (maxL := 4) (ret := (some .boolean)) (by decide) rfl ?_
  intro p e s m args below meth c s₁ B hml hv
  obtain ⟨rfl, hsz, hP, hK, hD0⟩ := hv
  have hx := B.exec
  have hb := B.bytes
  have hr := B.returns
  have hts := atoms_spec (ws := v_X3_everDies) B.pre
  have hown : s.vm.findClass RX3 = some m.cls := findClass_of_methodNamed B.named
  have hlocks := B.notSynchronized
  clear B
  subst hsz
  have hD := hD0.self (sz := s.heap.size)
  generalize hAe : (va_A [(fa, .inr (3, [.int fa_begins, .int fa_length, .int fa_cards, .int fa_round, .int fa_rule0, .int fa_rule1, .ref fa_yearOf])), (fa_yearOf, .inl (cI, 16, .inl fa_yearOf_c))] s.heap.size) = A at hD ⊢
  have hA : ∀ q : Nat, s.heap.size ≤ q → A q := fun q h => by rw [← hAe]; exact Or.inr h
  have hS : va_S A s.heap s.heap [] := va_S.rf
  have hl := lv_entry ([.ref fa, .int p0, .int p1]) (n := 4) (Nat.le_of_ble_eq_true rfl)
  rw [lg_entry_eq]
  generalize (lg_sl ([.ref fa, .int p0, .int p1]) ++ List.replicate (4 - (lg_sl ([.ref fa, .int p0, .int p1])).length) Slot.unset).toArray = ls at hl ⊢
  generalize ([.ref fa, .int p0, .int p1] : List Value).toArray = av at hts ⊢
  generalize hQ : MQ below _ av s _ _ A = QQ
  have hl : lv_has ls 4 [(0, .ref fa), (1, .int p0), (2, .int p1)] := hl
  have hP : va_P g vwCl [(fa, .inr (3, [.int fa_begins, .int fa_length, .int fa_cards, .int fa_round, .int fa_rule0, .int fa_rule1, .ref fa_yearOf])), (fa_yearOf, .inl (cI, 16, .inl fa_yearOf_c))] s.heap := hP
  refine lv_iconst (v := 0) hx hb dX3_everDies_0 (by decide) ?_
  refine lv_istore_n (lv' := [(3, .int 0), (0, .ref fa), (1, .int p0), (2, .int p1)]) hx hb dX3_everDies_1 rfl hl (by decide) rfl (fun ls hl => ?_)
  have J2 : ∀ (n2 : Nat) (j2_l3 : Int32) (j2_fa_begins : Int32) (j2_fa_length : Int32) (j2_fa_cards : Int32) (j2_fa_round : Int32) (j2_fa_rule0 : Int32) (j2_fa_rule1 : Int32) (j2_fa_yearOf_c : Nat → Int32) (H : Heap) (locs : List Loc) (ls : Array Slot), (17 - j2_l3.toInt).toNat < n2 → (ir j2_l3.toInt 0 16) → (ir j2_fa_round.toInt 0 15) → va_P g vwCl [(fa, .inr (3, [.int j2_fa_begins, .int j2_fa_length, .int j2_fa_cards, .int j2_fa_round, .int j2_fa_rule0, .int j2_fa_rule1, .ref fa_yearOf])), (fa_yearOf, .inl (cI, 16, .inl j2_fa_yearOf_c))] H → va_D A [(fa, .inr (3, [.int j2_fa_begins, .int j2_fa_length, .int j2_fa_cards, .int j2_fa_round, .int j2_fa_rule0, .int j2_fa_rule1, .ref fa_yearOf])), (fa_yearOf, .inl (cI, 16, .inl j2_fa_yearOf_c))] → va_S A s.heap H locs → lv_has ls 4 [(0, .ref fa), (1, .int p0), (2, .int p1), (3, .int j2_l3)] → W p l e (headSpec v_X3_everDies ({ frames := 4, cells := 0, slots := 0, locals := 94 })).room s m av below meth c H locs 0 0 QQ (F0 m 2 ls []) := by
    intro n2
    induction n2 with
    | zero => exact fun j2_l3 j2_fa_begins j2_fa_length j2_fa_cards j2_fa_round j2_fa_rule0 j2_fa_rule1 j2_fa_yearOf_c H locs ls hn => absurd hn (Nat.not_lt_zero _)
    | succ n2 ih2 =>
      intro j2_l3 j2_fa_begins j2_fa_length j2_fa_cards j2_fa_round j2_fa_rule0 j2_fa_rule1 j2_fa_yearOf_c H locs ls hn2 hj2_l3 hj2_fa_round hP hD hS hl
      refine lv_iload_n hx hb dX3_everDies_2 rfl (lv_at hl 3 rfl) ?_
      refine lv_bipush (v := 16) hx hb dX3_everDies_3 (by decide) ?_
      refine lv_icmp_ge (tgt := 30) hx hb dX3_everDies_5 (by decide) (fun c5 => ?_) (fun c5 => ?_)
      · have f5 := (show 16 ≤ j2_l3.toInt from z_le rfl rfl c5)
        have r5a : ir j2_l3.toInt 16 16 := ir_leb f5 (ir_c 16) hj2_l3 (by decide)
        refine lv_iconst (v := 0) hx hb dX3_everDies_30 (by decide) ?_
        subst hQ
        have hP9 := hP.sub (ws' := [(fa, .inr (3, [.int j2_fa_begins, .int j2_fa_length, .int j2_fa_cards, .int j2_fa_round, .int j2_fa_rule0, .int j2_fa_rule1, .ref fa_yearOf])), (fa_yearOf, .inl (cI, 16, .inl j2_fa_yearOf_c))]) [0, 1] rfl
        have hD9 := hD.sub (ws' := [(fa, .inr (3, [.int j2_fa_begins, .int j2_fa_length, .int j2_fa_cards, .int j2_fa_round, .int j2_fa_rule0, .int j2_fa_rule1, .ref fa_yearOf])), (fa_yearOf, .inl (cI, 16, .inl j2_fa_yearOf_c))]) [0, 1] (by decide) rfl
        exact W.zret (v := 0) hx hb hr rfl (fun t ht hW => ⟨⟨0, (j2_fa_begins, j2_fa_length, j2_fa_cards, j2_fa_round, j2_fa_rule0, j2_fa_rule1, j2_fa_yearOf_c), rfl, ⟨hj2_fa_round, (show ir (0 : Int32).toInt 0 1 by decide)⟩, ⟨by rw [ht]; exact hP9, va_K.moved hW.alike hK, hD9⟩⟩, hS.F ht⟩) hS.2.2 dX3_everDies_31
      have f5 := (show j2_l3.toInt < 16 from z_nle rfl rfl c5)
      have r5a : ir j2_l3.toInt 0 15 := ir_lta f5 hj2_l3 (ir_c 16) (by decide)
      refine lv_aload_n hx hb dX3_everDies_8 rfl (lv_at hl 0 rfl) ?_
      refine lv_iload_n hx hb dX3_everDies_9 rfl (lv_at hl 1 rfl) ?_
      refine lv_iload_n hx hb dX3_everDies_10 rfl (lv_at hl 2 rfl) ?_
      refine lv_iload_n hx hb dX3_everDies_11 rfl (lv_at hl 3 rfl) ?_
      refine rw_v (wr := []) (va_runV (As := [.int p0, .int p1, .int j2_l3]) (rest := []) ⟨hx, hb, hml, hown, hts⟩ (q_X3_find l g cI cJ cB cZ cL p0 p1 j2_l3 fa j2_fa_begins j2_fa_length j2_fa_cards j2_fa_round j2_fa_rule0 j2_fa_rule1 fa_yearOf j2_fa_yearOf_c H.size r5a hj2_fa_round) (cwV 3 hts (goodIn_app (g_4 (List.mem_cons_of_mem _ (List.mem_append_left _ (List.mem_of_getElem? (i := 0) rfl))) (List.mem_cons_of_mem _ (List.mem_append_left _ (List.mem_of_getElem? (i := 1) rfl))) (List.mem_cons_of_mem _ (List.mem_append_left _ (List.mem_of_getElem? (i := 2) rfl))) (List.mem_cons_of_mem _ (List.mem_append_left _ (List.mem_of_getElem? (i := 3) rfl))) (by decide +kernel)) (goodIn_sub (fun _ h => List.mem_cons_of_mem _ (List.mem_append_right _ (List.mem_append_left _ h))) good_v_X3_find)) rfl rfl rfl (by decide +kernel) ⟨Nat.le_of_ble_eq_true rfl, Nat.le_of_ble_eq_true rfl⟩) (pv_RW (q := (RX3, TX3, 7)) (ci := 3) (q0 := 0) (wc := [(fa, .inr (3, [.int j2_fa_begins, .int j2_fa_length, .int j2_fa_cards, .int j2_fa_round, .int j2_fa_rule0, .int j2_fa_rule1, .ref fa_yearOf])), (fa_yearOf, .inl (cI, 16, .inl j2_fa_yearOf_c))]) hK hP hD [0, 1] (by decide) rfl rfl rfl) rfl rfl hl.1 rfl (lv_room (Nat.le_of_ble_eq_true rfl)) dX3_everDies_12 ⟨Nat.le_of_ble_eq_true rfl, Nat.le_of_ble_eq_true rfl⟩) hS hA hP hD [0, 1] [] rfl rfl (by decide) (by decide) (fun u12 H locs hw12 hP hD hS => ?_)
      obtain ⟨n_fa_begins_12, n_fa_length_12, n_fa_cards_12, n_fa_round_12, n_fa_rule0_12, n_fa_rule1_12, n_fa_yearOf_c_12⟩ := u12
      have hP : va_P g vwCl [(fa, .inr (3, [.int n_fa_begins_12, .int n_fa_length_12, .int n_fa_cards_12, .int n_fa_round_12, .int n_fa_rule0_12, .int n_fa_rule1_12, .ref fa_yearOf])), (fa_yearOf, .inl (cI, 16, .inl n_fa_yearOf_c_12))] H := hP
      have hD : va_D A [(fa, .inr (3, [.int n_fa_begins_12, .int n_fa_length_12, .int n_fa_cards_12, .int n_fa_round_12, .int n_fa_rule0_12, .int n_fa_rule1_12, .ref fa_yearOf])), (fa_yearOf, .inl (cI, 16, .inl n_fa_yearOf_c_12))] := hD
      dsimp only at hw12
      have hw12_0 := hw12
      refine lv_aload_n hx hb dX3_everDies_15 rfl (lv_at hl 0 rfl) ?_
      refine ro_i (va_runV (As := []) (rest := []) ⟨hx, hb, hml, hown, hts⟩ (q_X3_kind l g cI cJ cB cZ cL fa n_fa_begins_12 n_fa_length_12 n_fa_cards_12 n_fa_round_12 n_fa_rule0_12 n_fa_rule1_12 fa_yearOf H.size hw12_0) (cwV 0 hts (goodIn_app (g_4 (List.mem_cons_of_mem _ (List.mem_append_left _ (List.mem_of_getElem? (i := 4) rfl))) (List.mem_cons_of_mem _ (List.mem_append_left _ (List.mem_of_getElem? (i := 5) rfl))) (List.mem_cons_of_mem _ (List.mem_append_left _ (List.mem_of_getElem? (i := 6) rfl))) (List.mem_cons_of_mem _ (List.mem_append_left _ (List.mem_of_getElem? (i := 3) rfl))) (by decide +kernel)) (goodIn_sub (fun _ h => List.mem_cons_of_mem _ (List.mem_append_right _ (List.mem_append_right _ (List.mem_append_left _ h)))) good_v_X3_kind)) rfl rfl rfl (by decide +kernel) ⟨Nat.le_of_ble_eq_true rfl, Nat.le_of_ble_eq_true rfl⟩) (pv_RO (q := (RX3, TX3, 7)) (ci := 3) (q0 := 0) (wc := [(fa, .inr (3, [.int n_fa_begins_12, .int n_fa_length_12, .int n_fa_cards_12, .int n_fa_round_12, .int n_fa_rule0_12, .int n_fa_rule1_12, .ref fa_yearOf]))]) hK hP [0] rfl rfl rfl) rfl rfl hl.1 rfl (lv_room (Nat.le_of_ble_eq_true rfl)) dX3_everDies_16 ⟨Nat.le_of_ble_eq_true rfl, Nat.le_of_ble_eq_true rfl⟩) hS hA hP (fun r16 u16 H locs hw16 hP hS => ?_)
      have hw16_0 := hw16
      refine lv_if_ne (tgt := 24) hx hb dX3_everDies_19 (by decide) (fun c19 => ?_) (fun c19 => ?_)
      rotate_left 1
      · have f19 := (show r16.toInt = 0 from z_eq rfl rfl c19)
        have r19a : ir r16.toInt 0 0 := ir_eqa f19 hw16_0 (ir_c 0) (by decide) (by decide)
        refine lv_iconst (v := 1) hx hb dX3_everDies_22 (by decide) ?_
        subst hQ
        have hP9 := hP.sub (ws' := [(fa, .inr (3, [.int n_fa_begins_12, .int n_fa_length_12, .int n_fa_cards_12, .int n_fa_round_12, .int n_fa_rule0_12, .int n_fa_rule1_12, .ref fa_yearOf])), (fa_yearOf, .inl (cI, 16, .inl n_fa_yearOf_c_12))]) [0, 1] rfl
        have hD9 := hD.sub (ws' := [(fa, .inr (3, [.int n_fa_begins_12, .int n_fa_length_12, .int n_fa_cards_12, .int n_fa_round_12, .int n_fa_rule0_12, .int n_fa_rule1_12, .ref fa_yearOf])), (fa_yearOf, .inl (cI, 16, .inl n_fa_yearOf_c_12))]) [0, 1] (by decide) rfl
        exact W.zret (v := 1) hx hb hr rfl (fun t ht hW => ⟨⟨1, (n_fa_begins_12, n_fa_length_12, n_fa_cards_12, n_fa_round_12, n_fa_rule0_12, n_fa_rule1_12, n_fa_yearOf_c_12), rfl, ⟨hw12_0, (show ir (1 : Int32).toInt 0 1 by decide)⟩, ⟨by rw [ht]; exact hP9, va_K.moved hW.alike hK, hD9⟩⟩, hS.F ht⟩) hS.2.2 dX3_everDies_23
      have f19 := (show r16.toInt ≠ 0 from z_ne rfl rfl c19)
      have r19a : ir r16.toInt 1 2 := ir_nel f19 hw16_0 (by decide) (by decide)
      obtain ⟨y24, e24⟩ : ∃ y : Int32, y = j2_l3 + 1 := ⟨_, rfl⟩
      have q24 : y24.toInt = j2_l3.toInt + 1 := by rw [e24]; exact ad_z rfl rfl r5a (ir_c 1) (by decide) (by decide)
      have r24 : ir y24.toInt 1 16 := ad_r q24 r5a (ir_c 1) (by decide) (by decide)
      refine lv_iinc (v := y24) (lv' := [(3, .int y24), (0, .ref fa), (1, .int p0), (2, .int p1)]) hx hb dX3_everDies_24 hl (k := 3) rfl e24.symm (by decide) rfl (fun ls hl => ?_)
      refine lv_goto (tgt := 2) hx hb dX3_everDies_27 (by decide) ?_
      exact ih2 y24 n_fa_begins_12 n_fa_length_12 n_fa_cards_12 n_fa_round_12 n_fa_rule0_12 n_fa_rule1_12 n_fa_yearOf_c_12 _ _ _ (by omega) (ir_w r24 (by decide) (by decide)) hw12_0 (hP.sub [0, 1] rfl) (hD.sub [0, 1] (by decide) rfl) hS (lv_sub hl [1, 2, 3, 0] rfl)
  exact J2 _ 0 fa_begins fa_length fa_cards fa_round fa_rule0 fa_rule1 fa_yearOf_c _ _ _ (Nat.lt_succ_self _) (by decide) hv_fa_round (hP.sub [0, 1] rfl) (hD.sub [0, 1] (by decide) rfl) hS (lv_sub hl [1, 2, 3, 0] rfl)
def v_X3_isIn : List Cond := .code yX3_isIn cX3_isIn 2 (some .boolean) :: (([.fieldLink RX3 9 "CardsAtYule$Fate" "yearOf" "[I", .fieldLink RX3 35 "CardsAtYule$Fate" "begins" "I"] : List Cond) ++ (wsX30 ++ ([] : List Cond)))
theorem good_v_X3_isIn : v_X3_isIn.all goodWord = true := ga_c (by decide +kernel) (ga_a (by decide +kernel) (ga_a good_wsX30 rfl))
set_option maxHeartbeats 4000000 in
set_option maxRecDepth 100000 in
theorem q_X3_isIn (l : Launch) (g : va_G) (cI cJ cB cZ cL : ClassId) (p0 : Int32) (fa : Nat) (fa_begins : Int32) (fa_length : Int32) (fa_cards : Int32) (fa_round : Int32) (fa_rule0 : Int32) (fa_rule1 : Int32) (fa_yearOf : Nat) (fa_yearOf_c : Nat → Int32) (sz : Nat) (hv_p0 : ir p0.toInt 0 15) (hv_fa_round : ir fa_round.toInt 0 15) : Met l yX3_isIn v_X3_isIn ({ frames := 0, cells := 0, slots := 0, locals := 0 }) (va_Pc [.ref fa, .int p0] (pRO g (tyT cI cJ cB cZ cL) [(fa, .inr (3, [.int fa_begins, .int fa_length, .int fa_cards, .int fa_round, .int fa_rule0, .int fa_rule1, .ref fa_yearOf])), (fa_yearOf, .inl (cI, 16, .inl fa_yearOf_c))] sz)) (va_Qi (fun (r : Int32) (u : Unit) => (ir r.toInt 0 1)) (fun (_ : Unit) (_ : State) => True) (va_A [] sz)) 0 0 (va_A [] sz) := by
  refine Met.ofW (cc := cX3_isIn) (maxL := 2) (ret := (some .boolean)) (by decide) rfl ?_
  intro p e s m args below meth c s₁ B hml hv
  obtain ⟨rfl, hsz, hP, hK⟩ := hv
  have hx := B.exec
  have hb := B.bytes
  have hr := B.returns
  have hts := atoms_spec (ws := v_X3_isIn) B.pre
  have hown : s.vm.findClass RX3 = some m.cls := findClass_of_methodNamed B.named
  have hlocks := B.notSynchronized
  clear B
  subst hsz
  have iX3 : ∀ w ∈ wsX30, w ∈ v_X3_isIn := (fun _ h => List.mem_cons_of_mem _ (List.mem_append_right _ (List.mem_append_left _ h)))
  generalize hAe : (va_A [] s.heap.size) = A
  have hA : ∀ q : Nat, s.heap.size ≤ q → A q := fun q h => by rw [← hAe]; exact Or.inr h
  have hS : va_S A s.heap s.heap [] := va_S.rf
  have hl := lv_entry ([.ref fa, .int p0]) (n := 2) (Nat.le_of_ble_eq_true rfl)
  rw [lg_entry_eq]
  generalize (lg_sl ([.ref fa, .int p0]) ++ List.replicate (2 - (lg_sl ([.ref fa, .int p0])).length) Slot.unset).toArray = ls at hl ⊢
  generalize ([.ref fa, .int p0] : List Value).toArray = av at hts ⊢
  generalize hQ : MQ below _ av s _ _ A = QQ
  have hl : lv_has ls 2 [(0, .ref fa), (1, .int p0)] := hl
  have hP : va_P g vwCl [(fa, .inr (3, [.int fa_begins, .int fa_length, .int fa_cards, .int fa_round, .int fa_rule0, .int fa_rule1, .ref fa_yearOf])), (fa_yearOf, .inl (cI, 16, .inl fa_yearOf_c))] s.heap := hP
  refine lv_aload_n hx hb dX3_isIn_0 rfl (lv_at hl 0 rfl) ?_
  refine va_get (D := g) (ci := 3) (v := .ref fa_yearOf) (C := RX3) (T := TX3) (N := 7) hx hb hts iX3 hown hK hP 0 rfl rfl 6 (by decide) (hts (.fieldLink RX3 9 "CardsAtYule$Fate" "yearOf" "[I") (List.mem_cons_of_mem _ (List.mem_append_left _ (List.mem_of_getElem? (i := 0) rfl)))) (fun _ h9 => h9) rfl dX3_isIn_1 ?_
  refine lv_iload_n hx hb dX3_isIn_4 rfl (lv_at hl 1 rfl) ?_
  refine va_iald (D := g) hx hb hK hP 1 0 rfl rfl (vi_rg rfl hv_p0 (by decide) (by decide)) dX3_isIn_5 ?_
  refine lv_topi (fun y5 e5 => ?_)
  refine lv_aload_n hx hb dX3_isIn_6 rfl (lv_at hl 0 rfl) ?_
  refine va_get (D := g) (ci := 3) (v := .int fa_begins) (C := RX3) (T := TX3) (N := 7) hx hb hts iX3 hown hK hP 0 rfl rfl 0 (by decide) (hts (.fieldLink RX3 35 "CardsAtYule$Fate" "begins" "I") (List.mem_cons_of_mem _ (List.mem_append_left _ (List.mem_of_getElem? (i := 1) rfl)))) (fun _ h9 => h9) rfl dX3_isIn_7 ?_
  refine lv_icmp_lt (tgt := 17) hx hb dX3_isIn_10 (by decide) (fun c10 => ?_) (fun c10 => ?_)
  rotate_left 1
  · have f10 := (show fa_begins.toInt ≤ y5.toInt from z_nlt rfl rfl c10)
    refine lv_iconst (v := 1) hx hb dX3_isIn_13 (by decide) ?_
    refine lv_goto (tgt := 18) hx hb dX3_isIn_14 (by decide) ?_
    subst hQ
    exact W.zret (v := 1) hx hb hr rfl (fun t ht hW => ⟨⟨1, (), rfl, (show ir (1 : Int32).toInt 0 1 by decide), trivial⟩, hS.F ht⟩) hS.2.2 dX3_isIn_18
  have f10 := (show y5.toInt < fa_begins.toInt from z_lt rfl rfl c10)
  have r10a : ir y5.toInt (-2147483648) 2147483646 := ir_lta f10 (rg_all y5) (rg_all fa_begins) (by decide)
  have r10b : ir fa_begins.toInt (-2147483647) 2147483647 := ir_ltb f10 (rg_all y5) (rg_all fa_begins) (by decide)
  refine lv_iconst (v := 0) hx hb dX3_isIn_17 (by decide) ?_
  subst hQ
  exact W.zret (v := 0) hx hb hr rfl (fun t ht hW => ⟨⟨0, (), rfl, (show ir (0 : Int32).toInt 0 1 by decide), trivial⟩, hS.F ht⟩) hS.2.2 dX3_isIn_18
def v_X3_withLoss : List Cond := .code yX3_withLoss cX3_withLoss 5 (some .int) :: (([.fieldLink RX3 32 "CardsAtYule$Fate" "round" "I", .methodLink RX3 28 yX3_next, .instanceMethod yX3_next, .selects RX3 yX3_next yX3_next, .initialized RX3] : List Cond) ++ (v_X3_next ++ (wsX30 ++ ([] : List Cond))))
theorem good_v_X3_withLoss : v_X3_withLoss.all goodWord = true := ga_c (by decide +kernel) (ga_a (by decide +kernel) (ga_a good_v_X3_next (ga_a good_wsX30 rfl)))
set_option maxHeartbeats 4000000 in
set_option maxRecDepth 100000 in
theorem q_X3_withLoss (l : Launch) (g : va_G) (cI cJ cB cZ cL : ClassId) (p0 : Int32) (p1 : Int32) (fa : Nat) (fa_begins : Int32) (fa_length : Int32) (fa_cards : Int32) (fa_round : Int32) (fa_rule0 : Int32) (fa_rule1 : Int32) (fa_yearOf : Nat) (sz : Nat) (hv_fa_round : ir fa_round.toInt 0 15) : Met l yX3_withLoss v_X3_withLoss ({ frames := 3, cells := 0, slots := 0, locals := 68 }) (va_Pc [.ref fa, .int p0, .int p1] (pRO g (tyT cI cJ cB cZ cL) [(fa, .inr (3, [.int fa_begins, .int fa_length, .int fa_cards, .int fa_round, .int fa_rule0, .int fa_rule1, .ref fa_yearOf]))] sz)) (va_Qi (fun (r : Int32) (u : Unit) => (ir r.toInt 0 15)) (fun (_ : Unit) (_ : State) => True) (va_A [] sz)) 0 0 (va_A [] sz) := by
  refine Met.ofW (cc := cX3_withLoss) (maxL := 5) (ret := (some .int)) (by decide) rfl ?_
  intro p e s m args below meth c s₁ B hml hv
  obtain ⟨rfl, hsz, hP, hK⟩ := hv
  have hx := B.exec
  have hb := B.bytes
  have hr := B.returns
  have hts := atoms_spec (ws := v_X3_withLoss) B.pre
  have hown : s.vm.findClass RX3 = some m.cls := findClass_of_methodNamed B.named
  have hlocks := B.notSynchronized
  clear B
  subst hsz
  have iX3 : ∀ w ∈ wsX30, w ∈ v_X3_withLoss := (fun _ h => List.mem_cons_of_mem _ (List.mem_append_right _ (List.mem_append_right _ (List.mem_append_left _ h))))
  generalize hAe : (va_A [] s.heap.size) = A
  have hA : ∀ q : Nat, s.heap.size ≤ q → A q := fun q h => by rw [← hAe]; exact Or.inr h
  have hS : va_S A s.heap s.heap [] := va_S.rf
  have hl := lv_entry ([.ref fa, .int p0, .int p1]) (n := 5) (Nat.le_of_ble_eq_true rfl)
  rw [lg_entry_eq]
  generalize (lg_sl ([.ref fa, .int p0, .int p1]) ++ List.replicate (5 - (lg_sl ([.ref fa, .int p0, .int p1])).length) Slot.unset).toArray = ls at hl ⊢
  generalize ([.ref fa, .int p0, .int p1] : List Value).toArray = av at hts ⊢
  generalize hQ : MQ below _ av s _ _ A = QQ
  have hl : lv_has ls 5 [(0, .ref fa), (1, .int p0), (2, .int p1)] := hl
  have hP : va_P g vwCl [(fa, .inr (3, [.int fa_begins, .int fa_length, .int fa_cards, .int fa_round, .int fa_rule0, .int fa_rule1, .ref fa_yearOf]))] s.heap := hP
  refine lv_aload_n hx hb dX3_withLoss_0 rfl (lv_at hl 0 rfl) ?_
  refine va_get (D := g) (ci := 3) (v := .int fa_round) (C := RX3) (T := TX3) (N := 7) hx hb hts iX3 hown hK hP 0 rfl rfl 3 (by decide) (hts (.fieldLink RX3 32 "CardsAtYule$Fate" "round" "I") (List.mem_cons_of_mem _ (List.mem_append_left _ (List.mem_of_getElem? (i := 0) rfl)))) (fun _ h9 => h9) rfl dX3_withLoss_1 ?_
  refine lv_istore_n (lv' := [(3, .int fa_round), (0, .ref fa), (1, .int p0), (2, .int p1)]) hx hb dX3_withLoss_4 rfl hl (by decide) rfl (fun ls hl => ?_)
  refine lv_iconst (v := 0) hx hb dX3_withLoss_5 (by decide) ?_
  refine lv_istore (lv' := [(4, .int 0), (3, .int fa_round), (0, .ref fa), (1, .int p0), (2, .int p1)]) hx hb dX3_withLoss_6 hl (by decide) rfl (fun ls hl => ?_)
  have J8 : ∀ (n8 : Nat) (j8_l3 : Int32) (j8_l4 : Int32) (H : Heap) (locs : List Loc) (ls : Array Slot), (2147483648 - j8_l4.toInt).toNat < n8 → (ir j8_l3.toInt 0 15) → (ir j8_l4.toInt 0 2147483647) → va_P g vwCl [(fa, .inr (3, [.int fa_begins, .int fa_length, .int fa_cards, .int fa_round, .int fa_rule0, .int fa_rule1, .ref fa_yearOf]))] H → va_S A s.heap H locs → lv_has ls 5 [(0, .ref fa), (1, .int p0), (2, .int p1), (3, .int j8_l3), (4, .int j8_l4)] → W p l e (headSpec v_X3_withLoss ({ frames := 3, cells := 0, slots := 0, locals := 68 })).room s m av below meth c H locs 0 0 QQ (F0 m 8 ls []) := by
    intro n8
    induction n8 with
    | zero => exact fun j8_l3 j8_l4 H locs ls hn => absurd hn (Nat.not_lt_zero _)
    | succ n8 ih8 =>
      intro j8_l3 j8_l4 H locs ls hn8 hj8_l3 hj8_l4 hP hS hl
      refine lv_iload hx hb dX3_withLoss_8 (lv_at hl 4 rfl) ?_
      refine lv_iload_n hx hb dX3_withLoss_10 rfl (lv_at hl 1 rfl) ?_
      refine lv_icmp_ge (tgt := 27) hx hb dX3_withLoss_11 (by decide) (fun c11 => ?_) (fun c11 => ?_)
      rotate_left 1
      · have f11 := (show j8_l4.toInt < p0.toInt from z_nle rfl rfl c11)
        have r11a : ir j8_l4.toInt 0 2147483646 := ir_lta f11 hj8_l4 (rg_all p0) (by decide)
        have r11b : ir p0.toInt 1 2147483647 := ir_ltb f11 hj8_l4 (rg_all p0) (by decide)
        refine lv_aload_n hx hb dX3_withLoss_14 rfl (lv_at hl 0 rfl) ?_
        refine lv_iload_n hx hb dX3_withLoss_15 rfl (lv_at hl 3 rfl) ?_
        refine lv_iconst (v := 3) hx hb dX3_withLoss_16 (by decide) ?_
        refine ro_i (va_runV (As := [.int j8_l3, .int 3]) (rest := []) ⟨hx, hb, hml, hown, hts⟩ (q_X3_next l g cI cJ cB cZ cL j8_l3 3 fa fa_begins fa_length fa_cards fa_round fa_rule0 fa_rule1 fa_yearOf H.size hv_fa_round) (cwV 2 hts (goodIn_app (g_4 (List.mem_cons_of_mem _ (List.mem_append_left _ (List.mem_of_getElem? (i := 1) rfl))) (List.mem_cons_of_mem _ (List.mem_append_left _ (List.mem_of_getElem? (i := 2) rfl))) (List.mem_cons_of_mem _ (List.mem_append_left _ (List.mem_of_getElem? (i := 3) rfl))) (List.mem_cons_of_mem _ (List.mem_append_left _ (List.mem_of_getElem? (i := 4) rfl))) (by decide +kernel)) (goodIn_sub (fun _ h => List.mem_cons_of_mem _ (List.mem_append_right _ (List.mem_append_left _ h))) good_v_X3_next)) rfl rfl rfl (by decide +kernel) ⟨Nat.le_of_ble_eq_true rfl, Nat.le_of_ble_eq_true rfl⟩) (pv_RO (q := (RX3, TX3, 7)) (ci := 3) (q0 := 0) (wc := [(fa, .inr (3, [.int fa_begins, .int fa_length, .int fa_cards, .int fa_round, .int fa_rule0, .int fa_rule1, .ref fa_yearOf]))]) hK hP [0] rfl rfl rfl) rfl rfl hl.1 rfl (lv_room (Nat.le_of_ble_eq_true rfl)) dX3_withLoss_17 ⟨Nat.le_of_ble_eq_true rfl, Nat.le_of_ble_eq_true rfl⟩) hS hA hP (fun r17 u17 H locs hw17 hP hS => ?_)
        have hw17_0 := hw17
        refine lv_istore_n (lv' := [(3, .int r17), (0, .ref fa), (1, .int p0), (2, .int p1), (4, .int j8_l4)]) hx hb dX3_withLoss_20 rfl hl (by decide) rfl (fun ls hl => ?_)
        obtain ⟨y21, e21⟩ : ∃ y : Int32, y = j8_l4 + 1 := ⟨_, rfl⟩
        have q21 : y21.toInt = j8_l4.toInt + 1 := by rw [e21]; exact ad_z rfl rfl r11a (ir_c 1) (by decide) (by decide)
        have r21 : ir y21.toInt 1 2147483647 := ad_r q21 r11a (ir_c 1) (by decide) (by decide)
        refine lv_iinc (v := y21) (lv' := [(4, .int y21), (3, .int r17), (0, .ref fa), (1, .int p0), (2, .int p1)]) hx hb dX3_withLoss_21 hl (k := 4) rfl e21.symm (by decide) rfl (fun ls hl => ?_)
        refine lv_goto (tgt := 8) hx hb dX3_withLoss_24 (by decide) ?_
        exact ih8 r17 y21 _ _ _ (by omega) hw17_0 (ir_w r21 (by decide) (by decide)) (hP.sub [0] rfl) hS (lv_sub hl [2, 3, 4, 1, 0] rfl)
      have f11 := (show p0.toInt ≤ j8_l4.toInt from z_le rfl rfl c11)
      refine lv_aload_n hx hb dX3_withLoss_27 rfl (lv_at hl 0 rfl) ?_
      refine lv_iload_n hx hb dX3_withLoss_28 rfl (lv_at hl 3 rfl) ?_
      refine lv_iconst (v := 3) hx hb dX3_withLoss_29 (by decide) ?_
      refine lv_iconst (v := 1) hx hb dX3_withLoss_30 (by decide) ?_
      refine lv_iload_n hx hb dX3_withLoss_31 rfl (lv_at hl 2 rfl) ?_
      refine lv_ishl hx hb dX3_withLoss_32 ?_
      refine lv_topi (fun y32 e32 => ?_)
      refine lv_iconst (v := (-1)) hx hb dX3_withLoss_33 (by decide) ?_
      refine lv_ixor hx hb dX3_withLoss_34 ?_
      refine lv_topi (fun y34 e34 => ?_)
      refine lv_iand hx hb dX3_withLoss_35 ?_
      refine lv_topi (fun y35 e35 => ?_)
      have r35 : ir y35.toInt 0 3 := by rw [e35]; exact an_x rfl (ir_c 3) (by decide)
      refine ro_i (va_runV (As := [.int j8_l3, .int y35]) (rest := []) ⟨hx, hb, hml, hown, hts⟩ (q_X3_next l g cI cJ cB cZ cL j8_l3 y35 fa fa_begins fa_length fa_cards fa_round fa_rule0 fa_rule1 fa_yearOf H.size hv_fa_round) (cwV 2 hts (goodIn_app (g_4 (List.mem_cons_of_mem _ (List.mem_append_left _ (List.mem_of_getElem? (i := 1) rfl))) (List.mem_cons_of_mem _ (List.mem_append_left _ (List.mem_of_getElem? (i := 2) rfl))) (List.mem_cons_of_mem _ (List.mem_append_left _ (List.mem_of_getElem? (i := 3) rfl))) (List.mem_cons_of_mem _ (List.mem_append_left _ (List.mem_of_getElem? (i := 4) rfl))) (by decide +kernel)) (goodIn_sub (fun _ h => List.mem_cons_of_mem _ (List.mem_append_right _ (List.mem_append_left _ h))) good_v_X3_next)) rfl rfl rfl (by decide +kernel) ⟨Nat.le_of_ble_eq_true rfl, Nat.le_of_ble_eq_true rfl⟩) (pv_RO (q := (RX3, TX3, 7)) (ci := 3) (q0 := 0) (wc := [(fa, .inr (3, [.int fa_begins, .int fa_length, .int fa_cards, .int fa_round, .int fa_rule0, .int fa_rule1, .ref fa_yearOf]))]) hK hP [0] rfl rfl rfl) rfl rfl hl.1 rfl (lv_room (Nat.le_of_ble_eq_true rfl)) dX3_withLoss_36 ⟨Nat.le_of_ble_eq_true rfl, Nat.le_of_ble_eq_true rfl⟩) hS hA hP (fun r36 u36 H locs hw36 hP hS => ?_)
      have hw36_0 := hw36
      subst hQ
      exact W.iret (v := r36) hx hb hr (fun t ht hW => ⟨⟨r36, (), rfl, hw36_0, trivial⟩, hS.F ht⟩) hS.2.2 dX3_withLoss_39
  exact J8 _ fa_round 0 _ _ _ (Nat.lt_succ_self _) hv_fa_round (by decide) (hP.sub [0] rfl) hS (lv_sub hl [2, 3, 4, 1, 0] rfl)
def v_X9_sentBy : List Cond := .code yX9_sentBy cX9_sentBy 6 (some .int) :: (([.fieldLink RX9 23 "CardsAtYule$Will" "side" "I", .methodLink RX9 107 yX10_firsts, .static yX10_firsts, .initialized RX10, .methodLink RX9 110 yX10_returning, .static yX10_returning, .methodLink RX9 113 yX10_backs, .static yX10_backs, .fieldLink RX9 27 "CardsAtYule$Will" "rule" "I"] : List Cond) ++ (v_X10_firsts ++ (v_X10_returning ++ (v_X10_backs ++ (wsX90 ++ ([] : List Cond))))))
theorem good_v_X9_sentBy : v_X9_sentBy.all goodWord = true := ga_c (by decide +kernel) (ga_a (by decide +kernel) (ga_a good_v_X10_firsts (ga_a good_v_X10_returning (ga_a good_v_X10_backs (ga_a good_wsX90 rfl)))))
set_option maxHeartbeats 4000000 in
set_option maxRecDepth 100000 in
theorem q_X9_sentBy (l : Launch) (g : va_G) (cI cJ cB cZ cL : ClassId) (p0 : Int32) (p1 : Int32) (wi : Nat) (wi_side : Int32) (wi_rule : Int32) (wi_begun : Int32) (wi_years : Int32) (wi_card : Int32) (wi_hurt : Int32) (wi_isEnd : Int32) (wi_worth : Nat) (sz : Nat) (hv_wi_side : ir wi_side.toInt 0 1) (hv_wi_begun : ir wi_begun.toInt 0 15) (hv_wi_years : ir wi_years.toInt 0 12) (hv_wi_isEnd : ir wi_isEnd.toInt 0 1) : Met l yX9_sentBy v_X9_sentBy ({ frames := 1, cells := 0, slots := 0, locals := 23 }) (va_Pc [.ref wi, .int p0, .int p1] (pRO g (tyT cI cJ cB cZ cL) [(wi, .inr (9, [.int wi_side, .int wi_rule, .int wi_begun, .int wi_years, .int wi_card, .int wi_hurt, .int wi_isEnd, .ref wi_worth]))] sz)) (va_Qi (fun (r : Int32) (u : Unit) => True) (fun (_ : Unit) (_ : State) => True) (va_A [] sz)) 0 0 (va_A [] sz) := by
  refine Met.ofW (cc := cX9_sentBy) (maxL := 6) (ret := (some .int)) (by decide) rfl ?_
  intro p e s m args below meth c s₁ B hml hv
  obtain ⟨rfl, hsz, hP, hK⟩ := hv
  have hx := B.exec
  have hb := B.bytes
  have hr := B.returns
  have hts := atoms_spec (ws := v_X9_sentBy) B.pre
  have hown : s.vm.findClass RX9 = some m.cls := findClass_of_methodNamed B.named
  have hlocks := B.notSynchronized
  clear B
  subst hsz
  have iX9 : ∀ w ∈ wsX90, w ∈ v_X9_sentBy := (fun _ h => List.mem_cons_of_mem _ (List.mem_append_right _ (List.mem_append_right _ (List.mem_append_right _ (List.mem_append_right _ (List.mem_append_left _ h))))))
  generalize hAe : (va_A [] s.heap.size) = A
  have hA : ∀ q : Nat, s.heap.size ≤ q → A q := fun q h => by rw [← hAe]; exact Or.inr h
  have hS : va_S A s.heap s.heap [] := va_S.rf
  have hl := lv_entry ([.ref wi, .int p0, .int p1]) (n := 6) (Nat.le_of_ble_eq_true rfl)
  rw [lg_entry_eq]
  generalize (lg_sl ([.ref wi, .int p0, .int p1]) ++ List.replicate (6 - (lg_sl ([.ref wi, .int p0, .int p1])).length) Slot.unset).toArray = ls at hl ⊢
  generalize ([.ref wi, .int p0, .int p1] : List Value).toArray = av at hts ⊢
  generalize hQ : MQ below _ av s _ _ A = QQ
  have hl : lv_has ls 6 [(0, .ref wi), (1, .int p0), (2, .int p1)] := hl
  have hP : va_P g vwCl [(wi, .inr (9, [.int wi_side, .int wi_rule, .int wi_begun, .int wi_years, .int wi_card, .int wi_hurt, .int wi_isEnd, .ref wi_worth]))] s.heap := hP
  refine lv_aload_n hx hb dX9_sentBy_0 rfl (lv_at hl 0 rfl) ?_
  refine va_get (D := g) (ci := 9) (v := .int wi_side) (C := RX9) (T := TX9) (N := 8) hx hb hts iX9 hown hK hP 0 rfl rfl 0 (by decide) (hts (.fieldLink RX9 23 "CardsAtYule$Will" "side" "I") (List.mem_cons_of_mem _ (List.mem_append_left _ (List.mem_of_getElem? (i := 0) rfl)))) (fun _ h9 => h9) rfl dX9_sentBy_1 ?_
  have J15 : ∀ (j15_s0 : Int32) (H : Heap) (locs : List Loc) (ls : Array Slot), va_P g vwCl [(wi, .inr (9, [.int wi_side, .int wi_rule, .int wi_begun, .int wi_years, .int wi_card, .int wi_hurt, .int wi_isEnd, .ref wi_worth]))] H → va_S A s.heap H locs → lv_has ls 6 [(0, .ref wi), (1, .int p0), (2, .int p1)] → W p l e (headSpec v_X9_sentBy ({ frames := 1, cells := 0, slots := 0, locals := 23 })).room s m av below meth c H locs 0 0 QQ (F0 m 15 ls [.int j15_s0]) := by
    intro j15_s0 H locs ls  hP hS hl
    refine lv_istore_n (lv' := [(3, .int j15_s0), (0, .ref wi), (1, .int p0), (2, .int p1)]) hx hb dX9_sentBy_15 rfl hl (by decide) rfl (fun ls hl => ?_)
    refine lv_aload_n hx hb dX9_sentBy_16 rfl (lv_at hl 1 rfl) ?_
    refine va_get (D := g) (ci := 9) (v := .int wi_side) (C := RX9) (T := TX9) (N := 8) hx hb hts iX9 hown hK hP 0 rfl rfl 0 (by decide) (hts (.fieldLink RX9 23 "CardsAtYule$Will" "side" "I") (List.mem_cons_of_mem _ (List.mem_append_left _ (List.mem_of_getElem? (i := 0) rfl)))) (fun _ h9 => h9) rfl dX9_sentBy_17 ?_
    have J31 : ∀ (j31_s0 : Int32) (H : Heap) (locs : List Loc) (ls : Array Slot), va_P g vwCl [(wi, .inr (9, [.int wi_side, .int wi_rule, .int wi_begun, .int wi_years, .int wi_card, .int wi_hurt, .int wi_isEnd, .ref wi_worth]))] H → va_S A s.heap H locs → lv_has ls 6 [(0, .ref wi), (1, .int p0), (2, .int p1), (3, .int j15_s0)] → W p l e (headSpec v_X9_sentBy ({ frames := 1, cells := 0, slots := 0, locals := 23 })).room s m av below meth c H locs 0 0 QQ (F0 m 31 ls [.int j31_s0]) := by
      intro j31_s0 H locs ls  hP hS hl
      refine lv_istore (lv' := [(4, .int j31_s0), (0, .ref wi), (1, .int p0), (2, .int p1), (3, .int j15_s0)]) hx hb dX9_sentBy_31 hl (by decide) rfl (fun ls hl => ?_)
      refine lv_iload_n hx hb dX9_sentBy_33 rfl (lv_at hl 4 rfl) ?_
      refine lv_iload hx hb dX9_sentBy_34 (lv_at hl 0 rfl) ?_
      refine lv_iload_n hx hb dX9_sentBy_36 rfl (lv_at hl 2 rfl) ?_
      refine ro_i (va_runS (As := [.int j15_s0, .int j31_s0, .int p0]) (rest := []) ⟨hx, hb, hml, hown, hts⟩ (q_X10_firsts l g cI cJ cB cZ cL j15_s0 j31_s0 p0 H.size ) (va_cwS 3 hts (goodIn_app (g_3 (List.mem_cons_of_mem _ (List.mem_append_left _ (List.mem_of_getElem? (i := 1) rfl))) (List.mem_cons_of_mem _ (List.mem_append_left _ (List.mem_of_getElem? (i := 2) rfl))) (List.mem_cons_of_mem _ (List.mem_append_left _ (List.mem_of_getElem? (i := 3) rfl))) (by decide +kernel)) (goodIn_sub (fun _ h => List.mem_cons_of_mem _ (List.mem_append_right _ (List.mem_append_left _ h))) good_v_X10_firsts)) rfl rfl rfl (by decide +kernel) ⟨Nat.le_of_ble_eq_true rfl, Nat.le_of_ble_eq_true rfl⟩) (ps_RO (wc := []) hK hP [] rfl) rfl rfl hl.1 rfl (lv_room (Nat.le_of_ble_eq_true rfl)) dX9_sentBy_37 ⟨Nat.le_of_ble_eq_true rfl, Nat.le_of_ble_eq_true rfl⟩) hS hA hP (fun r37 u37 H locs hw37 hP hS => ?_)
      have hw37_0 := hw37
      refine lv_iload_n hx hb dX9_sentBy_40 rfl (lv_at hl 3 rfl) ?_
      refine lv_aload_n hx hb dX9_sentBy_41 rfl (lv_at hl 1 rfl) ?_
      refine va_get (D := g) (ci := 9) (v := .int wi_side) (C := RX9) (T := TX9) (N := 8) hx hb hts iX9 hown hK hP 0 rfl rfl 0 (by decide) (hts (.fieldLink RX9 23 "CardsAtYule$Will" "side" "I") (List.mem_cons_of_mem _ (List.mem_append_left _ (List.mem_of_getElem? (i := 0) rfl)))) (fun _ h9 => h9) rfl dX9_sentBy_42 ?_
      refine lv_ishl hx hb dX9_sentBy_45 ?_
      refine lv_topi (fun y45 e45 => ?_)
      refine lv_ior hx hb dX9_sentBy_46 ?_
      refine lv_topi (fun y46 e46 => ?_)
      refine lv_istore (lv' := [(5, .int y46), (4, .int j31_s0), (0, .ref wi), (1, .int p0), (2, .int p1), (3, .int j15_s0)]) hx hb dX9_sentBy_47 hl (by decide) rfl (fun ls hl => ?_)
      refine lv_iload hx hb dX9_sentBy_49 (lv_at hl 0 rfl) ?_
      refine lv_iload hx hb dX9_sentBy_51 (lv_at hl 0 rfl) ?_
      refine lv_iload_n hx hb dX9_sentBy_53 rfl (lv_at hl 5 rfl) ?_
      refine lv_iload hx hb dX9_sentBy_54 (lv_at hl 1 rfl) ?_
      refine ro_i (va_runS (As := [.int j15_s0, .int j31_s0]) (rest := [.int y46, .int y46]) ⟨hx, hb, hml, hown, hts⟩ (q_X10_returning l g cI cJ cB cZ cL j15_s0 j31_s0 H.size ) (va_cwS 2 hts (goodIn_app (g_3 (List.mem_cons_of_mem _ (List.mem_append_left _ (List.mem_of_getElem? (i := 4) rfl))) (List.mem_cons_of_mem _ (List.mem_append_left _ (List.mem_of_getElem? (i := 5) rfl))) (List.mem_cons_of_mem _ (List.mem_append_left _ (List.mem_of_getElem? (i := 3) rfl))) (by decide +kernel)) (goodIn_sub (fun _ h => List.mem_cons_of_mem _ (List.mem_append_right _ (List.mem_append_right _ (List.mem_append_left _ h)))) good_v_X10_returning)) rfl rfl rfl (by decide +kernel) ⟨Nat.le_of_ble_eq_true rfl, Nat.le_of_ble_eq_true rfl⟩) (ps_RO (wc := []) hK hP [] rfl) rfl rfl hl.1 rfl (lv_room (Nat.le_of_ble_eq_true rfl)) dX9_sentBy_56 ⟨Nat.le_of_ble_eq_true rfl, Nat.le_of_ble_eq_true rfl⟩) hS hA hP (fun r56 u56 H locs hw56 hP hS => ?_)
      have hw56_0 := hw56
      refine lv_iconst (v := 3) hx hb dX9_sentBy_59 (by decide) ?_
      refine ro_i (va_runS (As := [.int y46, .int r56, .int 3]) (rest := [.int y46]) ⟨hx, hb, hml, hown, hts⟩ (q_X10_backs l g cI cJ cB cZ cL y46 r56 3 H.size hw56_0) (va_cwS 3 hts (goodIn_app (g_3 (List.mem_cons_of_mem _ (List.mem_append_left _ (List.mem_of_getElem? (i := 6) rfl))) (List.mem_cons_of_mem _ (List.mem_append_left _ (List.mem_of_getElem? (i := 7) rfl))) (List.mem_cons_of_mem _ (List.mem_append_left _ (List.mem_of_getElem? (i := 3) rfl))) (by decide +kernel)) (goodIn_sub (fun _ h => List.mem_cons_of_mem _ (List.mem_append_right _ (List.mem_append_right _ (List.mem_append_right _ (List.mem_append_left _ h))))) good_v_X10_backs)) rfl rfl rfl (by decide +kernel) ⟨Nat.le_of_ble_eq_true rfl, Nat.le_of_ble_eq_true rfl⟩) (ps_RO (wc := []) hK hP [] rfl) rfl rfl hl.1 rfl (lv_room (Nat.le_of_ble_eq_true rfl)) dX9_sentBy_60 ⟨Nat.le_of_ble_eq_true rfl, Nat.le_of_ble_eq_true rfl⟩) hS hA hP (fun r60 u60 H locs hw60 hP hS => ?_)
      have hw60_0 := hw60
      refine lv_ior hx hb dX9_sentBy_63 ?_
      refine lv_topi (fun y63 e63 => ?_)
      subst hQ
      exact W.iret (v := y63) hx hb hr (fun t ht hW => ⟨⟨y63, (), rfl, trivial, trivial⟩, hS.F ht⟩) hS.2.2 dX9_sentBy_64
    refine lv_if_ne (tgt := 30) hx hb dX9_sentBy_20 (by decide) (fun c20 => ?_) (fun c20 => ?_)
    · have f20 := (show wi_side.toInt ≠ 0 from z_ne rfl rfl c20)
      have r20a : ir wi_side.toInt 1 1 := ir_nel f20 hv_wi_side (by decide) (by decide)
      refine lv_iconst (v := 0) hx hb dX9_sentBy_30 (by decide) ?_
      exact J31 0 _ _ _  (hP.sub [0] rfl) hS (lv_sub hl [1, 2, 3, 0] rfl)
    have f20 := (show wi_side.toInt = 0 from z_eq rfl rfl c20)
    have r20a : ir wi_side.toInt 0 0 := ir_eqa f20 hv_wi_side (ir_c 0) (by decide) (by decide)
    refine lv_aload_n hx hb dX9_sentBy_23 rfl (lv_at hl 1 rfl) ?_
    refine va_get (D := g) (ci := 9) (v := .int wi_rule) (C := RX9) (T := TX9) (N := 8) hx hb hts iX9 hown hK hP 0 rfl rfl 1 (by decide) (hts (.fieldLink RX9 27 "CardsAtYule$Will" "rule" "I") (List.mem_cons_of_mem _ (List.mem_append_left _ (List.mem_of_getElem? (i := 8) rfl)))) (fun _ h9 => h9) rfl dX9_sentBy_24 ?_
    refine lv_goto (tgt := 31) hx hb dX9_sentBy_27 (by decide) ?_
    exact J31 wi_rule _ _ _  (hP.sub [0] rfl) hS (lv_sub hl [1, 2, 3, 0] rfl)
  refine lv_if_ne (tgt := 11) hx hb dX9_sentBy_4 (by decide) (fun c4 => ?_) (fun c4 => ?_)
  rotate_left 1
  · have f4 := (show wi_side.toInt = 0 from z_eq rfl rfl c4)
    have r4a : ir wi_side.toInt 0 0 := ir_eqa f4 hv_wi_side (ir_c 0) (by decide) (by decide)
    refine lv_iconst (v := 0) hx hb dX9_sentBy_7 (by decide) ?_
    refine lv_goto (tgt := 15) hx hb dX9_sentBy_8 (by decide) ?_
    exact J15 0 _ _ _  (hP.sub [0] rfl) hS (lv_sub hl [0, 1, 2] rfl)
  have f4 := (show wi_side.toInt ≠ 0 from z_ne rfl rfl c4)
  have r4a : ir wi_side.toInt 1 1 := ir_nel f4 hv_wi_side (by decide) (by decide)
  refine lv_aload_n hx hb dX9_sentBy_11 rfl (lv_at hl 0 rfl) ?_
  refine va_get (D := g) (ci := 9) (v := .int wi_rule) (C := RX9) (T := TX9) (N := 8) hx hb hts iX9 hown hK hP 0 rfl rfl 1 (by decide) (hts (.fieldLink RX9 27 "CardsAtYule$Will" "rule" "I") (List.mem_cons_of_mem _ (List.mem_append_left _ (List.mem_of_getElem? (i := 8) rfl)))) (fun _ h9 => h9) rfl dX9_sentBy_12 ?_
  exact J15 wi_rule _ _ _  (hP.sub [0] rfl) hS (lv_sub hl [0, 1, 2] rfl)
