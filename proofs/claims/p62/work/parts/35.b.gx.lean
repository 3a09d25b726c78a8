def v_X9_planEnd : List Cond := .code yX9_planEnd cX9_planEnd 7 none :: (([.methodLink RX9 15 yX9_take, .instanceMethod yX9_take, .selects RX9 yX9_take yX9_take, .initialized RX9, .fieldLink RX9 19 "CardsAtYule$Will" "isEnd" "Z", .methodLink RX9 44 yX9_goBack, .instanceMethod yX9_goBack, .selects RX9 yX9_goBack yX9_goBack, .fieldLink RX9 23 "CardsAtYule$Will" "side" "I", .methodLink RX9 30 yX3_find, .instanceMethod yX3_find, .selects RX3 yX3_find yX3_find, .initialized RX3, .fieldLink RX9 9 "CardsAtYule$Will" "worth" "[I", .fieldLink RX9 36 "CardsAtYule$Will" "years" "I", .methodLink RX9 39 yX3_kind, .instanceMethod yX3_kind, .selects RX3 yX3_kind yX3_kind, .constant RX9 43 (1000000), .fieldLink RX9 27 "CardsAtYule$Will" "rule" "I"] : List Cond) ++ (v_X9_take ++ (v_X9_goBack ++ (v_X3_find ++ (v_X3_kind ++ (wsX90 ++ ([] : List Cond)))))))
theorem good_v_X9_planEnd : v_X9_planEnd.all goodWord = true := ga_c (by decide +kernel) (ga_a (by decide +kernel) (ga_a good_v_X9_take (ga_a good_v_X9_goBack (ga_a good_v_X3_find (ga_a good_v_X3_kind (ga_a good_wsX90 rfl))))))
set_option maxHeartbeats 4000000 in
set_option maxRecDepth 100000 in
theorem q_X9_planEnd (l : Launch) (g : va_G) (cI cJ cB cZ cL : ClassId) (p1 : Int32) (p2 : Int32) (p3 : Int32) (wi : Nat) (ld : Nat) (fa : Nat) (wi_side : Int32) (wi_rule : Int32) (wi_begun : Int32) (wi_years : Int32) (wi_card : Int32) (wi_hurt : Int32) (wi_isEnd : Int32) (wi_worth : Nat) (ld_lines : Int32) (ld_years : Int32) (ld_card : Int32) (ld_hurt : Int32) (ld_people : Int32) (ld_pairs : Int32) (ld_strikes : Int64) (ld_rule : Nat) (ld_returns : Nat) (ld_forgets : Nat) (ld_death : Nat) (ld_move : Nat) (ld_begun : Nat) (ld_who : Nat) (ld_lost : Nat) (ld_who_c : Nat → Int32) (ld_rule_c : Nat → Int32) (ld_returns_c : Nat → Int32) (ld_begun_c : Nat → Int32) (fa_begins : Int32) (fa_length : Int32) (fa_cards : Int32) (fa_round : Int32) (fa_rule0 : Int32) (fa_rule1 : Int32) (fa_yearOf : Nat) (fa_yearOf_c : Nat → Int32) (wi_worth_c : Nat → Int32) (sz : Nat) (hv_p1 : ir p1.toInt 0 15) (hv_p2 : ir p2.toInt 0 1) (hv_p3 : ir p3.toInt 1 12) (hv_wi_side : ir wi_side.toInt 0 1) (hv_wi_begun : ir wi_begun.toInt 0 15) (hv_wi_years : ir wi_years.toInt 0 12) (hv_wi_isEnd : ir wi_isEnd.toInt 0 1) (hv_ld_years : ir ld_years.toInt 0 40) (hv_ld_people : ir ld_people.toInt 0 10) (hv_ld_pairs : ir ld_pairs.toInt 0 16) (ha_ld_who_c : ar ld_who_c 32 0 9) (ha_ld_begun_c : ar ld_begun_c 16 0 15) (hv_fa_round : ir fa_round.toInt 0 15) : Met l yX9_planEnd v_X9_planEnd ({ frames := 5, cells := 0, slots := 0, locals := 118 }) (va_Pc [.ref wi, .ref ld, .int p1, .int p2, .int p3, .ref fa] (pRW g (tyT cI cJ cB cZ cL) [(wi, .inr (9, [.int wi_side, .int wi_rule, .int wi_begun, .int wi_years, .int wi_card, .int wi_hurt, .int wi_isEnd, .ref wi_worth])), (ld, .inr (4, [.int ld_lines, .int ld_years, .int ld_card, .int ld_hurt, .int ld_people, .int ld_pairs, .long ld_strikes, .ref ld_rule, .ref ld_returns, .ref ld_forgets, .ref ld_death, .ref ld_move, .ref ld_begun, .ref ld_who, .ref ld_lost])), (ld_who, .inl (cI, 32, .inl ld_who_c)), (ld_rule, .inl (cI, 10, .inl ld_rule_c)), (ld_returns, .inl (cI, 10, .inl ld_returns_c)), (ld_begun, .inl (cI, 16, .inl ld_begun_c)), (fa, .inr (3, [.int fa_begins, .int fa_length, .int fa_cards, .int fa_round, .int fa_rule0, .int fa_rule1, .ref fa_yearOf])), (fa_yearOf, .inl (cI, 16, .inl fa_yearOf_c)), (wi_worth, .inl (cI, 208, .inl wi_worth_c))] sz)) (va_Qv (fun (u : Int32 × Int32 × Int32 × Int32 × Int32 × Int32 × Int32 × Int32 × Int32 × Int32 × Int32 × Int32 × Int32 × (Nat → Int32) × (Nat → Int32)) => match u with | (n_wi_side, n_wi_rule, n_wi_begun, n_wi_years, n_wi_card, n_wi_hurt, n_wi_isEnd, n_fa_begins, n_fa_length, n_fa_cards, n_fa_round, n_fa_rule0, n_fa_rule1, n_fa_yearOf_c, n_wi_worth_c) => (ir n_wi_side.toInt 0 1) ∧ (ir n_wi_begun.toInt 0 15) ∧ (ir n_wi_years.toInt 1 12) ∧ (ir n_wi_isEnd.toInt 1 1) ∧ (ir n_fa_round.toInt 0 15)) (fun (u : Int32 × Int32 × Int32 × Int32 × Int32 × Int32 × Int32 × Int32 × Int32 × Int32 × Int32 × Int32 × Int32 × (Nat → Int32) × (Nat → Int32)) (t : State) => bRW g (tyT cI cJ cB cZ cL) (va_A [(wi, .inr (9, [.int wi_side, .int wi_rule, .int wi_begun, .int wi_years, .int wi_card, .int wi_hurt, .int wi_isEnd, .ref wi_worth])), (ld, .inr (4, [.int ld_lines, .int ld_years, .int ld_card, .int ld_hurt, .int ld_people, .int ld_pairs, .long ld_strikes, .ref ld_rule, .ref ld_returns, .ref ld_forgets, .ref ld_death, .ref ld_move, .ref ld_begun, .ref ld_who, .ref ld_lost])), (ld_who, .inl (cI, 32, .inl ld_who_c)), (ld_rule, .inl (cI, 10, .inl ld_rule_c)), (ld_returns, .inl (cI, 10, .inl ld_returns_c)), (ld_begun, .inl (cI, 16, .inl ld_begun_c)), (fa, .inr (3, [.int fa_begins, .int fa_length, .int fa_cards, .int fa_round, .int fa_rule0, .int fa_rule1, .ref fa_yearOf])), (fa_yearOf, .inl (cI, 16, .inl fa_yearOf_c)), (wi_worth, .inl (cI, 208, .inl wi_worth_c))] sz) (match u with | (n_wi_side, n_wi_rule, n_wi_begun, n_wi_years, n_wi_card, n_wi_hurt, n_wi_isEnd, n_fa_begins, n_fa_length, n_fa_cards, n_fa_round, n_fa_rule0, n_fa_rule1, n_fa_yearOf_c, n_wi_worth_c) => [(wi, .inr (9, [.int n_wi_side, .int n_wi_rule, .int n_wi_begun, .int n_wi_years, .int n_wi_card, .int n_wi_hurt, .int n_wi_isEnd, .ref wi_worth])), (ld, .inr (4, [.int ld_lines, .int ld_years, .int ld_card, .int ld_hurt, .int ld_people, .int ld_pairs, .long ld_strikes, .ref ld_rule, .ref ld_returns, .ref ld_forgets, .ref ld_death, .ref ld_move, .ref ld_begun, .ref ld_who, .ref ld_lost])), (ld_who, .inl (cI, 32, .inl ld_who_c)), (ld_rule, .inl (cI, 10, .inl ld_rule_c)), (ld_returns, .inl (cI, 10, .inl ld_returns_c)), (ld_begun, .inl (cI, 16, .inl ld_begun_c)), (fa, .inr (3, [.int n_fa_begins, .int n_fa_length, .int n_fa_cards, .int n_fa_round, .int n_fa_rule0, .int n_fa_rule1, .ref fa_yearOf])), (fa_yearOf, .inl (cI, 16, .inl n_fa_yearOf_c)), (wi_worth, .inl (cI, 208, .inl n_wi_worth_c))]) t) (va_A [(wi, .inr (9, [.int wi_side, .int wi_rule, .int wi_begun, .int wi_years, .int wi_card, .int wi_hurt, .int wi_isEnd, .ref wi_worth])), (ld, .inr (4, [.int ld_lines, .int ld_years, .int ld_card, .int ld_hurt, .int ld_people, .int ld_pairs, .long ld_strikes, .ref ld_rule, .ref ld_returns, .ref ld_forgets, .ref ld_death, .ref ld_move, .ref ld_begun, .ref ld_who, .ref ld_lost])), (ld_who, .inl (cI, 32, .inl ld_who_c)), (ld_rule, .inl (cI, 10, .inl ld_rule_c)), (ld_returns, .inl (cI, 10, .inl ld_returns_c)), (ld_begun, .inl (cI, 16, .inl ld_begun_c)), (fa, .inr (3, [.int fa_begins, .int fa_length, .int fa_cards, .int fa_round, .int fa_rule0, .int fa_rule1, .ref fa_yearOf])), (fa_yearOf, .inl (cI, 16, .inl fa_yearOf_c)), (wi_worth, .inl (cI, 208, .inl wi_worth_c))] sz)) 0 0 (va_A [(wi, .inr (9, [.int wi_side, .int wi_rule, .int wi_begun, .int wi_years, .int wi_card, .int wi_hurt, .int wi_isEnd, .ref wi_worth])), (ld, .inr (4, [.int ld_lines, .int ld_years, .int ld_card, .int ld_hurt, .int ld_people, .int ld_pairs, .long ld_strikes, .ref ld_rule, .ref ld_returns, .ref ld_forgets, .ref ld_death, .ref ld_move, .ref ld_begun, .ref ld_who, .ref ld_lost])), (ld_who, .inl (cI, 32, .inl ld_who_c)), (ld_rule, .inl (cI, 10, .inl ld_rule_c)), (ld_returns, .inl (cI, 10, .inl ld_returns_c)), (ld_begun, .inl (cI, 16, .inl ld_begun_c)), (fa, .inr (3, [.int fa_begins, .int fa_length, .int fa_cards, .int fa_round, .int fa_rule0, .int fa_rule1, .ref fa_yearOf])), (fa_yearOf, .inl (cI, 16, .inl fa_yearOf_c)), (wi_worth, .inl (cI, 208, .inl wi_worth_c))] sz) := by
  refine Met.ofW (cc := cX9_planEnd) (maxL := 7) (ret := none) (by decide) rfl ?_
  intro p e s m args below meth c s₁ B hml hv
  obtain ⟨rfl, hsz, hP, hK, hD0⟩ := hv
  have hx := B.exec
  have hb := B.bytes
  have hr := B.returns
  have hts := atoms_spec (ws := v_X9_planEnd) B.pre
  have hown : s.vm.findClass RX9 = some m.cls := findClass_of_methodNamed B.named
  have hlocks := B.notSynchronized
  clear B
  subst hsz
  have iX9 : ∀ w ∈ wsX90, w ∈ v_X9_planEnd := (fun _ h => List.mem_cons_of_mem _ (List.mem_append_right _ (List.mem_append_right _ (List.mem_append_right _ (List.mem_append_right _ (List.mem_append_right _ (List.mem_append_left _ h)))))))
  have hD := hD0.self (sz := s.heap.size)
  generalize hAe : (va_A [(wi, .inr (9, [.int wi_side, .int wi_rule, .int wi_begun, .int wi_years, .int wi_card, .int wi_hurt, .int wi_isEnd, .ref wi_worth])), (ld, .inr (4, [.int ld_lines, .int ld_years, .int ld_card, .int ld_hurt, .int ld_people, .int ld_pairs, .long ld_strikes, .ref ld_rule, .ref ld_returns, .ref ld_forgets, .ref ld_death, .ref ld_move, .ref ld_begun, .ref ld_who, .ref ld_lost])), (ld_who, .inl (cI, 32, .inl ld_who_c)), (ld_rule, .inl (cI, 10, .inl ld_rule_c)), (ld_returns, .inl (cI, 10, .inl ld_returns_c)), (ld_begun, .inl (cI, 16, .inl ld_begun_c)), (fa, .inr (3, [.int fa_begins, .int fa_length, .int fa_cards, .int fa_round, .int fa_rule0, .int fa_rule1, .ref fa_yearOf])), (fa_yearOf, .inl (cI, 16, .inl fa_yearOf_c)), (wi_worth, .inl (cI, 208, .inl wi_worth_c))] s.heap.size) = A at hD ⊢
  have hA : ∀ q : Nat, s.heap.size ≤ q → A q := fun q h => by rw [← hAe]; exact Or.inr h
  have hS : va_S A s.heap s.heap [] := va_S.rf
  have hl := lv_entry ([.ref wi, .ref ld, .int p1, .int p2, .int p3, .ref fa]) (n := 7) (Nat.le_of_ble_eq_true rfl)
  rw [lg_entry_eq]
  generalize (lg_sl ([.ref wi, .ref ld, .int p1, .int p2, .int p3, .ref fa]) ++ List.replicate (7 - (lg_sl ([.ref wi, .ref ld, .int p1, .int p2, .int p3, .ref fa])).length) Slot.unset).toArray = ls at hl ⊢
  generalize ([.ref wi, .ref ld, .int p1, .int p2, .int p3, .ref fa] : List Value).toArray = av at hts ⊢
  generalize hQ : MQ below _ av s _ _ A = QQ
  have hl : lv_has ls 7 [(0, .ref wi), (1, .ref ld), (2, .int p1), (3, .int p2), (4, .int p3), (5, .ref fa)] := hl
  have hP : va_P g vwCl [(wi, .inr (9, [.int wi_side, .int wi_rule, .int wi_begun, .int wi_years, .int wi_card, .int wi_hurt, .int wi_isEnd, .ref wi_worth])), (ld, .inr (4, [.int ld_lines, .int ld_years, .int ld_card, .int ld_hurt, .int ld_people, .int ld_pairs, .long ld_strikes, .ref ld_rule, .ref ld_returns, .ref ld_forgets, .ref ld_death, .ref ld_move, .ref ld_begun, .ref ld_who, .ref ld_lost])), (ld_who, .inl (cI, 32, .inl ld_who_c)), (ld_rule, .inl (cI, 10, .inl ld_rule_c)), (ld_returns, .inl (cI, 10, .inl ld_returns_c)), (ld_begun, .inl (cI, 16, .inl ld_begun_c)), (fa, .inr (3, [.int fa_begins, .int fa_length, .int fa_cards, .int fa_round, .int fa_rule0, .int fa_rule1, .ref fa_yearOf])), (fa_yearOf, .inl (cI, 16, .inl fa_yearOf_c)), (wi_worth, .inl (cI, 208, .inl wi_worth_c))] s.heap := hP
  refine lv_aload_n hx hb dX9_planEnd_0 rfl (lv_at hl 0 rfl) ?_
  refine lv_aload_n hx hb dX9_planEnd_1 rfl (lv_at hl 1 rfl) ?_
  refine lv_iload_n hx hb dX9_planEnd_2 rfl (lv_at hl 2 rfl) ?_
  refine lv_iload_n hx hb dX9_planEnd_3 rfl (lv_at hl 3 rfl) ?_
  refine lv_iload hx hb dX9_planEnd_4 (lv_at hl 4 rfl) ?_
  refine rw_v (wr := [(fa, .inr (3, [.int fa_begins, .int fa_length, .int fa_cards, .int fa_round, .int fa_rule0, .int fa_rule1, .ref fa_yearOf])), (fa_yearOf, .inl (cI, 16, .inl fa_yearOf_c)), (wi_worth, .inl (cI, 208, .inl wi_worth_c))]) (va_runV (As := [.ref ld, .int p1, .int p2, .int p3]) (rest := []) ⟨hx, hb, hml, hown, hts⟩ (q_X9_take l g cI cJ cB cZ cL p1 p2 p3 wi ld wi_side wi_rule wi_begun wi_years wi_card wi_hurt wi_isEnd wi_worth ld_lines ld_years ld_card ld_hurt ld_people ld_pairs ld_strikes ld_rule ld_returns ld_forgets ld_death ld_move ld_begun ld_who ld_lost ld_who_c ld_rule_c ld_returns_c ld_begun_c s.heap.size hv_p1 hv_p2 hv_p3 hv_wi_side hv_wi_begun hv_wi_years hv_wi_isEnd hv_ld_years hv_ld_people hv_ld_pairs ha_ld_who_c ha_ld_begun_c) (cwV 4 hts (goodIn_app (g_4 (List.mem_cons_of_mem _ (List.mem_append_left _ (List.mem_of_getElem? (i := 0) rfl))) (List.mem_cons_of_mem _ (List.mem_append_left _ (List.mem_of_getElem? (i := 1) rfl))) (List.mem_cons_of_mem _ (List.mem_append_left _ (List.mem_of_getElem? (i := 2) rfl))) (List.mem_cons_of_mem _ (List.mem_append_left _ (List.mem_of_getElem? (i := 3) rfl))) (by decide +kernel)) (goodIn_sub (fun _ h => List.mem_cons_of_mem _ (List.mem_append_right _ (List.mem_append_left _ h))) good_v_X9_take)) rfl rfl rfl (by decide +kernel) ⟨Nat.le_of_ble_eq_true rfl, Nat.le_of_ble_eq_true rfl⟩) (pv_RW (q := (RX9, TX9, 8)) (ci := 9) (q0 := 0) (wc := [(wi, .inr (9, [.int wi_side, .int wi_rule, .int wi_begun, .int wi_years, .int wi_card, .int wi_hurt, .int wi_isEnd, .ref wi_worth])), (ld, .inr (4, [.int ld_lines, .int ld_years, .int ld_card, .int ld_hurt, .int ld_people, .int ld_pairs, .long ld_strikes, .ref ld_rule, .ref ld_returns, .ref ld_forgets, .ref ld_death, .ref ld_move, .ref ld_begun, .ref ld_who, .ref ld_lost])), (ld_who, .inl (cI, 32, .inl ld_who_c)), (ld_rule, .inl (cI, 10, .inl ld_rule_c)), (ld_returns, .inl (cI, 10, .inl ld_returns_c)), (ld_begun, .inl (cI, 16, .inl ld_begun_c))]) hK hP hD [0, 1, 2, 3, 4, 5] (by decide) rfl rfl rfl) rfl rfl hl.1 rfl (lv_room (Nat.le_of_ble_eq_true rfl)) dX9_planEnd_6 ⟨Nat.le_of_ble_eq_true rfl, Nat.le_of_ble_eq_true rfl⟩) hS hA hP hD [0, 1, 2, 3, 4, 5] [6, 7, 8] rfl rfl (by decide) (by decide) (fun u6 H locs hw6 hP hD hS => ?_)
  obtain ⟨n_wi_side_6, n_wi_rule_6, n_wi_begun_6, n_wi_years_6, n_wi_card_6, n_wi_hurt_6⟩ := u6
  have hP : va_P g vwCl [(fa, .inr (3, [.int fa_begins, .int fa_length, .int fa_cards, .int fa_round, .int fa_rule0, .int fa_rule1, .ref fa_yearOf])), (fa_yearOf, .inl (cI, 16, .inl fa_yearOf_c)), (wi_worth, .inl (cI, 208, .inl wi_worth_c)), (wi, .inr (9, [.int n_wi_side_6, .int n_wi_rule_6, .int n_wi_begun_6, .int n_wi_years_6, .int n_wi_card_6, .int n_wi_hurt_6, .int wi_isEnd, .ref wi_worth])), (ld, .inr (4, [.int ld_lines, .int ld_years, .int ld_card, .int ld_hurt, .int ld_people, .int ld_pairs, .long ld_strikes, .ref ld_rule, .ref ld_returns, .ref ld_forgets, .ref ld_death, .ref ld_move, .ref ld_begun, .ref ld_who, .ref ld_lost])), (ld_who, .inl (cI, 32, .inl ld_who_c)), (ld_rule, .inl (cI, 10, .inl ld_rule_c)), (ld_returns, .inl (cI, 10, .inl ld_returns_c)), (ld_begun, .inl (cI, 16, .inl ld_begun_c))] H := hP
  have hD : va_D A [(fa, .inr (3, [.int fa_begins, .int fa_length, .int fa_cards, .int fa_round, .int fa_rule0, .int fa_rule1, .ref fa_yearOf])), (fa_yearOf, .inl (cI, 16, .inl fa_yearOf_c)), (wi_worth, .inl (cI, 208, .inl wi_worth_c)), (wi, .inr (9, [.int n_wi_side_6, .int n_wi_rule_6, .int n_wi_begun_6, .int n_wi_years_6, .int n_wi_card_6, .int n_wi_hurt_6, .int wi_isEnd, .ref wi_worth])), (ld, .inr (4, [.int ld_lines, .int ld_years, .int ld_card, .int ld_hurt, .int ld_people, .int ld_pairs, .long ld_strikes, .ref ld_rule, .ref ld_returns, .ref ld_forgets, .ref ld_death, .ref ld_move, .ref ld_begun, .ref ld_who, .ref ld_lost])), (ld_who, .inl (cI, 32, .inl ld_who_c)), (ld_rule, .inl (cI, 10, .inl ld_rule_c)), (ld_returns, .inl (cI, 10, .inl ld_returns_c)), (ld_begun, .inl (cI, 16, .inl ld_begun_c))] := hD
  dsimp only at hw6
  obtain ⟨hw6_0, hw6_1, hw6_2⟩ := hw6
  refine lv_aload_n hx hb dX9_planEnd_9 rfl (lv_at hl 0 rfl) ?_
  refine lv_iconst (v := 1) hx hb dX9_planEnd_10 (by decide) ?_
  refine va_put (D := g) (ci := 9) (v := .int 1) (ty := .boolean) (C := RX9) (T := TX9) (N := 8) hx hb hts iX9 tyX9 tyX9_ok nmX9 hown hK hP hD hS 3 rfl rfl 6 (by decide) (hts (.fieldLink RX9 19 "CardsAtYule$Will" "isEnd" "Z") (List.mem_cons_of_mem _ (List.mem_append_left _ (List.mem_of_getElem? (i := 4) rfl)))) (fun _ h9 => h9) rfl (by decide +kernel) rfl rfl (Nat.le_of_ble_eq_true rfl) dX9_planEnd_11 (fun H locs hP hD hS => ?_)
  have hP : va_P g vwCl [(fa, .inr (3, [.int fa_begins, .int fa_length, .int fa_cards, .int fa_round, .int fa_rule0, .int fa_rule1, .ref fa_yearOf])), (fa_yearOf, .inl (cI, 16, .inl fa_yearOf_c)), (wi_worth, .inl (cI, 208, .inl wi_worth_c)), (wi, .inr (9, [.int n_wi_side_6, .int n_wi_rule_6, .int n_wi_begun_6, .int n_wi_years_6, .int n_wi_card_6, .int n_wi_hurt_6, .int 1, .ref wi_worth])), (ld, .inr (4, [.int ld_lines, .int ld_years, .int ld_card, .int ld_hurt, .int ld_people, .int ld_pairs, .long ld_strikes, .ref ld_rule, .ref ld_returns, .ref ld_forgets, .ref ld_death, .ref ld_move, .ref ld_begun, .ref ld_who, .ref ld_lost])), (ld_who, .inl (cI, 32, .inl ld_who_c)), (ld_rule, .inl (cI, 10, .inl ld_rule_c)), (ld_returns, .inl (cI, 10, .inl ld_returns_c)), (ld_begun, .inl (cI, 16, .inl ld_begun_c))] H := hP
  have hD : va_D A [(fa, .inr (3, [.int fa_begins, .int fa_length, .int fa_cards, .int fa_round, .int fa_rule0, .int fa_rule1, .ref fa_yearOf])), (fa_yearOf, .inl (cI, 16, .inl fa_yearOf_c)), (wi_worth, .inl (cI, 208, .inl wi_worth_c)), (wi, .inr (9, [.int n_wi_side_6, .int n_wi_rule_6, .int n_wi_begun_6, .int n_wi_years_6, .int n_wi_card_6, .int n_wi_hurt_6, .int 1, .ref wi_worth])), (ld, .inr (4, [.int ld_lines, .int ld_years, .int ld_card, .int ld_hurt, .int ld_people, .int ld_pairs, .long ld_strikes, .ref ld_rule, .ref ld_returns, .ref ld_forgets, .ref ld_death, .ref ld_move, .ref ld_begun, .ref ld_who, .ref ld_lost])), (ld_who, .inl (cI, 32, .inl ld_who_c)), (ld_rule, .inl (cI, 10, .inl ld_rule_c)), (ld_returns, .inl (cI, 10, .inl ld_returns_c)), (ld_begun, .inl (cI, 16, .inl ld_begun_c))] := hD
  refine lv_iconst (v := 0) hx hb dX9_planEnd_14 (by decide) ?_
  refine lv_istore (lv' := [(6, .int 0), (0, .ref wi), (1, .ref ld), (2, .int p1), (3, .int p2), (4, .int p3), (5, .ref fa)]) hx hb dX9_planEnd_15 hl (by decide) rfl (fun ls hl => ?_)
  have J17 : ∀ (n17 : Nat) (j17_l6 : Int32) (j17_fa_begins : Int32) (j17_fa_length : Int32) (j17_fa_cards : Int32) (j17_fa_round : Int32) (j17_fa_rule0 : Int32) (j17_fa_rule1 : Int32) (j17_fa_yearOf_c : Nat → Int32) (j17_wi_worth_c : Nat → Int32) (H : Heap) (locs : List Loc) (ls : Array Slot), (17 - j17_l6.toInt).toNat < n17 → (ir j17_l6.toInt 0 16) → (ir j17_fa_round.toInt 0 15) → va_P g vwCl [(fa, .inr (3, [.int j17_fa_begins, .int j17_fa_length, .int j17_fa_cards, .int j17_fa_round, .int j17_fa_rule0, .int j17_fa_rule1, .ref fa_yearOf])), (fa_yearOf, .inl (cI, 16, .inl j17_fa_yearOf_c)), (wi_worth, .inl (cI, 208, .inl j17_wi_worth_c)), (wi, .inr (9, [.int n_wi_side_6, .int n_wi_rule_6, .int n_wi_begun_6, .int n_wi_years_6, .int n_wi_card_6, .int n_wi_hurt_6, .int 1, .ref wi_worth])), (ld, .inr (4, [.int ld_lines, .int ld_years, .int ld_card, .int ld_hurt, .int ld_people, .int ld_pairs, .long ld_strikes, .ref ld_rule, .ref ld_returns, .ref ld_forgets, .ref ld_death, .ref ld_move, .ref ld_begun, .ref ld_who, .ref ld_lost])), (ld_who, .inl (cI, 32, .inl ld_who_c)), (ld_rule, .inl (cI, 10, .inl ld_rule_c)), (ld_returns, .inl (cI, 10, .inl ld_returns_c)), (ld_begun, .inl (cI, 16, .inl ld_begun_c))] H → va_D A [(fa, .inr (3, [.int j17_fa_begins, .int j17_fa_length, .int j17_fa_cards, .int j17_fa_round, .int j17_fa_rule0, .int j17_fa_rule1, .ref fa_yearOf])), (fa_yearOf, .inl (cI, 16, .inl j17_fa_yearOf_c)), (wi_worth, .inl (cI, 208, .inl j17_wi_worth_c)), (wi, .inr (9, [.int n_wi_side_6, .int n_wi_rule_6, .int n_wi_begun_6, .int n_wi_years_6, .int n_wi_card_6, .int n_wi_hurt_6, .int 1, .ref wi_worth])), (ld, .inr (4, [.int ld_lines, .int ld_years, .int ld_card, .int ld_hurt, .int ld_people, .int ld_pairs, .long ld_strikes, .ref ld_rule, .ref ld_returns, .ref ld_forgets, .ref ld_death, .ref ld_move, .ref ld_begun, .ref ld_who, .ref ld_lost])), (ld_who, .inl (cI, 32, .inl ld_who_c)), (ld_rule, .inl (cI, 10, .inl ld_rule_c)), (ld_returns, .inl (cI, 10, .inl ld_returns_c)), (ld_begun, .inl (cI, 16, .inl ld_begun_c))] → va_S A s.heap H locs → lv_has ls 7 [(0, .ref wi), (5, .ref fa), (6, .int j17_l6)] → W p l e (headSpec v_X9_planEnd ({ frames := 5, cells := 0, slots := 0, locals := 118 })).room s m av below meth c H locs 0 0 QQ (F0 m 17 ls []) := by
    intro n17
    induction n17 with
    | zero => exact fun j17_l6 j17_fa_begins j17_fa_length j17_fa_cards j17_fa_round j17_fa_rule0 j17_fa_rule1 j17_fa_yearOf_c j17_wi_worth_c H locs ls hn => absurd hn (Nat.not_lt_zero _)
    | succ n17 ih17 =>
      intro j17_l6 j17_fa_begins j17_fa_length j17_fa_cards j17_fa_round j17_fa_rule0 j17_fa_rule1 j17_fa_yearOf_c j17_wi_worth_c H locs ls hn17 hj17_l6 hj17_fa_round hP hD hS hl
      refine lv_iload hx hb dX9_planEnd_17 (lv_at hl 2 rfl) ?_
      refine lv_bipush (v := 16) hx hb dX9_planEnd_19 (by decide) ?_
      refine lv_icmp_ge (tgt := 96) hx hb dX9_planEnd_21 (by decide) (fun c21 => ?_) (fun c21 => ?_)
      · have f21 := (show 16 ≤ j17_l6.toInt from z_le rfl rfl c21)
        have r21a : ir j17_l6.toInt 16 16 := ir_leb f21 (ir_c 16) hj17_l6 (by decide)
        refine lv_aload_n hx hb dX9_planEnd_96 rfl (lv_at hl 0 rfl) ?_
        refine rw_v (wr := [(fa, .inr (3, [.int j17_fa_begins, .int j17_fa_length, .int j17_fa_cards, .int j17_fa_round, .int j17_fa_rule0, .int j17_fa_rule1, .ref fa_yearOf])), (fa_yearOf, .inl (cI, 16, .inl j17_fa_yearOf_c)), (ld, .inr (4, [.int ld_lines, .int ld_years, .int ld_card, .int ld_hurt, .int ld_people, .int ld_pairs, .long ld_strikes, .ref ld_rule, .ref ld_returns, .ref ld_forgets, .ref ld_death, .ref ld_move, .ref ld_begun, .ref ld_who, .ref ld_lost])), (ld_who, .inl (cI, 32, .inl ld_who_c)), (ld_rule, .inl (cI, 10, .inl ld_rule_c)), (ld_returns, .inl (cI, 10, .inl ld_returns_c)), (ld_begun, .inl (cI, 16, .inl ld_begun_c))]) (va_runV (As := []) (rest := []) ⟨hx, hb, hml, hown, hts⟩ (q_X9_goBack l g cI cJ cB cZ cL wi n_wi_side_6 n_wi_rule_6 n_wi_begun_6 n_wi_years_6 n_wi_card_6 n_wi_hurt_6 1 wi_worth j17_wi_worth_c H.size hw6_0 hw6_1 (ir_w hw6_2 (by decide) (by decide)) (by decide)) (cwV 0 hts (goodIn_app (g_4 (List.mem_cons_of_mem _ (List.mem_append_left _ (List.mem_of_getElem? (i := 5) rfl))) (List.mem_cons_of_mem _ (List.mem_append_left _ (List.mem_of_getElem? (i := 6) rfl))) (List.mem_cons_of_mem _ (List.mem_append_left _ (List.mem_of_getElem? (i := 7) rfl))) (List.mem_cons_of_mem _ (List.mem_append_left _ (List.mem_of_getElem? (i := 3) rfl))) (by decide +kernel)) (goodIn_sub (fun _ h => List.mem_cons_of_mem _ (List.mem_append_right _ (List.mem_append_right _ (List.mem_append_left _ h)))) good_v_X9_goBack)) rfl rfl rfl (by decide +kernel) ⟨Nat.le_of_ble_eq_true rfl, Nat.le_of_ble_eq_true rfl⟩) (pv_RW (q := (RX9, TX9, 8)) (ci := 9) (q0 := 0) (wc := [(wi, .inr (9, [.int n_wi_side_6, .int n_wi_rule_6, .int n_wi_begun_6, .int n_wi_years_6, .int n_wi_card_6, .int n_wi_hurt_6, .int 1, .ref wi_worth])), (wi_worth, .inl (cI, 208, .inl j17_wi_worth_c))]) hK hP hD [3, 2] (by decide) rfl rfl rfl) rfl rfl hl.1 rfl (lv_room (Nat.le_of_ble_eq_true rfl)) dX9_planEnd_97 ⟨Nat.le_of_ble_eq_true rfl, Nat.le_of_ble_eq_true rfl⟩) hS hA hP hD [3, 2] [0, 1, 4, 5, 6, 7, 8] rfl rfl (by decide) (by decide) (fun u97 H locs hw97 hP hD hS => ?_)
        generalize u97 = n_wi_worth_c_97 at hw97 hP hD
        have hP : va_P g vwCl [(fa, .inr (3, [.int j17_fa_begins, .int j17_fa_length, .int j17_fa_cards, .int j17_fa_round, .int j17_fa_rule0, .int j17_fa_rule1, .ref fa_yearOf])), (fa_yearOf, .inl (cI, 16, .inl j17_fa_yearOf_c)), (ld, .inr (4, [.int ld_lines, .int ld_years, .int ld_card, .int ld_hurt, .int ld_people, .int ld_pairs, .long ld_strikes, .ref ld_rule, .ref ld_returns, .ref ld_forgets, .ref ld_death, .ref ld_move, .ref ld_begun, .ref ld_who, .ref ld_lost])), (ld_who, .inl (cI, 32, .inl ld_who_c)), (ld_rule, .inl (cI, 10, .inl ld_rule_c)), (ld_returns, .inl (cI, 10, .inl ld_returns_c)), (ld_begun, .inl (cI, 16, .inl ld_begun_c)), (wi, .inr (9, [.int n_wi_side_6, .int n_wi_rule_6, .int n_wi_begun_6, .int n_wi_years_6, .int n_wi_card_6, .int n_wi_hurt_6, .int 1, .ref wi_worth])), (wi_worth, .inl (cI, 208, .inl n_wi_worth_c_97))] H := hP
        have hD : va_D A [(fa, .inr (3, [.int j17_fa_begins, .int j17_fa_length, .int j17_fa_cards, .int j17_fa_round, .int j17_fa_rule0, .int j17_fa_rule1, .ref fa_yearOf])), (fa_yearOf, .inl (cI, 16, .inl j17_fa_yearOf_c)), (ld, .inr (4, [.int ld_lines, .int ld_years, .int ld_card, .int ld_hurt, .int ld_people, .int ld_pairs, .long ld_strikes, .ref ld_rule, .ref ld_returns, .ref ld_forgets, .ref ld_death, .ref ld_move, .ref ld_begun, .ref ld_who, .ref ld_lost])), (ld_who, .inl (cI, 32, .inl ld_who_c)), (ld_rule, .inl (cI, 10, .inl ld_rule_c)), (ld_returns, .inl (cI, 10, .inl ld_returns_c)), (ld_begun, .inl (cI, 16, .inl ld_begun_c)), (wi, .inr (9, [.int n_wi_side_6, .int n_wi_rule_6, .int n_wi_begun_6, .int n_wi_years_6, .int n_wi_card_6, .int n_wi_hurt_6, .int 1, .ref wi_worth])), (wi_worth, .inl (cI, 208, .inl n_wi_worth_c_97))] := hD
        subst hQ
        have hP9 := hP.sub (ws' := [(wi, .inr (9, [.int n_wi_side_6, .int n_wi_rule_6, .int n_wi_begun_6, .int n_wi_years_6, .int n_wi_card_6, .int n_wi_hurt_6, .int 1, .ref wi_worth])), (ld, .inr (4, [.int ld_lines, .int ld_years, .int ld_card, .int ld_hurt, .int ld_people, .int ld_pairs, .long ld_strikes, .ref ld_rule, .ref ld_returns, .ref ld_forgets, .ref ld_death, .ref ld_move, .ref ld_begun, .ref ld_who, .ref ld_lost])), (ld_who, .inl (cI, 32, .inl ld_who_c)), (ld_rule, .inl (cI, 10, .inl ld_rule_c)), (ld_returns, .inl (cI, 10, .inl ld_returns_c)), (ld_begun, .inl (cI, 16, .inl ld_begun_c)), (fa, .inr (3, [.int j17_fa_begins, .int j17_fa_length, .int j17_fa_cards, .int j17_fa_round, .int j17_fa_rule0, .int j17_fa_rule1, .ref fa_yearOf])), (fa_yearOf, .inl (cI, 16, .inl j17_fa_yearOf_c)), (wi_worth, .inl (cI, 208, .inl n_wi_worth_c_97))]) [7, 2, 3, 4, 5, 6, 0, 1, 8] rfl
        have hD9 := hD.sub (ws' := [(wi, .inr (9, [.int n_wi_side_6, .int n_wi_rule_6, .int n_wi_begun_6, .int n_wi_years_6, .int n_wi_card_6, .int n_wi_hurt_6, .int 1, .ref wi_worth])), (ld, .inr (4, [.int ld_lines, .int ld_years, .int ld_card, .int ld_hurt, .int ld_people, .int ld_pairs, .long ld_strikes, .ref ld_rule, .ref ld_returns, .ref ld_forgets, .ref ld_death, .ref ld_move, .ref ld_begun, .ref ld_who, .ref ld_lost])), (ld_who, .inl (cI, 32, .inl ld_who_c)), (ld_rule, .inl (cI, 10, .inl ld_rule_c)), (ld_returns, .inl (cI, 10, .inl ld_returns_c)), (ld_begun, .inl (cI, 16, .inl ld_begun_c)), (fa, .inr (3, [.int j17_fa_begins, .int j17_fa_length, .int j17_fa_cards, .int j17_fa_round, .int j17_fa_rule0, .int j17_fa_rule1, .ref fa_yearOf])), (fa_yearOf, .inl (cI, 16, .inl j17_fa_yearOf_c)), (wi_worth, .inl (cI, 208, .inl n_wi_worth_c_97))]) [7, 2, 3, 4, 5, 6, 0, 1, 8] (by decide) rfl
        exact W.vret hx hb hr (fun t ht hW => ⟨⟨(n_wi_side_6, n_wi_rule_6, n_wi_begun_6, n_wi_years_6, n_wi_card_6, n_wi_hurt_6, 1, j17_fa_begins, j17_fa_length, j17_fa_cards, j17_fa_round, j17_fa_rule0, j17_fa_rule1, j17_fa_yearOf_c, n_wi_worth_c_97), rfl, ⟨hw6_0, hw6_1, hw6_2, (show ir (1 : Int32).toInt 1 1 by decide), hj17_fa_round⟩, ⟨by rw [ht]; exact hP9, va_K.moved hW.alike hK, hD9⟩⟩, hS.F ht⟩) hS.2.2 dX9_planEnd_100
      have f21 := (show j17_l6.toInt < 16 from z_nle rfl rfl c21)
      have r21a : ir j17_l6.toInt 0 15 := ir_lta f21 hj17_l6 (ir_c 16) (by decide)
      refine lv_aload hx hb dX9_planEnd_24 (lv_at hl 1 rfl) ?_
      refine lv_aload_n hx hb dX9_planEnd_26 rfl (lv_at hl 0 rfl) ?_
      refine va_get (D := g) (ci := 9) (v := .int n_wi_side_6) (C := RX9) (T := TX9) (N := 8) hx hb hts iX9 hown hK hP 3 rfl rfl 0 (by decide) (hts (.fieldLink RX9 23 "CardsAtYule$Will" "side" "I") (List.mem_cons_of_mem _ (List.mem_append_left _ (List.mem_of_getElem? (i := 8) rfl)))) (fun _ h9 => h9) rfl dX9_planEnd_27 ?_
      have J41 : ∀ (j41_s0 : Int32) (H : Heap) (locs : List Loc) (ls : Array Slot), va_P g vwCl [(fa, .inr (3, [.int j17_fa_begins, .int j17_fa_length, .int j17_fa_cards, .int j17_fa_round, .int j17_fa_rule0, .int j17_fa_rule1, .ref fa_yearOf])), (fa_yearOf, .inl (cI, 16, .inl j17_fa_yearOf_c)), (wi_worth, .inl (cI, 208, .inl j17_wi_worth_c)), (wi, .inr (9, [.int n_wi_side_6, .int n_wi_rule_6, .int n_wi_begun_6, .int n_wi_years_6, .int n_wi_card_6, .int n_wi_hurt_6, .int 1, .ref wi_worth])), (ld, .inr (4, [.int ld_lines, .int ld_years, .int ld_card, .int ld_hurt, .int ld_people, .int ld_pairs, .long ld_strikes, .ref ld_rule, .ref ld_returns, .ref ld_forgets, .ref ld_death, .ref ld_move, .ref ld_begun, .ref ld_who, .ref ld_lost])), (ld_who, .inl (cI, 32, .inl ld_who_c)), (ld_rule, .inl (cI, 10, .inl ld_rule_c)), (ld_returns, .inl (cI, 10, .inl ld_returns_c)), (ld_begun, .inl (cI, 16, .inl ld_begun_c))] H → va_D A [(fa, .inr (3, [.int j17_fa_begins, .int j17_fa_length, .int j17_fa_cards, .int j17_fa_round, .int j17_fa_rule0, .int j17_fa_rule1, .ref fa_yearOf])), (fa_yearOf, .inl (cI, 16, .inl j17_fa_yearOf_c)), (wi_worth, .inl (cI, 208, .inl j17_wi_worth_c)), (wi, .inr (9, [.int n_wi_side_6, .int n_wi_rule_6, .int n_wi_begun_6, .int n_wi_years_6, .int n_wi_card_6, .int n_wi_hurt_6, .int 1, .ref wi_worth])), (ld, .inr (4, [.int ld_lines, .int ld_years, .int ld_card, .int ld_hurt, .int ld_people, .int ld_pairs, .long ld_strikes, .ref ld_rule, .ref ld_returns, .ref ld_forgets, .ref ld_death, .ref ld_move, .ref ld_begun, .ref ld_who, .ref ld_lost])), (ld_who, .inl (cI, 32, .inl ld_who_c)), (ld_rule, .inl (cI, 10, .inl ld_rule_c)), (ld_returns, .inl (cI, 10, .inl ld_returns_c)), (ld_begun, .inl (cI, 16, .inl ld_begun_c))] → va_S A s.heap H locs → lv_has ls 7 [(0, .ref wi), (5, .ref fa), (6, .int j17_l6)] → W p l e (headSpec v_X9_planEnd ({ frames := 5, cells := 0, slots := 0, locals := 118 })).room s m av below meth c H locs 0 0 QQ (F0 m 41 ls [.int j41_s0, .ref fa]) := by
        intro j41_s0 H locs ls  hP hD hS hl
        refine lv_aload_n hx hb dX9_planEnd_41 rfl (lv_at hl 0 rfl) ?_
        refine va_get (D := g) (ci := 9) (v := .int n_wi_side_6) (C := RX9) (T := TX9) (N := 8) hx hb hts iX9 hown hK hP 3 rfl rfl 0 (by decide) (hts (.fieldLink RX9 23 "CardsAtYule$Will" "side" "I") (List.mem_cons_of_mem _ (List.mem_append_left _ (List.mem_of_getElem? (i := 8) rfl)))) (fun _ h9 => h9) rfl dX9_planEnd_42 ?_
        have J56 : ∀ (j56_s0 : Int32) (H : Heap) (locs : List Loc) (ls : Array Slot), va_P g vwCl [(fa, .inr (3, [.int j17_fa_begins, .int j17_fa_length, .int j17_fa_cards, .int j17_fa_round, .int j17_fa_rule0, .int j17_fa_rule1, .ref fa_yearOf])), (fa_yearOf, .inl (cI, 16, .inl j17_fa_yearOf_c)), (wi_worth, .inl (cI, 208, .inl j17_wi_worth_c)), (wi, .inr (9, [.int n_wi_side_6, .int n_wi_rule_6, .int n_wi_begun_6, .int n_wi_years_6, .int n_wi_card_6, .int n_wi_hurt_6, .int 1, .ref wi_worth])), (ld, .inr (4, [.int ld_lines, .int ld_years, .int ld_card, .int ld_hurt, .int ld_people, .int ld_pairs, .long ld_strikes, .ref ld_rule, .ref ld_returns, .ref ld_forgets, .ref ld_death, .ref ld_move, .ref ld_begun, .ref ld_who, .ref ld_lost])), (ld_who, .inl (cI, 32, .inl ld_who_c)), (ld_rule, .inl (cI, 10, .inl ld_rule_c)), (ld_returns, .inl (cI, 10, .inl ld_returns_c)), (ld_begun, .inl (cI, 16, .inl ld_begun_c))] H → va_D A [(fa, .inr (3, [.int j17_fa_begins, .int j17_fa_length, .int j17_fa_cards, .int j17_fa_round, .int j17_fa_rule0, .int j17_fa_rule1, .ref fa_yearOf])), (fa_yearOf, .inl (cI, 16, .inl j17_fa_yearOf_c)), (wi_worth, .inl (cI, 208, .inl j17_wi_worth_c)), (wi, .inr (9, [.int n_wi_side_6, .int n_wi_rule_6, .int n_wi_begun_6, .int n_wi_years_6, .int n_wi_card_6, .int n_wi_hurt_6, .int 1, .ref wi_worth])), (ld, .inr (4, [.int ld_lines, .int ld_years, .int ld_card, .int ld_hurt, .int ld_people, .int ld_pairs, .long ld_strikes, .ref ld_rule, .ref ld_returns, .ref ld_forgets, .ref ld_death, .ref ld_move, .ref ld_begun, .ref ld_who, .ref ld_lost])), (ld_who, .inl (cI, 32, .inl ld_who_c)), (ld_rule, .inl (cI, 10, .inl ld_rule_c)), (ld_returns, .inl (cI, 10, .inl ld_returns_c)), (ld_begun, .inl (cI, 16, .inl ld_begun_c))] → va_S A s.heap H locs → lv_has ls 7 [(0, .ref wi), (5, .ref fa), (6, .int j17_l6)] → W p l e (headSpec v_X9_planEnd ({ frames := 5, cells := 0, slots := 0, locals := 118 })).room s m av below meth c H locs 0 0 QQ (F0 m 56 ls [.int j56_s0, .int j41_s0, .ref fa]) := by
          intro j56_s0 H locs ls  hP hD hS hl
          refine lv_iload hx hb dX9_planEnd_56 (lv_at hl 2 rfl) ?_
          refine rw_v (wr := [(wi_worth, .inl (cI, 208, .inl j17_wi_worth_c)), (wi, .inr (9, [.int n_wi_side_6, .int n_wi_rule_6, .int n_wi_begun_6, .int n_wi_years_6, .int n_wi_card_6, .int n_wi_hurt_6, .int 1, .ref wi_worth])), (ld, .inr (4, [.int ld_lines, .int ld_years, .int ld_card, .int ld_hurt, .int ld_people, .int ld_pairs, .long ld_strikes, .ref ld_rule, .ref ld_returns, .ref ld_forgets, .ref ld_death, .ref ld_move, .ref ld_begun, .ref ld_who, .ref ld_lost])), (ld_who, .inl (cI, 32, .inl ld_who_c)), (ld_rule, .inl (cI, 10, .inl ld_rule_c)), (ld_returns, .inl (cI, 10, .inl ld_returns_c)), (ld_begun, .inl (cI, 16, .inl ld_begun_c))]) (va_runV (As := [.int j41_s0, .int j56_s0, .int j17_l6]) (rest := []) ⟨hx, hb, hml, hown, hts⟩ (q_X3_find l g cI cJ cB cZ cL j41_s0 j56_s0 j17_l6 fa j17_fa_begins j17_fa_length j17_fa_cards j17_fa_round j17_fa_rule0 j17_fa_rule1 fa_yearOf j17_fa_yearOf_c H.size r21a hj17_fa_round) (cwV 3 hts (goodIn_app (g_4 (List.mem_cons_of_mem _ (List.mem_append_left _ (List.mem_of_getElem? (i := 9) rfl))) (List.mem_cons_of_mem _ (List.mem_append_left _ (List.mem_of_getElem? (i := 10) rfl))) (List.mem_cons_of_mem _ (List.mem_append_left _ (List.mem_of_getElem? (i := 11) rfl))) (List.mem_cons_of_mem _ (List.mem_append_left _ (List.mem_of_getElem? (i := 12) rfl))) (by decide +kernel)) (goodIn_sub (fun _ h => List.mem_cons_of_mem _ (List.mem_append_right _ (List.mem_append_right _ (List.mem_append_right _ (List.mem_append_left _ h))))) good_v_X3_find)) rfl rfl rfl (by decide +kernel) ⟨Nat.le_of_ble_eq_true rfl, Nat.le_of_ble_eq_true rfl⟩) (pv_RW (q := (RX3, TX3, 7)) (ci := 3) (q0 := 0) (wc := [(fa, .inr (3, [.int j17_fa_begins, .int j17_fa_length, .int j17_fa_cards, .int j17_fa_round, .int j17_fa_rule0, .int j17_fa_rule1, .ref fa_yearOf])), (fa_yearOf, .inl (cI, 16, .inl j17_fa_yearOf_c))]) hK hP hD [0, 1] (by decide) rfl rfl rfl) rfl rfl hl.1 rfl (lv_room (Nat.le_of_ble_eq_true rfl)) dX9_planEnd_58 ⟨Nat.le_of_ble_eq_true rfl, Nat.le_of_ble_eq_true rfl⟩) hS hA hP hD [0, 1] [2, 3, 4, 5, 6, 7, 8] rfl rfl (by decide) (by decide) (fun u58 H locs hw58 hP hD hS => ?_)
          obtain ⟨n_fa_begins_58, n_fa_length_58, n_fa_cards_58, n_fa_round_58, n_fa_rule0_58, n_fa_rule1_58, n_fa_yearOf_c_58⟩ := u58
          have hP : va_P g vwCl [(wi_worth, .inl (cI, 208, .inl j17_wi_worth_c)), (wi, .inr (9, [.int n_wi_side_6, .int n_wi_rule_6, .int n_wi_begun_6, .int n_wi_years_6, .int n_wi_card_6, .int n_wi_hurt_6, .int 1, .ref wi_worth])), (ld, .inr (4, [.int ld_lines, .int ld_years, .int ld_card, .int ld_hurt, .int ld_people, .int ld_pairs, .long ld_strikes, .ref ld_rule, .ref ld_returns, .ref ld_forgets, .ref ld_death, .ref ld_move, .ref ld_begun, .ref ld_who, .ref ld_lost])), (ld_who, .inl (cI, 32, .inl ld_who_c)), (ld_rule, .inl (cI, 10, .inl ld_rule_c)), (ld_returns, .inl (cI, 10, .inl ld_returns_c)), (ld_begun, .inl (cI, 16, .inl ld_begun_c)), (fa, .inr (3, [.int n_fa_begins_58, .int n_fa_length_58, .int n_fa_cards_58, .int n_fa_round_58, .int n_fa_rule0_58, .int n_fa_rule1_58, .ref fa_yearOf])), (fa_yearOf, .inl (cI, 16, .inl n_fa_yearOf_c_58))] H := hP
          have hD : va_D A [(wi_worth, .inl (cI, 208, .inl j17_wi_worth_c)), (wi, .inr (9, [.int n_wi_side_6, .int n_wi_rule_6, .int n_wi_begun_6, .int n_wi_years_6, .int n_wi_card_6, .int n_wi_hurt_6, .int 1, .ref wi_worth])), (ld, .inr (4, [.int ld_lines, .int ld_years, .int ld_card, .int ld_hurt, .int ld_people, .int ld_pairs, .long ld_strikes, .ref ld_rule, .ref ld_returns, .ref ld_forgets, .ref ld_death, .ref ld_move, .ref ld_begun, .ref ld_who, .ref ld_lost])), (ld_who, .inl (cI, 32, .inl ld_who_c)), (ld_rule, .inl (cI, 10, .inl ld_rule_c)), (ld_returns, .inl (cI, 10, .inl ld_returns_c)), (ld_begun, .inl (cI, 16, .inl ld_begun_c)), (fa, .inr (3, [.int n_fa_begins_58, .int n_fa_length_58, .int n_fa_cards_58, .int n_fa_round_58, .int n_fa_rule0_58, .int n_fa_rule1_58, .ref fa_yearOf])), (fa_yearOf, .inl (cI, 16, .inl n_fa_yearOf_c_58))] := hD
          dsimp only at hw58
          have hw58_0 := hw58
          refine lv_aload_n hx hb dX9_planEnd_61 rfl (lv_at hl 0 rfl) ?_
          refine va_get (D := g) (ci := 9) (v := .ref wi_worth) (C := RX9) (T := TX9) (N := 8) hx hb hts iX9 hown hK hP 1 rfl rfl 7 (by decide) (hts (.fieldLink RX9 9 "CardsAtYule$Will" "worth" "[I") (List.mem_cons_of_mem _ (List.mem_append_left _ (List.mem_of_getElem? (i := 13) rfl)))) (fun _ h9 => h9) rfl dX9_planEnd_62 ?_
          refine lv_bipush (v := 16) hx hb dX9_planEnd_65 (by decide) ?_
          refine lv_aload_n hx hb dX9_planEnd_67 rfl (lv_at hl 0 rfl) ?_
          refine va_get (D := g) (ci := 9) (v := .int n_wi_years_6) (C := RX9) (T := TX9) (N := 8) hx hb hts iX9 hown hK hP 1 rfl rfl 3 (by decide) (hts (.fieldLink RX9 36 "CardsAtYule$Will" "years" "I") (List.mem_cons_of_mem _ (List.mem_append_left _ (List.mem_of_getElem? (i := 14) rfl)))) (fun _ h9 => h9) rfl dX9_planEnd_68 ?_
          refine lv_imul hx hb dX9_planEnd_71 ?_
          refine lv_topi (fun y71 e71 => ?_)
          have q71 : y71.toInt = 16 * n_wi_years_6.toInt := by rw [e71]; exact mu_z rfl rfl (ir_c 16) hw6_2 (by decide) (by decide) (by decide)
          have r71 : ir y71.toInt 16 192 := mu_r q71 (ir_c 16) hw6_2 (by decide) (by decide) (by decide) (by decide)
          refine lv_iload hx hb dX9_planEnd_72 (lv_at hl 2 rfl) ?_
          refine lv_iadd hx hb dX9_planEnd_74 ?_
          refine lv_topi (fun y74 e74 => ?_)
          have q74 : y74.toInt = y71.toInt + j17_l6.toInt := by rw [e74]; exact ad_z rfl rfl r71 r21a (by decide) (by decide)
          have r74 : ir y74.toInt 16 207 := ad_r q74 r71 r21a (by decide) (by decide)
          refine lv_aload hx hb dX9_planEnd_75 (lv_at hl 1 rfl) ?_
          refine ro_i (va_runV (As := []) (rest := [.int y74, .ref wi_worth]) ⟨hx, hb, hml, hown, hts⟩ (q_X3_kind l g cI cJ cB cZ cL fa n_fa_begins_58 n_fa_length_58 n_fa_cards_58 n_fa_round_58 n_fa_rule0_58 n_fa_rule1_58 fa_yearOf H.size hw58_0) (cwV 0 hts (goodIn_app (g_4 (List.mem_cons_of_mem _ (List.mem_append_left _ (List.mem_of_getElem? (i := 15) rfl))) (List.mem_cons_of_mem _ (List.mem_append_left _ (List.mem_of_getElem? (i := 16) rfl))) (List.mem_cons_of_mem _ (List.mem_append_left _ (List.mem_of_getElem? (i := 17) rfl))) (List.mem_cons_of_mem _ (List.mem_append_left _ (List.mem_of_getElem? (i := 12) rfl))) (by decide +kernel)) (goodIn_sub (fun _ h => List.mem_cons_of_mem _ (List.mem_append_right _ (List.mem_append_right _ (List.mem_append_right _ (List.mem_append_right _ (List.mem_append_left _ h)))))) good_v_X3_kind)) rfl rfl rfl (by decide +kernel) ⟨Nat.le_of_ble_eq_true rfl, Nat.le_of_ble_eq_true rfl⟩) (pv_RO (q := (RX3, TX3, 7)) (ci := 3) (q0 := 0) (wc := [(fa, .inr (3, [.int n_fa_begins_58, .int n_fa_length_58, .int n_fa_cards_58, .int n_fa_round_58, .int n_fa_rule0_58, .int n_fa_rule1_58, .ref fa_yearOf]))]) hK hP [7] rfl rfl rfl) rfl rfl hl.1 rfl (lv_room (Nat.le_of_ble_eq_true rfl)) dX9_planEnd_77 ⟨Nat.le_of_ble_eq_true rfl, Nat.le_of_ble_eq_true rfl⟩) hS hA hP (fun r77 u77 H locs hw77 hP hS => ?_)
          have hw77_0 := hw77
          have J89 : ∀ (j89_s0 : Int32) (H : Heap) (locs : List Loc) (ls : Array Slot), (ir j89_s0.toInt 0 1000000) → va_P g vwCl [(wi_worth, .inl (cI, 208, .inl j17_wi_worth_c)), (wi, .inr (9, [.int n_wi_side_6, .int n_wi_rule_6, .int n_wi_begun_6, .int n_wi_years_6, .int n_wi_card_6, .int n_wi_hurt_6, .int 1, .ref wi_worth])), (ld, .inr (4, [.int ld_lines, .int ld_years, .int ld_card, .int ld_hurt, .int ld_people, .int ld_pairs, .long ld_strikes, .ref ld_rule, .ref ld_returns, .ref ld_forgets, .ref ld_death, .ref ld_move, .ref ld_begun, .ref ld_who, .ref ld_lost])), (ld_who, .inl (cI, 32, .inl ld_who_c)), (ld_rule, .inl (cI, 10, .inl ld_rule_c)), (ld_returns, .inl (cI, 10, .inl ld_returns_c)), (ld_begun, .inl (cI, 16, .inl ld_begun_c)), (fa, .inr (3, [.int n_fa_begins_58, .int n_fa_length_58, .int n_fa_cards_58, .int n_fa_round_58, .int n_fa_rule0_58, .int n_fa_rule1_58, .ref fa_yearOf])), (fa_yearOf, .inl (cI, 16, .inl n_fa_yearOf_c_58))] H → va_D A [(wi_worth, .inl (cI, 208, .inl j17_wi_worth_c)), (wi, .inr (9, [.int n_wi_side_6, .int n_wi_rule_6, .int n_wi_begun_6, .int n_wi_years_6, .int n_wi_card_6, .int n_wi_hurt_6, .int 1, .ref wi_worth])), (ld, .inr (4, [.int ld_lines, .int ld_years, .int ld_card, .int ld_hurt, .int ld_people, .int ld_pairs, .long ld_strikes, .ref ld_rule, .ref ld_returns, .ref ld_forgets, .ref ld_death, .ref ld_move, .ref ld_begun, .ref ld_who, .ref ld_lost])), (ld_who, .inl (cI, 32, .inl ld_who_c)), (ld_rule, .inl (cI, 10, .inl ld_rule_c)), (ld_returns, .inl (cI, 10, .inl ld_returns_c)), (ld_begun, .inl (cI, 16, .inl ld_begun_c)), (fa, .inr (3, [.int n_fa_begins_58, .int n_fa_length_58, .int n_fa_cards_58, .int n_fa_round_58, .int n_fa_rule0_58, .int n_fa_rule1_58, .ref fa_yearOf])), (fa_yearOf, .inl (cI, 16, .inl n_fa_yearOf_c_58))] → va_S A s.heap H locs → lv_has ls 7 [(0, .ref wi), (5, .ref fa), (6, .int j17_l6)] → W p l e (headSpec v_X9_planEnd ({ frames := 5, cells := 0, slots := 0, locals := 118 })).room s m av below meth c H locs 0 0 QQ (F0 m 89 ls [.int j89_s0, .int y74, .ref wi_worth]) := by
            intro j89_s0 H locs ls hj89_s0 hP hD hS hl
            refine va_iast (D := g) hx hb hK hP hD hS 0 0 rfl rfl (vi_rg rfl r74 (by decide) (by decide)) dX9_planEnd_89 (fun H locs hP hD hS => ?_)
            obtain ⟨g89, e89⟩ : ∃ z, z = upd j17_wi_worth_c y74.toNatClampNeg j89_s0 := ⟨_, rfl⟩
            have hP : va_P g vwCl [(wi_worth, .inl (cI, 208, .inl (upd j17_wi_worth_c y74.toNatClampNeg j89_s0))), (wi, .inr (9, [.int n_wi_side_6, .int n_wi_rule_6, .int n_wi_begun_6, .int n_wi_years_6, .int n_wi_card_6, .int n_wi_hurt_6, .int 1, .ref wi_worth])), (ld, .inr (4, [.int ld_lines, .int ld_years, .int ld_card, .int ld_hurt, .int ld_people, .int ld_pairs, .long ld_strikes, .ref ld_rule, .ref ld_returns, .ref ld_forgets, .ref ld_death, .ref ld_move, .ref ld_begun, .ref ld_who, .ref ld_lost])), (ld_who, .inl (cI, 32, .inl ld_who_c)), (ld_rule, .inl (cI, 10, .inl ld_rule_c)), (ld_returns, .inl (cI, 10, .inl ld_returns_c)), (ld_begun, .inl (cI, 16, .inl ld_begun_c)), (fa, .inr (3, [.int n_fa_begins_58, .int n_fa_length_58, .int n_fa_cards_58, .int n_fa_round_58, .int n_fa_rule0_58, .int n_fa_rule1_58, .ref fa_yearOf])), (fa_yearOf, .inl (cI, 16, .inl n_fa_yearOf_c_58))] H := hP
            have hD : va_D A [(wi_worth, .inl (cI, 208, .inl (upd j17_wi_worth_c y74.toNatClampNeg j89_s0))), (wi, .inr (9, [.int n_wi_side_6, .int n_wi_rule_6, .int n_wi_begun_6, .int n_wi_years_6, .int n_wi_card_6, .int n_wi_hurt_6, .int 1, .ref wi_worth])), (ld, .inr (4, [.int ld_lines, .int ld_years, .int ld_card, .int ld_hurt, .int ld_people, .int ld_pairs, .long ld_strikes, .ref ld_rule, .ref ld_returns, .ref ld_forgets, .ref ld_death, .ref ld_move, .ref ld_begun, .ref ld_who, .ref ld_lost])), (ld_who, .inl (cI, 32, .inl ld_who_c)), (ld_rule, .inl (cI, 10, .inl ld_rule_c)), (ld_returns, .inl (cI, 10, .inl ld_returns_c)), (ld_begun, .inl (cI, 16, .inl ld_begun_c)), (fa, .inr (3, [.int n_fa_begins_58, .int n_fa_length_58, .int n_fa_cards_58, .int n_fa_round_58, .int n_fa_rule0_58, .int n_fa_rule1_58, .ref fa_yearOf])), (fa_yearOf, .inl (cI, 16, .inl n_fa_yearOf_c_58))] := hD
            rw [← e89] at hP hD
            obtain ⟨y90, e90⟩ : ∃ y : Int32, y = j17_l6 + 1 := ⟨_, rfl⟩
            have q90 : y90.toInt = j17_l6.toInt + 1 := by rw [e90]; exact ad_z rfl rfl r21a (ir_c 1) (by decide) (by decide)
            have r90 : ir y90.toInt 1 16 := ad_r q90 r21a (ir_c 1) (by decide) (by decide)
            refine lv_iinc (v := y90) (lv' := [(6, .int y90), (0, .ref wi), (5, .ref fa)]) hx hb dX9_planEnd_90 hl (k := 2) rfl e90.symm (by decide) rfl (fun ls hl => ?_)
            refine lv_goto (tgt := 17) hx hb dX9_planEnd_93 (by decide) ?_
            exact ih17 y90 n_fa_begins_58 n_fa_length_58 n_fa_cards_58 n_fa_round_58 n_fa_rule0_58 n_fa_rule1_58 n_fa_yearOf_c_58 g89 _ _ _ (by omega) (ir_w r90 (by decide) (by decide)) hw58_0 (hP.sub [7, 8, 0, 1, 2, 3, 4, 5, 6] rfl) (hD.sub [7, 8, 0, 1, 2, 3, 4, 5, 6] (by decide) rfl) hS (lv_sub hl [1, 2, 0] rfl)
          refine lv_if_ne (tgt := 87) hx hb dX9_planEnd_80 (by decide) (fun c80 => ?_) (fun c80 => ?_)
          · have f80 := (show r77.toInt ≠ 0 from z_ne rfl rfl c80)
            have r80a : ir r77.toInt 1 2 := ir_nel f80 hw77_0 (by decide) (by decide)
            refine lv_ldc (v := 1000000) hx hb hown (hts (.constant RX9 43 (1000000)) (List.mem_cons_of_mem _ (List.mem_append_left _ (List.mem_of_getElem? (i := 18) rfl)))) dX9_planEnd_87 ?_
            exact J89 1000000 _ _ _ (by decide) (hP.sub [0, 1, 2, 3, 4, 5, 6, 7, 8] rfl) (hD.sub [0, 1, 2, 3, 4, 5, 6, 7, 8] (by decide) rfl) hS (lv_sub hl [0, 1, 2] rfl)
          have f80 := (show r77.toInt = 0 from z_eq rfl rfl c80)
          have r80a : ir r77.toInt 0 0 := ir_eqa f80 hw77_0 (ir_c 0) (by decide) (by decide)
          refine lv_iconst (v := 0) hx hb dX9_planEnd_83 (by decide) ?_
          refine lv_goto (tgt := 89) hx hb dX9_planEnd_84 (by decide) ?_
          exact J89 0 _ _ _ (by decide) (hP.sub [0, 1, 2, 3, 4, 5, 6, 7, 8] rfl) (hD.sub [0, 1, 2, 3, 4, 5, 6, 7, 8] (by decide) rfl) hS (lv_sub hl [0, 1, 2] rfl)
        refine lv_if_ne (tgt := 55) hx hb dX9_planEnd_45 (by decide) (fun c45 => ?_) (fun c45 => ?_)
        · have f45 := (show n_wi_side_6.toInt ≠ 0 from z_ne rfl rfl c45)
          have r45a : ir n_wi_side_6.toInt 1 1 := ir_nel f45 hw6_0 (by decide) (by decide)
          refine lv_iconst (v := 0) hx hb dX9_planEnd_55 (by decide) ?_
          exact J56 0 _ _ _  (hP.sub [0, 1, 2, 3, 4, 5, 6, 7, 8] rfl) (hD.sub [0, 1, 2, 3, 4, 5, 6, 7, 8] (by decide) rfl) hS (lv_sub hl [0, 1, 2] rfl)
        have f45 := (show n_wi_side_6.toInt = 0 from z_eq rfl rfl c45)
        have r45a : ir n_wi_side_6.toInt 0 0 := ir_eqa f45 hw6_0 (ir_c 0) (by decide) (by decide)
        refine lv_aload_n hx hb dX9_planEnd_48 rfl (lv_at hl 0 rfl) ?_
        refine va_get (D := g) (ci := 9) (v := .int n_wi_rule_6) (C := RX9) (T := TX9) (N := 8) hx hb hts iX9 hown hK hP 3 rfl rfl 1 (by decide) (hts (.fieldLink RX9 27 "CardsAtYule$Will" "rule" "I") (List.mem_cons_of_mem _ (List.mem_append_left _ (List.mem_of_getElem? (i := 19) rfl)))) (fun _ h9 => h9) rfl dX9_planEnd_49 ?_
        refine lv_goto (tgt := 56) hx hb dX9_planEnd_52 (by decide) ?_
        exact J56 n_wi_rule_6 _ _ _  (hP.sub [0, 1, 2, 3, 4, 5, 6, 7, 8] rfl) (hD.sub [0, 1, 2, 3, 4, 5, 6, 7, 8] (by decide) rfl) hS (lv_sub hl [0, 1, 2] rfl)
      refine lv_if_ne (tgt := 37) hx hb dX9_planEnd_30 (by decide) (fun c30 => ?_) (fun c30 => ?_)
      rotate_left 1
      · have f30 := (show n_wi_side_6.toInt = 0 from z_eq rfl rfl c30)
        have r30a : ir n_wi_side_6.toInt 0 0 := ir_eqa f30 hw6_0 (ir_c 0) (by decide) (by decide)
        refine lv_iconst (v := 0) hx hb dX9_planEnd_33 (by decide) ?_
        refine lv_goto (tgt := 41) hx hb dX9_planEnd_34 (by decide) ?_
        exact J41 0 _ _ _  (hP.sub [0, 1, 2, 3, 4, 5, 6, 7, 8] rfl) (hD.sub [0, 1, 2, 3, 4, 5, 6, 7, 8] (by decide) rfl) hS (lv_sub hl [0, 1, 2] rfl)
      have f30 := (show n_wi_side_6.toInt ≠ 0 from z_ne rfl rfl c30)
      have r30a : ir n_wi_side_6.toInt 1 1 := ir_nel f30 hw6_0 (by decide) (by decide)
      refine lv_aload_n hx hb dX9_planEnd_37 rfl (lv_at hl 0 rfl) ?_
      refine va_get (D := g) (ci := 9) (v := .int n_wi_rule_6) (C := RX9) (T := TX9) (N := 8) hx hb hts iX9 hown hK hP 3 rfl rfl 1 (by decide) (hts (.fieldLink RX9 27 "CardsAtYule$Will" "rule" "I") (List.mem_cons_of_mem _ (List.mem_append_left _ (List.mem_of_getElem? (i := 19) rfl)))) (fun _ h9 => h9) rfl dX9_planEnd_38 ?_
      exact J41 n_wi_rule_6 _ _ _  (hP.sub [0, 1, 2, 3, 4, 5, 6, 7, 8] rfl) (hD.sub [0, 1, 2, 3, 4, 5, 6, 7, 8] (by decide) rfl) hS (lv_sub hl [0, 1, 2] rfl)
  exact J17 _ 0 fa_begins fa_length fa_cards fa_round fa_rule0 fa_rule1 fa_yearOf_c wi_worth_c _ _ _ (Nat.lt_succ_self _) (by decide) hv_fa_round (hP.sub [0, 1, 2, 3, 4, 5, 6, 7, 8] rfl) (hD.sub [0, 1, 2, 3, 4, 5, 6, 7, 8] (by decide) rfl) hS (lv_sub hl [1, 6, 0] rfl)
def v_X9_planKeep : List Cond := .code yX9_planKeep cX9_planKeep 5 none :: (([.methodLink RX9 15 yX9_take, .instanceMethod yX9_take, .selects RX9 yX9_take yX9_take, .initialized RX9, .fieldLink RX9 19 "CardsAtYule$Will" "isEnd" "Z", .fieldLink RX9 9 "CardsAtYule$Will" "worth" "[I", .methodLink RX9 47 yJ7_fill_53178, .static yJ7_fill_53178, .initialized RJ7, .methodLink RX9 44 yX9_goBack, .instanceMethod yX9_goBack, .selects RX9 yX9_goBack yX9_goBack] : List Cond) ++ (v_X9_take ++ (v_J7_filli208 ++ (v_X9_goBack ++ (wsX90 ++ ([] : List Cond))))))
theorem good_v_X9_planKeep : v_X9_planKeep.all goodWord = true := ga_c (by decide +kernel) (ga_a (by decide +kernel) (ga_a good_v_X9_take (ga_a good_v_J7_filli208 (ga_a good_v_X9_goBack (ga_a good_wsX90 rfl)))))
set_option maxHeartbeats 4000000 in
set_option maxRecDepth 100000 in
theorem q_X9_planKeep (l : Launch) (g : va_G) (cI cJ cB cZ cL : ClassId) (p1 : Int32) (p2 : Int32) (p3 : Int32) (wi : Nat) (ld : Nat) (wi_side : Int32) (wi_rule : Int32) (wi_begun : Int32) (wi_years : Int32) (wi_card : Int32) (wi_hurt : Int32) (wi_isEnd : Int32) (wi_worth : Nat) (ld_lines : Int32) (ld_years : Int32) (ld_card : Int32) (ld_hurt : Int32) (ld_people : Int32) (ld_pairs : Int32) (ld_strikes : Int64) (ld_rule : Nat) (ld_returns : Nat) (ld_forgets : Nat) (ld_death : Nat) (ld_move : Nat) (ld_begun : Nat) (ld_who : Nat) (ld_lost : Nat) (ld_who_c : Nat → Int32) (ld_rule_c : Nat → Int32) (ld_returns_c : Nat → Int32) (ld_begun_c : Nat → Int32) (wi_worth_c : Nat → Int32) (sz : Nat) (hv_p1 : ir p1.toInt 0 15) (hv_p2 : ir p2.toInt 0 1) (hv_p3 : ir p3.toInt 1 12) (hv_wi_side : ir wi_side.toInt 0 1) (hv_wi_begun : ir wi_begun.toInt 0 15) (hv_wi_years : ir wi_years.toInt 0 12) (hv_wi_isEnd : ir wi_isEnd.toInt 0 1) (hv_ld_years : ir ld_years.toInt 0 40) (hv_ld_people : ir ld_people.toInt 0 10) (hv_ld_pairs : ir ld_pairs.toInt 0 16) (ha_ld_who_c : ar ld_who_c 32 0 9) (ha_ld_begun_c : ar ld_begun_c 16 0 15) : Met l yX9_planKeep v_X9_planKeep ({ frames := 5, cells := 0, slots := 0, locals := 118 }) (va_Pc [.ref wi, .ref ld, .int p1, .int p2, .int p3] (pRW g (tyT cI cJ cB cZ cL) [(wi, .inr (9, [.int wi_side, .int wi_rule, .int wi_begun, .int wi_years, .int wi_card, .int wi_hurt, .int wi_isEnd, .ref wi_worth])), (ld, .inr (4, [.int ld_lines, .int ld_years, .int ld_card, .int ld_hurt, .int ld_people, .int ld_pairs, .long ld_strikes, .ref ld_rule, .ref ld_returns, .ref ld_forgets, .ref ld_death, .ref ld_move, .ref ld_begun, .ref ld_who, .ref ld_lost])), (ld_who, .inl (cI, 32, .inl ld_who_c)), (ld_rule, .inl (cI, 10, .inl ld_rule_c)), (ld_returns, .inl (cI, 10, .inl ld_returns_c)), (ld_begun, .inl (cI, 16, .inl ld_begun_c)), (wi_worth, .inl (cI, 208, .inl wi_worth_c))] sz)) (va_Qv (fun (u : Int32 × Int32 × Int32 × Int32 × Int32 × Int32 × Int32 × (Nat → Int32)) => match u with | (n_wi_side, n_wi_rule, n_wi_begun, n_wi_years, n_wi_card, n_wi_hurt, n_wi_isEnd, n_wi_worth_c) => (ir n_wi_side.toInt 0 1) ∧ (ir n_wi_begun.toInt 0 15) ∧ (ir n_wi_years.toInt 1 12) ∧ (ir n_wi_isEnd.toInt 0 0)) (fun (u : Int32 × Int32 × Int32 × Int32 × Int32 × Int32 × Int32 × (Nat → Int32)) (t : State) => bRW g (tyT cI cJ cB cZ cL) (va_A [(wi, .inr (9, [.int wi_side, .int wi_rule, .int wi_begun, .int wi_years, .int wi_card, .int wi_hurt, .int wi_isEnd, .ref wi_worth])), (ld, .inr (4, [.int ld_lines, .int ld_years, .int ld_card, .int ld_hurt, .int ld_people, .int ld_pairs, .long ld_strikes, .ref ld_rule, .ref ld_returns, .ref ld_forgets, .ref ld_death, .ref ld_move, .ref ld_begun, .ref ld_who, .ref ld_lost])), (ld_who, .inl (cI, 32, .inl ld_who_c)), (ld_rule, .inl (cI, 10, .inl ld_rule_c)), (ld_returns, .inl (cI, 10, .inl ld_returns_c)), (ld_begun, .inl (cI, 16, .inl ld_begun_c)), (wi_worth, .inl (cI, 208, .inl wi_worth_c))] sz) (match u with | (n_wi_side, n_wi_rule, n_wi_begun, n_wi_years, n_wi_card, n_wi_hurt, n_wi_isEnd, n_wi_worth_c) => [(wi, .inr (9, [.int n_wi_side, .int n_wi_rule, .int n_wi_begun, .int n_wi_years, .int n_wi_card, .int n_wi_hurt, .int n_wi_isEnd, .ref wi_worth])), (ld, .inr (4, [.int ld_lines, .int ld_years, .int ld_card, .int ld_hurt, .int ld_people, .int ld_pairs, .long ld_strikes, .ref ld_rule, .ref ld_returns, .ref ld_forgets, .ref ld_death, .ref ld_move, .ref ld_begun, .ref ld_who, .ref ld_lost])), (ld_who, .inl (cI, 32, .inl ld_who_c)), (ld_rule, .inl (cI, 10, .inl ld_rule_c)), (ld_returns, .inl (cI, 10, .inl ld_returns_c)), (ld_begun, .inl (cI, 16, .inl ld_begun_c)), (wi_worth, .inl (cI, 208, .inl n_wi_worth_c))]) t) (va_A [(wi, .inr (9, [.int wi_side, .int wi_rule, .int wi_begun, .int wi_years, .int wi_card, .int wi_hurt, .int wi_isEnd, .ref wi_worth])), (ld, .inr (4, [.int ld_lines, .int ld_years, .int ld_card, .int ld_hurt, .int ld_people, .int ld_pairs, .long ld_strikes, .ref ld_rule, .ref ld_returns, .ref ld_forgets, .ref ld_death, .ref ld_move, .ref ld_begun, .ref ld_who, .ref ld_lost])), (ld_who, .inl (cI, 32, .inl ld_who_c)), (ld_rule, .inl (cI, 10, .inl ld_rule_c)), (ld_returns, .inl (cI, 10, .inl ld_returns_c)), (ld_begun, .inl (cI, 16, .inl ld_begun_c)), (wi_worth, .inl (cI, 208, .inl wi_worth_c))] sz)) 0 0 (va_A [(wi, .inr (9, [.int wi_side, .int wi_rule, .int wi_begun, .int wi_years, .int wi_card, .int wi_hurt, .int wi_isEnd, .ref wi_worth])), (ld, .inr (4, [.int ld_lines, .int ld_years, .int ld_card, .int ld_hurt, .int ld_people, .int ld_pairs, .long ld_strikes, .ref ld_rule, .ref ld_returns, .ref ld_forgets, .ref ld_death, .ref ld_move, .ref ld_begun, .ref ld_who, .ref ld_lost])), (ld_who, .inl (cI, 32, .inl ld_who_c)), (ld_rule, .inl (cI, 10, .inl ld_rule_c)), (ld_returns, .inl (cI, 10, .inl ld_returns_c)), (ld_begun, .inl (cI, 16, .inl ld_begun_c)), (wi_worth, .inl (cI, 208, .inl wi_worth_c))] sz) := by
  refine Met.ofW (cc := cX9_planKeep) (maxL := 5) (ret := none) (by decide) rfl ?_
  intro p e s m args below meth c s₁ B hml hv
  obtain ⟨rfl, hsz, hP, hK, hD0⟩ := hv
  have hx := B.exec
  have hb := B.bytes
  have hr := B.returns
  have hts := atoms_spec (ws := v_X9_planKeep) B.pre
  have hown : s.vm.findClass RX9 = some m.cls := findClass_of_methodNamed B.named
  have hlocks := B.notSynchronized
  clear B
  subst hsz
  have iX9 : ∀ w ∈ wsX90, w ∈ v_X9_planKeep := (fun _ h => List.mem_cons_of_mem _ (List.mem_append_right _ (List.mem_append_right _ (List.mem_append_right _ (List.mem_append_right _ (List.mem_append_left _ h))))))
  have hD := hD0.self (sz := s.heap.size)
  generalize hAe : (va_A [(wi, .inr (9, [.int wi_side, .int wi_rule, .int wi_begun, .int wi_years, .int wi_card, .int wi_hurt, .int wi_isEnd, .ref wi_worth])), (ld, .inr (4, [.int ld_lines, .int ld_years, .int ld_card, .int ld_hurt, .int ld_people, .int ld_pairs, .long ld_strikes, .ref ld_rule, .ref ld_returns, .ref ld_forgets, .ref ld_death, .ref ld_move, .ref ld_begun, .ref ld_who, .ref ld_lost])), (ld_who, .inl (cI, 32, .inl ld_who_c)), (ld_rule, .inl (cI, 10, .inl ld_rule_c)), (ld_returns, .inl (cI, 10, .inl ld_returns_c)), (ld_begun, .inl (cI, 16, .inl ld_begun_c)), (wi_worth, .inl (cI, 208, .inl wi_worth_c))] s.heap.size) = A at hD ⊢
  have hA : ∀ q : Nat, s.heap.size ≤ q → A q := fun q h => by rw [← hAe]; exact Or.inr h
  have hS : va_S A s.heap s.heap [] := va_S.rf
  have hl := lv_entry ([.ref wi, .ref ld, .int p1, .int p2, .int p3]) (n := 5) (Nat.le_of_ble_eq_true rfl)
  rw [lg_entry_eq]
  generalize (lg_sl ([.ref wi, .ref ld, .int p1, .int p2, .int p3]) ++ List.replicate (5 - (lg_sl ([.ref wi, .ref ld, .int p1, .int p2, .int p3])).length) Slot.unset).toArray = ls at hl ⊢
  generalize ([.ref wi, .ref ld, .int p1, .int p2, .int p3] : List Value).toArray = av at hts ⊢
  generalize hQ : MQ below _ av s _ _ A = QQ
  have hl : lv_has ls 5 [(0, .ref wi), (1, .ref ld), (2, .int p1), (3, .int p2), (4, .int p3)] := hl
  have hP : va_P g vwCl [(wi, .inr (9, [.int wi_side, .int wi_rule, .int wi_begun, .int wi_years, .int wi_card, .int wi_hurt, .int wi_isEnd, .ref wi_worth])), (ld, .inr (4, [.int ld_lines, .int ld_years, .int ld_card, .int ld_hurt, .int ld_people, .int ld_pairs, .long ld_strikes, .ref ld_rule, .ref ld_returns, .ref ld_forgets, .ref ld_death, .ref ld_move, .ref ld_begun, .ref ld_who, .ref ld_lost])), (ld_who, .inl (cI, 32, .inl ld_who_c)), (ld_rule, .inl (cI, 10, .inl ld_rule_c)), (ld_returns, .inl (cI, 10, .inl ld_returns_c)), (ld_begun, .inl (cI, 16, .inl ld_begun_c)), (wi_worth, .inl (cI, 208, .inl wi_worth_c))] s.heap := hP
  refine lv_aload_n hx hb dX9_planKeep_0 rfl (lv_at hl 0 rfl) ?_
  refine lv_aload_n hx hb dX9_planKeep_1 rfl (lv_at hl 1 rfl) ?_
  refine lv_iload_n hx hb dX9_planKeep_2 rfl (lv_at hl 2 rfl) ?_
  refine lv_iload_n hx hb dX9_planKeep_3 rfl (lv_at hl 3 rfl) ?_
  refine lv_iload hx hb dX9_planKeep_4 (lv_at hl 4 rfl) ?_
  refine rw_v (wr := [(wi_worth, .inl (cI, 208, .inl wi_worth_c))]) (va_runV (As := [.ref ld, .int p1, .int p2, .int p3]) (rest := []) ⟨hx, hb, hml, hown, hts⟩ (q_X9_take l g cI cJ cB cZ cL p1 p2 p3 wi ld wi_side wi_rule wi_begun wi_years wi_card wi_hurt wi_isEnd wi_worth ld_lines ld_years ld_card ld_hurt ld_people ld_pairs ld_strikes ld_rule ld_returns ld_forgets ld_death ld_move ld_begun ld_who ld_lost ld_who_c ld_rule_c ld_returns_c ld_begun_c s.heap.size hv_p1 hv_p2 hv_p3 hv_wi_side hv_wi_begun hv_wi_years hv_wi_isEnd hv_ld_years hv_ld_people hv_ld_pairs ha_ld_who_c ha_ld_begun_c) (cwV 4 hts (goodIn_app (g_4 (List.mem_cons_of_mem _ (List.mem_append_left _ (List.mem_of_getElem? (i := 0) rfl))) (List.mem_cons_of_mem _ (List.mem_append_left _ (List.mem_of_getElem? (i := 1) rfl))) (List.mem_cons_of_mem _ (List.mem_append_left _ (List.mem_of_getElem? (i := 2) rfl))) (List.mem_cons_of_mem _ (List.mem_append_left _ (List.mem_of_getElem? (i := 3) rfl))) (by decide +kernel)) (goodIn_sub (fun _ h => List.mem_cons_of_mem _ (List.mem_append_right _ (List.mem_append_left _ h))) good_v_X9_take)) rfl rfl rfl (by decide +kernel) ⟨Nat.le_of_ble_eq_true rfl, Nat.le_of_ble_eq_true rfl⟩) (pv_RW (q := (RX9, TX9, 8)) (ci := 9) (q0 := 0) (wc := [(wi, .inr (9, [.int wi_side, .int wi_rule, .int wi_begun, .int wi_years, .int wi_card, .int wi_hurt, .int wi_isEnd, .ref wi_worth])), (ld, .inr (4, [.int ld_lines, .int ld_years, .int ld_card, .int ld_hurt, .int ld_people, .int ld_pairs, .long ld_strikes, .ref ld_rule, .ref ld_returns, .ref ld_forgets, .ref ld_death, .ref ld_move, .ref ld_begun, .ref ld_who, .ref ld_lost])), (ld_who, .inl (cI, 32, .inl ld_who_c)), (ld_rule, .inl (cI, 10, .inl ld_rule_c)), (ld_returns, .inl (cI, 10, .inl ld_returns_c)), (ld_begun, .inl (cI, 16, .inl ld_begun_c))]) hK hP hD [0, 1, 2, 3, 4, 5] (by decide) rfl rfl rfl) rfl rfl hl.1 rfl (lv_room (Nat.le_of_ble_eq_true rfl)) dX9_planKeep_6 ⟨Nat.le_of_ble_eq_true rfl, Nat.le_of_ble_eq_true rfl⟩) hS hA hP hD [0, 1, 2, 3, 4, 5] [6] rfl rfl (by decide) (by decide) (fun u6 H locs hw6 hP hD hS => ?_)
  obtain ⟨n_wi_side_6, n_wi_rule_6, n_wi_begun_6, n_wi_years_6, n_wi_card_6, n_wi_hurt_6⟩ := u6
  have hP : va_P g vwCl [(wi_worth, .inl (cI, 208, .inl wi_worth_c)), (wi, .inr (9, [.int n_wi_side_6, .int n_wi_rule_6, .int n_wi_begun_6, .int n_wi_years_6, .int n_wi_card_6, .int n_wi_hurt_6, .int wi_isEnd, .ref wi_worth])), (ld, .inr (4, [.int ld_lines, .int ld_years, .int ld_card, .int ld_hurt, .int ld_people, .int ld_pairs, .long ld_strikes, .ref ld_rule, .ref ld_returns, .ref ld_forgets, .ref ld_death, .ref ld_move, .ref ld_begun, .ref ld_who, .ref ld_lost])), (ld_who, .inl (cI, 32, .inl ld_who_c)), (ld_rule, .inl (cI, 10, .inl ld_rule_c)), (ld_returns, .inl (cI, 10, .inl ld_returns_c)), (ld_begun, .inl (cI, 16, .inl ld_begun_c))] H := hP
  have hD : va_D A [(wi_worth, .inl (cI, 208, .inl wi_worth_c)), (wi, .inr (9, [.int n_wi_side_6, .int n_wi_rule_6, .int n_wi_begun_6, .int n_wi_years_6, .int n_wi_card_6, .int n_wi_hurt_6, .int wi_isEnd, .ref wi_worth])), (ld, .inr (4, [.int ld_lines, .int ld_years, .int ld_card, .int ld_hurt, .int ld_people, .int ld_pairs, .long ld_strikes, .ref ld_rule, .ref ld_returns, .ref ld_forgets, .ref ld_death, .ref ld_move, .ref ld_begun, .ref ld_who, .ref ld_lost])), (ld_who, .inl (cI, 32, .inl ld_who_c)), (ld_rule, .inl (cI, 10, .inl ld_rule_c)), (ld_returns, .inl (cI, 10, .inl ld_returns_c)), (ld_begun, .inl (cI, 16, .inl ld_begun_c))] := hD
  dsimp only at hw6
  obtain ⟨hw6_0, hw6_1, hw6_2⟩ := hw6
  refine lv_aload_n hx hb dX9_planKeep_9 rfl (lv_at hl 0 rfl) ?_
  refine lv_iconst (v := 0) hx hb dX9_planKeep_10 (by decide) ?_
  refine va_put (D := g) (ci := 9) (v := .int 0) (ty := .boolean) (C := RX9) (T := TX9) (N := 8) hx hb hts iX9 tyX9 tyX9_ok nmX9 hown hK hP hD hS 1 rfl rfl 6 (by decide) (hts (.fieldLink RX9 19 "CardsAtYule$Will" "isEnd" "Z") (List.mem_cons_of_mem _ (List.mem_append_left _ (List.mem_of_getElem? (i := 4) rfl)))) (fun _ h9 => h9) rfl (by decide +kernel) rfl rfl (Nat.le_of_ble_eq_true rfl) dX9_planKeep_11 (fun H locs hP hD hS => ?_)
  have hP : va_P g vwCl [(wi_worth, .inl (cI, 208, .inl wi_worth_c)), (wi, .inr (9, [.int n_wi_side_6, .int n_wi_rule_6, .int n_wi_begun_6, .int n_wi_years_6, .int n_wi_card_6, .int n_wi_hurt_6, .int 0, .ref wi_worth])), (ld, .inr (4, [.int ld_lines, .int ld_years, .int ld_card, .int ld_hurt, .int ld_people, .int ld_pairs, .long ld_strikes, .ref ld_rule, .ref ld_returns, .ref ld_forgets, .ref ld_death, .ref ld_move, .ref ld_begun, .ref ld_who, .ref ld_lost])), (ld_who, .inl (cI, 32, .inl ld_who_c)), (ld_rule, .inl (cI, 10, .inl ld_rule_c)), (ld_returns, .inl (cI, 10, .inl ld_returns_c)), (ld_begun, .inl (cI, 16, .inl ld_begun_c))] H := hP
  have hD : va_D A [(wi_worth, .inl (cI, 208, .inl wi_worth_c)), (wi, .inr (9, [.int n_wi_side_6, .int n_wi_rule_6, .int n_wi_begun_6, .int n_wi_years_6, .int n_wi_card_6, .int n_wi_hurt_6, .int 0, .ref wi_worth])), (ld, .inr (4, [.int ld_lines, .int ld_years, .int ld_card, .int ld_hurt, .int ld_people, .int ld_pairs, .long ld_strikes, .ref ld_rule, .ref ld_returns, .ref ld_forgets, .ref ld_death, .ref ld_move, .ref ld_begun, .ref ld_who, .ref ld_lost])), (ld_who, .inl (cI, 32, .inl ld_who_c)), (ld_rule, .inl (cI, 10, .inl ld_rule_c)), (ld_returns, .inl (cI, 10, .inl ld_returns_c)), (ld_begun, .inl (cI, 16, .inl ld_begun_c))] := hD
  refine lv_aload_n hx hb dX9_planKeep_14 rfl (lv_at hl 0 rfl) ?_
  refine va_get (D := g) (ci := 9) (v := .ref wi_worth) (C := RX9) (T := TX9) (N := 8) hx hb hts iX9 hown hK hP 1 rfl rfl 7 (by decide) (hts (.fieldLink RX9 9 "CardsAtYule$Will" "worth" "[I") (List.mem_cons_of_mem _ (List.mem_append_left _ (List.mem_of_getElem? (i := 5) rfl)))) (fun _ h9 => h9) rfl dX9_planKeep_15 ?_
  refine lv_iconst (v := 0) hx hb dX9_planKeep_18 (by decide) ?_
  refine rw_v (wr := [(wi, .inr (9, [.int n_wi_side_6, .int n_wi_rule_6, .int n_wi_begun_6, .int n_wi_years_6, .int n_wi_card_6, .int n_wi_hurt_6, .int 0, .ref wi_worth])), (ld, .inr (4, [.int ld_lines, .int ld_years, .int ld_card, .int ld_hurt, .int ld_people, .int ld_pairs, .long ld_strikes, .ref ld_rule, .ref ld_returns, .ref ld_forgets, .ref ld_death, .ref ld_move, .ref ld_begun, .ref ld_who, .ref ld_lost])), (ld_who, .inl (cI, 32, .inl ld_who_c)), (ld_rule, .inl (cI, 10, .inl ld_rule_c)), (ld_returns, .inl (cI, 10, .inl ld_returns_c)), (ld_begun, .inl (cI, 16, .inl ld_begun_c))]) (va_runS (As := [.ref wi_worth, .int 0]) (rest := []) ⟨hx, hb, hml, hown, hts⟩ (q_J7_filli208 l g cI cJ cB cZ cL 0 wi_worth wi_worth_c H.size ) (va_cwS 2 hts (goodIn_app (g_3 (List.mem_cons_of_mem _ (List.mem_append_left _ (List.mem_of_getElem? (i := 6) rfl))) (List.mem_cons_of_mem _ (List.mem_append_left _ (List.mem_of_getElem? (i := 7) rfl))) (List.mem_cons_of_mem _ (List.mem_append_left _ (List.mem_of_getElem? (i := 8) rfl))) (by decide +kernel)) (goodIn_sub (fun _ h => List.mem_cons_of_mem _ (List.mem_append_right _ (List.mem_append_right _ (List.mem_append_left _ h)))) good_v_J7_filli208)) rfl rfl rfl (by decide +kernel) ⟨Nat.le_of_ble_eq_true rfl, Nat.le_of_ble_eq_true rfl⟩) (ps_RW (wc := [(wi_worth, .inl (cI, 208, .inl wi_worth_c))]) hK hP hD [0] (by decide) rfl) rfl rfl hl.1 rfl (lv_room (Nat.le_of_ble_eq_true rfl)) dX9_planKeep_19 ⟨Nat.le_of_ble_eq_true rfl, Nat.le_of_ble_eq_true rfl⟩) hS hA hP hD [0] [1, 2, 3, 4, 5, 6] rfl rfl (by decide) (by decide) (fun u19 H locs hw19 hP hD hS => ?_)
  generalize u19 = n_r0_c_19 at hw19 hP hD
  have hP : va_P g vwCl [(wi, .inr (9, [.int n_wi_side_6, .int n_wi_rule_6, .int n_wi_begun_6, .int n_wi_years_6, .int n_wi_card_6, .int n_wi_hurt_6, .int 0, .ref wi_worth])), (ld, .inr (4, [.int ld_lines, .int ld_years, .int ld_card, .int ld_hurt, .int ld_people, .int ld_pairs, .long ld_strikes, .ref ld_rule, .ref ld_returns, .ref ld_forgets, .ref ld_death, .ref ld_move, .ref ld_begun, .ref ld_who, .ref ld_lost])), (ld_who, .inl (cI, 32, .inl ld_who_c)), (ld_rule, .inl (cI, 10, .inl ld_rule_c)), (ld_returns, .inl (cI, 10, .inl ld_returns_c)), (ld_begun, .inl (cI, 16, .inl ld_begun_c)), (wi_worth, .inl (cI, 208, .inl n_r0_c_19))] H := hP
  have hD : va_D A [(wi, .inr (9, [.int n_wi_side_6, .int n_wi_rule_6, .int n_wi_begun_6, .int n_wi_years_6, .int n_wi_card_6, .int n_wi_hurt_6, .int 0, .ref wi_worth])), (ld, .inr (4, [.int ld_lines, .int ld_years, .int ld_card, .int ld_hurt, .int ld_people, .int ld_pairs, .long ld_strikes, .ref ld_rule, .ref ld_returns, .ref ld_forgets, .ref ld_death, .ref ld_move, .ref ld_begun, .ref ld_who, .ref ld_lost])), (ld_who, .inl (cI, 32, .inl ld_who_c)), (ld_rule, .inl (cI, 10, .inl ld_rule_c)), (ld_returns, .inl (cI, 10, .inl ld_returns_c)), (ld_begun, .inl (cI, 16, .inl ld_begun_c)), (wi_worth, .inl (cI, 208, .inl n_r0_c_19))] := hD
  refine lv_aload_n hx hb dX9_planKeep_22 rfl (lv_at hl 0 rfl) ?_
  refine rw_v (wr := [(ld, .inr (4, [.int ld_lines, .int ld_years, .int ld_card, .int ld_hurt, .int ld_people, .int ld_pairs, .long ld_strikes, .ref ld_rule, .ref ld_returns, .ref ld_forgets, .ref ld_death, .ref ld_move, .ref ld_begun, .ref ld_who, .ref ld_lost])), (ld_who, .inl (cI, 32, .inl ld_who_c)), (ld_rule, .inl (cI, 10, .inl ld_rule_c)), (ld_returns, .inl (cI, 10, .inl ld_returns_c)), (ld_begun, .inl (cI, 16, .inl ld_begun_c))]) (va_runV (As := []) (rest := []) ⟨hx, hb, hml, hown, hts⟩ (q_X9_goBack l g cI cJ cB cZ cL wi n_wi_side_6 n_wi_rule_6 n_wi_begun_6 n_wi_years_6 n_wi_card_6 n_wi_hurt_6 0 wi_worth n_r0_c_19 H.size hw6_0 hw6_1 (ir_w hw6_2 (by decide) (by decide)) (by decide)) (cwV 0 hts (goodIn_app (g_4 (List.mem_cons_of_mem _ (List.mem_append_left _ (List.mem_of_getElem? (i := 9) rfl))) (List.mem_cons_of_mem _ (List.mem_append_left _ (List.mem_of_getElem? (i := 10) rfl))) (List.mem_cons_of_mem _ (List.mem_append_left _ (List.mem_of_getElem? (i := 11) rfl))) (List.mem_cons_of_mem _ (List.mem_append_left _ (List.mem_of_getElem? (i := 3) rfl))) (by decide +kernel)) (goodIn_sub (fun _ h => List.mem_cons_of_mem _ (List.mem_append_right _ (List.mem_append_right _ (List.mem_append_right _ (List.mem_append_left _ h))))) good_v_X9_goBack)) rfl rfl rfl (by decide +kernel) ⟨Nat.le_of_ble_eq_true rfl, Nat.le_of_ble_eq_true rfl⟩) (pv_RW (q := (RX9, TX9, 8)) (ci := 9) (q0 := 0) (wc := [(wi, .inr (9, [.int n_wi_side_6, .int n_wi_rule_6, .int n_wi_begun_6, .int n_wi_years_6, .int n_wi_card_6, .int n_wi_hurt_6, .int 0, .ref wi_worth])), (wi_worth, .inl (cI, 208, .inl n_r0_c_19))]) hK hP hD [0, 6] (by decide) rfl rfl rfl) rfl rfl hl.1 rfl (lv_room (Nat.le_of_ble_eq_true rfl)) dX9_planKeep_23 ⟨Nat.le_of_ble_eq_true rfl, Nat.le_of_ble_eq_true rfl⟩) hS hA hP hD [0, 6] [1, 2, 3, 4, 5] rfl rfl (by decide) (by decide) (fun u23 H locs hw23 hP hD hS => ?_)
  generalize u23 = n_wi_worth_c_23 at hw23 hP hD
  have hP : va_P g vwCl [(ld, .inr (4, [.int ld_lines, .int ld_years, .int ld_card, .int ld_hurt, .int ld_people, .int ld_pairs, .long ld_strikes, .ref ld_rule, .ref ld_returns, .ref ld_forgets, .ref ld_death, .ref ld_move, .ref ld_begun, .ref ld_who, .ref ld_lost])), (ld_who, .inl (cI, 32, .inl ld_who_c)), (ld_rule, .inl (cI, 10, .inl ld_rule_c)), (ld_returns, .inl (cI, 10, .inl ld_returns_c)), (ld_begun, .inl (cI, 16, .inl ld_begun_c)), (wi, .inr (9, [.int n_wi_side_6, .int n_wi_rule_6, .int n_wi_begun_6, .int n_wi_years_6, .int n_wi_card_6, .int n_wi_hurt_6, .int 0, .ref wi_worth])), (wi_worth, .inl (cI, 208, .inl n_wi_worth_c_23))] H := hP
  have hD : va_D A [(ld, .inr (4, [.int ld_lines, .int ld_years, .int ld_card, .int ld_hurt, .int ld_people, .int ld_pairs, .long ld_strikes, .ref ld_rule, .ref ld_returns, .ref ld_forgets, .ref ld_death, .ref ld_move, .ref ld_begun, .ref ld_who, .ref ld_lost])), (ld_who, .inl (cI, 32, .inl ld_who_c)), (ld_rule, .inl (cI, 10, .inl ld_rule_c)), (ld_returns, .inl (cI, 10, .inl ld_returns_c)), (ld_begun, .inl (cI, 16, .inl ld_begun_c)), (wi, .inr (9, [.int n_wi_side_6, .int n_wi_rule_6, .int n_wi_begun_6, .int n_wi_years_6, .int n_wi_card_6, .int n_wi_hurt_6, .int 0, .ref wi_worth])), (wi_worth, .inl (cI, 208, .inl n_wi_worth_c_23))] := hD
  subst hQ
  have hP9 := hP.sub (ws' := [(wi, .inr (9, [.int n_wi_side_6, .int n_wi_rule_6, .int n_wi_begun_6, .int n_wi_years_6, .int n_wi_card_6, .int n_wi_hurt_6, .int 0, .ref wi_worth])), (ld, .inr (4, [.int ld_lines, .int ld_years, .int ld_card, .int ld_hurt, .int ld_people, .int ld_pairs, .long ld_strikes, .ref ld_rule, .ref ld_returns, .ref ld_forgets, .ref ld_death, .ref ld_move, .ref ld_begun, .ref ld_who, .ref ld_lost])), (ld_who, .inl (cI, 32, .inl ld_who_c)), (ld_rule, .inl (cI, 10, .inl ld_rule_c)), (ld_returns, .inl (cI, 10, .inl ld_returns_c)), (ld_begun, .inl (cI, 16, .inl ld_begun_c)), (wi_worth, .inl (cI, 208, .inl n_wi_worth_c_23))]) [5, 0, 1, 2, 3, 4, 6] rfl
  have hD9 := hD.sub (ws' := [(wi, .inr (9, [.int n_wi_side_6, .int n_wi_rule_6, .int n_wi_begun_6, .int n_wi_years_6, .int n_wi_card_6, .int n_wi_hurt_6, .int 0, .ref wi_worth])), (ld, .inr (4, [.int ld_lines, .int ld_years, .int ld_card, .int ld_hurt, .int ld_people, .int ld_pairs, .long ld_strikes, .ref ld_rule, .ref ld_returns, .ref ld_forgets, .ref ld_death, .ref ld_move, .ref ld_begun, .ref ld_who, .ref ld_lost])), (ld_who, .inl (cI, 32, .inl ld_who_c)), (ld_rule, .inl (cI, 10, .inl ld_rule_c)), (ld_returns, .inl (cI, 10, .inl ld_returns_c)), (ld_begun, .inl (cI, 16, .inl ld_begun_c)), (wi_worth, .inl (cI, 208, .inl n_wi_worth_c_23))]) [5, 0, 1, 2, 3, 4, 6] (by decide) rfl
  exact W.vret hx hb hr (fun t ht hW => ⟨⟨(n_wi_side_6, n_wi_rule_6, n_wi_begun_6, n_wi_years_6, n_wi_card_6, n_wi_hurt_6, 0, n_wi_worth_c_23), rfl, ⟨hw6_0, hw6_1, hw6_2, (show ir (0 : Int32).toInt 0 0 by decide)⟩, ⟨by rw [ht]; exact hP9, va_K.moved hW.alike hK, hD9⟩⟩, hS.F ht⟩) hS.2.2 dX9_planKeep_26
def v_X7_has : List Cond := .code yX7_has cX7_has 2 (some .boolean) :: (([.fieldLink RX7 15 "CardsAtYule$Slots" "size" "[I"] : List Cond) ++ (wsX70 ++ ([] : List Cond)))
theorem good_v_X7_has : v_X7_has.all goodWord = true := ga_c (by decide +kernel) (ga_a (by decide +kernel) (ga_a good_wsX70 rfl))
set_option maxHeartbeats 4000000 in
set_option maxRecDepth 100000 in
theorem q_X7_has (l : Launch) (g : va_G) (cI cJ cB cZ cL : ClassId) (p0 : Int32) (sl : Nat) (sl_width : Nat) (sl_size : Nat) (sl_numbers : Nat) (sl_size_c : Nat → Int32) (sz : Nat) (hv_p0 : ir p0.toInt 0 3) (ha_sl_size_c : ar sl_size_c 4 (-1) 60) : Met l yX7_has v_X7_has ({ frames := 0, cells := 0, slots := 0, locals := 0 }) (va_Pc [.ref sl, .int p0] (pRO g (tyT cI cJ cB cZ cL) [(sl, .inr (7, [.ref sl_width, .ref sl_size, .ref sl_numbers])), (sl_size, .inl (cI, 4, .inl sl_size_c))] sz)) (va_Qi (fun (r : Int32) (u : Unit) => (ir r.toInt 0 1)) (fun (_ : Unit) (_ : State) => True) (va_A [] sz)) 0 0 (va_A [] sz) := by
  refine Met.ofW (cc := cX7_has) (maxL := 2) (ret := (some .boolean)) (by decide) rfl ?_
  intro p e s m args below meth c s₁ B hml hv
  obtain ⟨rfl, hsz, hP, hK⟩ := hv
  have hx := B.exec
  have hb := B.bytes
  have hr := B.returns
  have hts := atoms_spec (ws := v_X7_has) B.pre
  have hown : s.vm.findClass RX7 = some m.cls := findClass_of_methodNamed B.named
  have hlocks := B.notSynchronized
  clear B
  subst hsz
  have iX7 : ∀ w ∈ wsX70, w ∈ v_X7_has := (fun _ h => List.mem_cons_of_mem _ (List.mem_append_right _ (List.mem_append_left _ h)))
  generalize hAe : (va_A [] s.heap.size) = A
  have hA : ∀ q : Nat, s.heap.size ≤ q → A q := fun q h => by rw [← hAe]; exact Or.inr h
  have hS : va_S A s.heap s.heap [] := va_S.rf
  have hl := lv_entry ([.ref sl, .int p0]) (n := 2) (Nat.le_of_ble_eq_true rfl)
  rw [lg_entry_eq]
  generalize (lg_sl ([.ref sl, .int p0]) ++ List.replicate (2 - (lg_sl ([.ref sl, .int p0])).length) Slot.unset).toArray = ls at hl ⊢
  generalize ([.ref sl, .int p0] : List Value).toArray = av at hts ⊢
  generalize hQ : MQ below _ av s _ _ A = QQ
  have hl : lv_has ls 2 [(0, .ref sl), (1, .int p0)] := hl
  have hP : va_P g vwCl [(sl, .inr (7, [.ref sl_width, .ref sl_size, .ref sl_numbers])), (sl_size, .inl (cI, 4, .inl sl_size_c))] s.heap := hP
  refine lv_aload_n hx hb dX7_has_0 rfl (lv_at hl 0 rfl) ?_
  refine va_get (D := g) (ci := 7) (v := .ref sl_size) (C := RX7) (T := TX7) (N := 3) hx hb hts iX7 hown hK hP 0 rfl rfl 1 (by decide) (hts (.fieldLink RX7 15 "CardsAtYule$Slots" "size" "[I") (List.mem_cons_of_mem _ (List.mem_append_left _ (List.mem_of_getElem? (i := 0) rfl)))) (fun _ h9 => h9) rfl dX7_has_1 ?_
  refine lv_iload_n hx hb dX7_has_4 rfl (lv_at hl 1 rfl) ?_
  refine va_iald (D := g) hx hb hK hP 1 0 rfl rfl (vi_rg rfl hv_p0 (by decide) (by decide)) dX7_has_5 ?_
  refine lv_topi (fun y5 e5 => ?_)
  have r5 : ir y5.toInt (-1) 60 := by rw [e5]; exact ha_sl_size_c _ (vi_cl (vi_rg rfl hv_p0 (by decide) (by decide)))
  refine lv_iconst (v := (-1)) hx hb dX7_has_6 (by decide) ?_
  refine lv_icmp_eq (tgt := 14) hx hb dX7_has_7 (by decide) (fun c7 => ?_) (fun c7 => ?_)
  · have f7 := (show y5.toInt = (-1) from z_eq rfl rfl c7)
    have r7a : ir y5.toInt (-1) (-1) := ir_eqa f7 r5 (ir_c (-1)) (by decide) (by decide)
    refine lv_iconst (v := 0) hx hb dX7_has_14 (by decide) ?_
    subst hQ
    exact W.zret (v := 0) hx hb hr rfl (fun t ht hW => ⟨⟨0, (), rfl, (show ir (0 : Int32).toInt 0 1 by decide), trivial⟩, hS.F ht⟩) hS.2.2 dX7_has_15
  have f7 := (show y5.toInt ≠ (-1) from z_ne rfl rfl c7)
  have r7a : ir y5.toInt 0 60 := ir_nel f7 r5 (by decide) (by decide)
  refine lv_iconst (v := 1) hx hb dX7_has_10 (by decide) ?_
  refine lv_goto (tgt := 15) hx hb dX7_has_11 (by decide) ?_
  subst hQ
  exact W.zret (v := 1) hx hb hr rfl (fun t ht hW => ⟨⟨1, (), rfl, (show ir (1 : Int32).toInt 0 1 by decide), trivial⟩, hS.F ht⟩) hS.2.2 dX7_has_15
def v_X7_filled : List Cond := .code yX7_filled cX7_filled 3 (some .int) :: (([.methodLink RX7 22 yX7_has, .instanceMethod yX7_has, .selects RX7 yX7_has yX7_has, .initialized RX7] : List Cond) ++ (v_X7_has ++ ([] : List Cond)))
theorem good_v_X7_filled : v_X7_filled.all goodWord = true := ga_c (by decide +kernel) (ga_a (by decide +kernel) (ga_a good_v_X7_has rfl))
set_option maxHeartbeats 4000000 in
set_option maxRecDepth 100000 in
theorem q_X7_filled (l : Launch) (g : va_G) (cI cJ cB cZ cL : ClassId) (sl : Nat) (sl_width : Nat) (sl_size : Nat) (sl_numbers : Nat) (sl_size_c : Nat → Int32) (sz : Nat) (ha_sl_size_c : ar sl_size_c 4 (-1) 60) : Met l yX7_filled v_X7_filled ({ frames := 1, cells := 0, slots := 0, locals := 21 }) (va_Pc [.ref sl] (pRO g (tyT cI cJ cB cZ cL) [(sl, .inr (7, [.ref sl_width, .ref sl_size, .ref sl_numbers])), (sl_size, .inl (cI, 4, .inl sl_size_c))] sz)) (va_Qi (fun (r : Int32) (u : Unit) => True) (fun (_ : Unit) (_ : State) => True) (va_A [] sz)) 0 0 (va_A [] sz) := by
  refine Met.ofW (cc := cX7_filled) (maxL := 3) (ret := (some .int)) (by decide) rfl ?_
  intro p e s m args below meth c s₁ B hml hv
  obtain ⟨rfl, hsz, hP, hK⟩ := hv
  have hx := B.exec
  have hb := B.bytes
  have hr := B.returns
  have hts := atoms_spec (ws := v_X7_filled) B.pre
  have hown : s.vm.findClass RX7 = some m.cls := findClass_of_methodNamed B.named
  have hlocks := B.notSynchronized
  clear B
  subst hsz
  generalize hAe : (va_A [] s.heap.size) = A
  have hA : ∀ q : Nat, s.heap.size ≤ q → A q := fun q h => by rw [← hAe]; exact Or.inr h
  have hS : va_S A s.heap s.heap [] := va_S.rf
  have hl := lv_entry ([.ref sl]) (n := 3) (Nat.le_of_ble_eq_true rfl)
  rw [lg_entry_eq]
  generalize (lg_sl ([.ref sl]) ++ List.replicate (3 - (lg_sl ([.ref sl])).length) Slot.unset).toArray = ls at hl ⊢
  generalize ([.ref sl] : List Value).toArray = av at hts ⊢
  generalize hQ : MQ below _ av s _ _ A = QQ
  have hl : lv_has ls 3 [(0, .ref sl)] := hl
  have hP : va_P g vwCl [(sl, .inr (7, [.ref sl_width, .ref sl_size, .ref sl_numbers])), (sl_size, .inl (cI, 4, .inl sl_size_c))] s.heap := hP
  refine lv_iconst (v := 0) hx hb dX7_filled_0 (by decide) ?_
  refine lv_istore_n (lv' := [(1, .int 0), (0, .ref sl)]) hx hb dX7_filled_1 rfl hl (by decide) rfl (fun ls hl => ?_)
  refine lv_iconst (v := 0) hx hb dX7_filled_2 (by decide) ?_
  refine lv_istore_n (lv' := [(2, .int 0), (1, .int 0), (0, .ref sl)]) hx hb dX7_filled_3 rfl hl (by decide) rfl (fun ls hl => ?_)
  have J4 : ∀ (n4 : Nat) (j4_l1 : Int32) (j4_l2 : Int32) (H : Heap) (locs : List Loc) (ls : Array Slot), (5 - j4_l2.toInt).toNat < n4 → (ir j4_l2.toInt 0 4) → va_P g vwCl [(sl, .inr (7, [.ref sl_width, .ref sl_size, .ref sl_numbers])), (sl_size, .inl (cI, 4, .inl sl_size_c))] H → va_S A s.heap H locs → lv_has ls 3 [(0, .ref sl), (1, .int j4_l1), (2, .int j4_l2)] → W p l e (headSpec v_X7_filled ({ frames := 1, cells := 0, slots := 0, locals := 21 })).room s m av below meth c H locs 0 0 QQ (F0 m 4 ls []) := by
    intro n4
    induction n4 with
    | zero => exact fun j4_l1 j4_l2 H locs ls hn => absurd hn (Nat.not_lt_zero _)
    | succ n4 ih4 =>
      intro j4_l1 j4_l2 H locs ls hn4 hj4_l2 hP hS hl
      refine lv_iload_n hx hb dX7_filled_4 rfl (lv_at hl 2 rfl) ?_
      refine lv_iconst (v := 4) hx hb dX7_filled_5 (by decide) ?_
      refine lv_icmp_ge (tgt := 31) hx hb dX7_filled_6 (by decide) (fun c6 => ?_) (fun c6 => ?_)
      · have f6 := (show 4 ≤ j4_l2.toInt from z_le rfl rfl c6)
        have r6a : ir j4_l2.toInt 4 4 := ir_leb f6 (ir_c 4) hj4_l2 (by decide)
        refine lv_iload_n hx hb dX7_filled_31 rfl (lv_at hl 1 rfl) ?_
        subst hQ
        exact W.iret (v := j4_l1) hx hb hr (fun t ht hW => ⟨⟨j4_l1, (), rfl, trivial, trivial⟩, hS.F ht⟩) hS.2.2 dX7_filled_32
      have f6 := (show j4_l2.toInt < 4 from z_nle rfl rfl c6)
      have r6a : ir j4_l2.toInt 0 3 := ir_lta f6 hj4_l2 (ir_c 4) (by decide)
      refine lv_iload_n hx hb dX7_filled_9 rfl (lv_at hl 1 rfl) ?_
      refine lv_aload_n hx hb dX7_filled_10 rfl (lv_at hl 0 rfl) ?_
      refine lv_iload_n hx hb dX7_filled_11 rfl (lv_at hl 2 rfl) ?_
      refine ro_i (va_runV (As := [.int j4_l2]) (rest := [.int j4_l1]) ⟨hx, hb, hml, hown, hts⟩ (q_X7_has l g cI cJ cB cZ cL j4_l2 sl sl_width sl_size sl_numbers sl_size_c H.size r6a ha_sl_size_c) (cwV 1 hts (goodIn_app (g_4 (List.mem_cons_of_mem _ (List.mem_append_left _ (List.mem_of_getElem? (i := 0) rfl))) (List.mem_cons_of_mem _ (List.mem_append_left _ (List.mem_of_getElem? (i := 1) rfl))) (List.mem_cons_of_mem _ (List.mem_append_left _ (List.mem_of_getElem? (i := 2) rfl))) (List.mem_cons_of_mem _ (List.mem_append_left _ (List.mem_of_getElem? (i := 3) rfl))) (by decide +kernel)) (goodIn_sub (fun _ h => List.mem_cons_of_mem _ (List.mem_append_right _ (List.mem_append_left _ h))) good_v_X7_has)) rfl rfl rfl (by decide +kernel) ⟨Nat.le_of_ble_eq_true rfl, Nat.le_of_ble_eq_true rfl⟩) (pv_RO (q := (RX7, TX7, 3)) (ci := 7) (q0 := 0) (wc := [(sl, .inr (7, [.ref sl_width, .ref sl_size, .ref sl_numbers])), (sl_size, .inl (cI, 4, .inl sl_size_c))]) hK hP [0, 1] rfl rfl rfl) rfl rfl hl.1 rfl (lv_room (Nat.le_of_ble_eq_true rfl)) dX7_filled_12 ⟨Nat.le_of_ble_eq_true rfl, Nat.le_of_ble_eq_true rfl⟩) hS hA hP (fun r12 u12 H locs hw12 hP hS => ?_)
      have hw12_0 := hw12
      have J23 : ∀ (j23_s0 : Int32) (H : Heap) (locs : List Loc) (ls : Array Slot), (ir j23_s0.toInt 0 1) → va_P g vwCl [(sl, .inr (7, [.ref sl_width, .ref sl_size, .ref sl_numbers])), (sl_size, .inl (cI, 4, .inl sl_size_c))] H → va_S A s.heap H locs → lv_has ls 3 [(0, .ref sl), (2, .int j4_l2)] → W p l e (headSpec v_X7_filled ({ frames := 1, cells := 0, slots := 0, locals := 21 })).room s m av below meth c H locs 0 0 QQ (F0 m 23 ls [.int j23_s0, .int j4_l1]) := by
        intro j23_s0 H locs ls hj23_s0 hP hS hl
        refine lv_iadd hx hb dX7_filled_23 ?_
        refine lv_topi (fun y23 e23 => ?_)
        refine lv_istore_n (lv' := [(1, .int y23), (0, .ref sl), (2, .int j4_l2)]) hx hb dX7_filled_24 rfl hl (by decide) rfl (fun ls hl => ?_)
        obtain ⟨y25, e25⟩ : ∃ y : Int32, y = j4_l2 + 1 := ⟨_, rfl⟩
        have q25 : y25.toInt = j4_l2.toInt + 1 := by rw [e25]; exact ad_z rfl rfl r6a (ir_c 1) (by decide) (by decide)
        have r25 : ir y25.toInt 1 4 := ad_r q25 r6a (ir_c 1) (by decide) (by decide)
        refine lv_iinc (v := y25) (lv' := [(2, .int y25), (1, .int y23), (0, .ref sl)]) hx hb dX7_filled_25 hl (k := 2) rfl e25.symm (by decide) rfl (fun ls hl => ?_)
        refine lv_goto (tgt := 4) hx hb dX7_filled_28 (by decide) ?_
        exact ih4 y23 y25 _ _ _ (by omega) (ir_w r25 (by decide) (by decide)) (hP.sub [0, 1] rfl) hS (lv_sub hl [2, 1, 0] rfl)
      refine lv_if_eq (tgt := 22) hx hb dX7_filled_15 (by decide) (fun c15 => ?_) (fun c15 => ?_)
      · have f15 := (show r12.toInt = 0 from z_eq rfl rfl c15)
        have r15a : ir r12.toInt 0 0 := ir_eqa f15 hw12_0 (ir_c 0) (by decide) (by decide)
        refine lv_iconst (v := 0) hx hb dX7_filled_22 (by decide) ?_
        exact J23 0 _ _ _ (by decide) (hP.sub [0, 1] rfl) hS (lv_sub hl [0, 2] rfl)
      have f15 := (show r12.toInt ≠ 0 from z_ne rfl rfl c15)
      have r15a : ir r12.toInt 1 1 := ir_nel f15 hw12_0 (by decide) (by decide)
      refine lv_iconst (v := 1) hx hb dX7_filled_18 (by decide) ?_
      refine lv_goto (tgt := 23) hx hb dX7_filled_19 (by decide) ?_
      exact J23 1 _ _ _ (by decide) (hP.sub [0, 1] rfl) hS (lv_sub hl [0, 2] rfl)
  exact J4 _ 0 0 _ _ _ (Nat.lt_succ_self _) (by decide) (hP.sub [0, 1] rfl) hS (lv_sub hl [2, 1, 0] rfl)
def v_X7_lay : List Cond := .code yX7_lay cX7_lay 5 none :: (([.fieldLink RX7 11 "CardsAtYule$Slots" "width" "[I", .fieldLink RX7 15 "CardsAtYule$Slots" "size" "[I", .fieldLink RX7 18 "CardsAtYule$Slots" "numbers" "[J"] : List Cond) ++ (wsX70 ++ ([] : List Cond)))
theorem good_v_X7_lay : v_X7_lay.all goodWord = true := ga_c (by decide +kernel) (ga_a (by decide +kernel) (ga_a good_wsX70 rfl))
set_option maxHeartbeats 4000000 in
set_option maxRecDepth 100000 in
theorem q_X7_lay (l : Launch) (g : va_G) (cI cJ cB cZ cL : ClassId) (p0 : Int32) (p1 : Int32) (p2 : Int32) (sl : Nat) (sl_width : Nat) (sl_size : Nat) (sl_numbers : Nat) (sl_width_c : Nat → Int32) (sl_size_c : Nat → Int32) (sl_numbers_c : Nat → Int64) (sz : Nat) (hv_p0 : ir p0.toInt 0 3) (hv_p2 : ir p2.toInt 0 60) (ha_sl_size_c : ar sl_size_c 4 (-1) 60) : Met l yX7_lay v_X7_lay ({ frames := 0, cells := 0, slots := 0, locals := 0 }) (va_Pc [.ref sl, .int p0, .int p1, .int p2] (pRW g (tyT cI cJ cB cZ cL) [(sl, .inr (7, [.ref sl_width, .ref sl_size, .ref sl_numbers])), (sl_width, .inl (cI, 4, .inl sl_width_c)), (sl_size, .inl (cI, 4, .inl sl_size_c)), (sl_numbers, .inl (cJ, 240, .inr (.inl sl_numbers_c)))] sz)) (va_Qv (fun (u : (Nat → Int32) × (Nat → Int32) × (Nat → Int64)) => match u with | (n_sl_width_c, n_sl_size_c, n_sl_numbers_c) => (ar n_sl_size_c 4 (-1) 60)) (fun (u : (Nat → Int32) × (Nat → Int32) × (Nat → Int64)) (t : State) => bRW g (tyT cI cJ cB cZ cL) (va_A [(sl, .inr (7, [.ref sl_width, .ref sl_size, .ref sl_numbers])), (sl_width, .inl (cI, 4, .inl sl_width_c)), (sl_size, .inl (cI, 4, .inl sl_size_c)), (sl_numbers, .inl (cJ, 240, .inr (.inl sl_numbers_c)))] sz) (match u with | (n_sl_width_c, n_sl_size_c, n_sl_numbers_c) => [(sl, .inr (7, [.ref sl_width, .ref sl_size, .ref sl_numbers])), (sl_width, .inl (cI, 4, .inl n_sl_width_c)), (sl_size, .inl (cI, 4, .inl n_sl_size_c)), (sl_numbers, .inl (cJ, 240, .inr (.inl n_sl_numbers_c)))]) t) (va_A [(sl, .inr (7, [.ref sl_width, .ref sl_size, .ref sl_numbers])), (sl_width, .inl (cI, 4, .inl sl_width_c)), (sl_size, .inl (cI, 4, .inl sl_size_c)), (sl_numbers, .inl (cJ, 240, .inr (.inl sl_numbers_c)))] sz)) 0 0 (va_A [(sl, .inr (7, [.ref sl_width, .ref sl_size, .ref sl_numbers])), (sl_width, .inl (cI, 4, .inl sl_width_c)), (sl_size, .inl (cI, 4, .inl sl_size_c)), (sl_numbers, .inl (cJ, 240, .inr (.inl sl_numbers_c)))] sz) := by
  refine Met.ofW (cc := cX7_lay) (maxL := 5) (ret := none) (by decide) rfl ?_
  intro p e s m args below meth c s₁ B hml hv
  obtain ⟨rfl, hsz, hP, hK, hD0⟩ := hv
  have hx := B.exec
  have hb := B.bytes
  have hr := B.returns
  have hts := atoms_spec (ws := v_X7_lay) B.pre
  have hown : s.vm.findClass RX7 = some m.cls := findClass_of_methodNamed B.named
  have hlocks := B.notSynchronized
  clear B
  subst hsz
  have iX7 : ∀ w ∈ wsX70, w ∈ v_X7_lay := (fun _ h => List.mem_cons_of_mem _ (List.mem_append_right _ (List.mem_append_left _ h)))
  have hD := hD0.self (sz := s.heap.size)
  generalize hAe : (va_A [(sl, .inr (7, [.ref sl_width, .ref sl_size, .ref sl_numbers])), (sl_width, .inl (cI, 4, .inl sl_width_c)), (sl_size, .inl (cI, 4, .inl sl_size_c)), (sl_numbers, .inl (cJ, 240, .inr (.inl sl_numbers_c)))] s.heap.size) = A at hD ⊢
  have hA : ∀ q : Nat, s.heap.size ≤ q → A q := fun q h => by rw [← hAe]; exact Or.inr h
  have hS : va_S A s.heap s.heap [] := va_S.rf
  have hl := lv_entry ([.ref sl, .int p0, .int p1, .int p2]) (n := 5) (Nat.le_of_ble_eq_true rfl)
  rw [lg_entry_eq]
  generalize (lg_sl ([.ref sl, .int p0, .int p1, .int p2]) ++ List.replicate (5 - (lg_sl ([.ref sl, .int p0, .int p1, .int p2])).length) Slot.unset).toArray = ls at hl ⊢
  generalize ([.ref sl, .int p0, .int p1, .int p2] : List Value).toArray = av at hts ⊢
  generalize hQ : MQ below _ av s _ _ A = QQ
  have hl : lv_has ls 5 [(0, .ref sl), (1, .int p0), (2, .int p1), (3, .int p2)] := hl
  have hP : va_P g vwCl [(sl, .inr (7, [.ref sl_width, .ref sl_size, .ref sl_numbers])), (sl_width, .inl (cI, 4, .inl sl_width_c)), (sl_size, .inl (cI, 4, .inl sl_size_c)), (sl_numbers, .inl (cJ, 240, .inr (.inl sl_numbers_c)))] s.heap := hP
  refine lv_aload_n hx hb dX7_lay_0 rfl (lv_at hl 0 rfl) ?_
  refine va_get (D := g) (ci := 7) (v := .ref sl_width) (C := RX7) (T := TX7) (N := 3) hx hb hts iX7 hown hK hP 0 rfl rfl 0 (by decide) (hts (.fieldLink RX7 11 "CardsAtYule$Slots" "width" "[I") (List.mem_cons_of_mem _ (List.mem_append_left _ (List.mem_of_getElem? (i := 0) rfl)))) (fun _ h9 => h9) rfl dX7_lay_1 ?_
  refine lv_iload_n hx hb dX7_lay_4 rfl (lv_at hl 1 rfl) ?_
  refine lv_iload_n hx hb dX7_lay_5 rfl (lv_at hl 2 rfl) ?_
  refine va_iast (D := g) hx hb hK hP hD hS 1 0 rfl rfl (vi_rg rfl hv_p0 (by decide) (by decide)) dX7_lay_6 (fun H locs hP hD hS => ?_)
  obtain ⟨g6, e6⟩ : ∃ z, z = upd sl_width_c p0.toNatClampNeg p1 := ⟨_, rfl⟩
  have hP : va_P g vwCl [(sl, .inr (7, [.ref sl_width, .ref sl_size, .ref sl_numbers])), (sl_width, .inl (cI, 4, .inl (upd sl_width_c p0.toNatClampNeg p1))), (sl_size, .inl (cI, 4, .inl sl_size_c)), (sl_numbers, .inl (cJ, 240, .inr (.inl sl_numbers_c)))] H := hP
  have hD : va_D A [(sl, .inr (7, [.ref sl_width, .ref sl_size, .ref sl_numbers])), (sl_width, .inl (cI, 4, .inl (upd sl_width_c p0.toNatClampNeg p1))), (sl_size, .inl (cI, 4, .inl sl_size_c)), (sl_numbers, .inl (cJ, 240, .inr (.inl sl_numbers_c)))] := hD
  rw [← e6] at hP hD
  refine lv_aload_n hx hb dX7_lay_7 rfl (lv_at hl 0 rfl) ?_
  refine va_get (D := g) (ci := 7) (v := .ref sl_size) (C := RX7) (T := TX7) (N := 3) hx hb hts iX7 hown hK hP 0 rfl rfl 1 (by decide) (hts (.fieldLink RX7 15 "CardsAtYule$Slots" "size" "[I") (List.mem_cons_of_mem _ (List.mem_append_left _ (List.mem_of_getElem? (i := 1) rfl)))) (fun _ h9 => h9) rfl dX7_lay_8 ?_
  refine lv_iload_n hx hb dX7_lay_11 rfl (lv_at hl 1 rfl) ?_
  refine lv_iload_n hx hb dX7_lay_12 rfl (lv_at hl 3 rfl) ?_
  refine va_iast (D := g) hx hb hK hP hD hS 2 0 rfl rfl (vi_rg rfl hv_p0 (by decide) (by decide)) dX7_lay_13 (fun H locs hP hD hS => ?_)
  obtain ⟨g13, e13⟩ : ∃ z, z = upd sl_size_c p0.toNatClampNeg p2 := ⟨_, rfl⟩
  have hP : va_P g vwCl [(sl, .inr (7, [.ref sl_width, .ref sl_size, .ref sl_numbers])), (sl_width, .inl (cI, 4, .inl g6)), (sl_size, .inl (cI, 4, .inl (upd sl_size_c p0.toNatClampNeg p2))), (sl_numbers, .inl (cJ, 240, .inr (.inl sl_numbers_c)))] H := hP
  have hD : va_D A [(sl, .inr (7, [.ref sl_width, .ref sl_size, .ref sl_numbers])), (sl_width, .inl (cI, 4, .inl g6)), (sl_size, .inl (cI, 4, .inl (upd sl_size_c p0.toNatClampNeg p2))), (sl_numbers, .inl (cJ, 240, .inr (.inl sl_numbers_c)))] := hD
  rw [← e13] at hP hD
  have a13 : ar g13 4 (-1) 60 := by rw [e13]; exact ar_u ha_sl_size_c (ir_w hv_p2 (by decide) (by decide))
  refine lv_iconst (v := 0) hx hb dX7_lay_14 (by decide) ?_
  refine lv_istore (lv' := [(4, .int 0), (0, .ref sl), (1, .int p0), (2, .int p1), (3, .int p2)]) hx hb dX7_lay_15 hl (by decide) rfl (fun ls hl => ?_)
  have J17 : ∀ (n17 : Nat) (j17_l4 : Int32) (j17_sl_numbers_c : Nat → Int64) (H : Heap) (locs : List Loc) (ls : Array Slot), (61 - j17_l4.toInt).toNat < n17 → (ir j17_l4.toInt 0 60) → va_P g vwCl [(sl, .inr (7, [.ref sl_width, .ref sl_size, .ref sl_numbers])), (sl_width, .inl (cI, 4, .inl g6)), (sl_size, .inl (cI, 4, .inl g13)), (sl_numbers, .inl (cJ, 240, .inr (.inl j17_sl_numbers_c)))] H → va_D A [(sl, .inr (7, [.ref sl_width, .ref sl_size, .ref sl_numbers])), (sl_width, .inl (cI, 4, .inl g6)), (sl_size, .inl (cI, 4, .inl g13)), (sl_numbers, .inl (cJ, 240, .inr (.inl j17_sl_numbers_c)))] → va_S A s.heap H locs → lv_has ls 5 [(0, .ref sl), (1, .int p0), (3, .int p2), (4, .int j17_l4)] → W p l e (headSpec v_X7_lay ({ frames := 0, cells := 0, slots := 0, locals := 0 })).room s m av below meth c H locs 0 0 QQ (F0 m 17 ls []) := by
    intro n17
    induction n17 with
    | zero => exact fun j17_l4 j17_sl_numbers_c H locs ls hn => absurd hn (Nat.not_lt_zero _)
    | succ n17 ih17 =>
      intro j17_l4 j17_sl_numbers_c H locs ls hn17 hj17_l4 hP hD hS hl
      refine lv_iload hx hb dX7_lay_17 (lv_at hl 3 rfl) ?_
      refine lv_iload_n hx hb dX7_lay_19 rfl (lv_at hl 2 rfl) ?_
      refine lv_icmp_ge (tgt := 42) hx hb dX7_lay_20 (by decide) (fun c20 => ?_) (fun c20 => ?_)
      · have f20 := (show p2.toInt ≤ j17_l4.toInt from z_le rfl rfl c20)
        subst hQ
        have hP9 := hP.sub (ws' := [(sl, .inr (7, [.ref sl_width, .ref sl_size, .ref sl_numbers])), (sl_width, .inl (cI, 4, .inl g6)), (sl_size, .inl (cI, 4, .inl g13)), (sl_numbers, .inl (cJ, 240, .inr (.inl j17_sl_numbers_c)))]) [0, 1, 2, 3] rfl
        have hD9 := hD.sub (ws' := [(sl, .inr (7, [.ref sl_width, .ref sl_size, .ref sl_numbers])), (sl_width, .inl (cI, 4, .inl g6)), (sl_size, .inl (cI, 4, .inl g13)), (sl_numbers, .inl (cJ, 240, .inr (.inl j17_sl_numbers_c)))]) [0, 1, 2, 3] (by decide) rfl
        exact W.vret hx hb hr (fun t ht hW => ⟨⟨(g6, g13, j17_sl_numbers_c), rfl, a13, ⟨by rw [ht]; exact hP9, va_K.moved hW.alike hK, hD9⟩⟩, hS.F ht⟩) hS.2.2 dX7_lay_42
      have f20 := (show j17_l4.toInt < p2.toInt from z_nle rfl rfl c20)
      have r20a : ir j17_l4.toInt 0 59 := ir_lta f20 hj17_l4 hv_p2 (by decide)
      have r20b : ir p2.toInt 1 60 := ir_ltb f20 hj17_l4 hv_p2 (by decide)
      refine lv_aload_n hx hb dX7_lay_23 rfl (lv_at hl 0 rfl) ?_
      refine va_get (D := g) (ci := 7) (v := .ref sl_numbers) (C := RX7) (T := TX7) (N := 3) hx hb hts iX7 hown hK hP 0 rfl rfl 2 (by decide) (hts (.fieldLink RX7 18 "CardsAtYule$Slots" "numbers" "[J") (List.mem_cons_of_mem _ (List.mem_append_left _ (List.mem_of_getElem? (i := 2) rfl)))) (fun _ h9 => h9) rfl dX7_lay_24 ?_
      refine lv_iload_n hx hb dX7_lay_27 rfl (lv_at hl 1 rfl) ?_
      refine lv_bipush (v := 60) hx hb dX7_lay_28 (by decide) ?_
      refine lv_imul hx hb dX7_lay_30 ?_
      refine lv_topi (fun y30 e30 => ?_)
      have q30 : y30.toInt = p0.toInt * 60 := by rw [e30]; exact mu_z rfl rfl hv_p0 (ir_c 60) (by decide) (by decide) (by decide)
      have r30 : ir y30.toInt 0 180 := mu_r q30 hv_p0 (ir_c 60) (by decide) (by decide) (by decide) (by decide)
      refine lv_iload hx hb dX7_lay_31 (lv_at hl 3 rfl) ?_
      refine lv_iadd hx hb dX7_lay_33 ?_
      refine lv_topi (fun y33 e33 => ?_)
      have q33 : y33.toInt = y30.toInt + j17_l4.toInt := by rw [e33]; exact ad_z rfl rfl r30 r20a (by decide) (by decide)
      have r33 : ir y33.toInt 0 239 := ad_r q33 r30 r20a (by decide) (by decide)
      refine lv_lconst (v := 0) hx hb dX7_lay_34 (by decide) ?_
      refine va_last (D := g) hx hb hK hP hD hS 3 1 rfl rfl (vi_rg rfl r33 (by decide) (by decide)) dX7_lay_35 (fun H locs hP hD hS => ?_)
      obtain ⟨g35, e35⟩ : ∃ z, z = vp_updL j17_sl_numbers_c y33.toNatClampNeg (0 : Int64) := ⟨_, rfl⟩
      have hP : va_P g vwCl [(sl, .inr (7, [.ref sl_width, .ref sl_size, .ref sl_numbers])), (sl_width, .inl (cI, 4, .inl g6)), (sl_size, .inl (cI, 4, .inl g13)), (sl_numbers, .inl (cJ, 240, .inr (.inl (vp_updL j17_sl_numbers_c y33.toNatClampNeg (0 : Int64)))))] H := hP
      have hD : va_D A [(sl, .inr (7, [.ref sl_width, .ref sl_size, .ref sl_numbers])), (sl_width, .inl (cI, 4, .inl g6)), (sl_size, .inl (cI, 4, .inl g13)), (sl_numbers, .inl (cJ, 240, .inr (.inl (vp_updL j17_sl_numbers_c y33.toNatClampNeg (0 : Int64)))))] := hD
      rw [← e35] at hP hD
      obtain ⟨y36, e36⟩ : ∃ y : Int32, y = j17_l4 + 1 := ⟨_, rfl⟩
      have q36 : y36.toInt = j17_l4.toInt + 1 := by rw [e36]; exact ad_z rfl rfl r20a (ir_c 1) (by decide) (by decide)
      have r36 : ir y36.toInt 1 60 := ad_r q36 r20a (ir_c 1) (by decide) (by decide)
      refine lv_iinc (v := y36) (lv' := [(4, .int y36), (0, .ref sl), (1, .int p0), (3, .int p2)]) hx hb dX7_lay_36 hl (k := 3) rfl e36.symm (by decide) rfl (fun ls hl => ?_)
      refine lv_goto (tgt := 17) hx hb dX7_lay_39 (by decide) ?_
      exact ih17 y36 g35 _ _ _ (by omega) (ir_w r36 (by decide) (by decide)) (hP.sub [0, 1, 2, 3] rfl) (hD.sub [0, 1, 2, 3] (by decide) rfl) hS (lv_sub hl [1, 2, 3, 0] rfl)
  exact J17 _ 0 sl_numbers_c _ _ _ (Nat.lt_succ_self _) (by decide) (hP.sub [0, 1, 2, 3] rfl) (hD.sub [0, 1, 2, 3] (by decide) rfl) hS (lv_sub hl [1, 2, 4, 0] rfl)
def v_X7_numberAt : List Cond := .code yX7_numberAt cX7_numberAt 3 (some .long) :: (([.fieldLink RX7 18 "CardsAtYule$Slots" "numbers" "[J"] : List Cond) ++ (wsX70 ++ ([] : List Cond)))
theorem good_v_X7_numberAt : v_X7_numberAt.all goodWord = true := ga_c (by decide +kernel) (ga_a (by decide +kernel) (ga_a good_wsX70 rfl))
set_option maxHeartbeats 4000000 in
set_option maxRecDepth 100000 in
theorem q_X7_numberAt (l : Launch) (g : va_G) (cI cJ cB cZ cL : ClassId) (p0 : Int32) (p1 : Int32) (sl : Nat) (sl_width : Nat) (sl_size : Nat) (sl_numbers : Nat) (sl_numbers_c : Nat → Int64) (sz : Nat) (hv_p0 : ir p0.toInt 0 3) (hv_p1 : ir p1.toInt 0 59) : Met l yX7_numberAt v_X7_numberAt ({ frames := 0, cells := 0, slots := 0, locals := 0 }) (va_Pc [.ref sl, .int p0, .int p1] (pRO g (tyT cI cJ cB cZ cL) [(sl, .inr (7, [.ref sl_width, .ref sl_size, .ref sl_numbers])), (sl_numbers, .inl (cJ, 240, .inr (.inl sl_numbers_c)))] sz)) (va_Ql (fun (r : Int64) (u : Unit) => True) (fun (_ : Unit) (_ : State) => True) (va_A [] sz)) 0 0 (va_A [] sz) := by
  refine Met.ofW (cc := cX7_numberAt) (maxL := 3) (ret := (some .long)) (by decide) rfl ?_
  intro p e s m args below meth c s₁ B hml hv
  obtain ⟨rfl, hsz, hP, hK⟩ := hv
  have hx := B.exec
  have hb := B.bytes
  have hr := B.returns
  have hts := atoms_spec (ws := v_X7_numberAt) B.pre
  have hown : s.vm.findClass RX7 = some m.cls := findClass_of_methodNamed B.named
  have hlocks := B.notSynchronized
  clear B
  subst hsz
  have iX7 : ∀ w ∈ wsX70, w ∈ v_X7_numberAt := (fun _ h => List.mem_cons_of_mem _ (List.mem_append_right _ (List.mem_append_left _ h)))
  generalize hAe : (va_A [] s.heap.size) = A
  have hA : ∀ q : Nat, s.heap.size ≤ q → A q := fun q h => by rw [← hAe]; exact Or.inr h
  have hS : va_S A s.heap s.heap [] := va_S.rf
  have hl := lv_entry ([.ref sl, .int p0, .int p1]) (n := 3) (Nat.le_of_ble_eq_true rfl)
  rw [lg_entry_eq]
  generalize (lg_sl ([.ref sl, .int p0, .int p1]) ++ List.replicate (3 - (lg_sl ([.ref sl, .int p0, .int p1])).length) Slot.unset).toArray = ls at hl ⊢
  generalize ([.ref sl, .int p0, .int p1] : List Value).toArray = av at hts ⊢
  generalize hQ : MQ below _ av s _ _ A = QQ
  have hl : lv_has ls 3 [(0, .ref sl), (1, .int p0), (2, .int p1)] := hl
  have hP : va_P g vwCl [(sl, .inr (7, [.ref sl_width, .ref sl_size, .ref sl_numbers])), (sl_numbers, .inl (cJ, 240, .inr (.inl sl_numbers_c)))] s.heap := hP
  refine lv_aload_n hx hb dX7_numberAt_0 rfl (lv_at hl 0 rfl) ?_
  refine va_get (D := g) (ci := 7) (v := .ref sl_numbers) (C := RX7) (T := TX7) (N := 3) hx hb hts iX7 hown hK hP 0 rfl rfl 2 (by decide) (hts (.fieldLink RX7 18 "CardsAtYule$Slots" "numbers" "[J") (List.mem_cons_of_mem _ (List.mem_append_left _ (List.mem_of_getElem? (i := 0) rfl)))) (fun _ h9 => h9) rfl dX7_numberAt_1 ?_
  refine lv_iload_n hx hb dX7_numberAt_4 rfl (lv_at hl 1 rfl) ?_
  refine lv_bipush (v := 60) hx hb dX7_numberAt_5 (by decide) ?_
  refine lv_imul hx hb dX7_numberAt_7 ?_
  refine lv_topi (fun y7 e7 => ?_)
  have q7 : y7.toInt = p0.toInt * 60 := by rw [e7]; exact mu_z rfl rfl hv_p0 (ir_c 60) (by decide) (by decide) (by decide)
  have r7 : ir y7.toInt 0 180 := mu_r q7 hv_p0 (ir_c 60) (by decide) (by decide) (by decide) (by decide)
  refine lv_iload_n hx hb dX7_numberAt_8 rfl (lv_at hl 2 rfl) ?_
  refine lv_iadd hx hb dX7_numberAt_9 ?_
  refine lv_topi (fun y9 e9 => ?_)
  have q9 : y9.toInt = y7.toInt + p1.toInt := by rw [e9]; exact ad_z rfl rfl r7 hv_p1 (by decide) (by decide)
  have r9 : ir y9.toInt 0 239 := ad_r q9 r7 hv_p1 (by decide) (by decide)
  refine va_lald (D := g) hx hb hK hP 1 1 rfl rfl (vi_rg rfl r9 (by decide) (by decide)) dX7_numberAt_10 ?_
  refine lv_topl (fun y10 e10 => ?_)
  subst hQ
  exact W.lret (v := y10) hx hb hr (fun t ht hW => ⟨⟨y10, (), rfl, trivial, trivial⟩, hS.F ht⟩) hS.2.2 dX7_numberAt_11
def v_X7_put : List Cond := .code yX7_put cX7_put 6 none :: (([.fieldLink RX7 11 "CardsAtYule$Slots" "width" "[I", .fieldLink RX7 18 "CardsAtYule$Slots" "numbers" "[J"] : List Cond) ++ (wsX70 ++ ([] : List Cond)))
theorem good_v_X7_put : v_X7_put.all goodWord = true := ga_c (by decide +kernel) (ga_a (by decide +kernel) (ga_a good_wsX70 rfl))
set_option maxHeartbeats 4000000 in
set_option maxRecDepth 100000 in
theorem q_X7_put (l : Launch) (g : va_G) (cI cJ cB cZ cL : ClassId) (p0 : Int32) (p1 : Int32) (p2 : Int64) (sl : Nat) (sl_width : Nat) (sl_size : Nat) (sl_numbers : Nat) (sl_width_c : Nat → Int32) (sl_numbers_c : Nat → Int64) (sz : Nat) (hv_p0 : ir p0.toInt 0 3) (hv_p1 : ir p1.toInt 0 59) : Met l yX7_put v_X7_put ({ frames := 0, cells := 0, slots := 0, locals := 0 }) (va_Pc [.ref sl, .int p0, .int p1, .long p2] (pRW g (tyT cI cJ cB cZ cL) [(sl, .inr (7, [.ref sl_width, .ref sl_size, .ref sl_numbers])), (sl_width, .inl (cI, 4, .inl sl_width_c)), (sl_numbers, .inl (cJ, 240, .inr (.inl sl_numbers_c)))] sz)) (va_Qv (fun (u : (Nat → Int64)) => match u with | n_sl_numbers_c => True) (fun (u : (Nat → Int64)) (t : State) => bRW g (tyT cI cJ cB cZ cL) (va_A [(sl, .inr (7, [.ref sl_width, .ref sl_size, .ref sl_numbers])), (sl_width, .inl (cI, 4, .inl sl_width_c)), (sl_numbers, .inl (cJ, 240, .inr (.inl sl_numbers_c)))] sz) (match u with | n_sl_numbers_c => [(sl, .inr (7, [.ref sl_width, .ref sl_size, .ref sl_numbers])), (sl_width, .inl (cI, 4, .inl sl_width_c)), (sl_numbers, .inl (cJ, 240, .inr (.inl n_sl_numbers_c)))]) t) (va_A [(sl, .inr (7, [.ref sl_width, .ref sl_size, .ref sl_numbers])), (sl_width, .inl (cI, 4, .inl sl_width_c)), (sl_numbers, .inl (cJ, 240, .inr (.inl sl_numbers_c)))] sz)) 0 0 (va_A [(sl, .inr (7, [.ref sl_width, .ref sl_size, .ref sl_numbers])), (sl_width, .inl (cI, 4, .inl sl_width_c)), (sl_numbers, .inl (cJ, 240, .inr (.inl sl_numbers_c)))] sz) := by
  refine Met.ofW (cc := cX7_put) (maxL := 6) (ret := none) (by decide) rfl ?_
  intro p e s m args below meth c s₁ B hml hv
  obtain ⟨rfl, hsz, hP, hK, hD0⟩ := hv
  have hx := B.exec
  have hb := B.bytes
  have hr := B.returns
  have hts := atoms_spec (ws := v_X7_put) B.pre
  have hown : s.vm.findClass RX7 = some m.cls := findClass_of_methodNamed B.named
  have hlocks := B.notSynchronized
  clear B
  subst hsz
  have iX7 : ∀ w ∈ wsX70, w ∈ v_X7_put := (fun _ h => List.mem_cons_of_mem _ (List.mem_append_right _ (List.mem_append_left _ h)))
  have hD := hD0.self (sz := s.heap.size)
  generalize hAe : (va_A [(sl, .inr (7, [.ref sl_width, .ref sl_size, .ref sl_numbers])), (sl_width, .inl (cI, 4, .inl sl_width_c)), (sl_numbers, .inl (cJ, 240, .inr (.inl sl_numbers_c)))] s.heap.size) = A at hD ⊢
  have hA : ∀ q : Nat, s.heap.size ≤ q → A q := fun q h => by rw [← hAe]; exact Or.inr h
  have hS : va_S A s.heap s.heap [] := va_S.rf
  have hl := lv_entry ([.ref sl, .int p0, .int p1, .long p2]) (n := 6) (Nat.le_of_ble_eq_true rfl)
  rw [lg_entry_eq]
  generalize (lg_sl ([.ref sl, .int p0, .int p1, .long p2]) ++ List.replicate (6 - (lg_sl ([.ref sl, .int p0, .int p1, .long p2])).length) Slot.unset).toArray = ls at hl ⊢
  generalize ([.ref sl, .int p0, .int p1, .long p2] : List Value).toArray = av at hts ⊢
  generalize hQ : MQ below _ av s _ _ A = QQ
  have hl : lv_has ls 6 [(0, .ref sl), (1, .int p0), (2, .int p1), (3, .long p2)] := hl
  have hP : va_P g vwCl [(sl, .inr (7, [.ref sl_width, .ref sl_size, .ref sl_numbers])), (sl_width, .inl (cI, 4, .inl sl_width_c)), (sl_numbers, .inl (cJ, 240, .inr (.inl sl_numbers_c)))] s.heap := hP
  refine lv_bipush (v := 64) hx hb dX7_put_0 (by decide) ?_
  refine lv_bipush (v := 8) hx hb dX7_put_2 (by decide) ?_
  refine lv_aload_n hx hb dX7_put_4 rfl (lv_at hl 0 rfl) ?_
  refine va_get (D := g) (ci := 7) (v := .ref sl_width) (C := RX7) (T := TX7) (N := 3) hx hb hts iX7 hown hK hP 0 rfl rfl 0 (by decide) (hts (.fieldLink RX7 11 "CardsAtYule$Slots" "width" "[I") (List.mem_cons_of_mem _ (List.mem_append_left _ (List.mem_of_getElem? (i := 0) rfl)))) (fun _ h9 => h9) rfl dX7_put_5 ?_
  refine lv_iload_n hx hb dX7_put_8 rfl (lv_at hl 1 rfl) ?_
  refine va_iald (D := g) hx hb hK hP 1 0 rfl rfl (vi_rg rfl hv_p0 (by decide) (by decide)) dX7_put_9 ?_
  refine lv_topi (fun y9 e9 => ?_)
  refine lv_ishl hx hb dX7_put_10 ?_
  refine lv_topi (fun y10 e10 => ?_)
  refine lv_isub hx hb dX7_put_11 ?_
  refine lv_topi (fun y11 e11 => ?_)
  refine lv_istore (lv' := [(5, .int y11), (0, .ref sl), (1, .int p0), (2, .int p1), (3, .long p2)]) hx hb dX7_put_12 hl (by decide) rfl (fun ls hl => ?_)
  refine lv_aload_n hx hb dX7_put_14 rfl (lv_at hl 1 rfl) ?_
  refine va_get (D := g) (ci := 7) (v := .ref sl_numbers) (C := RX7) (T := TX7) (N := 3) hx hb hts iX7 hown hK hP 0 rfl rfl 2 (by decide) (hts (.fieldLink RX7 18 "CardsAtYule$Slots" "numbers" "[J") (List.mem_cons_of_mem _ (List.mem_append_left _ (List.mem_of_getElem? (i := 1) rfl)))) (fun _ h9 => h9) rfl dX7_put_15 ?_
  refine lv_iload_n hx hb dX7_put_18 rfl (lv_at hl 2 rfl) ?_
  refine lv_bipush (v := 60) hx hb dX7_put_19 (by decide) ?_
  refine lv_imul hx hb dX7_put_21 ?_
  refine lv_topi (fun y21 e21 => ?_)
  have q21 : y21.toInt = p0.toInt * 60 := by rw [e21]; exact mu_z rfl rfl hv_p0 (ir_c 60) (by decide) (by decide) (by decide)
  have r21 : ir y21.toInt 0 180 := mu_r q21 hv_p0 (ir_c 60) (by decide) (by decide) (by decide) (by decide)
  refine lv_iload_n hx hb dX7_put_22 rfl (lv_at hl 3 rfl) ?_
  refine lv_iadd hx hb dX7_put_23 ?_
  refine lv_topi (fun y23 e23 => ?_)
  have q23 : y23.toInt = y21.toInt + p1.toInt := by rw [e23]; exact ad_z rfl rfl r21 hv_p1 (by decide) (by decide)
  have r23 : ir y23.toInt 0 239 := ad_r q23 r21 hv_p1 (by decide) (by decide)
  refine lv_lload_n hx hb dX7_put_24 rfl (lv_at hl 4 rfl) ?_
  refine lv_iload hx hb dX7_put_25 (lv_at hl 0 rfl) ?_
  refine lv_lshl (v := (p2 <<< (y11.toInt64 &&& 63))) hx hb dX7_put_27 rfl ?_
  refine lv_topl (fun y27 e27 => ?_)
  refine lv_iload hx hb dX7_put_28 (lv_at hl 0 rfl) ?_
  refine lv_lshr (v := (y27 >>> (y11.toInt64 &&& 63))) hx hb dX7_put_30 rfl ?_
  refine lv_topl (fun y30 e30 => ?_)
  refine va_last (D := g) hx hb hK hP hD hS 2 1 rfl rfl (vi_rg rfl r23 (by decide) (by decide)) dX7_put_31 (fun H locs hP hD hS => ?_)
  obtain ⟨g31, e31⟩ : ∃ z, z = vp_updL sl_numbers_c y23.toNatClampNeg y30 := ⟨_, rfl⟩
  have hP : va_P g vwCl [(sl, .inr (7, [.ref sl_width, .ref sl_size, .ref sl_numbers])), (sl_width, .inl (cI, 4, .inl sl_width_c)), (sl_numbers, .inl (cJ, 240, .inr (.inl (vp_updL sl_numbers_c y23.toNatClampNeg y30))))] H := hP
  have hD : va_D A [(sl, .inr (7, [.ref sl_width, .ref sl_size, .ref sl_numbers])), (sl_width, .inl (cI, 4, .inl sl_width_c)), (sl_numbers, .inl (cJ, 240, .inr (.inl (vp_updL sl_numbers_c y23.toNatClampNeg y30))))] := hD
  rw [← e31] at hP hD
  subst hQ
  have hP9 := hP.sub (ws' := [(sl, .inr (7, [.ref sl_width, .ref sl_size, .ref sl_numbers])), (sl_width, .inl (cI, 4, .inl sl_width_c)), (sl_numbers, .inl (cJ, 240, .inr (.inl g31)))]) [0, 1, 2] rfl
  have hD9 := hD.sub (ws' := [(sl, .inr (7, [.ref sl_width, .ref sl_size, .ref sl_numbers])), (sl_width, .inl (cI, 4, .inl sl_width_c)), (sl_numbers, .inl (cJ, 240, .inr (.inl g31)))]) [0, 1, 2] (by decide) rfl
  exact W.vret hx hb hr (fun t ht hW => ⟨⟨g31, rfl, trivial, ⟨by rw [ht]; exact hP9, va_K.moved hW.alike hK, hD9⟩⟩, hS.F ht⟩) hS.2.2 dX7_put_32
def v_X7_holds : List Cond := .code yX7_holds cX7_holds 4 (some .boolean) :: (([.fieldLink RX7 15 "CardsAtYule$Slots" "size" "[I"] : List Cond) ++ (wsX70 ++ ([] : List Cond)))
theorem good_v_X7_holds : v_X7_holds.all goodWord = true := ga_c (by decide +kernel) (ga_a (by decide +kernel) (ga_a good_wsX70 rfl))
set_option maxHeartbeats 4000000 in
set_option maxRecDepth 100000 in
theorem q_X7_holds (l : Launch) (g : va_G) (cI cJ cB cZ cL : ClassId) (p0 : Int32) (p1 : Int32) (p2 : Int32) (sl : Nat) (sl_width : Nat) (sl_size : Nat) (sl_numbers : Nat) (sl_size_c : Nat → Int32) (sz : Nat) (hv_p0 : ir p0.toInt 0 3) (ha_sl_size_c : ar sl_size_c 4 (-1) 60) : Met l yX7_holds v_X7_holds ({ frames := 0, cells := 0, slots := 0, locals := 0 }) (va_Pc [.ref sl, .int p0, .int p1, .int p2] (pRO g (tyT cI cJ cB cZ cL) [(sl, .inr (7, [.ref sl_width, .ref sl_size, .ref sl_numbers])), (sl_size, .inl (cI, 4, .inl sl_size_c))] sz)) (va_Qi (fun (r : Int32) (u : Unit) => ((r = 1 ∧ 0 ≤ p1.toInt ∧ 0 ≤ p2.toInt ∧ p1.toInt + p2.toInt ≤ 60) ∨ (r = 0))) (fun (_ : Unit) (_ : State) => True) (va_A [] sz)) 0 0 (va_A [] sz) := by
  refine Met.ofW (cc := cX7_holds) (maxL := 4) (ret := (some .boolean)) (by decide) rfl ?_
  intro p e s m args below meth c s₁ B hml hv
  obtain ⟨rfl, hsz, hP, hK⟩ := hv
  have hx := B.exec
  have hb := B.bytes
  have hr := B.returns
  have hts := atoms_spec (ws := v_X7_holds) B.pre
  have hown : s.vm.findClass RX7 = some m.cls := findClass_of_methodNamed B.named
  have hlocks := B.notSynchronized
  clear B
  subst hsz
  have iX7 : ∀ w ∈ wsX70, w ∈ v_X7_holds := (fun _ h => List.mem_cons_of_mem _ (List.mem_append_right _ (List.mem_append_left _ h)))
  generalize hAe : (va_A [] s.heap.size) = A
  have hA : ∀ q : Nat, s.heap.size ≤ q → A q := fun q h => by rw [← hAe]; exact Or.inr h
  have hS : va_S A s.heap s.heap [] := va_S.rf
  have hl := lv_entry ([.ref sl, .int p0, .int p1, .int p2]) (n := 4) (Nat.le_of_ble_eq_true rfl)
  rw [lg_entry_eq]
  generalize (lg_sl ([.ref sl, .int p0, .int p1, .int p2]) ++ List.replicate (4 - (lg_sl ([.ref sl, .int p0, .int p1, .int p2])).length) Slot.unset).toArray = ls at hl ⊢
  generalize ([.ref sl, .int p0, .int p1, .int p2] : List Value).toArray = av at hts ⊢
  generalize hQ : MQ below _ av s _ _ A = QQ
  have hl : lv_has ls 4 [(0, .ref sl), (1, .int p0), (2, .int p1), (3, .int p2)] := hl
  have hP : va_P g vwCl [(sl, .inr (7, [.ref sl_width, .ref sl_size, .ref sl_numbers])), (sl_size, .inl (cI, 4, .inl sl_size_c))] s.heap := hP
  refine lv_iload_n hx hb dX7_holds_0 rfl (lv_at hl 2 rfl) ?_
  refine lv_if_lt (tgt := 34) hx hb dX7_holds_1 (by decide) (fun c1 => ?_) (fun c1 => ?_)
  · have f1 := (show p1.toInt < 0 from z_lt rfl rfl c1)
    have r1a : ir p1.toInt (-2147483648) (-1) := ir_lta f1 (rg_all p1) (ir_c 0) (by decide)
    refine lv_iconst (v := 0) hx hb dX7_holds_34 (by decide) ?_
    subst hQ
    exact W.zret (v := 0) hx hb hr rfl (fun t ht hW => ⟨⟨0, (), rfl, (Or.inr rfl), trivial⟩, hS.F ht⟩) hS.2.2 dX7_holds_35
  have f1 := (show 0 ≤ p1.toInt from z_nlt rfl rfl c1)
  have r1a : ir p1.toInt 0 2147483647 := ir_leb f1 (ir_c 0) (rg_all p1) (by decide)
  refine lv_iload_n hx hb dX7_holds_4 rfl (lv_at hl 3 rfl) ?_
  refine lv_if_lt (tgt := 34) hx hb dX7_holds_5 (by decide) (fun c5 => ?_) (fun c5 => ?_)
  · have f5 := (show p2.toInt < 0 from z_lt rfl rfl c5)
    have r5a : ir p2.toInt (-2147483648) (-1) := ir_lta f5 (rg_all p2) (ir_c 0) (by decide)
    refine lv_iconst (v := 0) hx hb dX7_holds_34 (by decide) ?_
    subst hQ
    exact W.zret (v := 0) hx hb hr rfl (fun t ht hW => ⟨⟨0, (), rfl, (Or.inr rfl), trivial⟩, hS.F ht⟩) hS.2.2 dX7_holds_35
  have f5 := (show 0 ≤ p2.toInt from z_nlt rfl rfl c5)
  have r5a : ir p2.toInt 0 2147483647 := ir_leb f5 (ir_c 0) (rg_all p2) (by decide)
  refine lv_iload_n hx hb dX7_holds_8 rfl (lv_at hl 2 rfl) ?_
  refine lv_aload_n hx hb dX7_holds_9 rfl (lv_at hl 0 rfl) ?_
  refine va_get (D := g) (ci := 7) (v := .ref sl_size) (C := RX7) (T := TX7) (N := 3) hx hb hts iX7 hown hK hP 0 rfl rfl 1 (by decide) (hts (.fieldLink RX7 15 "CardsAtYule$Slots" "size" "[I") (List.mem_cons_of_mem _ (List.mem_append_left _ (List.mem_of_getElem? (i := 0) rfl)))) (fun _ h9 => h9) rfl dX7_holds_10 ?_
  refine lv_iload_n hx hb dX7_holds_13 rfl (lv_at hl 1 rfl) ?_
  refine va_iald (D := g) hx hb hK hP 1 0 rfl rfl (vi_rg rfl hv_p0 (by decide) (by decide)) dX7_holds_14 ?_
  refine lv_topi (fun y14 e14 => ?_)
  have r14 : ir y14.toInt (-1) 60 := by rw [e14]; exact ha_sl_size_c _ (vi_cl (vi_rg rfl hv_p0 (by decide) (by decide)))
  refine lv_icmp_gt (tgt := 34) hx hb dX7_holds_15 (by decide) (fun c15 => ?_) (fun c15 => ?_)
  · have f15 := (show y14.toInt < p1.toInt from z_lt rfl rfl c15)
    refine lv_iconst (v := 0) hx hb dX7_holds_34 (by decide) ?_
    subst hQ
    exact W.zret (v := 0) hx hb hr rfl (fun t ht hW => ⟨⟨0, (), rfl, (Or.inr rfl), trivial⟩, hS.F ht⟩) hS.2.2 dX7_holds_35
  have f15 := (show p1.toInt ≤ y14.toInt from z_nlt rfl rfl c15)
  have r15a : ir p1.toInt 0 60 := ir_lea f15 r1a r14 (by decide)
  have r15b : ir y14.toInt 0 60 := ir_leb f15 r1a r14 (by decide)
  refine lv_iload_n hx hb dX7_holds_18 rfl (lv_at hl 3 rfl) ?_
  refine lv_aload_n hx hb dX7_holds_19 rfl (lv_at hl 0 rfl) ?_
  refine va_get (D := g) (ci := 7) (v := .ref sl_size) (C := RX7) (T := TX7) (N := 3) hx hb hts iX7 hown hK hP 0 rfl rfl 1 (by decide) (hts (.fieldLink RX7 15 "CardsAtYule$Slots" "size" "[I") (List.mem_cons_of_mem _ (List.mem_append_left _ (List.mem_of_getElem? (i := 0) rfl)))) (fun _ h9 => h9) rfl dX7_holds_20 ?_
  refine lv_iload_n hx hb dX7_holds_23 rfl (lv_at hl 1 rfl) ?_
  refine va_iald (D := g) hx hb hK hP 1 0 rfl rfl (vi_rg rfl hv_p0 (by decide) (by decide)) dX7_holds_24 ?_
  refine lv_topi (fun y24 e24 => ?_)
  have r24 : ir y24.toInt (-1) 60 := by rw [e24]; exact ha_sl_size_c _ (vi_cl (vi_rg rfl hv_p0 (by decide) (by decide)))
  refine lv_iload_n hx hb dX7_holds_25 rfl (lv_at hl 2 rfl) ?_
  refine lv_isub hx hb dX7_holds_26 ?_
  refine lv_topi (fun y26 e26 => ?_)
  have q26 : y26.toInt = y24.toInt - p1.toInt := by rw [e26]; exact su_z rfl rfl r24 r15a (by decide) (by decide)
  have r26 : ir y26.toInt (-61) 60 := su_r q26 r24 r15a (by decide) (by decide)
  refine lv_icmp_gt (tgt := 34) hx hb dX7_holds_27 (by decide) (fun c27 => ?_) (fun c27 => ?_)
  · have f27 := (show y26.toInt < p2.toInt from z_lt rfl rfl c27)
    refine lv_iconst (v := 0) hx hb dX7_holds_34 (by decide) ?_
    subst hQ
    exact W.zret (v := 0) hx hb hr rfl (fun t ht hW => ⟨⟨0, (), rfl, (Or.inr rfl), trivial⟩, hS.F ht⟩) hS.2.2 dX7_holds_35
  have f27 := (show p2.toInt ≤ y26.toInt from z_nlt rfl rfl c27)
  have r27a : ir p2.toInt 0 60 := ir_lea f27 r5a r26 (by decide)
  have r27b : ir y26.toInt 0 60 := ir_leb f27 r5a r26 (by decide)
  refine lv_iconst (v := 1) hx hb dX7_holds_30 (by decide) ?_
  refine lv_goto (tgt := 35) hx hb dX7_holds_31 (by decide) ?_
  subst hQ
  exact W.zret (v := 1) hx hb hr rfl (fun t ht hW => ⟨⟨1, (), rfl, (Or.inl ⟨rfl, (by first | omega | decide), (by first | omega | decide), (by first | omega | decide)⟩), trivial⟩, hS.F ht⟩) hS.2.2 dX7_holds_35
def v_X7_copy : List Cond := .code yX7_copy cX7_copy 6 none :: (([.fieldLink RX7 18 "CardsAtYule$Slots" "numbers" "[J", .methodLink RX7 26 arraycopyName, .native arraycopyName, .static arraycopyName, .initialized "java/lang/System"] : List Cond) ++ (wsX70 ++ ([] : List Cond)))
theorem good_v_X7_copy : v_X7_copy.all goodWord = true := ga_c (by decide +kernel) (ga_a (by decide +kernel) (ga_a good_wsX70 rfl))
set_option maxHeartbeats 4000000 in
set_option maxRecDepth 100000 in
theorem q_X7_copy (l : Launch) (g : va_G) (cI cJ cB cZ cL : ClassId) (p0 : Int32) (p1 : Int32) (p2 : Int32) (p3 : Int32) (p4 : Int32) (sl : Nat) (sl_width : Nat) (sl_size : Nat) (sl_numbers : Nat) (sl_numbers_c : Nat → Int64) (sz : Nat) (hv_p0 : ir p0.toInt 0 3) (hv_p1 : ir p1.toInt 0 60) (hv_p2 : ir p2.toInt 0 3) (hv_p3 : ir p3.toInt 0 60) (hv_p4 : ir p4.toInt 0 60) (hx_0 : p1.toInt + p4.toInt ≤ 60) (hx_1 : p3.toInt + p4.toInt ≤ 60) : Met l yX7_copy v_X7_copy ({ frames := 1, cells := 0, slots := 0, locals := 24 }) (va_Pc [.ref sl, .int p0, .int p1, .int p2, .int p3, .int p4] (pRW g (tyT cI cJ cB cZ cL) [(sl, .inr (7, [.ref sl_width, .ref sl_size, .ref sl_numbers])), (sl_numbers, .inl (cJ, 240, .inr (.inl sl_numbers_c)))] sz)) (va_Qv (fun (u : (Nat → Int64)) => match u with | n_sl_numbers_c => True) (fun (u : (Nat → Int64)) (t : State) => bRW g (tyT cI cJ cB cZ cL) (va_A [(sl, .inr (7, [.ref sl_width, .ref sl_size, .ref sl_numbers])), (sl_numbers, .inl (cJ, 240, .inr (.inl sl_numbers_c)))] sz) (match u with | n_sl_numbers_c => [(sl, .inr (7, [.ref sl_width, .ref sl_size, .ref sl_numbers])), (sl_numbers, .inl (cJ, 240, .inr (.inl n_sl_numbers_c)))]) t) (va_A [(sl, .inr (7, [.ref sl_width, .ref sl_size, .ref sl_numbers])), (sl_numbers, .inl (cJ, 240, .inr (.inl sl_numbers_c)))] sz)) 0 0 (va_A [(sl, .inr (7, [.ref sl_width, .ref sl_size, .ref sl_numbers])), (sl_numbers, .inl (cJ, 240, .inr (.inl sl_numbers_c)))] sz) := by
  refine Met.ofW (cc := cX7_copy) (maxL := 6) (ret := none) (by decide) rfl ?_
  intro p e s m args below meth c s₁ B hml hv
  obtain ⟨rfl, hsz, hP, hK, hD0⟩ := hv
  have hx := B.exec
  have hb := B.bytes
  have hr := B.returns
  have hts := atoms_spec (ws := v_X7_copy) B.pre
  have hown : s.vm.findClass RX7 = some m.cls := findClass_of_methodNamed B.named
  have hlocks := B.notSynchronized
  clear B
  subst hsz
  have iX7 : ∀ w ∈ wsX70, w ∈ v_X7_copy := (fun _ h => List.mem_cons_of_mem _ (List.mem_append_right _ (List.mem_append_left _ h)))
  have hD := hD0.self (sz := s.heap.size)
  generalize hAe : (va_A [(sl, .inr (7, [.ref sl_width, .ref sl_size, .ref sl_numbers])), (sl_numbers, .inl (cJ, 240, .inr (.inl sl_numbers_c)))] s.heap.size) = A at hD ⊢
  have hA : ∀ q : Nat, s.heap.size ≤ q → A q := fun q h => by rw [← hAe]; exact Or.inr h
  have hS : va_S A s.heap s.heap [] := va_S.rf
  have hl := lv_entry ([.ref sl, .int p0, .int p1, .int p2, .int p3, .int p4]) (n := 6) (Nat.le_of_ble_eq_true rfl)
  rw [lg_entry_eq]
  generalize (lg_sl ([.ref sl, .int p0, .int p1, .int p2, .int p3, .int p4]) ++ List.replicate (6 - (lg_sl ([.ref sl, .int p0, .int p1, .int p2, .int p3, .int p4])).length) Slot.unset).toArray = ls at hl ⊢
  generalize ([.ref sl, .int p0, .int p1, .int p2, .int p3, .int p4] : List Value).toArray = av at hts ⊢
  generalize hQ : MQ below _ av s _ _ A = QQ
  have hl : lv_has ls 6 [(0, .ref sl), (1, .int p0), (2, .int p1), (3, .int p2), (4, .int p3), (5, .int p4)] := hl
  have hP : va_P g vwCl [(sl, .inr (7, [.ref sl_width, .ref sl_size, .ref sl_numbers])), (sl_numbers, .inl (cJ, 240, .inr (.inl sl_numbers_c)))] s.heap := hP
  refine lv_aload_n hx hb dX7_copy_0 rfl (lv_at hl 0 rfl) ?_
  refine va_get (D := g) (ci := 7) (v := .ref sl_numbers) (C := RX7) (T := TX7) (N := 3) hx hb hts iX7 hown hK hP 0 rfl rfl 2 (by decide) (hts (.fieldLink RX7 18 "CardsAtYule$Slots" "numbers" "[J") (List.mem_cons_of_mem _ (List.mem_append_left _ (List.mem_of_getElem? (i := 0) rfl)))) (fun _ h9 => h9) rfl dX7_copy_1 ?_
  refine lv_iload_n hx hb dX7_copy_4 rfl (lv_at hl 1 rfl) ?_
  refine lv_bipush (v := 60) hx hb dX7_copy_5 (by decide) ?_
  refine lv_imul hx hb dX7_copy_7 ?_
  refine lv_topi (fun y7 e7 => ?_)
  have q7 : y7.toInt = p0.toInt * 60 := by rw [e7]; exact mu_z rfl rfl hv_p0 (ir_c 60) (by decide) (by decide) (by decide)
  have r7 : ir y7.toInt 0 180 := mu_r q7 hv_p0 (ir_c 60) (by decide) (by decide) (by decide) (by decide)
  refine lv_iload_n hx hb dX7_copy_8 rfl (lv_at hl 2 rfl) ?_
  refine lv_iadd hx hb dX7_copy_9 ?_
  refine lv_topi (fun y9 e9 => ?_)
  have q9 : y9.toInt = y7.toInt + p1.toInt := by rw [e9]; exact ad_z rfl rfl r7 hv_p1 (by decide) (by decide)
  have r9 : ir y9.toInt 0 240 := ad_r q9 r7 hv_p1 (by decide) (by decide)
  refine lv_aload_n hx hb dX7_copy_10 rfl (lv_at hl 0 rfl) ?_
  refine va_get (D := g) (ci := 7) (v := .ref sl_numbers) (C := RX7) (T := TX7) (N := 3) hx hb hts iX7 hown hK hP 0 rfl rfl 2 (by decide) (hts (.fieldLink RX7 18 "CardsAtYule$Slots" "numbers" "[J") (List.mem_cons_of_mem _ (List.mem_append_left _ (List.mem_of_getElem? (i := 0) rfl)))) (fun _ h9 => h9) rfl dX7_copy_11 ?_
  refine lv_iload_n hx hb dX7_copy_14 rfl (lv_at hl 3 rfl) ?_
  refine lv_bipush (v := 60) hx hb dX7_copy_15 (by decide) ?_
  refine lv_imul hx hb dX7_copy_17 ?_
  refine lv_topi (fun y17 e17 => ?_)
  have q17 : y17.toInt = p2.toInt * 60 := by rw [e17]; exact mu_z rfl rfl hv_p2 (ir_c 60) (by decide) (by decide) (by decide)
  have r17 : ir y17.toInt 0 180 := mu_r q17 hv_p2 (ir_c 60) (by decide) (by decide) (by decide) (by decide)
  refine lv_iload hx hb dX7_copy_18 (lv_at hl 4 rfl) ?_
  refine lv_iadd hx hb dX7_copy_20 ?_
  refine lv_topi (fun y20 e20 => ?_)
  have q20 : y20.toInt = y17.toInt + p3.toInt := by rw [e20]; exact ad_z rfl rfl r17 hv_p3 (by decide) (by decide)
  have r20 : ir y20.toInt 0 240 := ad_r q20 r17 hv_p3 (by decide) (by decide)
  refine lv_iload hx hb dX7_copy_21 (lv_at hl 5 rfl) ?_
  refine va_copyl (D := g) hx hb (hml.trans hl.1.symm) hown (hts (.methodLink RX7 26 arraycopyName) (List.mem_cons_of_mem _ (List.mem_append_left _ (List.mem_of_getElem? (i := 1) rfl)))) (hts (.native arraycopyName) (List.mem_cons_of_mem _ (List.mem_append_left _ (List.mem_of_getElem? (i := 2) rfl)))) (hts (.static arraycopyName) (List.mem_cons_of_mem _ (List.mem_append_left _ (List.mem_of_getElem? (i := 3) rfl)))) (hts (.initialized "java/lang/System") (List.mem_cons_of_mem _ (List.mem_append_left _ (List.mem_of_getElem? (i := 4) rfl)))) hK hP hD hS 1 1 1 1 rfl rfl rfl rfl rfl (nn_i rfl r9 (by decide)) (nn_i rfl r20 (by decide)) (nn_i rfl hv_p4 (by decide)) (cp_o rfl rfl (by omega) (by omega) (by omega)) (cp_o rfl rfl (by omega) (by omega) (by omega)) (fun _ _ => rfl) (Nat.le_of_ble_eq_true rfl) (Nat.le_of_ble_eq_true rfl) dX7_copy_23 (fun H locs hP hD hS => ?_)
  obtain ⟨g23, e23⟩ : ∃ z, z = va_cpy sl_numbers_c sl_numbers_c y9.toNatClampNeg y20.toNatClampNeg p4.toNatClampNeg := ⟨_, rfl⟩
  have hP : va_P g vwCl [(sl, .inr (7, [.ref sl_width, .ref sl_size, .ref sl_numbers])), (sl_numbers, .inl (cJ, 240, .inr (.inl (va_cpy sl_numbers_c sl_numbers_c y9.toNatClampNeg y20.toNatClampNeg p4.toNatClampNeg))))] H := hP
  have hD : va_D A [(sl, .inr (7, [.ref sl_width, .ref sl_size, .ref sl_numbers])), (sl_numbers, .inl (cJ, 240, .inr (.inl (va_cpy sl_numbers_c sl_numbers_c y9.toNatClampNeg y20.toNatClampNeg p4.toNatClampNeg))))] := hD
  rw [← e23] at hP hD
  subst hQ
  have hP9 := hP.sub (ws' := [(sl, .inr (7, [.ref sl_width, .ref sl_size, .ref sl_numbers])), (sl_numbers, .inl (cJ, 240, .inr (.inl g23)))]) [0, 1] rfl
  have hD9 := hD.sub (ws' := [(sl, .inr (7, [.ref sl_width, .ref sl_size, .ref sl_numbers])), (sl_numbers, .inl (cJ, 240, .inr (.inl g23)))]) [0, 1] (by decide) rfl
  exact W.vret hx hb hr (fun t ht hW => ⟨⟨g23, rfl, trivial, ⟨by rw [ht]; exact hP9, va_K.moved hW.alike hK, hD9⟩⟩, hS.F ht⟩) hS.2.2 dX7_copy_26
def v_X6_note : List Cond := .code yX6_note cX6_note 6 none :: (([.fieldLink RX6 9 "CardsAtYule$Seen" "years" "J", .initialized RX11, .static yX11_isAt, .fieldLink RX6 15 "CardsAtYule$Seen" "got0" "J", .fieldLink RX6 18 "CardsAtYule$Seen" "got1" "J", .fieldLink RX6 21 "CardsAtYule$Seen" "clashes" "Z"] : List Cond) ++ (v_X11_isAt ++ (wsX60 ++ ([] : List Cond))))
theorem good_v_X6_note : v_X6_note.all goodWord = true := ga_c (by decide +kernel) (ga_a (by decide +kernel) (ga_a good_v_X11_isAt (ga_a good_wsX60 rfl)))
set_option maxHeartbeats 4000000 in
set_option maxRecDepth 100000 in
theorem q_X6_note (l : Launch) (g : va_G) (cI cJ cB cZ cL : ClassId) (kA : Nat → Nat) (vA : Nat → Nat) (p0 : Int32) (p1 : Int64) (p2 : Int64) (se : Nat) (se_years : Int64) (se_got0 : Int64) (se_got1 : Int64) (se_clashes : Int32) (sz : Nat) (hv_se_clashes : ir se_clashes.toInt 0 1) : Met l yX6_note v_X6_note ({ frames := 1, cells := 0, slots := 0, locals := 22 }) (va_Pc [.ref se, .int p0, .long p1, .long p2] (eRW g (tyT cI cJ cB cZ cL) [(se, .inr (6, [.long se_years, .long se_got0, .long se_got1, .int se_clashes]))] sz kA vA)) (va_Qv (fun (u : Int64 × Int64 × Int64 × Int32) => match u with | (n_se_years, n_se_got0, n_se_got1, n_se_clashes) => (ir n_se_clashes.toInt 0 1)) (fun (u : Int64 × Int64 × Int64 × Int32) (t : State) => bRW g (tyT cI cJ cB cZ cL) (va_A [(se, .inr (6, [.long se_years, .long se_got0, .long se_got1, .int se_clashes]))] sz) (match u with | (n_se_years, n_se_got0, n_se_got1, n_se_clashes) => [(se, .inr (6, [.long n_se_years, .long n_se_got0, .long n_se_got1, .int n_se_clashes]))]) t) (va_A [(se, .inr (6, [.long se_years, .long se_got0, .long se_got1, .int se_clashes]))] sz)) 0 0 (va_A [(se, .inr (6, [.long se_years, .long se_got0, .long se_got1, .int se_clashes]))] sz) := by
  refine Met.ofW (cc := cX6_note) (maxL := 6) (ret := none) (by decide) rfl ?_
  intro p e s m args below meth c s₁ B hml hv
  obtain ⟨rfl, ⟨hsz, hP, hK, hD0⟩, hE⟩ := hv
  have hx := B.exec
  have hb := B.bytes
  have hr := B.returns
  have hts := atoms_spec (ws := v_X6_note) B.pre
  have hown : s.vm.findClass RX6 = some m.cls := findClass_of_methodNamed B.named
  have hlocks := B.notSynchronized
  clear B
  subst hsz
  have iX6 : ∀ w ∈ wsX60, w ∈ v_X6_note := (fun _ h => List.mem_cons_of_mem _ (List.mem_append_right _ (List.mem_append_right _ (List.mem_append_left _ h))))
  have hD := hD0.self (sz := s.heap.size)
  generalize hAe : (va_A [(se, .inr (6, [.long se_years, .long se_got0, .long se_got1, .int se_clashes]))] s.heap.size) = A at hD hE ⊢
  have hA : ∀ q : Nat, s.heap.size ≤ q → A q := fun q h => by rw [← hAe]; exact Or.inr h
  have hS : va_S A s.heap s.heap [] := va_S.rf
  have hl := lv_entry ([.ref se, .int p0, .long p1, .long p2]) (n := 6) (Nat.le_of_ble_eq_true rfl)
  rw [lg_entry_eq]
  generalize (lg_sl ([.ref se, .int p0, .long p1, .long p2]) ++ List.replicate (6 - (lg_sl ([.ref se, .int p0, .long p1, .long p2])).length) Slot.unset).toArray = ls at hl ⊢
  generalize ([.ref se, .int p0, .long p1, .long p2] : List Value).toArray = av at hts ⊢
  generalize hQ : MQ below _ av s _ _ A = QQ
  have hl : lv_has ls 6 [(0, .ref se), (1, .int p0), (2, .long p1), (4, .long p2)] := hl
  have hP : va_P g vwCl [(se, .inr (6, [.long se_years, .long se_got0, .long se_got1, .int se_clashes]))] s.heap := hP
  refine lv_aload_n hx hb dX6_note_0 rfl (lv_at hl 0 rfl) ?_
  refine va_get (D := g) (ci := 6) (v := .long se_years) (C := RX6) (T := TX6) (N := 4) hx hb hts iX6 hown hK hP 0 rfl rfl 0 (by decide) (hts (.fieldLink RX6 9 "CardsAtYule$Seen" "years" "J") (List.mem_cons_of_mem _ (List.mem_append_left _ (List.mem_of_getElem? (i := 0) rfl)))) (fun _ h9 => h9) rfl dX6_note_1 ?_
  refine lv_iload_n hx hb dX6_note_4 rfl (lv_at hl 1 rfl) ?_
  refine ro_i (va_runSN (As := [.long se_years, .int p0]) (rest := []) ⟨hx, hb, hml, hown, hts⟩ (q_X11_isAt l g cI cJ cB cZ cL se_years p0 s.heap.size ) ⟨(va_cnB 2 hts (goodIn_sub (fun _ h => List.mem_cons_of_mem _ (List.mem_append_right _ (List.mem_append_left _ h))) good_v_X11_isAt) rfl rfl rfl (hE.nest _ (List.mem_of_getElem? (i := 3) rfl)) (hts (.initialized RX11) (List.mem_cons_of_mem _ (List.mem_append_left _ (List.mem_of_getElem? (i := 1) rfl)))) (by decide +kernel) ⟨Nat.le_of_ble_eq_true rfl, Nat.le_of_ble_eq_true rfl⟩), (hts (.static yX11_isAt) (List.mem_cons_of_mem _ (List.mem_append_left _ (List.mem_of_getElem? (i := 2) rfl)))), trivial⟩ (ps_RO (wc := []) hK hP [] rfl) rfl rfl hl.1 rfl (lv_room (Nat.le_of_ble_eq_true rfl)) dX6_note_5 ⟨Nat.le_of_ble_eq_true rfl, Nat.le_of_ble_eq_true rfl⟩) hS hA hP (fun r5 u5 H locs hw5 hP hS => ?_)
  have hw5_0 := hw5
  refine lv_if_eq (tgt := 55) hx hb dX6_note_8 (by decide) (fun c8 => ?_) (fun c8 => ?_)
  · have f8 := (show r5.toInt = 0 from z_eq rfl rfl c8)
    have r8a : ir r5.toInt 0 0 := ir_eqa f8 hw5_0 (ir_c 0) (by decide) (by decide)
    refine lv_aload_n hx hb dX6_note_55 rfl (lv_at hl 0 rfl) ?_
    refine lv_dup hx hb dX6_note_56 rfl ?_
    refine va_get (D := g) (ci := 6) (v := .long se_years) (C := RX6) (T := TX6) (N := 4) hx hb hts iX6 hown hK hP 0 rfl rfl 0 (by decide) (hts (.fieldLink RX6 9 "CardsAtYule$Seen" "years" "J") (List.mem_cons_of_mem _ (List.mem_append_left _ (List.mem_of_getElem? (i := 0) rfl)))) (fun _ h9 => h9) rfl dX6_note_57 ?_
    refine lv_lconst (v := 1) hx hb dX6_note_60 (by decide) ?_
    refine lv_iload_n hx hb dX6_note_61 rfl (lv_at hl 1 rfl) ?_
    refine lv_lshl (v := (1 <<< (p0.toInt64 &&& 63))) hx hb dX6_note_62 rfl ?_
    refine lv_topl (fun y62 e62 => ?_)
    refine lv_lor hx hb dX6_note_63 ?_
    refine lv_topl (fun y63 e63 => ?_)
    refine va_put (D := g) (ci := 6) (v := .long y63) (ty := .long) (C := RX6) (T := TX6) (N := 4) hx hb hts iX6 tyX6 tyX6_ok nmX6 hown hK hP hD hS 0 rfl rfl 0 (by decide) (hts (.fieldLink RX6 9 "CardsAtYule$Seen" "years" "J") (List.mem_cons_of_mem _ (List.mem_append_left _ (List.mem_of_getElem? (i := 0) rfl)))) (fun _ h9 => h9) rfl (by decide +kernel) rfl rfl (Nat.le_of_ble_eq_true rfl) dX6_note_64 (fun H locs hP hD hS => ?_)
    have hP : va_P g vwCl [(se, .inr (6, [.long y63, .long se_got0, .long se_got1, .int se_clashes]))] H := hP
    have hD : va_D A [(se, .inr (6, [.long y63, .long se_got0, .long se_got1, .int se_clashes]))] := hD
    refine lv_aload_n hx hb dX6_note_67 rfl (lv_at hl 0 rfl) ?_
    refine lv_dup hx hb dX6_note_68 rfl ?_
    refine va_get (D := g) (ci := 6) (v := .long se_got0) (C := RX6) (T := TX6) (N := 4) hx hb hts iX6 hown hK hP 0 rfl rfl 1 (by decide) (hts (.fieldLink RX6 15 "CardsAtYule$Seen" "got0" "J") (List.mem_cons_of_mem _ (List.mem_append_left _ (List.mem_of_getElem? (i := 3) rfl)))) (fun _ h9 => h9) rfl dX6_note_69 ?_
    refine lv_lload_n hx hb dX6_note_72 rfl (lv_at hl 2 rfl) ?_
    refine lv_iload_n hx hb dX6_note_73 rfl (lv_at hl 1 rfl) ?_
    refine lv_lshl (v := (p1 <<< (p0.toInt64 &&& 63))) hx hb dX6_note_74 rfl ?_
    refine lv_topl (fun y74 e74 => ?_)
    refine lv_lor hx hb dX6_note_75 ?_
    refine lv_topl (fun y75 e75 => ?_)
    refine va_put (D := g) (ci := 6) (v := .long y75) (ty := .long) (C := RX6) (T := TX6) (N := 4) hx hb hts iX6 tyX6 tyX6_ok nmX6 hown hK hP hD hS 0 rfl rfl 1 (by decide) (hts (.fieldLink RX6 15 "CardsAtYule$Seen" "got0" "J") (List.mem_cons_of_mem _ (List.mem_append_left _ (List.mem_of_getElem? (i := 3) rfl)))) (fun _ h9 => h9) rfl (by decide +kernel) rfl rfl (Nat.le_of_ble_eq_true rfl) dX6_note_76 (fun H locs hP hD hS => ?_)
    have hP : va_P g vwCl [(se, .inr (6, [.long y63, .long y75, .long se_got1, .int se_clashes]))] H := hP
    have hD : va_D A [(se, .inr (6, [.long y63, .long y75, .long se_got1, .int se_clashes]))] := hD
    refine lv_aload_n hx hb dX6_note_79 rfl (lv_at hl 0 rfl) ?_
    refine lv_dup hx hb dX6_note_80 rfl ?_
    refine va_get (D := g) (ci := 6) (v := .long se_got1) (C := RX6) (T := TX6) (N := 4) hx hb hts iX6 hown hK hP 0 rfl rfl 2 (by decide) (hts (.fieldLink RX6 18 "CardsAtYule$Seen" "got1" "J") (List.mem_cons_of_mem _ (List.mem_append_left _ (List.mem_of_getElem? (i := 4) rfl)))) (fun _ h9 => h9) rfl dX6_note_81 ?_
    refine lv_lload hx hb dX6_note_84 (lv_at hl 3 rfl) ?_
    refine lv_iload_n hx hb dX6_note_86 rfl (lv_at hl 1 rfl) ?_
    refine lv_lshl (v := (p2 <<< (p0.toInt64 &&& 63))) hx hb dX6_note_87 rfl ?_
    refine lv_topl (fun y87 e87 => ?_)
    refine lv_lor hx hb dX6_note_88 ?_
    refine lv_topl (fun y88 e88 => ?_)
    refine va_put (D := g) (ci := 6) (v := .long y88) (ty := .long) (C := RX6) (T := TX6) (N := 4) hx hb hts iX6 tyX6 tyX6_ok nmX6 hown hK hP hD hS 0 rfl rfl 2 (by decide) (hts (.fieldLink RX6 18 "CardsAtYule$Seen" "got1" "J") (List.mem_cons_of_mem _ (List.mem_append_left _ (List.mem_of_getElem? (i := 4) rfl)))) (fun _ h9 => h9) rfl (by decide +kernel) rfl rfl (Nat.le_of_ble_eq_true rfl) dX6_note_89 (fun H locs hP hD hS => ?_)
    have hP : va_P g vwCl [(se, .inr (6, [.long y63, .long y75, .long y88, .int se_clashes]))] H := hP
    have hD : va_D A [(se, .inr (6, [.long y63, .long y75, .long y88, .int se_clashes]))] := hD
    subst hQ
    have hP9 := hP.sub (ws' := [(se, .inr (6, [.long y63, .long y75, .long y88, .int se_clashes]))]) [0] rfl
    have hD9 := hD.sub (ws' := [(se, .inr (6, [.long y63, .long y75, .long y88, .int se_clashes]))]) [0] (by decide) rfl
    exact W.vret hx hb hr (fun t ht hW => ⟨⟨(y63, y75, y88, se_clashes), rfl, hv_se_clashes, ⟨by rw [ht]; exact hP9, va_K.moved hW.alike hK, hD9⟩⟩, hS.F ht⟩) hS.2.2 dX6_note_92
  have f8 := (show r5.toInt ≠ 0 from z_ne rfl rfl c8)
  have r8a : ir r5.toInt 1 1 := ir_nel f8 hw5_0 (by decide) (by decide)
  refine lv_aload_n hx hb dX6_note_11 rfl (lv_at hl 0 rfl) ?_
  refine lv_aload_n hx hb dX6_note_12 rfl (lv_at hl 0 rfl) ?_
  refine va_get (D := g) (ci := 6) (v := .int se_clashes) (C := RX6) (T := TX6) (N := 4) hx hb hts iX6 hown hK hP 0 rfl rfl 3 (by decide) (hts (.fieldLink RX6 21 "CardsAtYule$Seen" "clashes" "Z") (List.mem_cons_of_mem _ (List.mem_append_left _ (List.mem_of_getElem? (i := 5) rfl)))) (fun _ h9 => h9) rfl dX6_note_13 ?_
  refine lv_if_ne (tgt := 46) hx hb dX6_note_16 (by decide) (fun c16 => ?_) (fun c16 => ?_)
  · have f16 := (show se_clashes.toInt ≠ 0 from z_ne rfl rfl c16)
    have r16a : ir se_clashes.toInt 1 1 := ir_nel f16 hv_se_clashes (by decide) (by decide)
    refine lv_iconst (v := 1) hx hb dX6_note_46 (by decide) ?_
    refine lv_goto (tgt := 51) hx hb dX6_note_47 (by decide) ?_
    refine va_put (D := g) (ci := 6) (v := .int 1) (ty := .boolean) (C := RX6) (T := TX6) (N := 4) hx hb hts iX6 tyX6 tyX6_ok nmX6 hown hK hP hD hS 0 rfl rfl 3 (by decide) (hts (.fieldLink RX6 21 "CardsAtYule$Seen" "clashes" "Z") (List.mem_cons_of_mem _ (List.mem_append_left _ (List.mem_of_getElem? (i := 5) rfl)))) (fun _ h9 => h9) rfl (by decide +kernel) rfl rfl (Nat.le_of_ble_eq_true rfl) dX6_note_51 (fun H locs hP hD hS => ?_)
    have hP : va_P g vwCl [(se, .inr (6, [.long se_years, .long se_got0, .long se_got1, .int 1]))] H := hP
    have hD : va_D A [(se, .inr (6, [.long se_years, .long se_got0, .long se_got1, .int 1]))] := hD
    subst hQ
    have hP9 := hP.sub (ws' := [(se, .inr (6, [.long se_years, .long se_got0, .long se_got1, .int 1]))]) [0] rfl
    have hD9 := hD.sub (ws' := [(se, .inr (6, [.long se_years, .long se_got0, .long se_got1, .int 1]))]) [0] (by decide) rfl
    exact W.vret hx hb hr (fun t ht hW => ⟨⟨(se_years, se_got0, se_got1, 1), rfl, (show ir (1 : Int32).toInt 0 1 by decide), ⟨by rw [ht]; exact hP9, va_K.moved hW.alike hK, hD9⟩⟩, hS.F ht⟩) hS.2.2 dX6_note_54
  have f16 := (show se_clashes.toInt = 0 from z_eq rfl rfl c16)
  have r16a : ir se_clashes.toInt 0 0 := ir_eqa f16 hv_se_clashes (ir_c 0) (by decide) (by decide)
  refine lv_aload_n hx hb dX6_note_19 rfl (lv_at hl 0 rfl) ?_
  refine va_get (D := g) (ci := 6) (v := .long se_got0) (C := RX6) (T := TX6) (N := 4) hx hb hts iX6 hown hK hP 0 rfl rfl 1 (by decide) (hts (.fieldLink RX6 15 "CardsAtYule$Seen" "got0" "J") (List.mem_cons_of_mem _ (List.mem_append_left _ (List.mem_of_getElem? (i := 3) rfl)))) (fun _ h9 => h9) rfl dX6_note_20 ?_
  refine lv_iload_n hx hb dX6_note_23 rfl (lv_at hl 1 rfl) ?_
  refine lv_lshr (v := (se_got0 >>> (p0.toInt64 &&& 63))) hx hb dX6_note_24 rfl ?_
  refine lv_topl (fun y24 e24 => ?_)
  refine lv_lconst (v := 1) hx hb dX6_note_25 (by decide) ?_
  refine lv_land hx hb dX6_note_26 ?_
  refine lv_topl (fun y26 e26 => ?_)
  have r26 : ir y26.toInt 0 1 := by rw [e26]; exact lan_y (by decide)
  refine lv_lload_n hx hb dX6_note_27 rfl (lv_at hl 2 rfl) ?_
  refine W.lcmp hx hb dX6_note_28 ?_
  refine lv_if_ne (tgt := 46) hx hb dX6_note_29 (by decide) (fun c29 => ?_) (fun c29 => ?_)
  · have f29 := (show y26.toInt ≠ p1.toInt from y_ne rfl rfl c29)
    refine lv_iconst (v := 1) hx hb dX6_note_46 (by decide) ?_
    refine lv_goto (tgt := 51) hx hb dX6_note_47 (by decide) ?_
    refine va_put (D := g) (ci := 6) (v := .int 1) (ty := .boolean) (C := RX6) (T := TX6) (N := 4) hx hb hts iX6 tyX6 tyX6_ok nmX6 hown hK hP hD hS 0 rfl rfl 3 (by decide) (hts (.fieldLink RX6 21 "CardsAtYule$Seen" "clashes" "Z") (List.mem_cons_of_mem _ (List.mem_append_left _ (List.mem_of_getElem? (i := 5) rfl)))) (fun _ h9 => h9) rfl (by decide +kernel) rfl rfl (Nat.le_of_ble_eq_true rfl) dX6_note_51 (fun H locs hP hD hS => ?_)
    have hP : va_P g vwCl [(se, .inr (6, [.long se_years, .long se_got0, .long se_got1, .int 1]))] H := hP
    have hD : va_D A [(se, .inr (6, [.long se_years, .long se_got0, .long se_got1, .int 1]))] := hD
    subst hQ
    have hP9 := hP.sub (ws' := [(se, .inr (6, [.long se_years, .long se_got0, .long se_got1, .int 1]))]) [0] rfl
    have hD9 := hD.sub (ws' := [(se, .inr (6, [.long se_years, .long se_got0, .long se_got1, .int 1]))]) [0] (by decide) rfl
    exact W.vret hx hb hr (fun t ht hW => ⟨⟨(se_years, se_got0, se_got1, 1), rfl, (show ir (1 : Int32).toInt 0 1 by decide), ⟨by rw [ht]; exact hP9, va_K.moved hW.alike hK, hD9⟩⟩, hS.F ht⟩) hS.2.2 dX6_note_54
  have f29 := (show y26.toInt = p1.toInt from y_eq rfl rfl c29)
  have r29b : ir p1.toInt 0 1 := ir_eqb f29 r26 (rl_all p1) (by decide) (by decide)
  refine lv_aload_n hx hb dX6_note_32 rfl (lv_at hl 0 rfl) ?_
  refine va_get (D := g) (ci := 6) (v := .long se_got1) (C := RX6) (T := TX6) (N := 4) hx hb hts iX6 hown hK hP 0 rfl rfl 2 (by decide) (hts (.fieldLink RX6 18 "CardsAtYule$Seen" "got1" "J") (List.mem_cons_of_mem _ (List.mem_append_left _ (List.mem_of_getElem? (i := 4) rfl)))) (fun _ h9 => h9) rfl dX6_note_33 ?_
  refine lv_iload_n hx hb dX6_note_36 rfl (lv_at hl 1 rfl) ?_
  refine lv_lshr (v := (se_got1 >>> (p0.toInt64 &&& 63))) hx hb dX6_note_37 rfl ?_
  refine lv_topl (fun y37 e37 => ?_)
  refine lv_lconst (v := 1) hx hb dX6_note_38 (by decide) ?_
  refine lv_land hx hb dX6_note_39 ?_
  refine lv_topl (fun y39 e39 => ?_)
  have r39 : ir y39.toInt 0 1 := by rw [e39]; exact lan_y (by decide)
  refine lv_lload hx hb dX6_note_40 (lv_at hl 3 rfl) ?_
  refine W.lcmp hx hb dX6_note_42 ?_
  refine lv_if_eq (tgt := 50) hx hb dX6_note_43 (by decide) (fun c43 => ?_) (fun c43 => ?_)
  rotate_left 1
  · have f43 := (show y39.toInt ≠ p2.toInt from y_ne rfl rfl c43)
    refine lv_iconst (v := 1) hx hb dX6_note_46 (by decide) ?_
    refine lv_goto (tgt := 51) hx hb dX6_note_47 (by decide) ?_
    refine va_put (D := g) (ci := 6) (v := .int 1) (ty := .boolean) (C := RX6) (T := TX6) (N := 4) hx hb hts iX6 tyX6 tyX6_ok nmX6 hown hK hP hD hS 0 rfl rfl 3 (by decide) (hts (.fieldLink RX6 21 "CardsAtYule$Seen" "clashes" "Z") (List.mem_cons_of_mem _ (List.mem_append_left _ (List.mem_of_getElem? (i := 5) rfl)))) (fun _ h9 => h9) rfl (by decide +kernel) rfl rfl (Nat.le_of_ble_eq_true rfl) dX6_note_51 (fun H locs hP hD hS => ?_)
    have hP : va_P g vwCl [(se, .inr (6, [.long se_years, .long se_got0, .long se_got1, .int 1]))] H := hP
    have hD : va_D A [(se, .inr (6, [.long se_years, .long se_got0, .long se_got1, .int 1]))] := hD
    subst hQ
    have hP9 := hP.sub (ws' := [(se, .inr (6, [.long se_years, .long se_got0, .long se_got1, .int 1]))]) [0] rfl
    have hD9 := hD.sub (ws' := [(se, .inr (6, [.long se_years, .long se_got0, .long se_got1, .int 1]))]) [0] (by decide) rfl
    exact W.vret hx hb hr (fun t ht hW => ⟨⟨(se_years, se_got0, se_got1, 1), rfl, (show ir (1 : Int32).toInt 0 1 by decide), ⟨by rw [ht]; exact hP9, va_K.moved hW.alike hK, hD9⟩⟩, hS.F ht⟩) hS.2.2 dX6_note_54
  have f43 := (show y39.toInt = p2.toInt from y_eq rfl rfl c43)
  have r43b : ir p2.toInt 0 1 := ir_eqb f43 r39 (rl_all p2) (by decide) (by decide)
  refine lv_iconst (v := 0) hx hb dX6_note_50 (by decide) ?_
  refine va_put (D := g) (ci := 6) (v := .int 0) (ty := .boolean) (C := RX6) (T := TX6) (N := 4) hx hb hts iX6 tyX6 tyX6_ok nmX6 hown hK hP hD hS 0 rfl rfl 3 (by decide) (hts (.fieldLink RX6 21 "CardsAtYule$Seen" "clashes" "Z") (List.mem_cons_of_mem _ (List.mem_append_left _ (List.mem_of_getElem? (i := 5) rfl)))) (fun _ h9 => h9) rfl (by decide +kernel) rfl rfl (Nat.le_of_ble_eq_true rfl) dX6_note_51 (fun H locs hP hD hS => ?_)
  have hP : va_P g vwCl [(se, .inr (6, [.long se_years, .long se_got0, .long se_got1, .int 0]))] H := hP
  have hD : va_D A [(se, .inr (6, [.long se_years, .long se_got0, .long se_got1, .int 0]))] := hD
  subst hQ
  have hP9 := hP.sub (ws' := [(se, .inr (6, [.long se_years, .long se_got0, .long se_got1, .int 0]))]) [0] rfl
  have hD9 := hD.sub (ws' := [(se, .inr (6, [.long se_years, .long se_got0, .long se_got1, .int 0]))]) [0] (by decide) rfl
  exact W.vret hx hb hr (fun t ht hW => ⟨⟨(se_years, se_got0, se_got1, 0), rfl, (show ir (0 : Int32).toInt 0 1 by decide), ⟨by rw [ht]; exact hP9, va_K.moved hW.alike hK, hD9⟩⟩, hS.F ht⟩) hS.2.2 dX6_note_54
