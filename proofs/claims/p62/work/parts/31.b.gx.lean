def v_X4_copyFrom : List Cond := .code yX4_copyFrom cX4_copyFrom 2 none :: (([.fieldLink RX4 37 "CardsAtYule$Land" "lines" "I", .fieldLink RX4 41 "CardsAtYule$Land" "years" "I", .fieldLink RX4 44 "CardsAtYule$Land" "card" "I", .fieldLink RX4 47 "CardsAtYule$Land" "hurt" "I", .fieldLink RX4 50 "CardsAtYule$Land" "people" "I", .fieldLink RX4 53 "CardsAtYule$Land" "pairs" "I", .fieldLink RX4 56 "CardsAtYule$Land" "strikes" "J", .fieldLink RX4 9 "CardsAtYule$Land" "rule" "[I", .methodLink RX4 66 arraycopyName, .native arraycopyName, .static arraycopyName, .initialized "java/lang/System", .fieldLink RX4 15 "CardsAtYule$Land" "returns" "[I", .fieldLink RX4 18 "CardsAtYule$Land" "forgets" "[I", .fieldLink RX4 21 "CardsAtYule$Land" "death" "[I", .fieldLink RX4 24 "CardsAtYule$Land" "move" "[I", .fieldLink RX4 27 "CardsAtYule$Land" "begun" "[I", .fieldLink RX4 30 "CardsAtYule$Land" "who" "[I", .fieldLink RX4 33 "CardsAtYule$Land" "lost" "[J"] : List Cond) ++ (wsX40 ++ ([] : List Cond)))
theorem good_v_X4_copyFrom : v_X4_copyFrom.all goodWord = true := ga_c (by decide +kernel) (ga_a (by decide +kernel) (ga_a good_wsX40 rfl))
set_option maxHeartbeats 4000000 in
set_option maxRecDepth 100000 in
theorem q_X4_copyFrom (l : Launch) (g : va_G) (cI cJ cB cZ cL : ClassId) (ld : Nat) (ld2 : Nat) (ld2_lines : Int32) (ld2_years : Int32) (ld2_card : Int32) (ld2_hurt : Int32) (ld2_people : Int32) (ld2_pairs : Int32) (ld2_strikes : Int64) (ld2_rule : Nat) (ld2_returns : Nat) (ld2_forgets : Nat) (ld2_death : Nat) (ld2_move : Nat) (ld2_begun : Nat) (ld2_who : Nat) (ld2_lost : Nat) (ld_lines : Int32) (ld_years : Int32) (ld_card : Int32) (ld_hurt : Int32) (ld_people : Int32) (ld_pairs : Int32) (ld_strikes : Int64) (ld_rule : Nat) (ld_returns : Nat) (ld_forgets : Nat) (ld_death : Nat) (ld_move : Nat) (ld_begun : Nat) (ld_who : Nat) (ld_lost : Nat) (ld2_rule_c : Nat → Int32) (ld_rule_c : Nat → Int32) (ld2_returns_c : Nat → Int32) (ld_returns_c : Nat → Int32) (ld2_forgets_c : Nat → Int32) (ld_forgets_c : Nat → Int32) (ld2_death_c : Nat → Int32) (ld_death_c : Nat → Int32) (ld2_move_c : Nat → Int32) (ld_move_c : Nat → Int32) (ld2_begun_c : Nat → Int32) (ld_begun_c : Nat → Int32) (ld2_who_c : Nat → Int32) (ld_who_c : Nat → Int32) (ld2_lost_c : Nat → Int64) (ld_lost_c : Nat → Int64) (sz : Nat) (hv_ld2_years : ir ld2_years.toInt 0 40) (hv_ld2_people : ir ld2_people.toInt 0 10) (hv_ld2_pairs : ir ld2_pairs.toInt 0 16) (hv_ld_years : ir ld_years.toInt 0 40) (hv_ld_people : ir ld_people.toInt 0 10) (hv_ld_pairs : ir ld_pairs.toInt 0 16) (ha_ld2_begun_c : ar ld2_begun_c 16 0 15) (ha_ld_begun_c : ar ld_begun_c 16 0 15) (ha_ld2_who_c : ar ld2_who_c 32 0 9) (ha_ld_who_c : ar ld_who_c 32 0 9) : Met l yX4_copyFrom v_X4_copyFrom ({ frames := 1, cells := 0, slots := 0, locals := 24 }) (va_Pc [.ref ld, .ref ld2] (pRW g (tyT cI cJ cB cZ cL) [(ld2, .inr (4, [.int ld2_lines, .int ld2_years, .int ld2_card, .int ld2_hurt, .int ld2_people, .int ld2_pairs, .long ld2_strikes, .ref ld2_rule, .ref ld2_returns, .ref ld2_forgets, .ref ld2_death, .ref ld2_move, .ref ld2_begun, .ref ld2_who, .ref ld2_lost])), (ld, .inr (4, [.int ld_lines, .int ld_years, .int ld_card, .int ld_hurt, .int ld_people, .int ld_pairs, .long ld_strikes, .ref ld_rule, .ref ld_returns, .ref ld_forgets, .ref ld_death, .ref ld_move, .ref ld_begun, .ref ld_who, .ref ld_lost])), (ld2_rule, .inl (cI, 10, .inl ld2_rule_c)), (ld_rule, .inl (cI, 10, .inl ld_rule_c)), (ld2_returns, .inl (cI, 10, .inl ld2_returns_c)), (ld_returns, .inl (cI, 10, .inl ld_returns_c)), (ld2_forgets, .inl (cI, 10, .inl ld2_forgets_c)), (ld_forgets, .inl (cI, 10, .inl ld_forgets_c)), (ld2_death, .inl (cI, 10, .inl ld2_death_c)), (ld_death, .inl (cI, 10, .inl ld_death_c)), (ld2_move, .inl (cI, 10, .inl ld2_move_c)), (ld_move, .inl (cI, 10, .inl ld_move_c)), (ld2_begun, .inl (cI, 16, .inl ld2_begun_c)), (ld_begun, .inl (cI, 16, .inl ld_begun_c)), (ld2_who, .inl (cI, 32, .inl ld2_who_c)), (ld_who, .inl (cI, 32, .inl ld_who_c)), (ld2_lost, .inl (cJ, 32, .inr (.inl ld2_lost_c))), (ld_lost, .inl (cJ, 32, .inr (.inl ld_lost_c)))] sz)) (va_Qv (fun (u : Int32 × Int32 × Int32 × Int32 × Int32 × Int32 × Int64 × (Nat → Int32) × (Nat → Int32) × (Nat → Int32) × (Nat → Int32) × (Nat → Int32) × (Nat → Int32) × (Nat → Int32) × (Nat → Int64)) => match u with | (n_ld_lines, n_ld_years, n_ld_card, n_ld_hurt, n_ld_people, n_ld_pairs, n_ld_strikes, n_ld_rule_c, n_ld_returns_c, n_ld_forgets_c, n_ld_death_c, n_ld_move_c, n_ld_begun_c, n_ld_who_c, n_ld_lost_c) => (ir n_ld_years.toInt 0 40) ∧ (ir n_ld_people.toInt 0 10) ∧ (ir n_ld_pairs.toInt 0 16) ∧ (ar n_ld_begun_c 16 0 15) ∧ (ar n_ld_who_c 32 0 9)) (fun (u : Int32 × Int32 × Int32 × Int32 × Int32 × Int32 × Int64 × (Nat → Int32) × (Nat → Int32) × (Nat → Int32) × (Nat → Int32) × (Nat → Int32) × (Nat → Int32) × (Nat → Int32) × (Nat → Int64)) (t : State) => bRW g (tyT cI cJ cB cZ cL) (va_A [(ld2, .inr (4, [.int ld2_lines, .int ld2_years, .int ld2_card, .int ld2_hurt, .int ld2_people, .int ld2_pairs, .long ld2_strikes, .ref ld2_rule, .ref ld2_returns, .ref ld2_forgets, .ref ld2_death, .ref ld2_move, .ref ld2_begun, .ref ld2_who, .ref ld2_lost])), (ld, .inr (4, [.int ld_lines, .int ld_years, .int ld_card, .int ld_hurt, .int ld_people, .int ld_pairs, .long ld_strikes, .ref ld_rule, .ref ld_returns, .ref ld_forgets, .ref ld_death, .ref ld_move, .ref ld_begun, .ref ld_who, .ref ld_lost])), (ld2_rule, .inl (cI, 10, .inl ld2_rule_c)), (ld_rule, .inl (cI, 10, .inl ld_rule_c)), (ld2_returns, .inl (cI, 10, .inl ld2_returns_c)), (ld_returns, .inl (cI, 10, .inl ld_returns_c)), (ld2_forgets, .inl (cI, 10, .inl ld2_forgets_c)), (ld_forgets, .inl (cI, 10, .inl ld_forgets_c)), (ld2_death, .inl (cI, 10, .inl ld2_death_c)), (ld_death, .inl (cI, 10, .inl ld_death_c)), (ld2_move, .inl (cI, 10, .inl ld2_move_c)), (ld_move, .inl (cI, 10, .inl ld_move_c)), (ld2_begun, .inl (cI, 16, .inl ld2_begun_c)), (ld_begun, .inl (cI, 16, .inl ld_begun_c)), (ld2_who, .inl (cI, 32, .inl ld2_who_c)), (ld_who, .inl (cI, 32, .inl ld_who_c)), (ld2_lost, .inl (cJ, 32, .inr (.inl ld2_lost_c))), (ld_lost, .inl (cJ, 32, .inr (.inl ld_lost_c)))] sz) (match u with | (n_ld_lines, n_ld_years, n_ld_card, n_ld_hurt, n_ld_people, n_ld_pairs, n_ld_strikes, n_ld_rule_c, n_ld_returns_c, n_ld_forgets_c, n_ld_death_c, n_ld_move_c, n_ld_begun_c, n_ld_who_c, n_ld_lost_c) => [(ld2, .inr (4, [.int ld2_lines, .int ld2_years, .int ld2_card, .int ld2_hurt, .int ld2_people, .int ld2_pairs, .long ld2_strikes, .ref ld2_rule, .ref ld2_returns, .ref ld2_forgets, .ref ld2_death, .ref ld2_move, .ref ld2_begun, .ref ld2_who, .ref ld2_lost])), (ld, .inr (4, [.int n_ld_lines, .int n_ld_years, .int n_ld_card, .int n_ld_hurt, .int n_ld_people, .int n_ld_pairs, .long n_ld_strikes, .ref ld_rule, .ref ld_returns, .ref ld_forgets, .ref ld_death, .ref ld_move, .ref ld_begun, .ref ld_who, .ref ld_lost])), (ld2_rule, .inl (cI, 10, .inl ld2_rule_c)), (ld_rule, .inl (cI, 10, .inl n_ld_rule_c)), (ld2_returns, .inl (cI, 10, .inl ld2_returns_c)), (ld_returns, .inl (cI, 10, .inl n_ld_returns_c)), (ld2_forgets, .inl (cI, 10, .inl ld2_forgets_c)), (ld_forgets, .inl (cI, 10, .inl n_ld_forgets_c)), (ld2_death, .inl (cI, 10, .inl ld2_death_c)), (ld_death, .inl (cI, 10, .inl n_ld_death_c)), (ld2_move, .inl (cI, 10, .inl ld2_move_c)), (ld_move, .inl (cI, 10, .inl n_ld_move_c)), (ld2_begun, .inl (cI, 16, .inl ld2_begun_c)), (ld_begun, .inl (cI, 16, .inl n_ld_begun_c)), (ld2_who, .inl (cI, 32, .inl ld2_who_c)), (ld_who, .inl (cI, 32, .inl n_ld_who_c)), (ld2_lost, .inl (cJ, 32, .inr (.inl ld2_lost_c))), (ld_lost, .inl (cJ, 32, .inr (.inl n_ld_lost_c)))]) t) (va_A [(ld2, .inr (4, [.int ld2_lines, .int ld2_years, .int ld2_card, .int ld2_hurt, .int ld2_people, .int ld2_pairs, .long ld2_strikes, .ref ld2_rule, .ref ld2_returns, .ref ld2_forgets, .ref ld2_death, .ref ld2_move, .ref ld2_begun, .ref ld2_who, .ref ld2_lost])), (ld, .inr (4, [.int ld_lines, .int ld_years, .int ld_card, .int ld_hurt, .int ld_people, .int ld_pairs, .long ld_strikes, .ref ld_rule, .ref ld_returns, .ref ld_forgets, .ref ld_death, .ref ld_move, .ref ld_begun, .ref ld_who, .ref ld_lost])), (ld2_rule, .inl (cI, 10, .inl ld2_rule_c)), (ld_rule, .inl (cI, 10, .inl ld_rule_c)), (ld2_returns, .inl (cI, 10, .inl ld2_returns_c)), (ld_returns, .inl (cI, 10, .inl ld_returns_c)), (ld2_forgets, .inl (cI, 10, .inl ld2_forgets_c)), (ld_forgets, .inl (cI, 10, .inl ld_forgets_c)), (ld2_death, .inl (cI, 10, .inl ld2_death_c)), (ld_death, .inl (cI, 10, .inl ld_death_c)), (ld2_move, .inl (cI, 10, .inl ld2_move_c)), (ld_move, .inl (cI, 10, .inl ld_move_c)), (ld2_begun, .inl (cI, 16, .inl ld2_begun_c)), (ld_begun, .inl (cI, 16, .inl ld_begun_c)), (ld2_who, .inl (cI, 32, .inl ld2_who_c)), (ld_who, .inl (cI, 32, .inl ld_who_c)), (ld2_lost, .inl (cJ, 32, .inr (.inl ld2_lost_c))), (ld_lost, .inl (cJ, 32, .inr (.inl ld_lost_c)))] sz)) 0 0 (va_A [(ld2, .inr (4, [.int ld2_lines, .int ld2_years, .int ld2_card, .int ld2_hurt, .int ld2_people, .int ld2_pairs, .long ld2_strikes, .ref ld2_rule, .ref ld2_returns, .ref ld2_forgets, .ref ld2_death, .ref ld2_move, .ref ld2_begun, .ref ld2_who, .ref ld2_lost])), (ld, .inr (4, [.int ld_lines, .int ld_years, .int ld_card, .int ld_hurt, .int ld_people, .int ld_pairs, .long ld_strikes, .ref ld_rule, .ref ld_returns, .ref ld_forgets, .ref ld_death, .ref ld_move, .ref ld_begun, .ref ld_who, .ref ld_lost])), (ld2_rule, .inl (cI, 10, .inl ld2_rule_c)), (ld_rule, .inl (cI, 10, .inl ld_rule_c)), (ld2_returns, .inl (cI, 10, .inl ld2_returns_c)), (ld_returns, .inl (cI, 10, .inl ld_returns_c)), (ld2_forgets, .inl (cI, 10, .inl ld2_forgets_c)), (ld_forgets, .inl (cI, 10, .inl ld_forgets_c)), (ld2_death, .inl (cI, 10, .inl ld2_death_c)), (ld_death, .inl (cI, 10, .inl ld_death_c)), (ld2_move, .inl (cI, 10, .inl ld2_move_c)), (ld_move, .inl (cI, 10, .inl ld_move_c)), (ld2_begun, .inl (cI, 16, .inl ld2_begun_c)), (ld_begun, .inl (cI, 16, .inl ld_begun_c)), (ld2_who, .inl (cI, 32, .inl ld2_who_c)), (ld_who, .inl (cI, 32, .inl ld_who_c)), (ld2_lost, .inl (cJ, 32, .inr (.inl ld2_lost_c))), (ld_lost, .inl (cJ, 32, .inr (.inl ld_lost_c)))] sz) := by
  refine Met.ofW (cc := cX4_copyFrom) (maxL := 2) (ret := none) (by decide) rfl ?_
  intro p e s m args below meth c s₁ B hml hv
  obtain ⟨rfl, hsz, hP, hK, hD0⟩ := hv
  have hx := B.exec
  have hb := B.bytes
  have hr := B.returns
  have hts := atoms_spec (ws := v_X4_copyFrom) B.pre
  have hown : s.vm.findClass RX4 = some m.cls := findClass_of_methodNamed B.named
  have hlocks := B.notSynchronized
  clear B
  subst hsz
  have iX4 : ∀ w ∈ wsX40, w ∈ v_X4_copyFrom := (fun _ h => List.mem_cons_of_mem _ (List.mem_append_right _ (List.mem_append_left _ h)))
  have hD := hD0.self (sz := s.heap.size)
  generalize hAe : (va_A [(ld2, .inr (4, [.int ld2_lines, .int ld2_years, .int ld2_card, .int ld2_hurt, .int ld2_people, .int ld2_pairs, .long ld2_strikes, .ref ld2_rule, .ref ld2_returns, .ref ld2_forgets, .ref ld2_death, .ref ld2_move, .ref ld2_begun, .ref ld2_who, .ref ld2_lost])), (ld, .inr (4, [.int ld_lines, .int ld_years, .int ld_card, .int ld_hurt, .int ld_people, .int ld_pairs, .long ld_strikes, .ref ld_rule, .ref ld_returns, .ref ld_forgets, .ref ld_death, .ref ld_move, .ref ld_begun, .ref ld_who, .ref ld_lost])), (ld2_rule, .inl (cI, 10, .inl ld2_rule_c)), (ld_rule, .inl (cI, 10, .inl ld_rule_c)), (ld2_returns, .inl (cI, 10, .inl ld2_returns_c)), (ld_returns, .inl (cI, 10, .inl ld_returns_c)), (ld2_forgets, .inl (cI, 10, .inl ld2_forgets_c)), (ld_forgets, .inl (cI, 10, .inl ld_forgets_c)), (ld2_death, .inl (cI, 10, .inl ld2_death_c)), (ld_death, .inl (cI, 10, .inl ld_death_c)), (ld2_move, .inl (cI, 10, .inl ld2_move_c)), (ld_move, .inl (cI, 10, .inl ld_move_c)), (ld2_begun, .inl (cI, 16, .inl ld2_begun_c)), (ld_begun, .inl (cI, 16, .inl ld_begun_c)), (ld2_who, .inl (cI, 32, .inl ld2_who_c)), (ld_who, .inl (cI, 32, .inl ld_who_c)), (ld2_lost, .inl (cJ, 32, .inr (.inl ld2_lost_c))), (ld_lost, .inl (cJ, 32, .inr (.inl ld_lost_c)))] s.heap.size) = A at hD ⊢
  have hA : ∀ q : Nat, s.heap.size ≤ q → A q := fun q h => by rw [← hAe]; exact Or.inr h
  have hS : va_S A s.heap s.heap [] := va_S.rf
  have hl := lv_entry ([.ref ld, .ref ld2]) (n := 2) (Nat.le_of_ble_eq_true rfl)
  rw [lg_entry_eq]
  generalize (lg_sl ([.ref ld, .ref ld2]) ++ List.replicate (2 - (lg_sl ([.ref ld, .ref ld2])).length) Slot.unset).toArray = ls at hl ⊢
  generalize ([.ref ld, .ref ld2] : List Value).toArray = av at hts ⊢
  generalize hQ : MQ below _ av s _ _ A = QQ
  have hl : lv_has ls 2 [(0, .ref ld), (1, .ref ld2)] := hl
  have hP : va_P g vwCl [(ld2, .inr (4, [.int ld2_lines, .int ld2_years, .int ld2_card, .int ld2_hurt, .int ld2_people, .int ld2_pairs, .long ld2_strikes, .ref ld2_rule, .ref ld2_returns, .ref ld2_forgets, .ref ld2_death, .ref ld2_move, .ref ld2_begun, .ref ld2_who, .ref ld2_lost])), (ld, .inr (4, [.int ld_lines, .int ld_years, .int ld_card, .int ld_hurt, .int ld_people, .int ld_pairs, .long ld_strikes, .ref ld_rule, .ref ld_returns, .ref ld_forgets, .ref ld_death, .ref ld_move, .ref ld_begun, .ref ld_who, .ref ld_lost])), (ld2_rule, .inl (cI, 10, .inl ld2_rule_c)), (ld_rule, .inl (cI, 10, .inl ld_rule_c)), (ld2_returns, .inl (cI, 10, .inl ld2_returns_c)), (ld_returns, .inl (cI, 10, .inl ld_returns_c)), (ld2_forgets, .inl (cI, 10, .inl ld2_forgets_c)), (ld_forgets, .inl (cI, 10, .inl ld_forgets_c)), (ld2_death, .inl (cI, 10, .inl ld2_death_c)), (ld_death, .inl (cI, 10, .inl ld_death_c)), (ld2_move, .inl (cI, 10, .inl ld2_move_c)), (ld_move, .inl (cI, 10, .inl ld_move_c)), (ld2_begun, .inl (cI, 16, .inl ld2_begun_c)), (ld_begun, .inl (cI, 16, .inl ld_begun_c)), (ld2_who, .inl (cI, 32, .inl ld2_who_c)), (ld_who, .inl (cI, 32, .inl ld_who_c)), (ld2_lost, .inl (cJ, 32, .inr (.inl ld2_lost_c))), (ld_lost, .inl (cJ, 32, .inr (.inl ld_lost_c)))] s.heap := hP
  refine lv_aload_n hx hb dX4_copyFrom_0 rfl (lv_at hl 0 rfl) ?_
  refine lv_aload_n hx hb dX4_copyFrom_1 rfl (lv_at hl 1 rfl) ?_
  refine va_get (D := g) (ci := 4) (v := .int ld2_lines) (C := RX4) (T := TX4) (N := 15) hx hb hts iX4 hown hK hP 0 rfl rfl 0 (by decide) (hts (.fieldLink RX4 37 "CardsAtYule$Land" "lines" "I") (List.mem_cons_of_mem _ (List.mem_append_left _ (List.mem_of_getElem? (i := 0) rfl)))) (fun _ h9 => h9) rfl dX4_copyFrom_2 ?_
  refine va_put (D := g) (ci := 4) (v := .int ld2_lines) (ty := .int) (C := RX4) (T := TX4) (N := 15) hx hb hts iX4 tyX4 tyX4_ok nmX4 hown hK hP hD hS 1 rfl rfl 0 (by decide) (hts (.fieldLink RX4 37 "CardsAtYule$Land" "lines" "I") (List.mem_cons_of_mem _ (List.mem_append_left _ (List.mem_of_getElem? (i := 0) rfl)))) (fun _ h9 => h9) rfl (by decide +kernel) rfl rfl (Nat.le_of_ble_eq_true rfl) dX4_copyFrom_5 (fun H locs hP hD hS => ?_)
  have hP : va_P g vwCl [(ld2, .inr (4, [.int ld2_lines, .int ld2_years, .int ld2_card, .int ld2_hurt, .int ld2_people, .int ld2_pairs, .long ld2_strikes, .ref ld2_rule, .ref ld2_returns, .ref ld2_forgets, .ref ld2_death, .ref ld2_move, .ref ld2_begun, .ref ld2_who, .ref ld2_lost])), (ld, .inr (4, [.int ld2_lines, .int ld_years, .int ld_card, .int ld_hurt, .int ld_people, .int ld_pairs, .long ld_strikes, .ref ld_rule, .ref ld_returns, .ref ld_forgets, .ref ld_death, .ref ld_move, .ref ld_begun, .ref ld_who, .ref ld_lost])), (ld2_rule, .inl (cI, 10, .inl ld2_rule_c)), (ld_rule, .inl (cI, 10, .inl ld_rule_c)), (ld2_returns, .inl (cI, 10, .inl ld2_returns_c)), (ld_returns, .inl (cI, 10, .inl ld_returns_c)), (ld2_forgets, .inl (cI, 10, .inl ld2_forgets_c)), (ld_forgets, .inl (cI, 10, .inl ld_forgets_c)), (ld2_death, .inl (cI, 10, .inl ld2_death_c)), (ld_death, .inl (cI, 10, .inl ld_death_c)), (ld2_move, .inl (cI, 10, .inl ld2_move_c)), (ld_move, .inl (cI, 10, .inl ld_move_c)), (ld2_begun, .inl (cI, 16, .inl ld2_begun_c)), (ld_begun, .inl (cI, 16, .inl ld_begun_c)), (ld2_who, .inl (cI, 32, .inl ld2_who_c)), (ld_who, .inl (cI, 32, .inl ld_who_c)), (ld2_lost, .inl (cJ, 32, .inr (.inl ld2_lost_c))), (ld_lost, .inl (cJ, 32, .inr (.inl ld_lost_c)))] H := hP
  have hD : va_D A [(ld2, .inr (4, [.int ld2_lines, .int ld2_years, .int ld2_card, .int ld2_hurt, .int ld2_people, .int ld2_pairs, .long ld2_strikes, .ref ld2_rule, .ref ld2_returns, .ref ld2_forgets, .ref ld2_death, .ref ld2_move, .ref ld2_begun, .ref ld2_who, .ref ld2_lost])), (ld, .inr (4, [.int ld2_lines, .int ld_years, .int ld_card, .int ld_hurt, .int ld_people, .int ld_pairs, .long ld_strikes, .ref ld_rule, .ref ld_returns, .ref ld_forgets, .ref ld_death, .ref ld_move, .ref ld_begun, .ref ld_who, .ref ld_lost])), (ld2_rule, .inl (cI, 10, .inl ld2_rule_c)), (ld_rule, .inl (cI, 10, .inl ld_rule_c)), (ld2_returns, .inl (cI, 10, .inl ld2_returns_c)), (ld_returns, .inl (cI, 10, .inl ld_returns_c)), (ld2_forgets, .inl (cI, 10, .inl ld2_forgets_c)), (ld_forgets, .inl (cI, 10, .inl ld_forgets_c)), (ld2_death, .inl (cI, 10, .inl ld2_death_c)), (ld_death, .inl (cI, 10, .inl ld_death_c)), (ld2_move, .inl (cI, 10, .inl ld2_move_c)), (ld_move, .inl (cI, 10, .inl ld_move_c)), (ld2_begun, .inl (cI, 16, .inl ld2_begun_c)), (ld_begun, .inl (cI, 16, .inl ld_begun_c)), (ld2_who, .inl (cI, 32, .inl ld2_who_c)), (ld_who, .inl (cI, 32, .inl ld_who_c)), (ld2_lost, .inl (cJ, 32, .inr (.inl ld2_lost_c))), (ld_lost, .inl (cJ, 32, .inr (.inl ld_lost_c)))] := hD
  refine lv_aload_n hx hb dX4_copyFrom_8 rfl (lv_at hl 0 rfl) ?_
  refine lv_aload_n hx hb dX4_copyFrom_9 rfl (lv_at hl 1 rfl) ?_
  refine va_get (D := g) (ci := 4) (v := .int ld2_years) (C := RX4) (T := TX4) (N := 15) hx hb hts iX4 hown hK hP 0 rfl rfl 1 (by decide) (hts (.fieldLink RX4 41 "CardsAtYule$Land" "years" "I") (List.mem_cons_of_mem _ (List.mem_append_left _ (List.mem_of_getElem? (i := 1) rfl)))) (fun _ h9 => h9) rfl dX4_copyFrom_10 ?_
  refine va_put (D := g) (ci := 4) (v := .int ld2_years) (ty := .int) (C := RX4) (T := TX4) (N := 15) hx hb hts iX4 tyX4 tyX4_ok nmX4 hown hK hP hD hS 1 rfl rfl 1 (by decide) (hts (.fieldLink RX4 41 "CardsAtYule$Land" "years" "I") (List.mem_cons_of_mem _ (List.mem_append_left _ (List.mem_of_getElem? (i := 1) rfl)))) (fun _ h9 => h9) rfl (by decide +kernel) rfl rfl (Nat.le_of_ble_eq_true rfl) dX4_copyFrom_13 (fun H locs hP hD hS => ?_)
  have hP : va_P g vwCl [(ld2, .inr (4, [.int ld2_lines, .int ld2_years, .int ld2_card, .int ld2_hurt, .int ld2_people, .int ld2_pairs, .long ld2_strikes, .ref ld2_rule, .ref ld2_returns, .ref ld2_forgets, .ref ld2_death, .ref ld2_move, .ref ld2_begun, .ref ld2_who, .ref ld2_lost])), (ld, .inr (4, [.int ld2_lines, .int ld2_years, .int ld_card, .int ld_hurt, .int ld_people, .int ld_pairs, .long ld_strikes, .ref ld_rule, .ref ld_returns, .ref ld_forgets, .ref ld_death, .ref ld_move, .ref ld_begun, .ref ld_who, .ref ld_lost])), (ld2_rule, .inl (cI, 10, .inl ld2_rule_c)), (ld_rule, .inl (cI, 10, .inl ld_rule_c)), (ld2_returns, .inl (cI, 10, .inl ld2_returns_c)), (ld_returns, .inl (cI, 10, .inl ld_returns_c)), (ld2_forgets, .inl (cI, 10, .inl ld2_forgets_c)), (ld_forgets, .inl (cI, 10, .inl ld_forgets_c)), (ld2_death, .inl (cI, 10, .inl ld2_death_c)), (ld_death, .inl (cI, 10, .inl ld_death_c)), (ld2_move, .inl (cI, 10, .inl ld2_move_c)), (ld_move, .inl (cI, 10, .inl ld_move_c)), (ld2_begun, .inl (cI, 16, .inl ld2_begun_c)), (ld_begun, .inl (cI, 16, .inl ld_begun_c)), (ld2_who, .inl (cI, 32, .inl ld2_who_c)), (ld_who, .inl (cI, 32, .inl ld_who_c)), (ld2_lost, .inl (cJ, 32, .inr (.inl ld2_lost_c))), (ld_lost, .inl (cJ, 32, .inr (.inl ld_lost_c)))] H := hP
  have hD : va_D A [(ld2, .inr (4, [.int ld2_lines, .int ld2_years, .int ld2_card, .int ld2_hurt, .int ld2_people, .int ld2_pairs, .long ld2_strikes, .ref ld2_rule, .ref ld2_returns, .ref ld2_forgets, .ref ld2_death, .ref ld2_move, .ref ld2_begun, .ref ld2_who, .ref ld2_lost])), (ld, .inr (4, [.int ld2_lines, .int ld2_years, .int ld_card, .int ld_hurt, .int ld_people, .int ld_pairs, .long ld_strikes, .ref ld_rule, .ref ld_returns, .ref ld_forgets, .ref ld_death, .ref ld_move, .ref ld_begun, .ref ld_who, .ref ld_lost])), (ld2_rule, .inl (cI, 10, .inl ld2_rule_c)), (ld_rule, .inl (cI, 10, .inl ld_rule_c)), (ld2_returns, .inl (cI, 10, .inl ld2_returns_c)), (ld_returns, .inl (cI, 10, .inl ld_returns_c)), (ld2_forgets, .inl (cI, 10, .inl ld2_forgets_c)), (ld_forgets, .inl (cI, 10, .inl ld_forgets_c)), (ld2_death, .inl (cI, 10, .inl ld2_death_c)), (ld_death, .inl (cI, 10, .inl ld_death_c)), (ld2_move, .inl (cI, 10, .inl ld2_move_c)), (ld_move, .inl (cI, 10, .inl ld_move_c)), (ld2_begun, .inl (cI, 16, .inl ld2_begun_c)), (ld_begun, .inl (cI, 16, .inl ld_begun_c)), (ld2_who, .inl (cI, 32, .inl ld2_who_c)), (ld_who, .inl (cI, 32, .inl ld_who_c)), (ld2_lost, .inl (cJ, 32, .inr (.inl ld2_lost_c))), (ld_lost, .inl (cJ, 32, .inr (.inl ld_lost_c)))] := hD
  refine lv_aload_n hx hb dX4_copyFrom_16 rfl (lv_at hl 0 rfl) ?_
  refine lv_aload_n hx hb dX4_copyFrom_17 rfl (lv_at hl 1 rfl) ?_
  refine va_get (D := g) (ci := 4) (v := .int ld2_card) (C := RX4) (T := TX4) (N := 15) hx hb hts iX4 hown hK hP 0 rfl rfl 2 (by decide) (hts (.fieldLink RX4 44 "CardsAtYule$Land" "card" "I") (List.mem_cons_of_mem _ (List.mem_append_left _ (List.mem_of_getElem? (i := 2) rfl)))) (fun _ h9 => h9) rfl dX4_copyFrom_18 ?_
  refine va_put (D := g) (ci := 4) (v := .int ld2_card) (ty := .int) (C := RX4) (T := TX4) (N := 15) hx hb hts iX4 tyX4 tyX4_ok nmX4 hown hK hP hD hS 1 rfl rfl 2 (by decide) (hts (.fieldLink RX4 44 "CardsAtYule$Land" "card" "I") (List.mem_cons_of_mem _ (List.mem_append_left _ (List.mem_of_getElem? (i := 2) rfl)))) (fun _ h9 => h9) rfl (by decide +kernel) rfl rfl (Nat.le_of_ble_eq_true rfl) dX4_copyFrom_21 (fun H locs hP hD hS => ?_)
  have hP : va_P g vwCl [(ld2, .inr (4, [.int ld2_lines, .int ld2_years, .int ld2_card, .int ld2_hurt, .int ld2_people, .int ld2_pairs, .long ld2_strikes, .ref ld2_rule, .ref ld2_returns, .ref ld2_forgets, .ref ld2_death, .ref ld2_move, .ref ld2_begun, .ref ld2_who, .ref ld2_lost])), (ld, .inr (4, [.int ld2_lines, .int ld2_years, .int ld2_card, .int ld_hurt, .int ld_people, .int ld_pairs, .long ld_strikes, .ref ld_rule, .ref ld_returns, .ref ld_forgets, .ref ld_death, .ref ld_move, .ref ld_begun, .ref ld_who, .ref ld_lost])), (ld2_rule, .inl (cI, 10, .inl ld2_rule_c)), (ld_rule, .inl (cI, 10, .inl ld_rule_c)), (ld2_returns, .inl (cI, 10, .inl ld2_returns_c)), (ld_returns, .inl (cI, 10, .inl ld_returns_c)), (ld2_forgets, .inl (cI, 10, .inl ld2_forgets_c)), (ld_forgets, .inl (cI, 10, .inl ld_forgets_c)), (ld2_death, .inl (cI, 10, .inl ld2_death_c)), (ld_death, .inl (cI, 10, .inl ld_death_c)), (ld2_move, .inl (cI, 10, .inl ld2_move_c)), (ld_move, .inl (cI, 10, .inl ld_move_c)), (ld2_begun, .inl (cI, 16, .inl ld2_begun_c)), (ld_begun, .inl (cI, 16, .inl ld_begun_c)), (ld2_who, .inl (cI, 32, .inl ld2_who_c)), (ld_who, .inl (cI, 32, .inl ld_who_c)), (ld2_lost, .inl (cJ, 32, .inr (.inl ld2_lost_c))), (ld_lost, .inl (cJ, 32, .inr (.inl ld_lost_c)))] H := hP
  have hD : va_D A [(ld2, .inr (4, [.int ld2_lines, .int ld2_years, .int ld2_card, .int ld2_hurt, .int ld2_people, .int ld2_pairs, .long ld2_strikes, .ref ld2_rule, .ref ld2_returns, .ref ld2_forgets, .ref ld2_death, .ref ld2_move, .ref ld2_begun, .ref ld2_who, .ref ld2_lost])), (ld, .inr (4, [.int ld2_lines, .int ld2_years, .int ld2_card, .int ld_hurt, .int ld_people, .int ld_pairs, .long ld_strikes, .ref ld_rule, .ref ld_returns, .ref ld_forgets, .ref ld_death, .ref ld_move, .ref ld_begun, .ref ld_who, .ref ld_lost])), (ld2_rule, .inl (cI, 10, .inl ld2_rule_c)), (ld_rule, .inl (cI, 10, .inl ld_rule_c)), (ld2_returns, .inl (cI, 10, .inl ld2_returns_c)), (ld_returns, .inl (cI, 10, .inl ld_returns_c)), (ld2_forgets, .inl (cI, 10, .inl ld2_forgets_c)), (ld_forgets, .inl (cI, 10, .inl ld_forgets_c)), (ld2_death, .inl (cI, 10, .inl ld2_death_c)), (ld_death, .inl (cI, 10, .inl ld_death_c)), (ld2_move, .inl (cI, 10, .inl ld2_move_c)), (ld_move, .inl (cI, 10, .inl ld_move_c)), (ld2_begun, .inl (cI, 16, .inl ld2_begun_c)), (ld_begun, .inl (cI, 16, .inl ld_begun_c)), (ld2_who, .inl (cI, 32, .inl ld2_who_c)), (ld_who, .inl (cI, 32, .inl ld_who_c)), (ld2_lost, .inl (cJ, 32, .inr (.inl ld2_lost_c))), (ld_lost, .inl (cJ, 32, .inr (.inl ld_lost_c)))] := hD
  refine lv_aload_n hx hb dX4_copyFrom_24 rfl (lv_at hl 0 rfl) ?_
  refine lv_aload_n hx hb dX4_copyFrom_25 rfl (lv_at hl 1 rfl) ?_
  refine va_get (D := g) (ci := 4) (v := .int ld2_hurt) (C := RX4) (T := TX4) (N := 15) hx hb hts iX4 hown hK hP 0 rfl rfl 3 (by decide) (hts (.fieldLink RX4 47 "CardsAtYule$Land" "hurt" "I") (List.mem_cons_of_mem _ (List.mem_append_left _ (List.mem_of_getElem? (i := 3) rfl)))) (fun _ h9 => h9) rfl dX4_copyFrom_26 ?_
  refine va_put (D := g) (ci := 4) (v := .int ld2_hurt) (ty := .int) (C := RX4) (T := TX4) (N := 15) hx hb hts iX4 tyX4 tyX4_ok nmX4 hown hK hP hD hS 1 rfl rfl 3 (by decide) (hts (.fieldLink RX4 47 "CardsAtYule$Land" "hurt" "I") (List.mem_cons_of_mem _ (List.mem_append_left _ (List.mem_of_getElem? (i := 3) rfl)))) (fun _ h9 => h9) rfl (by decide +kernel) rfl rfl (Nat.le_of_ble_eq_true rfl) dX4_copyFrom_29 (fun H locs hP hD hS => ?_)
  have hP : va_P g vwCl [(ld2, .inr (4, [.int ld2_lines, .int ld2_years, .int ld2_card, .int ld2_hurt, .int ld2_people, .int ld2_pairs, .long ld2_strikes, .ref ld2_rule, .ref ld2_returns, .ref ld2_forgets, .ref ld2_death, .ref ld2_move, .ref ld2_begun, .ref ld2_who, .ref ld2_lost])), (ld, .inr (4, [.int ld2_lines, .int ld2_years, .int ld2_card, .int ld2_hurt, .int ld_people, .int ld_pairs, .long ld_strikes, .ref ld_rule, .ref ld_returns, .ref ld_forgets, .ref ld_death, .ref ld_move, .ref ld_begun, .ref ld_who, .ref ld_lost])), (ld2_rule, .inl (cI, 10, .inl ld2_rule_c)), (ld_rule, .inl (cI, 10, .inl ld_rule_c)), (ld2_returns, .inl (cI, 10, .inl ld2_returns_c)), (ld_returns, .inl (cI, 10, .inl ld_returns_c)), (ld2_forgets, .inl (cI, 10, .inl ld2_forgets_c)), (ld_forgets, .inl (cI, 10, .inl ld_forgets_c)), (ld2_death, .inl (cI, 10, .inl ld2_death_c)), (ld_death, .inl (cI, 10, .inl ld_death_c)), (ld2_move, .inl (cI, 10, .inl ld2_move_c)), (ld_move, .inl (cI, 10, .inl ld_move_c)), (ld2_begun, .inl (cI, 16, .inl ld2_begun_c)), (ld_begun, .inl (cI, 16, .inl ld_begun_c)), (ld2_who, .inl (cI, 32, .inl ld2_who_c)), (ld_who, .inl (cI, 32, .inl ld_who_c)), (ld2_lost, .inl (cJ, 32, .inr (.inl ld2_lost_c))), (ld_lost, .inl (cJ, 32, .inr (.inl ld_lost_c)))] H := hP
  have hD : va_D A [(ld2, .inr (4, [.int ld2_lines, .int ld2_years, .int ld2_card, .int ld2_hurt, .int ld2_people, .int ld2_pairs, .long ld2_strikes, .ref ld2_rule, .ref ld2_returns, .ref ld2_forgets, .ref ld2_death, .ref ld2_move, .ref ld2_begun, .ref ld2_who, .ref ld2_lost])), (ld, .inr (4, [.int ld2_lines, .int ld2_years, .int ld2_card, .int ld2_hurt, .int ld_people, .int ld_pairs, .long ld_strikes, .ref ld_rule, .ref ld_returns, .ref ld_forgets, .ref ld_death, .ref ld_move, .ref ld_begun, .ref ld_who, .ref ld_lost])), (ld2_rule, .inl (cI, 10, .inl ld2_rule_c)), (ld_rule, .inl (cI, 10, .inl ld_rule_c)), (ld2_returns, .inl (cI, 10, .inl ld2_returns_c)), (ld_returns, .inl (cI, 10, .inl ld_returns_c)), (ld2_forgets, .inl (cI, 10, .inl ld2_forgets_c)), (ld_forgets, .inl (cI, 10, .inl ld_forgets_c)), (ld2_death, .inl (cI, 10, .inl ld2_death_c)), (ld_death, .inl (cI, 10, .inl ld_death_c)), (ld2_move, .inl (cI, 10, .inl ld2_move_c)), (ld_move, .inl (cI, 10, .inl ld_move_c)), (ld2_begun, .inl (cI, 16, .inl ld2_begun_c)), (ld_begun, .inl (cI, 16, .inl ld_begun_c)), (ld2_who, .inl (cI, 32, .inl ld2_who_c)), (ld_who, .inl (cI, 32, .inl ld_who_c)), (ld2_lost, .inl (cJ, 32, .inr (.inl ld2_lost_c))), (ld_lost, .inl (cJ, 32, .inr (.inl ld_lost_c)))] := hD
  refine lv_aload_n hx hb dX4_copyFrom_32 rfl (lv_at hl 0 rfl) ?_
  refine lv_aload_n hx hb dX4_copyFrom_33 rfl (lv_at hl 1 rfl) ?_
  refine va_get (D := g) (ci := 4) (v := .int ld2_people) (C := RX4) (T := TX4) (N := 15) hx hb hts iX4 hown hK hP 0 rfl rfl 4 (by decide) (hts (.fieldLink RX4 50 "CardsAtYule$Land" "people" "I") (List.mem_cons_of_mem _ (List.mem_append_left _ (List.mem_of_getElem? (i := 4) rfl)))) (fun _ h9 => h9) rfl dX4_copyFrom_34 ?_
  refine va_put (D := g) (ci := 4) (v := .int ld2_people) (ty := .int) (C := RX4) (T := TX4) (N := 15) hx hb hts iX4 tyX4 tyX4_ok nmX4 hown hK hP hD hS 1 rfl rfl 4 (by decide) (hts (.fieldLink RX4 50 "CardsAtYule$Land" "people" "I") (List.mem_cons_of_mem _ (List.mem_append_left _ (List.mem_of_getElem? (i := 4) rfl)))) (fun _ h9 => h9) rfl (by decide +kernel) rfl rfl (Nat.le_of_ble_eq_true rfl) dX4_copyFrom_37 (fun H locs hP hD hS => ?_)
  have hP : va_P g vwCl [(ld2, .inr (4, [.int ld2_lines, .int ld2_years, .int ld2_card, .int ld2_hurt, .int ld2_people, .int ld2_pairs, .long ld2_strikes, .ref ld2_rule, .ref ld2_returns, .ref ld2_forgets, .ref ld2_death, .ref ld2_move, .ref ld2_begun, .ref ld2_who, .ref ld2_lost])), (ld, .inr (4, [.int ld2_lines, .int ld2_years, .int ld2_card, .int ld2_hurt, .int ld2_people, .int ld_pairs, .long ld_strikes, .ref ld_rule, .ref ld_returns, .ref ld_forgets, .ref ld_death, .ref ld_move, .ref ld_begun, .ref ld_who, .ref ld_lost])), (ld2_rule, .inl (cI, 10, .inl ld2_rule_c)), (ld_rule, .inl (cI, 10, .inl ld_rule_c)), (ld2_returns, .inl (cI, 10, .inl ld2_returns_c)), (ld_returns, .inl (cI, 10, .inl ld_returns_c)), (ld2_forgets, .inl (cI, 10, .inl ld2_forgets_c)), (ld_forgets, .inl (cI, 10, .inl ld_forgets_c)), (ld2_death, .inl (cI, 10, .inl ld2_death_c)), (ld_death, .inl (cI, 10, .inl ld_death_c)), (ld2_move, .inl (cI, 10, .inl ld2_move_c)), (ld_move, .inl (cI, 10, .inl ld_move_c)), (ld2_begun, .inl (cI, 16, .inl ld2_begun_c)), (ld_begun, .inl (cI, 16, .inl ld_begun_c)), (ld2_who, .inl (cI, 32, .inl ld2_who_c)), (ld_who, .inl (cI, 32, .inl ld_who_c)), (ld2_lost, .inl (cJ, 32, .inr (.inl ld2_lost_c))), (ld_lost, .inl (cJ, 32, .inr (.inl ld_lost_c)))] H := hP
  have hD : va_D A [(ld2, .inr (4, [.int ld2_lines, .int ld2_years, .int ld2_card, .int ld2_hurt, .int ld2_people, .int ld2_pairs, .long ld2_strikes, .ref ld2_rule, .ref ld2_returns, .ref ld2_forgets, .ref ld2_death, .ref ld2_move, .ref ld2_begun, .ref ld2_who, .ref ld2_lost])), (ld, .inr (4, [.int ld2_lines, .int ld2_years, .int ld2_card, .int ld2_hurt, .int ld2_people, .int ld_pairs, .long ld_strikes, .ref ld_rule, .ref ld_returns, .ref ld_forgets, .ref ld_death, .ref ld_move, .ref ld_begun, .ref ld_who, .ref ld_lost])), (ld2_rule, .inl (cI, 10, .inl ld2_rule_c)), (ld_rule, .inl (cI, 10, .inl ld_rule_c)), (ld2_returns, .inl (cI, 10, .inl ld2_returns_c)), (ld_returns, .inl (cI, 10, .inl ld_returns_c)), (ld2_forgets, .inl (cI, 10, .inl ld2_forgets_c)), (ld_forgets, .inl (cI, 10, .inl ld_forgets_c)), (ld2_death, .inl (cI, 10, .inl ld2_death_c)), (ld_death, .inl (cI, 10, .inl ld_death_c)), (ld2_move, .inl (cI, 10, .inl ld2_move_c)), (ld_move, .inl (cI, 10, .inl ld_move_c)), (ld2_begun, .inl (cI, 16, .inl ld2_begun_c)), (ld_begun, .inl (cI, 16, .inl ld_begun_c)), (ld2_who, .inl (cI, 32, .inl ld2_who_c)), (ld_who, .inl (cI, 32, .inl ld_who_c)), (ld2_lost, .inl (cJ, 32, .inr (.inl ld2_lost_c))), (ld_lost, .inl (cJ, 32, .inr (.inl ld_lost_c)))] := hD
  refine lv_aload_n hx hb dX4_copyFrom_40 rfl (lv_at hl 0 rfl) ?_
  refine lv_aload_n hx hb dX4_copyFrom_41 rfl (lv_at hl 1 rfl) ?_
  refine va_get (D := g) (ci := 4) (v := .int ld2_pairs) (C := RX4) (T := TX4) (N := 15) hx hb hts iX4 hown hK hP 0 rfl rfl 5 (by decide) (hts (.fieldLink RX4 53 "CardsAtYule$Land" "pairs" "I") (List.mem_cons_of_mem _ (List.mem_append_left _ (List.mem_of_getElem? (i := 5) rfl)))) (fun _ h9 => h9) rfl dX4_copyFrom_42 ?_
  refine va_put (D := g) (ci := 4) (v := .int ld2_pairs) (ty := .int) (C := RX4) (T := TX4) (N := 15) hx hb hts iX4 tyX4 tyX4_ok nmX4 hown hK hP hD hS 1 rfl rfl 5 (by decide) (hts (.fieldLink RX4 53 "CardsAtYule$Land" "pairs" "I") (List.mem_cons_of_mem _ (List.mem_append_left _ (List.mem_of_getElem? (i := 5) rfl)))) (fun _ h9 => h9) rfl (by decide +kernel) rfl rfl (Nat.le_of_ble_eq_true rfl) dX4_copyFrom_45 (fun H locs hP hD hS => ?_)
  have hP : va_P g vwCl [(ld2, .inr (4, [.int ld2_lines, .int ld2_years, .int ld2_card, .int ld2_hurt, .int ld2_people, .int ld2_pairs, .long ld2_strikes, .ref ld2_rule, .ref ld2_returns, .ref ld2_forgets, .ref ld2_death, .ref ld2_move, .ref ld2_begun, .ref ld2_who, .ref ld2_lost])), (ld, .inr (4, [.int ld2_lines, .int ld2_years, .int ld2_card, .int ld2_hurt, .int ld2_people, .int ld2_pairs, .long ld_strikes, .ref ld_rule, .ref ld_returns, .ref ld_forgets, .ref ld_death, .ref ld_move, .ref ld_begun, .ref ld_who, .ref ld_lost])), (ld2_rule, .inl (cI, 10, .inl ld2_rule_c)), (ld_rule, .inl (cI, 10, .inl ld_rule_c)), (ld2_returns, .inl (cI, 10, .inl ld2_returns_c)), (ld_returns, .inl (cI, 10, .inl ld_returns_c)), (ld2_forgets, .inl (cI, 10, .inl ld2_forgets_c)), (ld_forgets, .inl (cI, 10, .inl ld_forgets_c)), (ld2_death, .inl (cI, 10, .inl ld2_death_c)), (ld_death, .inl (cI, 10, .inl ld_death_c)), (ld2_move, .inl (cI, 10, .inl ld2_move_c)), (ld_move, .inl (cI, 10, .inl ld_move_c)), (ld2_begun, .inl (cI, 16, .inl ld2_begun_c)), (ld_begun, .inl (cI, 16, .inl ld_begun_c)), (ld2_who, .inl (cI, 32, .inl ld2_who_c)), (ld_who, .inl (cI, 32, .inl ld_who_c)), (ld2_lost, .inl (cJ, 32, .inr (.inl ld2_lost_c))), (ld_lost, .inl (cJ, 32, .inr (.inl ld_lost_c)))] H := hP
  have hD : va_D A [(ld2, .inr (4, [.int ld2_lines, .int ld2_years, .int ld2_card, .int ld2_hurt, .int ld2_people, .int ld2_pairs, .long ld2_strikes, .ref ld2_rule, .ref ld2_returns, .ref ld2_forgets, .ref ld2_death, .ref ld2_move, .ref ld2_begun, .ref ld2_who, .ref ld2_lost])), (ld, .inr (4, [.int ld2_lines, .int ld2_years, .int ld2_card, .int ld2_hurt, .int ld2_people, .int ld2_pairs, .long ld_strikes, .ref ld_rule, .ref ld_returns, .ref ld_forgets, .ref ld_death, .ref ld_move, .ref ld_begun, .ref ld_who, .ref ld_lost])), (ld2_rule, .inl (cI, 10, .inl ld2_rule_c)), (ld_rule, .inl (cI, 10, .inl ld_rule_c)), (ld2_returns, .inl (cI, 10, .inl ld2_returns_c)), (ld_returns, .inl (cI, 10, .inl ld_returns_c)), (ld2_forgets, .inl (cI, 10, .inl ld2_forgets_c)), (ld_forgets, .inl (cI, 10, .inl ld_forgets_c)), (ld2_death, .inl (cI, 10, .inl ld2_death_c)), (ld_death, .inl (cI, 10, .inl ld_death_c)), (ld2_move, .inl (cI, 10, .inl ld2_move_c)), (ld_move, .inl (cI, 10, .inl ld_move_c)), (ld2_begun, .inl (cI, 16, .inl ld2_begun_c)), (ld_begun, .inl (cI, 16, .inl ld_begun_c)), (ld2_who, .inl (cI, 32, .inl ld2_who_c)), (ld_who, .inl (cI, 32, .inl ld_who_c)), (ld2_lost, .inl (cJ, 32, .inr (.inl ld2_lost_c))), (ld_lost, .inl (cJ, 32, .inr (.inl ld_lost_c)))] := hD
  refine lv_aload_n hx hb dX4_copyFrom_48 rfl (lv_at hl 0 rfl) ?_
  refine lv_aload_n hx hb dX4_copyFrom_49 rfl (lv_at hl 1 rfl) ?_
  refine va_get (D := g) (ci := 4) (v := .long ld2_strikes) (C := RX4) (T := TX4) (N := 15) hx hb hts iX4 hown hK hP 0 rfl rfl 6 (by decide) (hts (.fieldLink RX4 56 "CardsAtYule$Land" "strikes" "J") (List.mem_cons_of_mem _ (List.mem_append_left _ (List.mem_of_getElem? (i := 6) rfl)))) (fun _ h9 => h9) rfl dX4_copyFrom_50 ?_
  refine va_put (D := g) (ci := 4) (v := .long ld2_strikes) (ty := .long) (C := RX4) (T := TX4) (N := 15) hx hb hts iX4 tyX4 tyX4_ok nmX4 hown hK hP hD hS 1 rfl rfl 6 (by decide) (hts (.fieldLink RX4 56 "CardsAtYule$Land" "strikes" "J") (List.mem_cons_of_mem _ (List.mem_append_left _ (List.mem_of_getElem? (i := 6) rfl)))) (fun _ h9 => h9) rfl (by decide +kernel) rfl rfl (Nat.le_of_ble_eq_true rfl) dX4_copyFrom_53 (fun H locs hP hD hS => ?_)
  have hP : va_P g vwCl [(ld2, .inr (4, [.int ld2_lines, .int ld2_years, .int ld2_card, .int ld2_hurt, .int ld2_people, .int ld2_pairs, .long ld2_strikes, .ref ld2_rule, .ref ld2_returns, .ref ld2_forgets, .ref ld2_death, .ref ld2_move, .ref ld2_begun, .ref ld2_who, .ref ld2_lost])), (ld, .inr (4, [.int ld2_lines, .int ld2_years, .int ld2_card, .int ld2_hurt, .int ld2_people, .int ld2_pairs, .long ld2_strikes, .ref ld_rule, .ref ld_returns, .ref ld_forgets, .ref ld_death, .ref ld_move, .ref ld_begun, .ref ld_who, .ref ld_lost])), (ld2_rule, .inl (cI, 10, .inl ld2_rule_c)), (ld_rule, .inl (cI, 10, .inl ld_rule_c)), (ld2_returns, .inl (cI, 10, .inl ld2_returns_c)), (ld_returns, .inl (cI, 10, .inl ld_returns_c)), (ld2_forgets, .inl (cI, 10, .inl ld2_forgets_c)), (ld_forgets, .inl (cI, 10, .inl ld_forgets_c)), (ld2_death, .inl (cI, 10, .inl ld2_death_c)), (ld_death, .inl (cI, 10, .inl ld_death_c)), (ld2_move, .inl (cI, 10, .inl ld2_move_c)), (ld_move, .inl (cI, 10, .inl ld_move_c)), (ld2_begun, .inl (cI, 16, .inl ld2_begun_c)), (ld_begun, .inl (cI, 16, .inl ld_begun_c)), (ld2_who, .inl (cI, 32, .inl ld2_who_c)), (ld_who, .inl (cI, 32, .inl ld_who_c)), (ld2_lost, .inl (cJ, 32, .inr (.inl ld2_lost_c))), (ld_lost, .inl (cJ, 32, .inr (.inl ld_lost_c)))] H := hP
  have hD : va_D A [(ld2, .inr (4, [.int ld2_lines, .int ld2_years, .int ld2_card, .int ld2_hurt, .int ld2_people, .int ld2_pairs, .long ld2_strikes, .ref ld2_rule, .ref ld2_returns, .ref ld2_forgets, .ref ld2_death, .ref ld2_move, .ref ld2_begun, .ref ld2_who, .ref ld2_lost])), (ld, .inr (4, [.int ld2_lines, .int ld2_years, .int ld2_card, .int ld2_hurt, .int ld2_people, .int ld2_pairs, .long ld2_strikes, .ref ld_rule, .ref ld_returns, .ref ld_forgets, .ref ld_death, .ref ld_move, .ref ld_begun, .ref ld_who, .ref ld_lost])), (ld2_rule, .inl (cI, 10, .inl ld2_rule_c)), (ld_rule, .inl (cI, 10, .inl ld_rule_c)), (ld2_returns, .inl (cI, 10, .inl ld2_returns_c)), (ld_returns, .inl (cI, 10, .inl ld_returns_c)), (ld2_forgets, .inl (cI, 10, .inl ld2_forgets_c)), (ld_forgets, .inl (cI, 10, .inl ld_forgets_c)), (ld2_death, .inl (cI, 10, .inl ld2_death_c)), (ld_death, .inl (cI, 10, .inl ld_death_c)), (ld2_move, .inl (cI, 10, .inl ld2_move_c)), (ld_move, .inl (cI, 10, .inl ld_move_c)), (ld2_begun, .inl (cI, 16, .inl ld2_begun_c)), (ld_begun, .inl (cI, 16, .inl ld_begun_c)), (ld2_who, .inl (cI, 32, .inl ld2_who_c)), (ld_who, .inl (cI, 32, .inl ld_who_c)), (ld2_lost, .inl (cJ, 32, .inr (.inl ld2_lost_c))), (ld_lost, .inl (cJ, 32, .inr (.inl ld_lost_c)))] := hD
  refine lv_aload_n hx hb dX4_copyFrom_56 rfl (lv_at hl 1 rfl) ?_
  refine va_get (D := g) (ci := 4) (v := .ref ld2_rule) (C := RX4) (T := TX4) (N := 15) hx hb hts iX4 hown hK hP 0 rfl rfl 7 (by decide) (hts (.fieldLink RX4 9 "CardsAtYule$Land" "rule" "[I") (List.mem_cons_of_mem _ (List.mem_append_left _ (List.mem_of_getElem? (i := 7) rfl)))) (fun _ h9 => h9) rfl dX4_copyFrom_57 ?_
  refine lv_iconst (v := 0) hx hb dX4_copyFrom_60 (by decide) ?_
  refine lv_aload_n hx hb dX4_copyFrom_61 rfl (lv_at hl 0 rfl) ?_
  refine va_get (D := g) (ci := 4) (v := .ref ld_rule) (C := RX4) (T := TX4) (N := 15) hx hb hts iX4 hown hK hP 1 rfl rfl 7 (by decide) (hts (.fieldLink RX4 9 "CardsAtYule$Land" "rule" "[I") (List.mem_cons_of_mem _ (List.mem_append_left _ (List.mem_of_getElem? (i := 7) rfl)))) (fun _ h9 => h9) rfl dX4_copyFrom_62 ?_
  refine lv_iconst (v := 0) hx hb dX4_copyFrom_65 (by decide) ?_
  refine lv_bipush (v := 10) hx hb dX4_copyFrom_66 (by decide) ?_
  refine va_copyi (D := g) hx hb (hml.trans hl.1.symm) hown (hts (.methodLink RX4 66 arraycopyName) (List.mem_cons_of_mem _ (List.mem_append_left _ (List.mem_of_getElem? (i := 8) rfl)))) (hts (.native arraycopyName) (List.mem_cons_of_mem _ (List.mem_append_left _ (List.mem_of_getElem? (i := 9) rfl)))) (hts (.static arraycopyName) (List.mem_cons_of_mem _ (List.mem_append_left _ (List.mem_of_getElem? (i := 10) rfl)))) (hts (.initialized "java/lang/System") (List.mem_cons_of_mem _ (List.mem_append_left _ (List.mem_of_getElem? (i := 11) rfl)))) hK hP hD hS 2 3 0 0 rfl rfl rfl rfl rfl (by decide) (by decide) (by decide) (by decide) (by decide) (fun _ _ => rfl) (Nat.le_of_ble_eq_true rfl) (Nat.le_of_ble_eq_true rfl) dX4_copyFrom_68 (fun H locs hP hD hS => ?_)
  obtain ⟨g68, e68⟩ : ∃ z, z = va_cpy ld2_rule_c ld_rule_c 0 0 10 := ⟨_, rfl⟩
  have hP : va_P g vwCl [(ld2, .inr (4, [.int ld2_lines, .int ld2_years, .int ld2_card, .int ld2_hurt, .int ld2_people, .int ld2_pairs, .long ld2_strikes, .ref ld2_rule, .ref ld2_returns, .ref ld2_forgets, .ref ld2_death, .ref ld2_move, .ref ld2_begun, .ref ld2_who, .ref ld2_lost])), (ld, .inr (4, [.int ld2_lines, .int ld2_years, .int ld2_card, .int ld2_hurt, .int ld2_people, .int ld2_pairs, .long ld2_strikes, .ref ld_rule, .ref ld_returns, .ref ld_forgets, .ref ld_death, .ref ld_move, .ref ld_begun, .ref ld_who, .ref ld_lost])), (ld2_rule, .inl (cI, 10, .inl ld2_rule_c)), (ld_rule, .inl (cI, 10, .inl (va_cpy ld2_rule_c ld_rule_c 0 0 10))), (ld2_returns, .inl (cI, 10, .inl ld2_returns_c)), (ld_returns, .inl (cI, 10, .inl ld_returns_c)), (ld2_forgets, .inl (cI, 10, .inl ld2_forgets_c)), (ld_forgets, .inl (cI, 10, .inl ld_forgets_c)), (ld2_death, .inl (cI, 10, .inl ld2_death_c)), (ld_death, .inl (cI, 10, .inl ld_death_c)), (ld2_move, .inl (cI, 10, .inl ld2_move_c)), (ld_move, .inl (cI, 10, .inl ld_move_c)), (ld2_begun, .inl (cI, 16, .inl ld2_begun_c)), (ld_begun, .inl (cI, 16, .inl ld_begun_c)), (ld2_who, .inl (cI, 32, .inl ld2_who_c)), (ld_who, .inl (cI, 32, .inl ld_who_c)), (ld2_lost, .inl (cJ, 32, .inr (.inl ld2_lost_c))), (ld_lost, .inl (cJ, 32, .inr (.inl ld_lost_c)))] H := hP
  have hD : va_D A [(ld2, .inr (4, [.int ld2_lines, .int ld2_years, .int ld2_card, .int ld2_hurt, .int ld2_people, .int ld2_pairs, .long ld2_strikes, .ref ld2_rule, .ref ld2_returns, .ref ld2_forgets, .ref ld2_death, .ref ld2_move, .ref ld2_begun, .ref ld2_who, .ref ld2_lost])), (ld, .inr (4, [.int ld2_lines, .int ld2_years, .int ld2_card, .int ld2_hurt, .int ld2_people, .int ld2_pairs, .long ld2_strikes, .ref ld_rule, .ref ld_returns, .ref ld_forgets, .ref ld_death, .ref ld_move, .ref ld_begun, .ref ld_who, .ref ld_lost])), (ld2_rule, .inl (cI, 10, .inl ld2_rule_c)), (ld_rule, .inl (cI, 10, .inl (va_cpy ld2_rule_c ld_rule_c 0 0 10))), (ld2_returns, .inl (cI, 10, .inl ld2_returns_c)), (ld_returns, .inl (cI, 10, .inl ld_returns_c)), (ld2_forgets, .inl (cI, 10, .inl ld2_forgets_c)), (ld_forgets, .inl (cI, 10, .inl ld_forgets_c)), (ld2_death, .inl (cI, 10, .inl ld2_death_c)), (ld_death, .inl (cI, 10, .inl ld_death_c)), (ld2_move, .inl (cI, 10, .inl ld2_move_c)), (ld_move, .inl (cI, 10, .inl ld_move_c)), (ld2_begun, .inl (cI, 16, .inl ld2_begun_c)), (ld_begun, .inl (cI, 16, .inl ld_begun_c)), (ld2_who, .inl (cI, 32, .inl ld2_who_c)), (ld_who, .inl (cI, 32, .inl ld_who_c)), (ld2_lost, .inl (cJ, 32, .inr (.inl ld2_lost_c))), (ld_lost, .inl (cJ, 32, .inr (.inl ld_lost_c)))] := hD
  rw [← e68] at hP hD
  refine lv_aload_n hx hb dX4_copyFrom_71 rfl (lv_at hl 1 rfl) ?_
  refine va_get (D := g) (ci := 4) (v := .ref ld2_returns) (C := RX4) (T := TX4) (N := 15) hx hb hts iX4 hown hK hP 0 rfl rfl 8 (by decide) (hts (.fieldLink RX4 15 "CardsAtYule$Land" "returns" "[I") (List.mem_cons_of_mem _ (List.mem_append_left _ (List.mem_of_getElem? (i := 12) rfl)))) (fun _ h9 => h9) rfl dX4_copyFrom_72 ?_
  refine lv_iconst (v := 0) hx hb dX4_copyFrom_75 (by decide) ?_
  refine lv_aload_n hx hb dX4_copyFrom_76 rfl (lv_at hl 0 rfl) ?_
  refine va_get (D := g) (ci := 4) (v := .ref ld_returns) (C := RX4) (T := TX4) (N := 15) hx hb hts iX4 hown hK hP 1 rfl rfl 8 (by decide) (hts (.fieldLink RX4 15 "CardsAtYule$Land" "returns" "[I") (List.mem_cons_of_mem _ (List.mem_append_left _ (List.mem_of_getElem? (i := 12) rfl)))) (fun _ h9 => h9) rfl dX4_copyFrom_77 ?_
  refine lv_iconst (v := 0) hx hb dX4_copyFrom_80 (by decide) ?_
  refine lv_bipush (v := 10) hx hb dX4_copyFrom_81 (by decide) ?_
  refine va_copyi (D := g) hx hb (hml.trans hl.1.symm) hown (hts (.methodLink RX4 66 arraycopyName) (List.mem_cons_of_mem _ (List.mem_append_left _ (List.mem_of_getElem? (i := 8) rfl)))) (hts (.native arraycopyName) (List.mem_cons_of_mem _ (List.mem_append_left _ (List.mem_of_getElem? (i := 9) rfl)))) (hts (.static arraycopyName) (List.mem_cons_of_mem _ (List.mem_append_left _ (List.mem_of_getElem? (i := 10) rfl)))) (hts (.initialized "java/lang/System") (List.mem_cons_of_mem _ (List.mem_append_left _ (List.mem_of_getElem? (i := 11) rfl)))) hK hP hD hS 4 5 0 0 rfl rfl rfl rfl rfl (by decide) (by decide) (by decide) (by decide) (by decide) (fun _ _ => rfl) (Nat.le_of_ble_eq_true rfl) (Nat.le_of_ble_eq_true rfl) dX4_copyFrom_83 (fun H locs hP hD hS => ?_)
  obtain ⟨g83, e83⟩ : ∃ z, z = va_cpy ld2_returns_c ld_returns_c 0 0 10 := ⟨_, rfl⟩
  have hP : va_P g vwCl [(ld2, .inr (4, [.int ld2_lines, .int ld2_years, .int ld2_card, .int ld2_hurt, .int ld2_people, .int ld2_pairs, .long ld2_strikes, .ref ld2_rule, .ref ld2_returns, .ref ld2_forgets, .ref ld2_death, .ref ld2_move, .ref ld2_begun, .ref ld2_who, .ref ld2_lost])), (ld, .inr (4, [.int ld2_lines, .int ld2_years, .int ld2_card, .int ld2_hurt, .int ld2_people, .int ld2_pairs, .long ld2_strikes, .ref ld_rule, .ref ld_returns, .ref ld_forgets, .ref ld_death, .ref ld_move, .ref ld_begun, .ref ld_who, .ref ld_lost])), (ld2_rule, .inl (cI, 10, .inl ld2_rule_c)), (ld_rule, .inl (cI, 10, .inl g68)), (ld2_returns, .inl (cI, 10, .inl ld2_returns_c)), (ld_returns, .inl (cI, 10, .inl (va_cpy ld2_returns_c ld_returns_c 0 0 10))), (ld2_forgets, .inl (cI, 10, .inl ld2_forgets_c)), (ld_forgets, .inl (cI, 10, .inl ld_forgets_c)), (ld2_death, .inl (cI, 10, .inl ld2_death_c)), (ld_death, .inl (cI, 10, .inl ld_death_c)), (ld2_move, .inl (cI, 10, .inl ld2_move_c)), (ld_move, .inl (cI, 10, .inl ld_move_c)), (ld2_begun, .inl (cI, 16, .inl ld2_begun_c)), (ld_begun, .inl (cI, 16, .inl ld_begun_c)), (ld2_who, .inl (cI, 32, .inl ld2_who_c)), (ld_who, .inl (cI, 32, .inl ld_who_c)), (ld2_lost, .inl (cJ, 32, .inr (.inl ld2_lost_c))), (ld_lost, .inl (cJ, 32, .inr (.inl ld_lost_c)))] H := hP
  have hD : va_D A [(ld2, .inr (4, [.int ld2_lines, .int ld2_years, .int ld2_card, .int ld2_hurt, .int ld2_people, .int ld2_pairs, .long ld2_strikes, .ref ld2_rule, .ref ld2_returns, .ref ld2_forgets, .ref ld2_death, .ref ld2_move, .ref ld2_begun, .ref ld2_who, .ref ld2_lost])), (ld, .inr (4, [.int ld2_lines, .int ld2_years, .int ld2_card, .int ld2_hurt, .int ld2_people, .int ld2_pairs, .long ld2_strikes, .ref ld_rule, .ref ld_returns, .ref ld_forgets, .ref ld_death, .ref ld_move, .ref ld_begun, .ref ld_who, .ref ld_lost])), (ld2_rule, .inl (cI, 10, .inl ld2_rule_c)), (ld_rule, .inl (cI, 10, .inl g68)), (ld2_returns, .inl (cI, 10, .inl ld2_returns_c)), (ld_returns, .inl (cI, 10, .inl (va_cpy ld2_returns_c ld_returns_c 0 0 10))), (ld2_forgets, .inl (cI, 10, .inl ld2_forgets_c)), (ld_forgets, .inl (cI, 10, .inl ld_forgets_c)), (ld2_death, .inl (cI, 10, .inl ld2_death_c)), (ld_death, .inl (cI, 10, .inl ld_death_c)), (ld2_move, .inl (cI, 10, .inl ld2_move_c)), (ld_move, .inl (cI, 10, .inl ld_move_c)), (ld2_begun, .inl (cI, 16, .inl ld2_begun_c)), (ld_begun, .inl (cI, 16, .inl ld_begun_c)), (ld2_who, .inl (cI, 32, .inl ld2_who_c)), (ld_who, .inl (cI, 32, .inl ld_who_c)), (ld2_lost, .inl (cJ, 32, .inr (.inl ld2_lost_c))), (ld_lost, .inl (cJ, 32, .inr (.inl ld_lost_c)))] := hD
  rw [← e83] at hP hD
  refine lv_aload_n hx hb dX4_copyFrom_86 rfl (lv_at hl 1 rfl) ?_
  refine va_get (D := g) (ci := 4) (v := .ref ld2_forgets) (C := RX4) (T := TX4) (N := 15) hx hb hts iX4 hown hK hP 0 rfl rfl 9 (by decide) (hts (.fieldLink RX4 18 "CardsAtYule$Land" "forgets" "[I") (List.mem_cons_of_mem _ (List.mem_append_left _ (List.mem_of_getElem? (i := 13) rfl)))) (fun _ h9 => h9) rfl dX4_copyFrom_87 ?_
  refine lv_iconst (v := 0) hx hb dX4_copyFrom_90 (by decide) ?_
  refine lv_aload_n hx hb dX4_copyFrom_91 rfl (lv_at hl 0 rfl) ?_
  refine va_get (D := g) (ci := 4) (v := .ref ld_forgets) (C := RX4) (T := TX4) (N := 15) hx hb hts iX4 hown hK hP 1 rfl rfl 9 (by decide) (hts (.fieldLink RX4 18 "CardsAtYule$Land" "forgets" "[I") (List.mem_cons_of_mem _ (List.mem_append_left _ (List.mem_of_getElem? (i := 13) rfl)))) (fun _ h9 => h9) rfl dX4_copyFrom_92 ?_
  refine lv_iconst (v := 0) hx hb dX4_copyFrom_95 (by decide) ?_
  refine lv_bipush (v := 10) hx hb dX4_copyFrom_96 (by decide) ?_
  refine va_copyi (D := g) hx hb (hml.trans hl.1.symm) hown (hts (.methodLink RX4 66 arraycopyName) (List.mem_cons_of_mem _ (List.mem_append_left _ (List.mem_of_getElem? (i := 8) rfl)))) (hts (.native arraycopyName) (List.mem_cons_of_mem _ (List.mem_append_left _ (List.mem_of_getElem? (i := 9) rfl)))) (hts (.static arraycopyName) (List.mem_cons_of_mem _ (List.mem_append_left _ (List.mem_of_getElem? (i := 10) rfl)))) (hts (.initialized "java/lang/System") (List.mem_cons_of_mem _ (List.mem_append_left _ (List.mem_of_getElem? (i := 11) rfl)))) hK hP hD hS 6 7 0 0 rfl rfl rfl rfl rfl (by decide) (by decide) (by decide) (by decide) (by decide) (fun _ _ => rfl) (Nat.le_of_ble_eq_true rfl) (Nat.le_of_ble_eq_true rfl) dX4_copyFrom_98 (fun H locs hP hD hS => ?_)
  obtain ⟨g98, e98⟩ : ∃ z, z = va_cpy ld2_forgets_c ld_forgets_c 0 0 10 := ⟨_, rfl⟩
  have hP : va_P g vwCl [(ld2, .inr (4, [.int ld2_lines, .int ld2_years, .int ld2_card, .int ld2_hurt, .int ld2_people, .int ld2_pairs, .long ld2_strikes, .ref ld2_rule, .ref ld2_returns, .ref ld2_forgets, .ref ld2_death, .ref ld2_move, .ref ld2_begun, .ref ld2_who, .ref ld2_lost])), (ld, .inr (4, [.int ld2_lines, .int ld2_years, .int ld2_card, .int ld2_hurt, .int ld2_people, .int ld2_pairs, .long ld2_strikes, .ref ld_rule, .ref ld_returns, .ref ld_forgets, .ref ld_death, .ref ld_move, .ref ld_begun, .ref ld_who, .ref ld_lost])), (ld2_rule, .inl (cI, 10, .inl ld2_rule_c)), (ld_rule, .inl (cI, 10, .inl g68)), (ld2_returns, .inl (cI, 10, .inl ld2_returns_c)), (ld_returns, .inl (cI, 10, .inl g83)), (ld2_forgets, .inl (cI, 10, .inl ld2_forgets_c)), (ld_forgets, .inl (cI, 10, .inl (va_cpy ld2_forgets_c ld_forgets_c 0 0 10))), (ld2_death, .inl (cI, 10, .inl ld2_death_c)), (ld_death, .inl (cI, 10, .inl ld_death_c)), (ld2_move, .inl (cI, 10, .inl ld2_move_c)), (ld_move, .inl (cI, 10, .inl ld_move_c)), (ld2_begun, .inl (cI, 16, .inl ld2_begun_c)), (ld_begun, .inl (cI, 16, .inl ld_begun_c)), (ld2_who, .inl (cI, 32, .inl ld2_who_c)), (ld_who, .inl (cI, 32, .inl ld_who_c)), (ld2_lost, .inl (cJ, 32, .inr (.inl ld2_lost_c))), (ld_lost, .inl (cJ, 32, .inr (.inl ld_lost_c)))] H := hP
  have hD : va_D A [(ld2, .inr (4, [.int ld2_lines, .int ld2_years, .int ld2_card, .int ld2_hurt, .int ld2_people, .int ld2_pairs, .long ld2_strikes, .ref ld2_rule, .ref ld2_returns, .ref ld2_forgets, .ref ld2_death, .ref ld2_move, .ref ld2_begun, .ref ld2_who, .ref ld2_lost])), (ld, .inr (4, [.int ld2_lines, .int ld2_years, .int ld2_card, .int ld2_hurt, .int ld2_people, .int ld2_pairs, .long ld2_strikes, .ref ld_rule, .ref ld_returns, .ref ld_forgets, .ref ld_death, .ref ld_move, .ref ld_begun, .ref ld_who, .ref ld_lost])), (ld2_rule, .inl (cI, 10, .inl ld2_rule_c)), (ld_rule, .inl (cI, 10, .inl g68)), (ld2_returns, .inl (cI, 10, .inl ld2_returns_c)), (ld_returns, .inl (cI, 10, .inl g83)), (ld2_forgets, .inl (cI, 10, .inl ld2_forgets_c)), (ld_forgets, .inl (cI, 10, .inl (va_cpy ld2_forgets_c ld_forgets_c 0 0 10))), (ld2_death, .inl (cI, 10, .inl ld2_death_c)), (ld_death, .inl (cI, 10, .inl ld_death_c)), (ld2_move, .inl (cI, 10, .inl ld2_move_c)), (ld_move, .inl (cI, 10, .inl ld_move_c)), (ld2_begun, .inl (cI, 16, .inl ld2_begun_c)), (ld_begun, .inl (cI, 16, .inl ld_begun_c)), (ld2_who, .inl (cI, 32, .inl ld2_who_c)), (ld_who, .inl (cI, 32, .inl ld_who_c)), (ld2_lost, .inl (cJ, 32, .inr (.inl ld2_lost_c))), (ld_lost, .inl (cJ, 32, .inr (.inl ld_lost_c)))] := hD
  rw [← e98] at hP hD
  refine lv_aload_n hx hb dX4_copyFrom_101 rfl (lv_at hl 1 rfl) ?_
  refine va_get (D := g) (ci := 4) (v := .ref ld2_death) (C := RX4) (T := TX4) (N := 15) hx hb hts iX4 hown hK hP 0 rfl rfl 10 (by decide) (hts (.fieldLink RX4 21 "CardsAtYule$Land" "death" "[I") (List.mem_cons_of_mem _ (List.mem_append_left _ (List.mem_of_getElem? (i := 14) rfl)))) (fun _ h9 => h9) rfl dX4_copyFrom_102 ?_
  refine lv_iconst (v := 0) hx hb dX4_copyFrom_105 (by decide) ?_
  refine lv_aload_n hx hb dX4_copyFrom_106 rfl (lv_at hl 0 rfl) ?_
  refine va_get (D := g) (ci := 4) (v := .ref ld_death) (C := RX4) (T := TX4) (N := 15) hx hb hts iX4 hown hK hP 1 rfl rfl 10 (by decide) (hts (.fieldLink RX4 21 "CardsAtYule$Land" "death" "[I") (List.mem_cons_of_mem _ (List.mem_append_left _ (List.mem_of_getElem? (i := 14) rfl)))) (fun _ h9 => h9) rfl dX4_copyFrom_107 ?_
  refine lv_iconst (v := 0) hx hb dX4_copyFrom_110 (by decide) ?_
  refine lv_bipush (v := 10) hx hb dX4_copyFrom_111 (by decide) ?_
  refine va_copyi (D := g) hx hb (hml.trans hl.1.symm) hown (hts (.methodLink RX4 66 arraycopyName) (List.mem_cons_of_mem _ (List.mem_append_left _ (List.mem_of_getElem? (i := 8) rfl)))) (hts (.native arraycopyName) (List.mem_cons_of_mem _ (List.mem_append_left _ (List.mem_of_getElem? (i := 9) rfl)))) (hts (.static arraycopyName) (List.mem_cons_of_mem _ (List.mem_append_left _ (List.mem_of_getElem? (i := 10) rfl)))) (hts (.initialized "java/lang/System") (List.mem_cons_of_mem _ (List.mem_append_left _ (List.mem_of_getElem? (i := 11) rfl)))) hK hP hD hS 8 9 0 0 rfl rfl rfl rfl rfl (by decide) (by decide) (by decide) (by decide) (by decide) (fun _ _ => rfl) (Nat.le_of_ble_eq_true rfl) (Nat.le_of_ble_eq_true rfl) dX4_copyFrom_113 (fun H locs hP hD hS => ?_)
  obtain ⟨g113, e113⟩ : ∃ z, z = va_cpy ld2_death_c ld_death_c 0 0 10 := ⟨_, rfl⟩
  have hP : va_P g vwCl [(ld2, .inr (4, [.int ld2_lines, .int ld2_years, .int ld2_card, .int ld2_hurt, .int ld2_people, .int ld2_pairs, .long ld2_strikes, .ref ld2_rule, .ref ld2_returns, .ref ld2_forgets, .ref ld2_death, .ref ld2_move, .ref ld2_begun, .ref ld2_who, .ref ld2_lost])), (ld, .inr (4, [.int ld2_lines, .int ld2_years, .int ld2_card, .int ld2_hurt, .int ld2_people, .int ld2_pairs, .long ld2_strikes, .ref ld_rule, .ref ld_returns, .ref ld_forgets, .ref ld_death, .ref ld_move, .ref ld_begun, .ref ld_who, .ref ld_lost])), (ld2_rule, .inl (cI, 10, .inl ld2_rule_c)), (ld_rule, .inl (cI, 10, .inl g68)), (ld2_returns, .inl (cI, 10, .inl ld2_returns_c)), (ld_returns, .inl (cI, 10, .inl g83)), (ld2_forgets, .inl (cI, 10, .inl ld2_forgets_c)), (ld_forgets, .inl (cI, 10, .inl g98)), (ld2_death, .inl (cI, 10, .inl ld2_death_c)), (ld_death, .inl (cI, 10, .inl (va_cpy ld2_death_c ld_death_c 0 0 10))), (ld2_move, .inl (cI, 10, .inl ld2_move_c)), (ld_move, .inl (cI, 10, .inl ld_move_c)), (ld2_begun, .inl (cI, 16, .inl ld2_begun_c)), (ld_begun, .inl (cI, 16, .inl ld_begun_c)), (ld2_who, .inl (cI, 32, .inl ld2_who_c)), (ld_who, .inl (cI, 32, .inl ld_who_c)), (ld2_lost, .inl (cJ, 32, .inr (.inl ld2_lost_c))), (ld_lost, .inl (cJ, 32, .inr (.inl ld_lost_c)))] H := hP
  have hD : va_D A [(ld2, .inr (4, [.int ld2_lines, .int ld2_years, .int ld2_card, .int ld2_hurt, .int ld2_people, .int ld2_pairs, .long ld2_strikes, .ref ld2_rule, .ref ld2_returns, .ref ld2_forgets, .ref ld2_death, .ref ld2_move, .ref ld2_begun, .ref ld2_who, .ref ld2_lost])), (ld, .inr (4, [.int ld2_lines, .int ld2_years, .int ld2_card, .int ld2_hurt, .int ld2_people, .int ld2_pairs, .long ld2_strikes, .ref ld_rule, .ref ld_returns, .ref ld_forgets, .ref ld_death, .ref ld_move, .ref ld_begun, .ref ld_who, .ref ld_lost])), (ld2_rule, .inl (cI, 10, .inl ld2_rule_c)), (ld_rule, .inl (cI, 10, .inl g68)), (ld2_returns, .inl (cI, 10, .inl ld2_returns_c)), (ld_returns, .inl (cI, 10, .inl g83)), (ld2_forgets, .inl (cI, 10, .inl ld2_forgets_c)), (ld_forgets, .inl (cI, 10, .inl g98)), (ld2_death, .inl (cI, 10, .inl ld2_death_c)), (ld_death, .inl (cI, 10, .inl (va_cpy ld2_death_c ld_death_c 0 0 10))), (ld2_move, .inl (cI, 10, .inl ld2_move_c)), (ld_move, .inl (cI, 10, .inl ld_move_c)), (ld2_begun, .inl (cI, 16, .inl ld2_begun_c)), (ld_begun, .inl (cI, 16, .inl ld_begun_c)), (ld2_who, .inl (cI, 32, .inl ld2_who_c)), (ld_who, .inl (cI, 32, .inl ld_who_c)), (ld2_lost, .inl (cJ, 32, .inr (.inl ld2_lost_c))), (ld_lost, .inl (cJ, 32, .inr (.inl ld_lost_c)))] := hD
  rw [← e113] at hP hD
  refine lv_aload_n hx hb dX4_copyFrom_116 rfl (lv_at hl 1 rfl) ?_
  refine va_get (D := g) (ci := 4) (v := .ref ld2_move) (C := RX4) (T := TX4) (N := 15) hx hb hts iX4 hown hK hP 0 rfl rfl 11 (by decide) (hts (.fieldLink RX4 24 "CardsAtYule$Land" "move" "[I") (List.mem_cons_of_mem _ (List.mem_append_left _ (List.mem_of_getElem? (i := 15) rfl)))) (fun _ h9 => h9) rfl dX4_copyFrom_117 ?_
  refine lv_iconst (v := 0) hx hb dX4_copyFrom_120 (by decide) ?_
  refine lv_aload_n hx hb dX4_copyFrom_121 rfl (lv_at hl 0 rfl) ?_
  refine va_get (D := g) (ci := 4) (v := .ref ld_move) (C := RX4) (T := TX4) (N := 15) hx hb hts iX4 hown hK hP 1 rfl rfl 11 (by decide) (hts (.fieldLink RX4 24 "CardsAtYule$Land" "move" "[I") (List.mem_cons_of_mem _ (List.mem_append_left _ (List.mem_of_getElem? (i := 15) rfl)))) (fun _ h9 => h9) rfl dX4_copyFrom_122 ?_
  refine lv_iconst (v := 0) hx hb dX4_copyFrom_125 (by decide) ?_
  refine lv_bipush (v := 10) hx hb dX4_copyFrom_126 (by decide) ?_
  refine va_copyi (D := g) hx hb (hml.trans hl.1.symm) hown (hts (.methodLink RX4 66 arraycopyName) (List.mem_cons_of_mem _ (List.mem_append_left _ (List.mem_of_getElem? (i := 8) rfl)))) (hts (.native arraycopyName) (List.mem_cons_of_mem _ (List.mem_append_left _ (List.mem_of_getElem? (i := 9) rfl)))) (hts (.static arraycopyName) (List.mem_cons_of_mem _ (List.mem_append_left _ (List.mem_of_getElem? (i := 10) rfl)))) (hts (.initialized "java/lang/System") (List.mem_cons_of_mem _ (List.mem_append_left _ (List.mem_of_getElem? (i := 11) rfl)))) hK hP hD hS 10 11 0 0 rfl rfl rfl rfl rfl (by decide) (by decide) (by decide) (by decide) (by decide) (fun _ _ => rfl) (Nat.le_of_ble_eq_true rfl) (Nat.le_of_ble_eq_true rfl) dX4_copyFrom_128 (fun H locs hP hD hS => ?_)
  obtain ⟨g128, e128⟩ : ∃ z, z = va_cpy ld2_move_c ld_move_c 0 0 10 := ⟨_, rfl⟩
  have hP : va_P g vwCl [(ld2, .inr (4, [.int ld2_lines, .int ld2_years, .int ld2_card, .int ld2_hurt, .int ld2_people, .int ld2_pairs, .long ld2_strikes, .ref ld2_rule, .ref ld2_returns, .ref ld2_forgets, .ref ld2_death, .ref ld2_move, .ref ld2_begun, .ref ld2_who, .ref ld2_lost])), (ld, .inr (4, [.int ld2_lines, .int ld2_years, .int ld2_card, .int ld2_hurt, .int ld2_people, .int ld2_pairs, .long ld2_strikes, .ref ld_rule, .ref ld_returns, .ref ld_forgets, .ref ld_death, .ref ld_move, .ref ld_begun, .ref ld_who, .ref ld_lost])), (ld2_rule, .inl (cI, 10, .inl ld2_rule_c)), (ld_rule, .inl (cI, 10, .inl g68)), (ld2_returns, .inl (cI, 10, .inl ld2_returns_c)), (ld_returns, .inl (cI, 10, .inl g83)), (ld2_forgets, .inl (cI, 10, .inl ld2_forgets_c)), (ld_forgets, .inl (cI, 10, .inl g98)), (ld2_death, .inl (cI, 10, .inl ld2_death_c)), (ld_death, .inl (cI, 10, .inl g113)), (ld2_move, .inl (cI, 10, .inl ld2_move_c)), (ld_move, .inl (cI, 10, .inl (va_cpy ld2_move_c ld_move_c 0 0 10))), (ld2_begun, .inl (cI, 16, .inl ld2_begun_c)), (ld_begun, .inl (cI, 16, .inl ld_begun_c)), (ld2_who, .inl (cI, 32, .inl ld2_who_c)), (ld_who, .inl (cI, 32, .inl ld_who_c)), (ld2_lost, .inl (cJ, 32, .inr (.inl ld2_lost_c))), (ld_lost, .inl (cJ, 32, .inr (.inl ld_lost_c)))] H := hP
  have hD : va_D A [(ld2, .inr (4, [.int ld2_lines, .int ld2_years, .int ld2_card, .int ld2_hurt, .int ld2_people, .int ld2_pairs, .long ld2_strikes, .ref ld2_rule, .ref ld2_returns, .ref ld2_forgets, .ref ld2_death, .ref ld2_move, .ref ld2_begun, .ref ld2_who, .ref ld2_lost])), (ld, .inr (4, [.int ld2_lines, .int ld2_years, .int ld2_card, .int ld2_hurt, .int ld2_people, .int ld2_pairs, .long ld2_strikes, .ref ld_rule, .ref ld_returns, .ref ld_forgets, .ref ld_death, .ref ld_move, .ref ld_begun, .ref ld_who, .ref ld_lost])), (ld2_rule, .inl (cI, 10, .inl ld2_rule_c)), (ld_rule, .inl (cI, 10, .inl g68)), (ld2_returns, .inl (cI, 10, .inl ld2_returns_c)), (ld_returns, .inl (cI, 10, .inl g83)), (ld2_forgets, .inl (cI, 10, .inl ld2_forgets_c)), (ld_forgets, .inl (cI, 10, .inl g98)), (ld2_death, .inl (cI, 10, .inl ld2_death_c)), (ld_death, .inl (cI, 10, .inl g113)), (ld2_move, .inl (cI, 10, .inl ld2_move_c)), (ld_move, .inl (cI, 10, .inl (va_cpy ld2_move_c ld_move_c 0 0 10))), (ld2_begun, .inl (cI, 16, .inl ld2_begun_c)), (ld_begun, .inl (cI, 16, .inl ld_begun_c)), (ld2_who, .inl (cI, 32, .inl ld2_who_c)), (ld_who, .inl (cI, 32, .inl ld_who_c)), (ld2_lost, .inl (cJ, 32, .inr (.inl ld2_lost_c))), (ld_lost, .inl (cJ, 32, .inr (.inl ld_lost_c)))] := hD
  rw [← e128] at hP hD
  refine lv_aload_n hx hb dX4_copyFrom_131 rfl (lv_at hl 1 rfl) ?_
  refine va_get (D := g) (ci := 4) (v := .ref ld2_begun) (C := RX4) (T := TX4) (N := 15) hx hb hts iX4 hown hK hP 0 rfl rfl 12 (by decide) (hts (.fieldLink RX4 27 "CardsAtYule$Land" "begun" "[I") (List.mem_cons_of_mem _ (List.mem_append_left _ (List.mem_of_getElem? (i := 16) rfl)))) (fun _ h9 => h9) rfl dX4_copyFrom_132 ?_
  refine lv_iconst (v := 0) hx hb dX4_copyFrom_135 (by decide) ?_
  refine lv_aload_n hx hb dX4_copyFrom_136 rfl (lv_at hl 0 rfl) ?_
  refine va_get (D := g) (ci := 4) (v := .ref ld_begun) (C := RX4) (T := TX4) (N := 15) hx hb hts iX4 hown hK hP 1 rfl rfl 12 (by decide) (hts (.fieldLink RX4 27 "CardsAtYule$Land" "begun" "[I") (List.mem_cons_of_mem _ (List.mem_append_left _ (List.mem_of_getElem? (i := 16) rfl)))) (fun _ h9 => h9) rfl dX4_copyFrom_137 ?_
  refine lv_iconst (v := 0) hx hb dX4_copyFrom_140 (by decide) ?_
  refine lv_bipush (v := 16) hx hb dX4_copyFrom_141 (by decide) ?_
  refine va_copyi (D := g) hx hb (hml.trans hl.1.symm) hown (hts (.methodLink RX4 66 arraycopyName) (List.mem_cons_of_mem _ (List.mem_append_left _ (List.mem_of_getElem? (i := 8) rfl)))) (hts (.native arraycopyName) (List.mem_cons_of_mem _ (List.mem_append_left _ (List.mem_of_getElem? (i := 9) rfl)))) (hts (.static arraycopyName) (List.mem_cons_of_mem _ (List.mem_append_left _ (List.mem_of_getElem? (i := 10) rfl)))) (hts (.initialized "java/lang/System") (List.mem_cons_of_mem _ (List.mem_append_left _ (List.mem_of_getElem? (i := 11) rfl)))) hK hP hD hS 12 13 0 0 rfl rfl rfl rfl rfl (by decide) (by decide) (by decide) (by decide) (by decide) (fun _ _ => rfl) (Nat.le_of_ble_eq_true rfl) (Nat.le_of_ble_eq_true rfl) dX4_copyFrom_143 (fun H locs hP hD hS => ?_)
  obtain ⟨g143, e143⟩ : ∃ z, z = va_cpy ld2_begun_c ld_begun_c 0 0 16 := ⟨_, rfl⟩
  have hP : va_P g vwCl [(ld2, .inr (4, [.int ld2_lines, .int ld2_years, .int ld2_card, .int ld2_hurt, .int ld2_people, .int ld2_pairs, .long ld2_strikes, .ref ld2_rule, .ref ld2_returns, .ref ld2_forgets, .ref ld2_death, .ref ld2_move, .ref ld2_begun, .ref ld2_who, .ref ld2_lost])), (ld, .inr (4, [.int ld2_lines, .int ld2_years, .int ld2_card, .int ld2_hurt, .int ld2_people, .int ld2_pairs, .long ld2_strikes, .ref ld_rule, .ref ld_returns, .ref ld_forgets, .ref ld_death, .ref ld_move, .ref ld_begun, .ref ld_who, .ref ld_lost])), (ld2_rule, .inl (cI, 10, .inl ld2_rule_c)), (ld_rule, .inl (cI, 10, .inl g68)), (ld2_returns, .inl (cI, 10, .inl ld2_returns_c)), (ld_returns, .inl (cI, 10, .inl g83)), (ld2_forgets, .inl (cI, 10, .inl ld2_forgets_c)), (ld_forgets, .inl (cI, 10, .inl g98)), (ld2_death, .inl (cI, 10, .inl ld2_death_c)), (ld_death, .inl (cI, 10, .inl g113)), (ld2_move, .inl (cI, 10, .inl ld2_move_c)), (ld_move, .inl (cI, 10, .inl g128)), (ld2_begun, .inl (cI, 16, .inl ld2_begun_c)), (ld_begun, .inl (cI, 16, .inl (va_cpy ld2_begun_c ld_begun_c 0 0 16))), (ld2_who, .inl (cI, 32, .inl ld2_who_c)), (ld_who, .inl (cI, 32, .inl ld_who_c)), (ld2_lost, .inl (cJ, 32, .inr (.inl ld2_lost_c))), (ld_lost, .inl (cJ, 32, .inr (.inl ld_lost_c)))] H := hP
  have hD : va_D A [(ld2, .inr (4, [.int ld2_lines, .int ld2_years, .int ld2_card, .int ld2_hurt, .int ld2_people, .int ld2_pairs, .long ld2_strikes, .ref ld2_rule, .ref ld2_returns, .ref ld2_forgets, .ref ld2_death, .ref ld2_move, .ref ld2_begun, .ref ld2_who, .ref ld2_lost])), (ld, .inr (4, [.int ld2_lines, .int ld2_years, .int ld2_card, .int ld2_hurt, .int ld2_people, .int ld2_pairs, .long ld2_strikes, .ref ld_rule, .ref ld_returns, .ref ld_forgets, .ref ld_death, .ref ld_move, .ref ld_begun, .ref ld_who, .ref ld_lost])), (ld2_rule, .inl (cI, 10, .inl ld2_rule_c)), (ld_rule, .inl (cI, 10, .inl g68)), (ld2_returns, .inl (cI, 10, .inl ld2_returns_c)), (ld_returns, .inl (cI, 10, .inl g83)), (ld2_forgets, .inl (cI, 10, .inl ld2_forgets_c)), (ld_forgets, .inl (cI, 10, .inl g98)), (ld2_death, .inl (cI, 10, .inl ld2_death_c)), (ld_death, .inl (cI, 10, .inl g113)), (ld2_move, .inl (cI, 10, .inl ld2_move_c)), (ld_move, .inl (cI, 10, .inl g128)), (ld2_begun, .inl (cI, 16, .inl ld2_begun_c)), (ld_begun, .inl (cI, 16, .inl (va_cpy ld2_begun_c ld_begun_c 0 0 16))), (ld2_who, .inl (cI, 32, .inl ld2_who_c)), (ld_who, .inl (cI, 32, .inl ld_who_c)), (ld2_lost, .inl (cJ, 32, .inr (.inl ld2_lost_c))), (ld_lost, .inl (cJ, 32, .inr (.inl ld_lost_c)))] := hD
  rw [← e143] at hP hD
  have a143 : ar g143 16 0 15 := by rw [e143]; exact ar_cp ha_ld2_begun_c
  refine lv_aload_n hx hb dX4_copyFrom_146 rfl (lv_at hl 1 rfl) ?_
  refine va_get (D := g) (ci := 4) (v := .ref ld2_who) (C := RX4) (T := TX4) (N := 15) hx hb hts iX4 hown hK hP 0 rfl rfl 13 (by decide) (hts (.fieldLink RX4 30 "CardsAtYule$Land" "who" "[I") (List.mem_cons_of_mem _ (List.mem_append_left _ (List.mem_of_getElem? (i := 17) rfl)))) (fun _ h9 => h9) rfl dX4_copyFrom_147 ?_
  refine lv_iconst (v := 0) hx hb dX4_copyFrom_150 (by decide) ?_
  refine lv_aload_n hx hb dX4_copyFrom_151 rfl (lv_at hl 0 rfl) ?_
  refine va_get (D := g) (ci := 4) (v := .ref ld_who) (C := RX4) (T := TX4) (N := 15) hx hb hts iX4 hown hK hP 1 rfl rfl 13 (by decide) (hts (.fieldLink RX4 30 "CardsAtYule$Land" "who" "[I") (List.mem_cons_of_mem _ (List.mem_append_left _ (List.mem_of_getElem? (i := 17) rfl)))) (fun _ h9 => h9) rfl dX4_copyFrom_152 ?_
  refine lv_iconst (v := 0) hx hb dX4_copyFrom_155 (by decide) ?_
  refine lv_bipush (v := 32) hx hb dX4_copyFrom_156 (by decide) ?_
  refine va_copyi (D := g) hx hb (hml.trans hl.1.symm) hown (hts (.methodLink RX4 66 arraycopyName) (List.mem_cons_of_mem _ (List.mem_append_left _ (List.mem_of_getElem? (i := 8) rfl)))) (hts (.native arraycopyName) (List.mem_cons_of_mem _ (List.mem_append_left _ (List.mem_of_getElem? (i := 9) rfl)))) (hts (.static arraycopyName) (List.mem_cons_of_mem _ (List.mem_append_left _ (List.mem_of_getElem? (i := 10) rfl)))) (hts (.initialized "java/lang/System") (List.mem_cons_of_mem _ (List.mem_append_left _ (List.mem_of_getElem? (i := 11) rfl)))) hK hP hD hS 14 15 0 0 rfl rfl rfl rfl rfl (by decide) (by decide) (by decide) (by decide) (by decide) (fun _ _ => rfl) (Nat.le_of_ble_eq_true rfl) (Nat.le_of_ble_eq_true rfl) dX4_copyFrom_158 (fun H locs hP hD hS => ?_)
  obtain ⟨g158, e158⟩ : ∃ z, z = va_cpy ld2_who_c ld_who_c 0 0 32 := ⟨_, rfl⟩
  have hP : va_P g vwCl [(ld2, .inr (4, [.int ld2_lines, .int ld2_years, .int ld2_card, .int ld2_hurt, .int ld2_people, .int ld2_pairs, .long ld2_strikes, .ref ld2_rule, .ref ld2_returns, .ref ld2_forgets, .ref ld2_death, .ref ld2_move, .ref ld2_begun, .ref ld2_who, .ref ld2_lost])), (ld, .inr (4, [.int ld2_lines, .int ld2_years, .int ld2_card, .int ld2_hurt, .int ld2_people, .int ld2_pairs, .long ld2_strikes, .ref ld_rule, .ref ld_returns, .ref ld_forgets, .ref ld_death, .ref ld_move, .ref ld_begun, .ref ld_who, .ref ld_lost])), (ld2_rule, .inl (cI, 10, .inl ld2_rule_c)), (ld_rule, .inl (cI, 10, .inl g68)), (ld2_returns, .inl (cI, 10, .inl ld2_returns_c)), (ld_returns, .inl (cI, 10, .inl g83)), (ld2_forgets, .inl (cI, 10, .inl ld2_forgets_c)), (ld_forgets, .inl (cI, 10, .inl g98)), (ld2_death, .inl (cI, 10, .inl ld2_death_c)), (ld_death, .inl (cI, 10, .inl g113)), (ld2_move, .inl (cI, 10, .inl ld2_move_c)), (ld_move, .inl (cI, 10, .inl g128)), (ld2_begun, .inl (cI, 16, .inl ld2_begun_c)), (ld_begun, .inl (cI, 16, .inl g143)), (ld2_who, .inl (cI, 32, .inl ld2_who_c)), (ld_who, .inl (cI, 32, .inl (va_cpy ld2_who_c ld_who_c 0 0 32))), (ld2_lost, .inl (cJ, 32, .inr (.inl ld2_lost_c))), (ld_lost, .inl (cJ, 32, .inr (.inl ld_lost_c)))] H := hP
  have hD : va_D A [(ld2, .inr (4, [.int ld2_lines, .int ld2_years, .int ld2_card, .int ld2_hurt, .int ld2_people, .int ld2_pairs, .long ld2_strikes, .ref ld2_rule, .ref ld2_returns, .ref ld2_forgets, .ref ld2_death, .ref ld2_move, .ref ld2_begun, .ref ld2_who, .ref ld2_lost])), (ld, .inr (4, [.int ld2_lines, .int ld2_years, .int ld2_card, .int ld2_hurt, .int ld2_people, .int ld2_pairs, .long ld2_strikes, .ref ld_rule, .ref ld_returns, .ref ld_forgets, .ref ld_death, .ref ld_move, .ref ld_begun, .ref ld_who, .ref ld_lost])), (ld2_rule, .inl (cI, 10, .inl ld2_rule_c)), (ld_rule, .inl (cI, 10, .inl g68)), (ld2_returns, .inl (cI, 10, .inl ld2_returns_c)), (ld_returns, .inl (cI, 10, .inl g83)), (ld2_forgets, .inl (cI, 10, .inl ld2_forgets_c)), (ld_forgets, .inl (cI, 10, .inl g98)), (ld2_death, .inl (cI, 10, .inl ld2_death_c)), (ld_death, .inl (cI, 10, .inl g113)), (ld2_move, .inl (cI, 10, .inl ld2_move_c)), (ld_move, .inl (cI, 10, .inl g128)), (ld2_begun, .inl (cI, 16, .inl ld2_begun_c)), (ld_begun, .inl (cI, 16, .inl g143)), (ld2_who, .inl (cI, 32, .inl ld2_who_c)), (ld_who, .inl (cI, 32, .inl (va_cpy ld2_who_c ld_who_c 0 0 32))), (ld2_lost, .inl (cJ, 32, .inr (.inl ld2_lost_c))), (ld_lost, .inl (cJ, 32, .inr (.inl ld_lost_c)))] := hD
  rw [← e158] at hP hD
  have a158 : ar g158 32 0 9 := by rw [e158]; exact ar_cp ha_ld2_who_c
  refine lv_aload_n hx hb dX4_copyFrom_161 rfl (lv_at hl 1 rfl) ?_
  refine va_get (D := g) (ci := 4) (v := .ref ld2_lost) (C := RX4) (T := TX4) (N := 15) hx hb hts iX4 hown hK hP 0 rfl rfl 14 (by decide) (hts (.fieldLink RX4 33 "CardsAtYule$Land" "lost" "[J") (List.mem_cons_of_mem _ (List.mem_append_left _ (List.mem_of_getElem? (i := 18) rfl)))) (fun _ h9 => h9) rfl dX4_copyFrom_162 ?_
  refine lv_iconst (v := 0) hx hb dX4_copyFrom_165 (by decide) ?_
  refine lv_aload_n hx hb dX4_copyFrom_166 rfl (lv_at hl 0 rfl) ?_
  refine va_get (D := g) (ci := 4) (v := .ref ld_lost) (C := RX4) (T := TX4) (N := 15) hx hb hts iX4 hown hK hP 1 rfl rfl 14 (by decide) (hts (.fieldLink RX4 33 "CardsAtYule$Land" "lost" "[J") (List.mem_cons_of_mem _ (List.mem_append_left _ (List.mem_of_getElem? (i := 18) rfl)))) (fun _ h9 => h9) rfl dX4_copyFrom_167 ?_
  refine lv_iconst (v := 0) hx hb dX4_copyFrom_170 (by decide) ?_
  refine lv_bipush (v := 32) hx hb dX4_copyFrom_171 (by decide) ?_
  refine va_copyl (D := g) hx hb (hml.trans hl.1.symm) hown (hts (.methodLink RX4 66 arraycopyName) (List.mem_cons_of_mem _ (List.mem_append_left _ (List.mem_of_getElem? (i := 8) rfl)))) (hts (.native arraycopyName) (List.mem_cons_of_mem _ (List.mem_append_left _ (List.mem_of_getElem? (i := 9) rfl)))) (hts (.static arraycopyName) (List.mem_cons_of_mem _ (List.mem_append_left _ (List.mem_of_getElem? (i := 10) rfl)))) (hts (.initialized "java/lang/System") (List.mem_cons_of_mem _ (List.mem_append_left _ (List.mem_of_getElem? (i := 11) rfl)))) hK hP hD hS 16 17 1 1 rfl rfl rfl rfl rfl (by decide) (by decide) (by decide) (by decide) (by decide) (fun _ _ => rfl) (Nat.le_of_ble_eq_true rfl) (Nat.le_of_ble_eq_true rfl) dX4_copyFrom_173 (fun H locs hP hD hS => ?_)
  obtain ⟨g173, e173⟩ : ∃ z, z = va_cpy ld2_lost_c ld_lost_c 0 0 32 := ⟨_, rfl⟩
  have hP : va_P g vwCl [(ld2, .inr (4, [.int ld2_lines, .int ld2_years, .int ld2_card, .int ld2_hurt, .int ld2_people, .int ld2_pairs, .long ld2_strikes, .ref ld2_rule, .ref ld2_returns, .ref ld2_forgets, .ref ld2_death, .ref ld2_move, .ref ld2_begun, .ref ld2_who, .ref ld2_lost])), (ld, .inr (4, [.int ld2_lines, .int ld2_years, .int ld2_card, .int ld2_hurt, .int ld2_people, .int ld2_pairs, .long ld2_strikes, .ref ld_rule, .ref ld_returns, .ref ld_forgets, .ref ld_death, .ref ld_move, .ref ld_begun, .ref ld_who, .ref ld_lost])), (ld2_rule, .inl (cI, 10, .inl ld2_rule_c)), (ld_rule, .inl (cI, 10, .inl g68)), (ld2_returns, .inl (cI, 10, .inl ld2_returns_c)), (ld_returns, .inl (cI, 10, .inl g83)), (ld2_forgets, .inl (cI, 10, .inl ld2_forgets_c)), (ld_forgets, .inl (cI, 10, .inl g98)), (ld2_death, .inl (cI, 10, .inl ld2_death_c)), (ld_death, .inl (cI, 10, .inl g113)), (ld2_move, .inl (cI, 10, .inl ld2_move_c)), (ld_move, .inl (cI, 10, .inl g128)), (ld2_begun, .inl (cI, 16, .inl ld2_begun_c)), (ld_begun, .inl (cI, 16, .inl g143)), (ld2_who, .inl (cI, 32, .inl ld2_who_c)), (ld_who, .inl (cI, 32, .inl g158)), (ld2_lost, .inl (cJ, 32, .inr (.inl ld2_lost_c))), (ld_lost, .inl (cJ, 32, .inr (.inl (va_cpy ld2_lost_c ld_lost_c 0 0 32))))] H := hP
  have hD : va_D A [(ld2, .inr (4, [.int ld2_lines, .int ld2_years, .int ld2_card, .int ld2_hurt, .int ld2_people, .int ld2_pairs, .long ld2_strikes, .ref ld2_rule, .ref ld2_returns, .ref ld2_forgets, .ref ld2_death, .ref ld2_move, .ref ld2_begun, .ref ld2_who, .ref ld2_lost])), (ld, .inr (4, [.int ld2_lines, .int ld2_years, .int ld2_card, .int ld2_hurt, .int ld2_people, .int ld2_pairs, .long ld2_strikes, .ref ld_rule, .ref ld_returns, .ref ld_forgets, .ref ld_death, .ref ld_move, .ref ld_begun, .ref ld_who, .ref ld_lost])), (ld2_rule, .inl (cI, 10, .inl ld2_rule_c)), (ld_rule, .inl (cI, 10, .inl g68)), (ld2_returns, .inl (cI, 10, .inl ld2_returns_c)), (ld_returns, .inl (cI, 10, .inl g83)), (ld2_forgets, .inl (cI, 10, .inl ld2_forgets_c)), (ld_forgets, .inl (cI, 10, .inl g98)), (ld2_death, .inl (cI, 10, .inl ld2_death_c)), (ld_death, .inl (cI, 10, .inl g113)), (ld2_move, .inl (cI, 10, .inl ld2_move_c)), (ld_move, .inl (cI, 10, .inl g128)), (ld2_begun, .inl (cI, 16, .inl ld2_begun_c)), (ld_begun, .inl (cI, 16, .inl g143)), (ld2_who, .inl (cI, 32, .inl ld2_who_c)), (ld_who, .inl (cI, 32, .inl g158)), (ld2_lost, .inl (cJ, 32, .inr (.inl ld2_lost_c))), (ld_lost, .inl (cJ, 32, .inr (.inl (va_cpy ld2_lost_c ld_lost_c 0 0 32))))] := hD
  rw [← e173] at hP hD
  subst hQ
  have hP9 := hP.sub (ws' := [(ld2, .inr (4, [.int ld2_lines, .int ld2_years, .int ld2_card, .int ld2_hurt, .int ld2_people, .int ld2_pairs, .long ld2_strikes, .ref ld2_rule, .ref ld2_returns, .ref ld2_forgets, .ref ld2_death, .ref ld2_move, .ref ld2_begun, .ref ld2_who, .ref ld2_lost])), (ld, .inr (4, [.int ld2_lines, .int ld2_years, .int ld2_card, .int ld2_hurt, .int ld2_people, .int ld2_pairs, .long ld2_strikes, .ref ld_rule, .ref ld_returns, .ref ld_forgets, .ref ld_death, .ref ld_move, .ref ld_begun, .ref ld_who, .ref ld_lost])), (ld2_rule, .inl (cI, 10, .inl ld2_rule_c)), (ld_rule, .inl (cI, 10, .inl g68)), (ld2_returns, .inl (cI, 10, .inl ld2_returns_c)), (ld_returns, .inl (cI, 10, .inl g83)), (ld2_forgets, .inl (cI, 10, .inl ld2_forgets_c)), (ld_forgets, .inl (cI, 10, .inl g98)), (ld2_death, .inl (cI, 10, .inl ld2_death_c)), (ld_death, .inl (cI, 10, .inl g113)), (ld2_move, .inl (cI, 10, .inl ld2_move_c)), (ld_move, .inl (cI, 10, .inl g128)), (ld2_begun, .inl (cI, 16, .inl ld2_begun_c)), (ld_begun, .inl (cI, 16, .inl g143)), (ld2_who, .inl (cI, 32, .inl ld2_who_c)), (ld_who, .inl (cI, 32, .inl g158)), (ld2_lost, .inl (cJ, 32, .inr (.inl ld2_lost_c))), (ld_lost, .inl (cJ, 32, .inr (.inl g173)))]) [0, 1, 2, 3, 4, 5, 6, 7, 8, 9, 10, 11, 12, 13, 14, 15, 16, 17] rfl
  have hD9 := hD.sub (ws' := [(ld2, .inr (4, [.int ld2_lines, .int ld2_years, .int ld2_card, .int ld2_hurt, .int ld2_people, .int ld2_pairs, .long ld2_strikes, .ref ld2_rule, .ref ld2_returns, .ref ld2_forgets, .ref ld2_death, .ref ld2_move, .ref ld2_begun, .ref ld2_who, .ref ld2_lost])), (ld, .inr (4, [.int ld2_lines, .int ld2_years, .int ld2_card, .int ld2_hurt, .int ld2_people, .int ld2_pairs, .long ld2_strikes, .ref ld_rule, .ref ld_returns, .ref ld_forgets, .ref ld_death, .ref ld_move, .ref ld_begun, .ref ld_who, .ref ld_lost])), (ld2_rule, .inl (cI, 10, .inl ld2_rule_c)), (ld_rule, .inl (cI, 10, .inl g68)), (ld2_returns, .inl (cI, 10, .inl ld2_returns_c)), (ld_returns, .inl (cI, 10, .inl g83)), (ld2_forgets, .inl (cI, 10, .inl ld2_forgets_c)), (ld_forgets, .inl (cI, 10, .inl g98)), (ld2_death, .inl (cI, 10, .inl ld2_death_c)), (ld_death, .inl (cI, 10, .inl g113)), (ld2_move, .inl (cI, 10, .inl ld2_move_c)), (ld_move, .inl (cI, 10, .inl g128)), (ld2_begun, .inl (cI, 16, .inl ld2_begun_c)), (ld_begun, .inl (cI, 16, .inl g143)), (ld2_who, .inl (cI, 32, .inl ld2_who_c)), (ld_who, .inl (cI, 32, .inl g158)), (ld2_lost, .inl (cJ, 32, .inr (.inl ld2_lost_c))), (ld_lost, .inl (cJ, 32, .inr (.inl g173)))]) [0, 1, 2, 3, 4, 5, 6, 7, 8, 9, 10, 11, 12, 13, 14, 15, 16, 17] (by decide) rfl
  exact W.vret hx hb hr (fun t ht hW => ⟨⟨(ld2_lines, ld2_years, ld2_card, ld2_hurt, ld2_people, ld2_pairs, ld2_strikes, g68, g83, g98, g113, g128, g143, g158, g173), rfl, ⟨hv_ld2_years, hv_ld2_people, hv_ld2_pairs, a143, a158⟩, ⟨by rw [ht]; exact hP9, va_K.moved hW.alike hK, hD9⟩⟩, hS.F ht⟩) hS.2.2 dX4_copyFrom_176
def v_X4_addPerson : List Cond := .code yX4_addPerson cX4_addPerson 2 none :: (([.fieldLink RX4 9 "CardsAtYule$Land" "rule" "[I", .fieldLink RX4 50 "CardsAtYule$Land" "people" "I", .fieldLink RX4 15 "CardsAtYule$Land" "returns" "[I", .fieldLink RX4 18 "CardsAtYule$Land" "forgets" "[I", .fieldLink RX4 21 "CardsAtYule$Land" "death" "[I", .fieldLink RX4 24 "CardsAtYule$Land" "move" "[I"] : List Cond) ++ (wsX40 ++ ([] : List Cond)))
theorem good_v_X4_addPerson : v_X4_addPerson.all goodWord = true := ga_c (by decide +kernel) (ga_a (by decide +kernel) (ga_a good_wsX40 rfl))
set_option maxHeartbeats 4000000 in
set_option maxRecDepth 100000 in
theorem q_X4_addPerson (l : Launch) (g : va_G) (cI cJ cB cZ cL : ClassId) (p0 : Int32) (ld : Nat) (ld_lines : Int32) (ld_years : Int32) (ld_card : Int32) (ld_hurt : Int32) (ld_people : Int32) (ld_pairs : Int32) (ld_strikes : Int64) (ld_rule : Nat) (ld_returns : Nat) (ld_forgets : Nat) (ld_death : Nat) (ld_move : Nat) (ld_begun : Nat) (ld_who : Nat) (ld_lost : Nat) (ld_rule_c : Nat → Int32) (ld_returns_c : Nat → Int32) (ld_forgets_c : Nat → Int32) (ld_death_c : Nat → Int32) (ld_move_c : Nat → Int32) (sz : Nat) (hv_p0 : ir p0.toInt 0 15) (hv_ld_years : ir ld_years.toInt 0 40) (hv_ld_people : ir ld_people.toInt 0 9) (hv_ld_pairs : ir ld_pairs.toInt 0 16) : Met l yX4_addPerson v_X4_addPerson ({ frames := 0, cells := 0, slots := 0, locals := 0 }) (va_Pc [.ref ld, .int p0] (pRW g (tyT cI cJ cB cZ cL) [(ld, .inr (4, [.int ld_lines, .int ld_years, .int ld_card, .int ld_hurt, .int ld_people, .int ld_pairs, .long ld_strikes, .ref ld_rule, .ref ld_returns, .ref ld_forgets, .ref ld_death, .ref ld_move, .ref ld_begun, .ref ld_who, .ref ld_lost])), (ld_rule, .inl (cI, 10, .inl ld_rule_c)), (ld_returns, .inl (cI, 10, .inl ld_returns_c)), (ld_forgets, .inl (cI, 10, .inl ld_forgets_c)), (ld_death, .inl (cI, 10, .inl ld_death_c)), (ld_move, .inl (cI, 10, .inl ld_move_c))] sz)) (va_Qv (fun (u : Int32 × (Nat → Int32) × (Nat → Int32) × (Nat → Int32) × (Nat → Int32) × (Nat → Int32)) => match u with | (n_ld_people, n_ld_rule_c, n_ld_returns_c, n_ld_forgets_c, n_ld_death_c, n_ld_move_c) => (ir n_ld_people.toInt 1 10)) (fun (u : Int32 × (Nat → Int32) × (Nat → Int32) × (Nat → Int32) × (Nat → Int32) × (Nat → Int32)) (t : State) => bRW g (tyT cI cJ cB cZ cL) (va_A [(ld, .inr (4, [.int ld_lines, .int ld_years, .int ld_card, .int ld_hurt, .int ld_people, .int ld_pairs, .long ld_strikes, .ref ld_rule, .ref ld_returns, .ref ld_forgets, .ref ld_death, .ref ld_move, .ref ld_begun, .ref ld_who, .ref ld_lost])), (ld_rule, .inl (cI, 10, .inl ld_rule_c)), (ld_returns, .inl (cI, 10, .inl ld_returns_c)), (ld_forgets, .inl (cI, 10, .inl ld_forgets_c)), (ld_death, .inl (cI, 10, .inl ld_death_c)), (ld_move, .inl (cI, 10, .inl ld_move_c))] sz) (match u with | (n_ld_people, n_ld_rule_c, n_ld_returns_c, n_ld_forgets_c, n_ld_death_c, n_ld_move_c) => [(ld, .inr (4, [.int ld_lines, .int ld_years, .int ld_card, .int ld_hurt, .int n_ld_people, .int ld_pairs, .long ld_strikes, .ref ld_rule, .ref ld_returns, .ref ld_forgets, .ref ld_death, .ref ld_move, .ref ld_begun, .ref ld_who, .ref ld_lost])), (ld_rule, .inl (cI, 10, .inl n_ld_rule_c)), (ld_returns, .inl (cI, 10, .inl n_ld_returns_c)), (ld_forgets, .inl (cI, 10, .inl n_ld_forgets_c)), (ld_death, .inl (cI, 10, .inl n_ld_death_c)), (ld_move, .inl (cI, 10, .inl n_ld_move_c))]) t) (va_A [(ld, .inr (4, [.int ld_lines, .int ld_years, .int ld_card, .int ld_hurt, .int ld_people, .int ld_pairs, .long ld_strikes, .ref ld_rule, .ref ld_returns, .ref ld_forgets, .ref ld_death, .ref ld_move, .ref ld_begun, .ref ld_who, .ref ld_lost])), (ld_rule, .inl (cI, 10, .inl ld_rule_c)), (ld_returns, .inl (cI, 10, .inl ld_returns_c)), (ld_forgets, .inl (cI, 10, .inl ld_forgets_c)), (ld_death, .inl (cI, 10, .inl ld_death_c)), (ld_move, .inl (cI, 10, .inl ld_move_c))] sz)) 0 0 (va_A [(ld, .inr (4, [.int ld_lines, .int ld_years, .int ld_card, .int ld_hurt, .int ld_people, .int ld_pairs, .long ld_strikes, .ref ld_rule, .ref ld_returns, .ref ld_forgets, .ref ld_death, .ref ld_move, .ref ld_begun, .ref ld_who, .ref ld_lost])), (ld_rule, .inl (cI, 10, .inl ld_rule_c)), (ld_returns, .inl (cI, 10, .inl ld_returns_c)), (ld_forgets, .inl (cI, 10, .inl ld_forgets_c)), (ld_death, .inl (cI, 10, .inl ld_death_c)), (ld_move, .inl (cI, 10, .inl ld_move_c))] sz) := by
  refine Met.ofW (cc := cX4_addPerson) (maxL := 2) (ret := none) (by decide) rfl ?_
  intro p e s m args below meth c s₁ B hml hv
  obtain ⟨rfl, hsz, hP, hK, hD0⟩ := hv
  have hx := B.exec
  have hb := B.bytes
  have hr := B.returns
  have hts := atoms_spec (ws := v_X4_addPerson) B.pre
  have hown : s.vm.findClass RX4 = some m.cls := findClass_of_methodNamed B.named
  have hlocks := B.notSynchronized
  clear B
  subst hsz
  have iX4 : ∀ w ∈ wsX40, w ∈ v_X4_addPerson := (fun _ h => List.mem_cons_of_mem _ (List.mem_append_right _ (List.mem_append_left _ h)))
  have hD := hD0.self (sz := s.heap.size)
  generalize hAe : (va_A [(ld, .inr (4, [.int ld_lines, .int ld_years, .int ld_card, .int ld_hurt, .int ld_people, .int ld_pairs, .long ld_strikes, .ref ld_rule, .ref ld_returns, .ref ld_forgets, .ref ld_death, .ref ld_move, .ref ld_begun, .ref ld_who, .ref ld_lost])), (ld_rule, .inl (cI, 10, .inl ld_rule_c)), (ld_returns, .inl (cI, 10, .inl ld_returns_c)), (ld_forgets, .inl (cI, 10, .inl ld_forgets_c)), (ld_death, .inl (cI, 10, .inl ld_death_c)), (ld_move, .inl (cI, 10, .inl ld_move_c))] s.heap.size) = A at hD ⊢
  have hA : ∀ q : Nat, s.heap.size ≤ q → A q := fun q h => by rw [← hAe]; exact Or.inr h
  have hS : va_S A s.heap s.heap [] := va_S.rf
  have hl := lv_entry ([.ref ld, .int p0]) (n := 2) (Nat.le_of_ble_eq_true rfl)
  rw [lg_entry_eq]
  generalize (lg_sl ([.ref ld, .int p0]) ++ List.replicate (2 - (lg_sl ([.ref ld, .int p0])).length) Slot.unset).toArray = ls at hl ⊢
  generalize ([.ref ld, .int p0] : List Value).toArray = av at hts ⊢
  generalize hQ : MQ below _ av s _ _ A = QQ
  have hl : lv_has ls 2 [(0, .ref ld), (1, .int p0)] := hl
  have hP : va_P g vwCl [(ld, .inr (4, [.int ld_lines, .int ld_years, .int ld_card, .int ld_hurt, .int ld_people, .int ld_pairs, .long ld_strikes, .ref ld_rule, .ref ld_returns, .ref ld_forgets, .ref ld_death, .ref ld_move, .ref ld_begun, .ref ld_who, .ref ld_lost])), (ld_rule, .inl (cI, 10, .inl ld_rule_c)), (ld_returns, .inl (cI, 10, .inl ld_returns_c)), (ld_forgets, .inl (cI, 10, .inl ld_forgets_c)), (ld_death, .inl (cI, 10, .inl ld_death_c)), (ld_move, .inl (cI, 10, .inl ld_move_c))] s.heap := hP
  refine lv_aload_n hx hb dX4_addPerson_0 rfl (lv_at hl 0 rfl) ?_
  refine va_get (D := g) (ci := 4) (v := .ref ld_rule) (C := RX4) (T := TX4) (N := 15) hx hb hts iX4 hown hK hP 0 rfl rfl 7 (by decide) (hts (.fieldLink RX4 9 "CardsAtYule$Land" "rule" "[I") (List.mem_cons_of_mem _ (List.mem_append_left _ (List.mem_of_getElem? (i := 0) rfl)))) (fun _ h9 => h9) rfl dX4_addPerson_1 ?_
  refine lv_aload_n hx hb dX4_addPerson_4 rfl (lv_at hl 0 rfl) ?_
  refine va_get (D := g) (ci := 4) (v := .int ld_people) (C := RX4) (T := TX4) (N := 15) hx hb hts iX4 hown hK hP 0 rfl rfl 4 (by decide) (hts (.fieldLink RX4 50 "CardsAtYule$Land" "people" "I") (List.mem_cons_of_mem _ (List.mem_append_left _ (List.mem_of_getElem? (i := 1) rfl)))) (fun _ h9 => h9) rfl dX4_addPerson_5 ?_
  refine lv_iload_n hx hb dX4_addPerson_8 rfl (lv_at hl 1 rfl) ?_
  refine va_iast (D := g) hx hb hK hP hD hS 1 0 rfl rfl (vi_rg rfl hv_ld_people (by decide) (by decide)) dX4_addPerson_9 (fun H locs hP hD hS => ?_)
  obtain ⟨g9, e9⟩ : ∃ z, z = upd ld_rule_c ld_people.toNatClampNeg p0 := ⟨_, rfl⟩
  have hP : va_P g vwCl [(ld, .inr (4, [.int ld_lines, .int ld_years, .int ld_card, .int ld_hurt, .int ld_people, .int ld_pairs, .long ld_strikes, .ref ld_rule, .ref ld_returns, .ref ld_forgets, .ref ld_death, .ref ld_move, .ref ld_begun, .ref ld_who, .ref ld_lost])), (ld_rule, .inl (cI, 10, .inl (upd ld_rule_c ld_people.toNatClampNeg p0))), (ld_returns, .inl (cI, 10, .inl ld_returns_c)), (ld_forgets, .inl (cI, 10, .inl ld_forgets_c)), (ld_death, .inl (cI, 10, .inl ld_death_c)), (ld_move, .inl (cI, 10, .inl ld_move_c))] H := hP
  have hD : va_D A [(ld, .inr (4, [.int ld_lines, .int ld_years, .int ld_card, .int ld_hurt, .int ld_people, .int ld_pairs, .long ld_strikes, .ref ld_rule, .ref ld_returns, .ref ld_forgets, .ref ld_death, .ref ld_move, .ref ld_begun, .ref ld_who, .ref ld_lost])), (ld_rule, .inl (cI, 10, .inl (upd ld_rule_c ld_people.toNatClampNeg p0))), (ld_returns, .inl (cI, 10, .inl ld_returns_c)), (ld_forgets, .inl (cI, 10, .inl ld_forgets_c)), (ld_death, .inl (cI, 10, .inl ld_death_c)), (ld_move, .inl (cI, 10, .inl ld_move_c))] := hD
  rw [← e9] at hP hD
  refine lv_aload_n hx hb dX4_addPerson_10 rfl (lv_at hl 0 rfl) ?_
  refine va_get (D := g) (ci := 4) (v := .ref ld_returns) (C := RX4) (T := TX4) (N := 15) hx hb hts iX4 hown hK hP 0 rfl rfl 8 (by decide) (hts (.fieldLink RX4 15 "CardsAtYule$Land" "returns" "[I") (List.mem_cons_of_mem _ (List.mem_append_left _ (List.mem_of_getElem? (i := 2) rfl)))) (fun _ h9 => h9) rfl dX4_addPerson_11 ?_
  refine lv_aload_n hx hb dX4_addPerson_14 rfl (lv_at hl 0 rfl) ?_
  refine va_get (D := g) (ci := 4) (v := .int ld_people) (C := RX4) (T := TX4) (N := 15) hx hb hts iX4 hown hK hP 0 rfl rfl 4 (by decide) (hts (.fieldLink RX4 50 "CardsAtYule$Land" "people" "I") (List.mem_cons_of_mem _ (List.mem_append_left _ (List.mem_of_getElem? (i := 1) rfl)))) (fun _ h9 => h9) rfl dX4_addPerson_15 ?_
  refine lv_iconst (v := 0) hx hb dX4_addPerson_18 (by decide) ?_
  refine va_iast (D := g) hx hb hK hP hD hS 2 0 rfl rfl (vi_rg rfl hv_ld_people (by decide) (by decide)) dX4_addPerson_19 (fun H locs hP hD hS => ?_)
  obtain ⟨g19, e19⟩ : ∃ z, z = upd ld_returns_c ld_people.toNatClampNeg (0 : Int32) := ⟨_, rfl⟩
  have hP : va_P g vwCl [(ld, .inr (4, [.int ld_lines, .int ld_years, .int ld_card, .int ld_hurt, .int ld_people, .int ld_pairs, .long ld_strikes, .ref ld_rule, .ref ld_returns, .ref ld_forgets, .ref ld_death, .ref ld_move, .ref ld_begun, .ref ld_who, .ref ld_lost])), (ld_rule, .inl (cI, 10, .inl g9)), (ld_returns, .inl (cI, 10, .inl (upd ld_returns_c ld_people.toNatClampNeg (0 : Int32)))), (ld_forgets, .inl (cI, 10, .inl ld_forgets_c)), (ld_death, .inl (cI, 10, .inl ld_death_c)), (ld_move, .inl (cI, 10, .inl ld_move_c))] H := hP
  have hD : va_D A [(ld, .inr (4, [.int ld_lines, .int ld_years, .int ld_card, .int ld_hurt, .int ld_people, .int ld_pairs, .long ld_strikes, .ref ld_rule, .ref ld_returns, .ref ld_forgets, .ref ld_death, .ref ld_move, .ref ld_begun, .ref ld_who, .ref ld_lost])), (ld_rule, .inl (cI, 10, .inl g9)), (ld_returns, .inl (cI, 10, .inl (upd ld_returns_c ld_people.toNatClampNeg (0 : Int32)))), (ld_forgets, .inl (cI, 10, .inl ld_forgets_c)), (ld_death, .inl (cI, 10, .inl ld_death_c)), (ld_move, .inl (cI, 10, .inl ld_move_c))] := hD
  rw [← e19] at hP hD
  refine lv_aload_n hx hb dX4_addPerson_20 rfl (lv_at hl 0 rfl) ?_
  refine va_get (D := g) (ci := 4) (v := .ref ld_forgets) (C := RX4) (T := TX4) (N := 15) hx hb hts iX4 hown hK hP 0 rfl rfl 9 (by decide) (hts (.fieldLink RX4 18 "CardsAtYule$Land" "forgets" "[I") (List.mem_cons_of_mem _ (List.mem_append_left _ (List.mem_of_getElem? (i := 3) rfl)))) (fun _ h9 => h9) rfl dX4_addPerson_21 ?_
  refine lv_aload_n hx hb dX4_addPerson_24 rfl (lv_at hl 0 rfl) ?_
  refine va_get (D := g) (ci := 4) (v := .int ld_people) (C := RX4) (T := TX4) (N := 15) hx hb hts iX4 hown hK hP 0 rfl rfl 4 (by decide) (hts (.fieldLink RX4 50 "CardsAtYule$Land" "people" "I") (List.mem_cons_of_mem _ (List.mem_append_left _ (List.mem_of_getElem? (i := 1) rfl)))) (fun _ h9 => h9) rfl dX4_addPerson_25 ?_
  refine lv_iconst (v := 0) hx hb dX4_addPerson_28 (by decide) ?_
  refine va_iast (D := g) hx hb hK hP hD hS 3 0 rfl rfl (vi_rg rfl hv_ld_people (by decide) (by decide)) dX4_addPerson_29 (fun H locs hP hD hS => ?_)
  obtain ⟨g29, e29⟩ : ∃ z, z = upd ld_forgets_c ld_people.toNatClampNeg (0 : Int32) := ⟨_, rfl⟩
  have hP : va_P g vwCl [(ld, .inr (4, [.int ld_lines, .int ld_years, .int ld_card, .int ld_hurt, .int ld_people, .int ld_pairs, .long ld_strikes, .ref ld_rule, .ref ld_returns, .ref ld_forgets, .ref ld_death, .ref ld_move, .ref ld_begun, .ref ld_who, .ref ld_lost])), (ld_rule, .inl (cI, 10, .inl g9)), (ld_returns, .inl (cI, 10, .inl g19)), (ld_forgets, .inl (cI, 10, .inl (upd ld_forgets_c ld_people.toNatClampNeg (0 : Int32)))), (ld_death, .inl (cI, 10, .inl ld_death_c)), (ld_move, .inl (cI, 10, .inl ld_move_c))] H := hP
  have hD : va_D A [(ld, .inr (4, [.int ld_lines, .int ld_years, .int ld_card, .int ld_hurt, .int ld_people, .int ld_pairs, .long ld_strikes, .ref ld_rule, .ref ld_returns, .ref ld_forgets, .ref ld_death, .ref ld_move, .ref ld_begun, .ref ld_who, .ref ld_lost])), (ld_rule, .inl (cI, 10, .inl g9)), (ld_returns, .inl (cI, 10, .inl g19)), (ld_forgets, .inl (cI, 10, .inl (upd ld_forgets_c ld_people.toNatClampNeg (0 : Int32)))), (ld_death, .inl (cI, 10, .inl ld_death_c)), (ld_move, .inl (cI, 10, .inl ld_move_c))] := hD
  rw [← e29] at hP hD
  refine lv_aload_n hx hb dX4_addPerson_30 rfl (lv_at hl 0 rfl) ?_
  refine va_get (D := g) (ci := 4) (v := .ref ld_death) (C := RX4) (T := TX4) (N := 15) hx hb hts iX4 hown hK hP 0 rfl rfl 10 (by decide) (hts (.fieldLink RX4 21 "CardsAtYule$Land" "death" "[I") (List.mem_cons_of_mem _ (List.mem_append_left _ (List.mem_of_getElem? (i := 4) rfl)))) (fun _ h9 => h9) rfl dX4_addPerson_31 ?_
  refine lv_aload_n hx hb dX4_addPerson_34 rfl (lv_at hl 0 rfl) ?_
  refine va_get (D := g) (ci := 4) (v := .int ld_people) (C := RX4) (T := TX4) (N := 15) hx hb hts iX4 hown hK hP 0 rfl rfl 4 (by decide) (hts (.fieldLink RX4 50 "CardsAtYule$Land" "people" "I") (List.mem_cons_of_mem _ (List.mem_append_left _ (List.mem_of_getElem? (i := 1) rfl)))) (fun _ h9 => h9) rfl dX4_addPerson_35 ?_
  refine lv_iconst (v := (-1)) hx hb dX4_addPerson_38 (by decide) ?_
  refine va_iast (D := g) hx hb hK hP hD hS 4 0 rfl rfl (vi_rg rfl hv_ld_people (by decide) (by decide)) dX4_addPerson_39 (fun H locs hP hD hS => ?_)
  obtain ⟨g39, e39⟩ : ∃ z, z = upd ld_death_c ld_people.toNatClampNeg ((-1) : Int32) := ⟨_, rfl⟩
  have hP : va_P g vwCl [(ld, .inr (4, [.int ld_lines, .int ld_years, .int ld_card, .int ld_hurt, .int ld_people, .int ld_pairs, .long ld_strikes, .ref ld_rule, .ref ld_returns, .ref ld_forgets, .ref ld_death, .ref ld_move, .ref ld_begun, .ref ld_who, .ref ld_lost])), (ld_rule, .inl (cI, 10, .inl g9)), (ld_returns, .inl (cI, 10, .inl g19)), (ld_forgets, .inl (cI, 10, .inl g29)), (ld_death, .inl (cI, 10, .inl (upd ld_death_c ld_people.toNatClampNeg ((-1) : Int32)))), (ld_move, .inl (cI, 10, .inl ld_move_c))] H := hP
  have hD : va_D A [(ld, .inr (4, [.int ld_lines, .int ld_years, .int ld_card, .int ld_hurt, .int ld_people, .int ld_pairs, .long ld_strikes, .ref ld_rule, .ref ld_returns, .ref ld_forgets, .ref ld_death, .ref ld_move, .ref ld_begun, .ref ld_who, .ref ld_lost])), (ld_rule, .inl (cI, 10, .inl g9)), (ld_returns, .inl (cI, 10, .inl g19)), (ld_forgets, .inl (cI, 10, .inl g29)), (ld_death, .inl (cI, 10, .inl (upd ld_death_c ld_people.toNatClampNeg ((-1) : Int32)))), (ld_move, .inl (cI, 10, .inl ld_move_c))] := hD
  rw [← e39] at hP hD
  refine lv_aload_n hx hb dX4_addPerson_40 rfl (lv_at hl 0 rfl) ?_
  refine va_get (D := g) (ci := 4) (v := .ref ld_move) (C := RX4) (T := TX4) (N := 15) hx hb hts iX4 hown hK hP 0 rfl rfl 11 (by decide) (hts (.fieldLink RX4 24 "CardsAtYule$Land" "move" "[I") (List.mem_cons_of_mem _ (List.mem_append_left _ (List.mem_of_getElem? (i := 5) rfl)))) (fun _ h9 => h9) rfl dX4_addPerson_41 ?_
  refine lv_aload_n hx hb dX4_addPerson_44 rfl (lv_at hl 0 rfl) ?_
  refine va_get (D := g) (ci := 4) (v := .int ld_people) (C := RX4) (T := TX4) (N := 15) hx hb hts iX4 hown hK hP 0 rfl rfl 4 (by decide) (hts (.fieldLink RX4 50 "CardsAtYule$Land" "people" "I") (List.mem_cons_of_mem _ (List.mem_append_left _ (List.mem_of_getElem? (i := 1) rfl)))) (fun _ h9 => h9) rfl dX4_addPerson_45 ?_
  refine lv_iconst (v := (-1)) hx hb dX4_addPerson_48 (by decide) ?_
  refine va_iast (D := g) hx hb hK hP hD hS 5 0 rfl rfl (vi_rg rfl hv_ld_people (by decide) (by decide)) dX4_addPerson_49 (fun H locs hP hD hS => ?_)
  obtain ⟨g49, e49⟩ : ∃ z, z = upd ld_move_c ld_people.toNatClampNeg ((-1) : Int32) := ⟨_, rfl⟩
  have hP : va_P g vwCl [(ld, .inr (4, [.int ld_lines, .int ld_years, .int ld_card, .int ld_hurt, .int ld_people, .int ld_pairs, .long ld_strikes, .ref ld_rule, .ref ld_returns, .ref ld_forgets, .ref ld_death, .ref ld_move, .ref ld_begun, .ref ld_who, .ref ld_lost])), (ld_rule, .inl (cI, 10, .inl g9)), (ld_returns, .inl (cI, 10, .inl g19)), (ld_forgets, .inl (cI, 10, .inl g29)), (ld_death, .inl (cI, 10, .inl g39)), (ld_move, .inl (cI, 10, .inl (upd ld_move_c ld_people.toNatClampNeg ((-1) : Int32))))] H := hP
  have hD : va_D A [(ld, .inr (4, [.int ld_lines, .int ld_years, .int ld_card, .int ld_hurt, .int ld_people, .int ld_pairs, .long ld_strikes, .ref ld_rule, .ref ld_returns, .ref ld_forgets, .ref ld_death, .ref ld_move, .ref ld_begun, .ref ld_who, .ref ld_lost])), (ld_rule, .inl (cI, 10, .inl g9)), (ld_returns, .inl (cI, 10, .inl g19)), (ld_forgets, .inl (cI, 10, .inl g29)), (ld_death, .inl (cI, 10, .inl g39)), (ld_move, .inl (cI, 10, .inl (upd ld_move_c ld_people.toNatClampNeg ((-1) : Int32))))] := hD
  rw [← e49] at hP hD
  refine lv_aload_n hx hb dX4_addPerson_50 rfl (lv_at hl 0 rfl) ?_
  refine lv_dup hx hb dX4_addPerson_51 rfl ?_
  refine va_get (D := g) (ci := 4) (v := .int ld_people) (C := RX4) (T := TX4) (N := 15) hx hb hts iX4 hown hK hP 0 rfl rfl 4 (by decide) (hts (.fieldLink RX4 50 "CardsAtYule$Land" "people" "I") (List.mem_cons_of_mem _ (List.mem_append_left _ (List.mem_of_getElem? (i := 1) rfl)))) (fun _ h9 => h9) rfl dX4_addPerson_52 ?_
  refine lv_iconst (v := 1) hx hb dX4_addPerson_55 (by decide) ?_
  refine lv_iadd hx hb dX4_addPerson_56 ?_
  refine lv_topi (fun y56 e56 => ?_)
  have q56 : y56.toInt = ld_people.toInt + 1 := by rw [e56]; exact ad_z rfl rfl hv_ld_people (ir_c 1) (by decide) (by decide)
  have r56 : ir y56.toInt 1 10 := ad_r q56 hv_ld_people (ir_c 1) (by decide) (by decide)
  refine va_put (D := g) (ci := 4) (v := .int y56) (ty := .int) (C := RX4) (T := TX4) (N := 15) hx hb hts iX4 tyX4 tyX4_ok nmX4 hown hK hP hD hS 0 rfl rfl 4 (by decide) (hts (.fieldLink RX4 50 "CardsAtYule$Land" "people" "I") (List.mem_cons_of_mem _ (List.mem_append_left _ (List.mem_of_getElem? (i := 1) rfl)))) (fun _ h9 => h9) rfl (by decide +kernel) rfl rfl (Nat.le_of_ble_eq_true rfl) dX4_addPerson_57 (fun H locs hP hD hS => ?_)
  have hP : va_P g vwCl [(ld, .inr (4, [.int ld_lines, .int ld_years, .int ld_card, .int ld_hurt, .int y56, .int ld_pairs, .long ld_strikes, .ref ld_rule, .ref ld_returns, .ref ld_forgets, .ref ld_death, .ref ld_move, .ref ld_begun, .ref ld_who, .ref ld_lost])), (ld_rule, .inl (cI, 10, .inl g9)), (ld_returns, .inl (cI, 10, .inl g19)), (ld_forgets, .inl (cI, 10, .inl g29)), (ld_death, .inl (cI, 10, .inl g39)), (ld_move, .inl (cI, 10, .inl g49))] H := hP
  have hD : va_D A [(ld, .inr (4, [.int ld_lines, .int ld_years, .int ld_card, .int ld_hurt, .int y56, .int ld_pairs, .long ld_strikes, .ref ld_rule, .ref ld_returns, .ref ld_forgets, .ref ld_death, .ref ld_move, .ref ld_begun, .ref ld_who, .ref ld_lost])), (ld_rule, .inl (cI, 10, .inl g9)), (ld_returns, .inl (cI, 10, .inl g19)), (ld_forgets, .inl (cI, 10, .inl g29)), (ld_death, .inl (cI, 10, .inl g39)), (ld_move, .inl (cI, 10, .inl g49))] := hD
  subst hQ
  have hP9 := hP.sub (ws' := [(ld, .inr (4, [.int ld_lines, .int ld_years, .int ld_card, .int ld_hurt, .int y56, .int ld_pairs, .long ld_strikes, .ref ld_rule, .ref ld_returns, .ref ld_forgets, .ref ld_death, .ref ld_move, .ref ld_begun, .ref ld_who, .ref ld_lost])), (ld_rule, .inl (cI, 10, .inl g9)), (ld_returns, .inl (cI, 10, .inl g19)), (ld_forgets, .inl (cI, 10, .inl g29)), (ld_death, .inl (cI, 10, .inl g39)), (ld_move, .inl (cI, 10, .inl g49))]) [0, 1, 2, 3, 4, 5] rfl
  have hD9 := hD.sub (ws' := [(ld, .inr (4, [.int ld_lines, .int ld_years, .int ld_card, .int ld_hurt, .int y56, .int ld_pairs, .long ld_strikes, .ref ld_rule, .ref ld_returns, .ref ld_forgets, .ref ld_death, .ref ld_move, .ref ld_begun, .ref ld_who, .ref ld_lost])), (ld_rule, .inl (cI, 10, .inl g9)), (ld_returns, .inl (cI, 10, .inl g19)), (ld_forgets, .inl (cI, 10, .inl g29)), (ld_death, .inl (cI, 10, .inl g39)), (ld_move, .inl (cI, 10, .inl g49))]) [0, 1, 2, 3, 4, 5] (by decide) rfl
  exact W.vret hx hb hr (fun t ht hW => ⟨⟨(y56, g9, g19, g29, g39, g49), rfl, r56, ⟨by rw [ht]; exact hP9, va_K.moved hW.alike hK, hD9⟩⟩, hS.F ht⟩) hS.2.2 dX4_addPerson_60
def v_X4_addPair : List Cond := .code yX4_addPair cX4_addPair 4 none :: (([.fieldLink RX4 30 "CardsAtYule$Land" "who" "[I", .fieldLink RX4 53 "CardsAtYule$Land" "pairs" "I", .fieldLink RX4 27 "CardsAtYule$Land" "begun" "[I"] : List Cond) ++ (wsX40 ++ ([] : List Cond)))
theorem good_v_X4_addPair : v_X4_addPair.all goodWord = true := ga_c (by decide +kernel) (ga_a (by decide +kernel) (ga_a good_wsX40 rfl))
set_option maxHeartbeats 4000000 in
set_option maxRecDepth 100000 in
theorem q_X4_addPair (l : Launch) (g : va_G) (cI cJ cB cZ cL : ClassId) (p0 : Int32) (p1 : Int32) (p2 : Int32) (ld : Nat) (ld_lines : Int32) (ld_years : Int32) (ld_card : Int32) (ld_hurt : Int32) (ld_people : Int32) (ld_pairs : Int32) (ld_strikes : Int64) (ld_rule : Nat) (ld_returns : Nat) (ld_forgets : Nat) (ld_death : Nat) (ld_move : Nat) (ld_begun : Nat) (ld_who : Nat) (ld_lost : Nat) (ld_who_c : Nat → Int32) (ld_begun_c : Nat → Int32) (sz : Nat) (hv_p0 : ir p0.toInt 0 9) (hv_p1 : ir p1.toInt 0 9) (hv_p2 : ir p2.toInt 0 15) (hv_ld_years : ir ld_years.toInt 0 40) (hv_ld_people : ir ld_people.toInt 0 10) (hv_ld_pairs : ir ld_pairs.toInt 0 15) (ha_ld_who_c : ar ld_who_c 32 0 9) (ha_ld_begun_c : ar ld_begun_c 16 0 15) : Met l yX4_addPair v_X4_addPair ({ frames := 0, cells := 0, slots := 0, locals := 0 }) (va_Pc [.ref ld, .int p0, .int p1, .int p2] (pRW g (tyT cI cJ cB cZ cL) [(ld, .inr (4, [.int ld_lines, .int ld_years, .int ld_card, .int ld_hurt, .int ld_people, .int ld_pairs, .long ld_strikes, .ref ld_rule, .ref ld_returns, .ref ld_forgets, .ref ld_death, .ref ld_move, .ref ld_begun, .ref ld_who, .ref ld_lost])), (ld_who, .inl (cI, 32, .inl ld_who_c)), (ld_begun, .inl (cI, 16, .inl ld_begun_c))] sz)) (va_Qv (fun (u : Int32 × (Nat → Int32) × (Nat → Int32)) => match u with | (n_ld_pairs, n_ld_who_c, n_ld_begun_c) => (ir n_ld_pairs.toInt 1 16) ∧ (ar n_ld_who_c 32 0 9) ∧ (ar n_ld_begun_c 16 0 15)) (fun (u : Int32 × (Nat → Int32) × (Nat → Int32)) (t : State) => bRW g (tyT cI cJ cB cZ cL) (va_A [(ld, .inr (4, [.int ld_lines, .int ld_years, .int ld_card, .int ld_hurt, .int ld_people, .int ld_pairs, .long ld_strikes, .ref ld_rule, .ref ld_returns, .ref ld_forgets, .ref ld_death, .ref ld_move, .ref ld_begun, .ref ld_who, .ref ld_lost])), (ld_who, .inl (cI, 32, .inl ld_who_c)), (ld_begun, .inl (cI, 16, .inl ld_begun_c))] sz) (match u with | (n_ld_pairs, n_ld_who_c, n_ld_begun_c) => [(ld, .inr (4, [.int ld_lines, .int ld_years, .int ld_card, .int ld_hurt, .int ld_people, .int n_ld_pairs, .long ld_strikes, .ref ld_rule, .ref ld_returns, .ref ld_forgets, .ref ld_death, .ref ld_move, .ref ld_begun, .ref ld_who, .ref ld_lost])), (ld_who, .inl (cI, 32, .inl n_ld_who_c)), (ld_begun, .inl (cI, 16, .inl n_ld_begun_c))]) t) (va_A [(ld, .inr (4, [.int ld_lines, .int ld_years, .int ld_card, .int ld_hurt, .int ld_people, .int ld_pairs, .long ld_strikes, .ref ld_rule, .ref ld_returns, .ref ld_forgets, .ref ld_death, .ref ld_move, .ref ld_begun, .ref ld_who, .ref ld_lost])), (ld_who, .inl (cI, 32, .inl ld_who_c)), (ld_begun, .inl (cI, 16, .inl ld_begun_c))] sz)) 0 0 (va_A [(ld, .inr (4, [.int ld_lines, .int ld_years, .int ld_card, .int ld_hurt, .int ld_people, .int ld_pairs, .long ld_strikes, .ref ld_rule, .ref ld_returns, .ref ld_forgets, .ref ld_death, .ref ld_move, .ref ld_begun, .ref ld_who, .ref ld_lost])), (ld_who, .inl (cI, 32, .inl ld_who_c)), (ld_begun, .inl (cI, 16, .inl ld_begun_c))] sz) := by
  refine Met.ofW (cc := cX4_addPair) (maxL := 4) (ret := none) (by decide) rfl ?_
  intro p e s m args below meth c s₁ B hml hv
  obtain ⟨rfl, hsz, hP, hK, hD0⟩ := hv
  have hx := B.exec
  have hb := B.bytes
  have hr := B.returns
  have hts := atoms_spec (ws := v_X4_addPair) B.pre
  have hown : s.vm.findClass RX4 = some m.cls := findClass_of_methodNamed B.named
  have hlocks := B.notSynchronized
  clear B
  subst hsz
  have iX4 : ∀ w ∈ wsX40, w ∈ v_X4_addPair := (fun _ h => List.mem_cons_of_mem _ (List.mem_append_right _ (List.mem_append_left _ h)))
  have hD := hD0.self (sz := s.heap.size)
  generalize hAe : (va_A [(ld, .inr (4, [.int ld_lines, .int ld_years, .int ld_card, .int ld_hurt, .int ld_people, .int ld_pairs, .long ld_strikes, .ref ld_rule, .ref ld_returns, .ref ld_forgets, .ref ld_death, .ref ld_move, .ref ld_begun, .ref ld_who, .ref ld_lost])), (ld_who, .inl (cI, 32, .inl ld_who_c)), (ld_begun, .inl (cI, 16, .inl ld_begun_c))] s.heap.size) = A at hD ⊢
  have hA : ∀ q : Nat, s.heap.size ≤ q → A q := fun q h => by rw [← hAe]; exact Or.inr h
  have hS : va_S A s.heap s.heap [] := va_S.rf
  have hl := lv_entry ([.ref ld, .int p0, .int p1, .int p2]) (n := 4) (Nat.le_of_ble_eq_true rfl)
  rw [lg_entry_eq]
  generalize (lg_sl ([.ref ld, .int p0, .int p1, .int p2]) ++ List.replicate (4 - (lg_sl ([.ref ld, .int p0, .int p1, .int p2])).length) Slot.unset).toArray = ls at hl ⊢
  generalize ([.ref ld, .int p0, .int p1, .int p2] : List Value).toArray = av at hts ⊢
  generalize hQ : MQ below _ av s _ _ A = QQ
  have hl : lv_has ls 4 [(0, .ref ld), (1, .int p0), (2, .int p1), (3, .int p2)] := hl
  have hP : va_P g vwCl [(ld, .inr (4, [.int ld_lines, .int ld_years, .int ld_card, .int ld_hurt, .int ld_people, .int ld_pairs, .long ld_strikes, .ref ld_rule, .ref ld_returns, .ref ld_forgets, .ref ld_death, .ref ld_move, .ref ld_begun, .ref ld_who, .ref ld_lost])), (ld_who, .inl (cI, 32, .inl ld_who_c)), (ld_begun, .inl (cI, 16, .inl ld_begun_c))] s.heap := hP
  refine lv_aload_n hx hb dX4_addPair_0 rfl (lv_at hl 0 rfl) ?_
  refine va_get (D := g) (ci := 4) (v := .ref ld_who) (C := RX4) (T := TX4) (N := 15) hx hb hts iX4 hown hK hP 0 rfl rfl 13 (by decide) (hts (.fieldLink RX4 30 "CardsAtYule$Land" "who" "[I") (List.mem_cons_of_mem _ (List.mem_append_left _ (List.mem_of_getElem? (i := 0) rfl)))) (fun _ h9 => h9) rfl dX4_addPair_1 ?_
  refine lv_iconst (v := 2) hx hb dX4_addPair_4 (by decide) ?_
  refine lv_aload_n hx hb dX4_addPair_5 rfl (lv_at hl 0 rfl) ?_
  refine va_get (D := g) (ci := 4) (v := .int ld_pairs) (C := RX4) (T := TX4) (N := 15) hx hb hts iX4 hown hK hP 0 rfl rfl 5 (by decide) (hts (.fieldLink RX4 53 "CardsAtYule$Land" "pairs" "I") (List.mem_cons_of_mem _ (List.mem_append_left _ (List.mem_of_getElem? (i := 1) rfl)))) (fun _ h9 => h9) rfl dX4_addPair_6 ?_
  refine lv_imul hx hb dX4_addPair_9 ?_
  refine lv_topi (fun y9 e9 => ?_)
  have q9 : y9.toInt = 2 * ld_pairs.toInt := by rw [e9]; exact mu_z rfl rfl (ir_c 2) hv_ld_pairs (by decide) (by decide) (by decide)
  have r9 : ir y9.toInt 0 30 := mu_r q9 (ir_c 2) hv_ld_pairs (by decide) (by decide) (by decide) (by decide)
  refine lv_iload_n hx hb dX4_addPair_10 rfl (lv_at hl 1 rfl) ?_
  refine va_iast (D := g) hx hb hK hP hD hS 1 0 rfl rfl (vi_rg rfl r9 (by decide) (by decide)) dX4_addPair_11 (fun H locs hP hD hS => ?_)
  obtain ⟨g11, e11⟩ : ∃ z, z = upd ld_who_c y9.toNatClampNeg p0 := ⟨_, rfl⟩
  have hP : va_P g vwCl [(ld, .inr (4, [.int ld_lines, .int ld_years, .int ld_card, .int ld_hurt, .int ld_people, .int ld_pairs, .long ld_strikes, .ref ld_rule, .ref ld_returns, .ref ld_forgets, .ref ld_death, .ref ld_move, .ref ld_begun, .ref ld_who, .ref ld_lost])), (ld_who, .inl (cI, 32, .inl (upd ld_who_c y9.toNatClampNeg p0))), (ld_begun, .inl (cI, 16, .inl ld_begun_c))] H := hP
  have hD : va_D A [(ld, .inr (4, [.int ld_lines, .int ld_years, .int ld_card, .int ld_hurt, .int ld_people, .int ld_pairs, .long ld_strikes, .ref ld_rule, .ref ld_returns, .ref ld_forgets, .ref ld_death, .ref ld_move, .ref ld_begun, .ref ld_who, .ref ld_lost])), (ld_who, .inl (cI, 32, .inl (upd ld_who_c y9.toNatClampNeg p0))), (ld_begun, .inl (cI, 16, .inl ld_begun_c))] := hD
  rw [← e11] at hP hD
  have a11 : ar g11 32 0 9 := by rw [e11]; exact ar_u ha_ld_who_c hv_p0
  refine lv_aload_n hx hb dX4_addPair_12 rfl (lv_at hl 0 rfl) ?_
  refine va_get (D := g) (ci := 4) (v := .ref ld_who) (C := RX4) (T := TX4) (N := 15) hx hb hts iX4 hown hK hP 0 rfl rfl 13 (by decide) (hts (.fieldLink RX4 30 "CardsAtYule$Land" "who" "[I") (List.mem_cons_of_mem _ (List.mem_append_left _ (List.mem_of_getElem? (i := 0) rfl)))) (fun _ h9 => h9) rfl dX4_addPair_13 ?_
  refine lv_iconst (v := 2) hx hb dX4_addPair_16 (by decide) ?_
  refine lv_aload_n hx hb dX4_addPair_17 rfl (lv_at hl 0 rfl) ?_
  refine va_get (D := g) (ci := 4) (v := .int ld_pairs) (C := RX4) (T := TX4) (N := 15) hx hb hts iX4 hown hK hP 0 rfl rfl 5 (by decide) (hts (.fieldLink RX4 53 "CardsAtYule$Land" "pairs" "I") (List.mem_cons_of_mem _ (List.mem_append_left _ (List.mem_of_getElem? (i := 1) rfl)))) (fun _ h9 => h9) rfl dX4_addPair_18 ?_
  refine lv_imul hx hb dX4_addPair_21 ?_
  refine lv_topi (fun y21 e21 => ?_)
  have q21 : y21.toInt = 2 * ld_pairs.toInt := by rw [e21]; exact mu_z rfl rfl (ir_c 2) hv_ld_pairs (by decide) (by decide) (by decide)
  have r21 : ir y21.toInt 0 30 := mu_r q21 (ir_c 2) hv_ld_pairs (by decide) (by decide) (by decide) (by decide)
  refine lv_iconst (v := 1) hx hb dX4_addPair_22 (by decide) ?_
  refine lv_iadd hx hb dX4_addPair_23 ?_
  refine lv_topi (fun y23 e23 => ?_)
  have q23 : y23.toInt = y21.toInt + 1 := by rw [e23]; exact ad_z rfl rfl r21 (ir_c 1) (by decide) (by decide)
  have r23 : ir y23.toInt 1 31 := ad_r q23 r21 (ir_c 1) (by decide) (by decide)
  refine lv_iload_n hx hb dX4_addPair_24 rfl (lv_at hl 2 rfl) ?_
  refine va_iast (D := g) hx hb hK hP hD hS 1 0 rfl rfl (vi_rg rfl r23 (by decide) (by decide)) dX4_addPair_25 (fun H locs hP hD hS => ?_)
  obtain ⟨g25, e25⟩ : ∃ z, z = upd g11 y23.toNatClampNeg p1 := ⟨_, rfl⟩
  have hP : va_P g vwCl [(ld, .inr (4, [.int ld_lines, .int ld_years, .int ld_card, .int ld_hurt, .int ld_people, .int ld_pairs, .long ld_strikes, .ref ld_rule, .ref ld_returns, .ref ld_forgets, .ref ld_death, .ref ld_move, .ref ld_begun, .ref ld_who, .ref ld_lost])), (ld_who, .inl (cI, 32, .inl (upd g11 y23.toNatClampNeg p1))), (ld_begun, .inl (cI, 16, .inl ld_begun_c))] H := hP
  have hD : va_D A [(ld, .inr (4, [.int ld_lines, .int ld_years, .int ld_card, .int ld_hurt, .int ld_people, .int ld_pairs, .long ld_strikes, .ref ld_rule, .ref ld_returns, .ref ld_forgets, .ref ld_death, .ref ld_move, .ref ld_begun, .ref ld_who, .ref ld_lost])), (ld_who, .inl (cI, 32, .inl (upd g11 y23.toNatClampNeg p1))), (ld_begun, .inl (cI, 16, .inl ld_begun_c))] := hD
  rw [← e25] at hP hD
  have a25 : ar g25 32 0 9 := by rw [e25]; exact ar_u a11 hv_p1
  refine lv_aload_n hx hb dX4_addPair_26 rfl (lv_at hl 0 rfl) ?_
  refine va_get (D := g) (ci := 4) (v := .ref ld_begun) (C := RX4) (T := TX4) (N := 15) hx hb hts iX4 hown hK hP 0 rfl rfl 12 (by decide) (hts (.fieldLink RX4 27 "CardsAtYule$Land" "begun" "[I") (List.mem_cons_of_mem _ (List.mem_append_left _ (List.mem_of_getElem? (i := 2) rfl)))) (fun _ h9 => h9) rfl dX4_addPair_27 ?_
  refine lv_aload_n hx hb dX4_addPair_30 rfl (lv_at hl 0 rfl) ?_
  refine va_get (D := g) (ci := 4) (v := .int ld_pairs) (C := RX4) (T := TX4) (N := 15) hx hb hts iX4 hown hK hP 0 rfl rfl 5 (by decide) (hts (.fieldLink RX4 53 "CardsAtYule$Land" "pairs" "I") (List.mem_cons_of_mem _ (List.mem_append_left _ (List.mem_of_getElem? (i := 1) rfl)))) (fun _ h9 => h9) rfl dX4_addPair_31 ?_
  refine lv_iload_n hx hb dX4_addPair_34 rfl (lv_at hl 3 rfl) ?_
  refine va_iast (D := g) hx hb hK hP hD hS 2 0 rfl rfl (vi_rg rfl hv_ld_pairs (by decide) (by decide)) dX4_addPair_35 (fun H locs hP hD hS => ?_)
  obtain ⟨g35, e35⟩ : ∃ z, z = upd ld_begun_c ld_pairs.toNatClampNeg p2 := ⟨_, rfl⟩
  have hP : va_P g vwCl [(ld, .inr (4, [.int ld_lines, .int ld_years, .int ld_card, .int ld_hurt, .int ld_people, .int ld_pairs, .long ld_strikes, .ref ld_rule, .ref ld_returns, .ref ld_forgets, .ref ld_death, .ref ld_move, .ref ld_begun, .ref ld_who, .ref ld_lost])), (ld_who, .inl (cI, 32, .inl g25)), (ld_begun, .inl (cI, 16, .inl (upd ld_begun_c ld_pairs.toNatClampNeg p2)))] H := hP
  have hD : va_D A [(ld, .inr (4, [.int ld_lines, .int ld_years, .int ld_card, .int ld_hurt, .int ld_people, .int ld_pairs, .long ld_strikes, .ref ld_rule, .ref ld_returns, .ref ld_forgets, .ref ld_death, .ref ld_move, .ref ld_begun, .ref ld_who, .ref ld_lost])), (ld_who, .inl (cI, 32, .inl g25)), (ld_begun, .inl (cI, 16, .inl (upd ld_begun_c ld_pairs.toNatClampNeg p2)))] := hD
  rw [← e35] at hP hD
  have a35 : ar g35 16 0 15 := by rw [e35]; exact ar_u ha_ld_begun_c hv_p2
  refine lv_aload_n hx hb dX4_addPair_36 rfl (lv_at hl 0 rfl) ?_
  refine lv_dup hx hb dX4_addPair_37 rfl ?_
  refine va_get (D := g) (ci := 4) (v := .int ld_pairs) (C := RX4) (T := TX4) (N := 15) hx hb hts iX4 hown hK hP 0 rfl rfl 5 (by decide) (hts (.fieldLink RX4 53 "CardsAtYule$Land" "pairs" "I") (List.mem_cons_of_mem _ (List.mem_append_left _ (List.mem_of_getElem? (i := 1) rfl)))) (fun _ h9 => h9) rfl dX4_addPair_38 ?_
  refine lv_iconst (v := 1) hx hb dX4_addPair_41 (by decide) ?_
  refine lv_iadd hx hb dX4_addPair_42 ?_
  refine lv_topi (fun y42 e42 => ?_)
  have q42 : y42.toInt = ld_pairs.toInt + 1 := by rw [e42]; exact ad_z rfl rfl hv_ld_pairs (ir_c 1) (by decide) (by decide)
  have r42 : ir y42.toInt 1 16 := ad_r q42 hv_ld_pairs (ir_c 1) (by decide) (by decide)
  refine va_put (D := g) (ci := 4) (v := .int y42) (ty := .int) (C := RX4) (T := TX4) (N := 15) hx hb hts iX4 tyX4 tyX4_ok nmX4 hown hK hP hD hS 0 rfl rfl 5 (by decide) (hts (.fieldLink RX4 53 "CardsAtYule$Land" "pairs" "I") (List.mem_cons_of_mem _ (List.mem_append_left _ (List.mem_of_getElem? (i := 1) rfl)))) (fun _ h9 => h9) rfl (by decide +kernel) rfl rfl (Nat.le_of_ble_eq_true rfl) dX4_addPair_43 (fun H locs hP hD hS => ?_)
  have hP : va_P g vwCl [(ld, .inr (4, [.int ld_lines, .int ld_years, .int ld_card, .int ld_hurt, .int ld_people, .int y42, .long ld_strikes, .ref ld_rule, .ref ld_returns, .ref ld_forgets, .ref ld_death, .ref ld_move, .ref ld_begun, .ref ld_who, .ref ld_lost])), (ld_who, .inl (cI, 32, .inl g25)), (ld_begun, .inl (cI, 16, .inl g35))] H := hP
  have hD : va_D A [(ld, .inr (4, [.int ld_lines, .int ld_years, .int ld_card, .int ld_hurt, .int ld_people, .int y42, .long ld_strikes, .ref ld_rule, .ref ld_returns, .ref ld_forgets, .ref ld_death, .ref ld_move, .ref ld_begun, .ref ld_who, .ref ld_lost])), (ld_who, .inl (cI, 32, .inl g25)), (ld_begun, .inl (cI, 16, .inl g35))] := hD
  subst hQ
  have hP9 := hP.sub (ws' := [(ld, .inr (4, [.int ld_lines, .int ld_years, .int ld_card, .int ld_hurt, .int ld_people, .int y42, .long ld_strikes, .ref ld_rule, .ref ld_returns, .ref ld_forgets, .ref ld_death, .ref ld_move, .ref ld_begun, .ref ld_who, .ref ld_lost])), (ld_who, .inl (cI, 32, .inl g25)), (ld_begun, .inl (cI, 16, .inl g35))]) [0, 1, 2] rfl
  have hD9 := hD.sub (ws' := [(ld, .inr (4, [.int ld_lines, .int ld_years, .int ld_card, .int ld_hurt, .int ld_people, .int y42, .long ld_strikes, .ref ld_rule, .ref ld_returns, .ref ld_forgets, .ref ld_death, .ref ld_move, .ref ld_begun, .ref ld_who, .ref ld_lost])), (ld_who, .inl (cI, 32, .inl g25)), (ld_begun, .inl (cI, 16, .inl g35))]) [0, 1, 2] (by decide) rfl
  exact W.vret hx hb hr (fun t ht hW => ⟨⟨(y42, g25, g35), rfl, ⟨r42, a25, a35⟩, ⟨by rw [ht]; exact hP9, va_K.moved hW.alike hK, hD9⟩⟩, hS.F ht⟩) hS.2.2 dX4_addPair_46
def v_X4_pairOf : List Cond := .code yX4_pairOf cX4_pairOf 6 (some .int) :: (([.fieldLink RX4 53 "CardsAtYule$Land" "pairs" "I", .fieldLink RX4 30 "CardsAtYule$Land" "who" "[I"] : List Cond) ++ (wsX40 ++ ([] : List Cond)))
theorem good_v_X4_pairOf : v_X4_pairOf.all goodWord = true := ga_c (by decide +kernel) (ga_a (by decide +kernel) (ga_a good_wsX40 rfl))
set_option maxHeartbeats 4000000 in
set_option maxRecDepth 100000 in
theorem q_X4_pairOf (l : Launch) (g : va_G) (cI cJ cB cZ cL : ClassId) (p0 : Int32) (p1 : Int32) (ld : Nat) (ld_lines : Int32) (ld_years : Int32) (ld_card : Int32) (ld_hurt : Int32) (ld_people : Int32) (ld_pairs : Int32) (ld_strikes : Int64) (ld_rule : Nat) (ld_returns : Nat) (ld_forgets : Nat) (ld_death : Nat) (ld_move : Nat) (ld_begun : Nat) (ld_who : Nat) (ld_lost : Nat) (ld_who_c : Nat → Int32) (sz : Nat) (hv_ld_years : ir ld_years.toInt 0 40) (hv_ld_people : ir ld_people.toInt 0 10) (hv_ld_pairs : ir ld_pairs.toInt 0 16) (ha_ld_who_c : ar ld_who_c 32 0 9) : Met l yX4_pairOf v_X4_pairOf ({ frames := 0, cells := 0, slots := 0, locals := 0 }) (va_Pc [.ref ld, .int p0, .int p1] (pRO g (tyT cI cJ cB cZ cL) [(ld, .inr (4, [.int ld_lines, .int ld_years, .int ld_card, .int ld_hurt, .int ld_people, .int ld_pairs, .long ld_strikes, .ref ld_rule, .ref ld_returns, .ref ld_forgets, .ref ld_death, .ref ld_move, .ref ld_begun, .ref ld_who, .ref ld_lost])), (ld_who, .inl (cI, 32, .inl ld_who_c))] sz)) (va_Qi (fun (r : Int32) (u : Unit) => (ir r.toInt (-1) 15)) (fun (_ : Unit) (_ : State) => True) (va_A [] sz)) 0 0 (va_A [] sz) := by
  refine Met.ofW (cc := cX4_pairOf) (maxL := 6) (ret := (some .int)) (by decide) rfl ?_
  intro p e s m args below meth c s₁ B hml hv
  obtain ⟨rfl, hsz, hP, hK⟩ := hv
  have hx := B.exec
  have hb := B.bytes
  have hr := B.returns
  have hts := atoms_spec (ws := v_X4_pairOf) B.pre
  have hown : s.vm.findClass RX4 = some m.cls := findClass_of_methodNamed B.named
  have hlocks := B.notSynchronized
  clear B
  subst hsz
  have iX4 : ∀ w ∈ wsX40, w ∈ v_X4_pairOf := (fun _ h => List.mem_cons_of_mem _ (List.mem_append_right _ (List.mem_append_left _ h)))
  generalize hAe : (va_A [] s.heap.size) = A
  have hA : ∀ q : Nat, s.heap.size ≤ q → A q := fun q h => by rw [← hAe]; exact Or.inr h
  have hS : va_S A s.heap s.heap [] := va_S.rf
  have hl := lv_entry ([.ref ld, .int p0, .int p1]) (n := 6) (Nat.le_of_ble_eq_true rfl)
  rw [lg_entry_eq]
  generalize (lg_sl ([.ref ld, .int p0, .int p1]) ++ List.replicate (6 - (lg_sl ([.ref ld, .int p0, .int p1])).length) Slot.unset).toArray = ls at hl ⊢
  generalize ([.ref ld, .int p0, .int p1] : List Value).toArray = av at hts ⊢
  generalize hQ : MQ below _ av s _ _ A = QQ
  have hl : lv_has ls 6 [(0, .ref ld), (1, .int p0), (2, .int p1)] := hl
  have hP : va_P g vwCl [(ld, .inr (4, [.int ld_lines, .int ld_years, .int ld_card, .int ld_hurt, .int ld_people, .int ld_pairs, .long ld_strikes, .ref ld_rule, .ref ld_returns, .ref ld_forgets, .ref ld_death, .ref ld_move, .ref ld_begun, .ref ld_who, .ref ld_lost])), (ld_who, .inl (cI, 32, .inl ld_who_c))] s.heap := hP
  refine lv_iconst (v := 0) hx hb dX4_pairOf_0 (by decide) ?_
  refine lv_istore_n (lv' := [(3, .int 0), (0, .ref ld), (1, .int p0), (2, .int p1)]) hx hb dX4_pairOf_1 rfl hl (by decide) rfl (fun ls hl => ?_)
  have J2 : ∀ (n2 : Nat) (j2_l3 : Int32) (H : Heap) (locs : List Loc) (ls : Array Slot), (17 - j2_l3.toInt).toNat < n2 → (ir j2_l3.toInt 0 16) → va_P g vwCl [(ld, .inr (4, [.int ld_lines, .int ld_years, .int ld_card, .int ld_hurt, .int ld_people, .int ld_pairs, .long ld_strikes, .ref ld_rule, .ref ld_returns, .ref ld_forgets, .ref ld_death, .ref ld_move, .ref ld_begun, .ref ld_who, .ref ld_lost])), (ld_who, .inl (cI, 32, .inl ld_who_c))] H → va_S A s.heap H locs → lv_has ls 6 [(0, .ref ld), (1, .int p0), (2, .int p1), (3, .int j2_l3)] → W p l e (headSpec v_X4_pairOf ({ frames := 0, cells := 0, slots := 0, locals := 0 })).room s m av below meth c H locs 0 0 QQ (F0 m 2 ls []) := by
    intro n2
    induction n2 with
    | zero => exact fun j2_l3 H locs ls hn => absurd hn (Nat.not_lt_zero _)
    | succ n2 ih2 =>
      intro j2_l3 H locs ls hn2 hj2_l3 hP hS hl
      refine lv_iload_n hx hb dX4_pairOf_2 rfl (lv_at hl 3 rfl) ?_
      refine lv_aload_n hx hb dX4_pairOf_3 rfl (lv_at hl 0 rfl) ?_
      refine va_get (D := g) (ci := 4) (v := .int ld_pairs) (C := RX4) (T := TX4) (N := 15) hx hb hts iX4 hown hK hP 0 rfl rfl 5 (by decide) (hts (.fieldLink RX4 53 "CardsAtYule$Land" "pairs" "I") (List.mem_cons_of_mem _ (List.mem_append_left _ (List.mem_of_getElem? (i := 0) rfl)))) (fun _ h9 => h9) rfl dX4_pairOf_4 ?_
      refine lv_icmp_ge (tgt := 64) hx hb dX4_pairOf_7 (by decide) (fun c7 => ?_) (fun c7 => ?_)
      · have f7 := (show ld_pairs.toInt ≤ j2_l3.toInt from z_le rfl rfl c7)
        refine lv_iconst (v := (-1)) hx hb dX4_pairOf_64 (by decide) ?_
        subst hQ
        exact W.iret (v := (-1)) hx hb hr (fun t ht hW => ⟨⟨(-1), (), rfl, (show ir ((-1) : Int32).toInt (-1) 15 by decide), trivial⟩, hS.F ht⟩) hS.2.2 dX4_pairOf_65
      have f7 := (show j2_l3.toInt < ld_pairs.toInt from z_nle rfl rfl c7)
      have r7a : ir j2_l3.toInt 0 15 := ir_lta f7 hj2_l3 hv_ld_pairs (by decide)
      have r7b : ir ld_pairs.toInt 1 16 := ir_ltb f7 hj2_l3 hv_ld_pairs (by decide)
      refine lv_aload_n hx hb dX4_pairOf_10 rfl (lv_at hl 0 rfl) ?_
      refine va_get (D := g) (ci := 4) (v := .ref ld_who) (C := RX4) (T := TX4) (N := 15) hx hb hts iX4 hown hK hP 0 rfl rfl 13 (by decide) (hts (.fieldLink RX4 30 "CardsAtYule$Land" "who" "[I") (List.mem_cons_of_mem _ (List.mem_append_left _ (List.mem_of_getElem? (i := 1) rfl)))) (fun _ h9 => h9) rfl dX4_pairOf_11 ?_
      refine lv_iconst (v := 2) hx hb dX4_pairOf_14 (by decide) ?_
      refine lv_iload_n hx hb dX4_pairOf_15 rfl (lv_at hl 3 rfl) ?_
      refine lv_imul hx hb dX4_pairOf_16 ?_
      refine lv_topi (fun y16 e16 => ?_)
      have q16 : y16.toInt = 2 * j2_l3.toInt := by rw [e16]; exact mu_z rfl rfl (ir_c 2) r7a (by decide) (by decide) (by decide)
      have r16 : ir y16.toInt 0 30 := mu_r q16 (ir_c 2) r7a (by decide) (by decide) (by decide) (by decide)
      refine va_iald (D := g) hx hb hK hP 1 0 rfl rfl (vi_rg rfl r16 (by decide) (by decide)) dX4_pairOf_17 ?_
      refine lv_topi (fun y17 e17 => ?_)
      have r17 : ir y17.toInt 0 9 := by rw [e17]; exact ha_ld_who_c _ (vi_cl (vi_rg rfl r16 (by decide) (by decide)))
      refine lv_istore (lv' := [(4, .int y17), (0, .ref ld), (1, .int p0), (2, .int p1), (3, .int j2_l3)]) hx hb dX4_pairOf_18 hl (by decide) rfl (fun ls hl => ?_)
      refine lv_aload_n hx hb dX4_pairOf_20 rfl (lv_at hl 1 rfl) ?_
      refine va_get (D := g) (ci := 4) (v := .ref ld_who) (C := RX4) (T := TX4) (N := 15) hx hb hts iX4 hown hK hP 0 rfl rfl 13 (by decide) (hts (.fieldLink RX4 30 "CardsAtYule$Land" "who" "[I") (List.mem_cons_of_mem _ (List.mem_append_left _ (List.mem_of_getElem? (i := 1) rfl)))) (fun _ h9 => h9) rfl dX4_pairOf_21 ?_
      refine lv_iconst (v := 2) hx hb dX4_pairOf_24 (by decide) ?_
      refine lv_iload_n hx hb dX4_pairOf_25 rfl (lv_at hl 4 rfl) ?_
      refine lv_imul hx hb dX4_pairOf_26 ?_
      refine lv_topi (fun y26 e26 => ?_)
      have q26 : y26.toInt = 2 * j2_l3.toInt := by rw [e26]; exact mu_z rfl rfl (ir_c 2) r7a (by decide) (by decide) (by decide)
      have r26 : ir y26.toInt 0 30 := mu_r q26 (ir_c 2) r7a (by decide) (by decide) (by decide) (by decide)
      refine lv_iconst (v := 1) hx hb dX4_pairOf_27 (by decide) ?_
      refine lv_iadd hx hb dX4_pairOf_28 ?_
      refine lv_topi (fun y28 e28 => ?_)
      have q28 : y28.toInt = y26.toInt + 1 := by rw [e28]; exact ad_z rfl rfl r26 (ir_c 1) (by decide) (by decide)
      have r28 : ir y28.toInt 1 31 := ad_r q28 r26 (ir_c 1) (by decide) (by decide)
      refine va_iald (D := g) hx hb hK hP 1 0 rfl rfl (vi_rg rfl r28 (by decide) (by decide)) dX4_pairOf_29 ?_
      refine lv_topi (fun y29 e29 => ?_)
      have r29 : ir y29.toInt 0 9 := by rw [e29]; exact ha_ld_who_c _ (vi_cl (vi_rg rfl r28 (by decide) (by decide)))
      refine lv_istore (lv' := [(5, .int y29), (4, .int y17), (0, .ref ld), (1, .int p0), (2, .int p1), (3, .int j2_l3)]) hx hb dX4_pairOf_30 hl (by decide) rfl (fun ls hl => ?_)
      refine lv_iload hx hb dX4_pairOf_32 (lv_at hl 1 rfl) ?_
      refine lv_iload_n hx hb dX4_pairOf_34 rfl (lv_at hl 3 rfl) ?_
      have J44 : ∀  (H : Heap) (locs : List Loc) (ls : Array Slot), va_P g vwCl [(ld, .inr (4, [.int ld_lines, .int ld_years, .int ld_card, .int ld_hurt, .int ld_people, .int ld_pairs, .long ld_strikes, .ref ld_rule, .ref ld_returns, .ref ld_forgets, .ref ld_death, .ref ld_move, .ref ld_begun, .ref ld_who, .ref ld_lost])), (ld_who, .inl (cI, 32, .inl ld_who_c))] H → va_S A s.heap H locs → lv_has ls 6 [(0, .ref ld), (1, .int p0), (2, .int p1), (3, .int j2_l3), (4, .int y17), (5, .int y29)] → W p l e (headSpec v_X4_pairOf ({ frames := 0, cells := 0, slots := 0, locals := 0 })).room s m av below meth c H locs 0 0 QQ (F0 m 44 ls []) := by
        intro  H locs ls  hP hS hl
        refine lv_iload hx hb dX4_pairOf_44 (lv_at hl 4 rfl) ?_
        refine lv_iload_n hx hb dX4_pairOf_46 rfl (lv_at hl 2 rfl) ?_
        have J58 : ∀  (H : Heap) (locs : List Loc) (ls : Array Slot), va_P g vwCl [(ld, .inr (4, [.int ld_lines, .int ld_years, .int ld_card, .int ld_hurt, .int ld_people, .int ld_pairs, .long ld_strikes, .ref ld_rule, .ref ld_returns, .ref ld_forgets, .ref ld_death, .ref ld_move, .ref ld_begun, .ref ld_who, .ref ld_lost])), (ld_who, .inl (cI, 32, .inl ld_who_c))] H → va_S A s.heap H locs → lv_has ls 6 [(0, .ref ld), (1, .int p0), (2, .int p1), (3, .int j2_l3)] → W p l e (headSpec v_X4_pairOf ({ frames := 0, cells := 0, slots := 0, locals := 0 })).room s m av below meth c H locs 0 0 QQ (F0 m 58 ls []) := by
          intro  H locs ls  hP hS hl
          obtain ⟨y58, e58⟩ : ∃ y : Int32, y = j2_l3 + 1 := ⟨_, rfl⟩
          have q58 : y58.toInt = j2_l3.toInt + 1 := by rw [e58]; exact ad_z rfl rfl r7a (ir_c 1) (by decide) (by decide)
          have r58 : ir y58.toInt 1 16 := ad_r q58 r7a (ir_c 1) (by decide) (by decide)
          refine lv_iinc (v := y58) (lv' := [(3, .int y58), (0, .ref ld), (1, .int p0), (2, .int p1)]) hx hb dX4_pairOf_58 hl (k := 3) rfl e58.symm (by decide) rfl (fun ls hl => ?_)
          refine lv_goto (tgt := 2) hx hb dX4_pairOf_61 (by decide) ?_
          exact ih2 y58 _ _ _ (by omega) (ir_w r58 (by decide) (by decide)) (hP.sub [0, 1] rfl) hS (lv_sub hl [1, 2, 3, 0] rfl)
        refine lv_icmp_ne (tgt := 58) hx hb dX4_pairOf_47 (by decide) (fun c47 => ?_) (fun c47 => ?_)
        · have f47 := (show y17.toInt ≠ p1.toInt from z_ne rfl rfl c47)
          exact J58  _ _ _  (hP.sub [0, 1] rfl) hS (lv_sub hl [0, 1, 2, 3] rfl)
        have f47 := (show y17.toInt = p1.toInt from z_eq rfl rfl c47)
        have r47b : ir p1.toInt 0 9 := ir_eqb f47 r17 (rg_all p1) (by decide) (by decide)
        refine lv_iload hx hb dX4_pairOf_50 (lv_at hl 5 rfl) ?_
        refine lv_iload_n hx hb dX4_pairOf_52 rfl (lv_at hl 1 rfl) ?_
        refine lv_icmp_ne (tgt := 58) hx hb dX4_pairOf_53 (by decide) (fun c53 => ?_) (fun c53 => ?_)
        · have f53 := (show y29.toInt ≠ p0.toInt from z_ne rfl rfl c53)
          exact J58  _ _ _  (hP.sub [0, 1] rfl) hS (lv_sub hl [0, 1, 2, 3] rfl)
        have f53 := (show y29.toInt = p0.toInt from z_eq rfl rfl c53)
        have r53b : ir p0.toInt 0 9 := ir_eqb f53 r29 (rg_all p0) (by decide) (by decide)
        refine lv_iload_n hx hb dX4_pairOf_56 rfl (lv_at hl 3 rfl) ?_
        subst hQ
        exact W.iret (v := j2_l3) hx hb hr (fun t ht hW => ⟨⟨j2_l3, (), rfl, (ir_w r7a (by decide) (by decide)), trivial⟩, hS.F ht⟩) hS.2.2 dX4_pairOf_57
      refine lv_icmp_ne (tgt := 44) hx hb dX4_pairOf_35 (by decide) (fun c35 => ?_) (fun c35 => ?_)
      · have f35 := (show y17.toInt ≠ p0.toInt from z_ne rfl rfl c35)
        exact J44  _ _ _  (hP.sub [0, 1] rfl) hS (lv_sub hl [2, 3, 4, 5, 1, 0] rfl)
      have f35 := (show y17.toInt = p0.toInt from z_eq rfl rfl c35)
      have r35b : ir p0.toInt 0 9 := ir_eqb f35 r17 (rg_all p0) (by decide) (by decide)
      refine lv_iload hx hb dX4_pairOf_38 (lv_at hl 0 rfl) ?_
      refine lv_iload_n hx hb dX4_pairOf_40 rfl (lv_at hl 4 rfl) ?_
      refine lv_icmp_eq (tgt := 56) hx hb dX4_pairOf_41 (by decide) (fun c41 => ?_) (fun c41 => ?_)
      rotate_left 1
      · have f41 := (show y29.toInt ≠ p1.toInt from z_ne rfl rfl c41)
        exact J44  _ _ _  (hP.sub [0, 1] rfl) hS (lv_sub hl [2, 3, 4, 5, 1, 0] rfl)
      have f41 := (show y29.toInt = p1.toInt from z_eq rfl rfl c41)
      have r41b : ir p1.toInt 0 9 := ir_eqb f41 r29 (rg_all p1) (by decide) (by decide)
      refine lv_iload_n hx hb dX4_pairOf_56 rfl (lv_at hl 5 rfl) ?_
      subst hQ
      exact W.iret (v := j2_l3) hx hb hr (fun t ht hW => ⟨⟨j2_l3, (), rfl, (ir_w r7a (by decide) (by decide)), trivial⟩, hS.F ht⟩) hS.2.2 dX4_pairOf_57
  exact J2 _ 0 _ _ _ (Nat.lt_succ_self _) (by decide) (hP.sub [0, 1] rfl) hS (lv_sub hl [1, 2, 3, 0] rfl)
def v_X4_ruleOfSide : List Cond := .code yX4_ruleOfSide cX4_ruleOfSide 4 (some .int) :: (([.fieldLink RX4 30 "CardsAtYule$Land" "who" "[I", .fieldLink RX4 9 "CardsAtYule$Land" "rule" "[I", .fieldLink RX4 15 "CardsAtYule$Land" "returns" "[I"] : List Cond) ++ (wsX40 ++ ([] : List Cond)))
theorem good_v_X4_ruleOfSide : v_X4_ruleOfSide.all goodWord = true := ga_c (by decide +kernel) (ga_a (by decide +kernel) (ga_a good_wsX40 rfl))
set_option maxHeartbeats 4000000 in
set_option maxRecDepth 100000 in
theorem q_X4_ruleOfSide (l : Launch) (g : va_G) (cI cJ cB cZ cL : ClassId) (p0 : Int32) (p1 : Int32) (ld : Nat) (ld_lines : Int32) (ld_years : Int32) (ld_card : Int32) (ld_hurt : Int32) (ld_people : Int32) (ld_pairs : Int32) (ld_strikes : Int64) (ld_rule : Nat) (ld_returns : Nat) (ld_forgets : Nat) (ld_death : Nat) (ld_move : Nat) (ld_begun : Nat) (ld_who : Nat) (ld_lost : Nat) (ld_who_c : Nat → Int32) (ld_rule_c : Nat → Int32) (ld_returns_c : Nat → Int32) (sz : Nat) (hv_p0 : ir p0.toInt 0 15) (hv_p1 : ir p1.toInt 0 1) (hv_ld_years : ir ld_years.toInt 0 40) (hv_ld_people : ir ld_people.toInt 0 10) (hv_ld_pairs : ir ld_pairs.toInt 0 16) (ha_ld_who_c : ar ld_who_c 32 0 9) : Met l yX4_ruleOfSide v_X4_ruleOfSide ({ frames := 0, cells := 0, slots := 0, locals := 0 }) (va_Pc [.ref ld, .int p0, .int p1] (pRO g (tyT cI cJ cB cZ cL) [(ld, .inr (4, [.int ld_lines, .int ld_years, .int ld_card, .int ld_hurt, .int ld_people, .int ld_pairs, .long ld_strikes, .ref ld_rule, .ref ld_returns, .ref ld_forgets, .ref ld_death, .ref ld_move, .ref ld_begun, .ref ld_who, .ref ld_lost])), (ld_who, .inl (cI, 32, .inl ld_who_c)), (ld_rule, .inl (cI, 10, .inl ld_rule_c)), (ld_returns, .inl (cI, 10, .inl ld_returns_c))] sz)) (va_Qi (fun (r : Int32) (u : Unit) => True) (fun (_ : Unit) (_ : State) => True) (va_A [] sz)) 0 0 (va_A [] sz) := by
  refine Met.ofW (cc := cX4_ruleOfSide) (maxL := 4) (ret := (some .int)) (by decide) rfl ?_
  intro p e s m args below meth c s₁ B hml hv
  obtain ⟨rfl, hsz, hP, hK⟩ := hv
  have hx := B.exec
  have hb := B.bytes
  have hr := B.returns
  have hts := atoms_spec (ws := v_X4_ruleOfSide) B.pre
  have hown : s.vm.findClass RX4 = some m.cls := findClass_of_methodNamed B.named
  have hlocks := B.notSynchronized
  clear B
  subst hsz
  have iX4 : ∀ w ∈ wsX40, w ∈ v_X4_ruleOfSide := (fun _ h => List.mem_cons_of_mem _ (List.mem_append_right _ (List.mem_append_left _ h)))
  generalize hAe : (va_A [] s.heap.size) = A
  have hA : ∀ q : Nat, s.heap.size ≤ q → A q := fun q h => by rw [← hAe]; exact Or.inr h
  have hS : va_S A s.heap s.heap [] := va_S.rf
  have hl := lv_entry ([.ref ld, .int p0, .int p1]) (n := 4) (Nat.le_of_ble_eq_true rfl)
  rw [lg_entry_eq]
  generalize (lg_sl ([.ref ld, .int p0, .int p1]) ++ List.replicate (4 - (lg_sl ([.ref ld, .int p0, .int p1])).length) Slot.unset).toArray = ls at hl ⊢
  generalize ([.ref ld, .int p0, .int p1] : List Value).toArray = av at hts ⊢
  generalize hQ : MQ below _ av s _ _ A = QQ
  have hl : lv_has ls 4 [(0, .ref ld), (1, .int p0), (2, .int p1)] := hl
  have hP : va_P g vwCl [(ld, .inr (4, [.int ld_lines, .int ld_years, .int ld_card, .int ld_hurt, .int ld_people, .int ld_pairs, .long ld_strikes, .ref ld_rule, .ref ld_returns, .ref ld_forgets, .ref ld_death, .ref ld_move, .ref ld_begun, .ref ld_who, .ref ld_lost])), (ld_who, .inl (cI, 32, .inl ld_who_c)), (ld_rule, .inl (cI, 10, .inl ld_rule_c)), (ld_returns, .inl (cI, 10, .inl ld_returns_c))] s.heap := hP
  refine lv_aload_n hx hb dX4_ruleOfSide_0 rfl (lv_at hl 0 rfl) ?_
  refine va_get (D := g) (ci := 4) (v := .ref ld_who) (C := RX4) (T := TX4) (N := 15) hx hb hts iX4 hown hK hP 0 rfl rfl 13 (by decide) (hts (.fieldLink RX4 30 "CardsAtYule$Land" "who" "[I") (List.mem_cons_of_mem _ (List.mem_append_left _ (List.mem_of_getElem? (i := 0) rfl)))) (fun _ h9 => h9) rfl dX4_ruleOfSide_1 ?_
  refine lv_iconst (v := 2) hx hb dX4_ruleOfSide_4 (by decide) ?_
  refine lv_iload_n hx hb dX4_ruleOfSide_5 rfl (lv_at hl 1 rfl) ?_
  refine lv_imul hx hb dX4_ruleOfSide_6 ?_
  refine lv_topi (fun y6 e6 => ?_)
  have q6 : y6.toInt = 2 * p0.toInt := by rw [e6]; exact mu_z rfl rfl (ir_c 2) hv_p0 (by decide) (by decide) (by decide)
  have r6 : ir y6.toInt 0 30 := mu_r q6 (ir_c 2) hv_p0 (by decide) (by decide) (by decide) (by decide)
  refine lv_iload_n hx hb dX4_ruleOfSide_7 rfl (lv_at hl 2 rfl) ?_
  refine lv_iadd hx hb dX4_ruleOfSide_8 ?_
  refine lv_topi (fun y8 e8 => ?_)
  have q8 : y8.toInt = y6.toInt + p1.toInt := by rw [e8]; exact ad_z rfl rfl r6 hv_p1 (by decide) (by decide)
  have r8 : ir y8.toInt 0 31 := ad_r q8 r6 hv_p1 (by decide) (by decide)
  refine va_iald (D := g) hx hb hK hP 1 0 rfl rfl (vi_rg rfl r8 (by decide) (by decide)) dX4_ruleOfSide_9 ?_
  refine lv_topi (fun y9 e9 => ?_)
  have r9 : ir y9.toInt 0 9 := by rw [e9]; exact ha_ld_who_c _ (vi_cl (vi_rg rfl r8 (by decide) (by decide)))
  refine lv_istore_n (lv' := [(3, .int y9), (0, .ref ld), (1, .int p0), (2, .int p1)]) hx hb dX4_ruleOfSide_10 rfl hl (by decide) rfl (fun ls hl => ?_)
  refine lv_aload_n hx hb dX4_ruleOfSide_11 rfl (lv_at hl 1 rfl) ?_
  refine va_get (D := g) (ci := 4) (v := .ref ld_rule) (C := RX4) (T := TX4) (N := 15) hx hb hts iX4 hown hK hP 0 rfl rfl 7 (by decide) (hts (.fieldLink RX4 9 "CardsAtYule$Land" "rule" "[I") (List.mem_cons_of_mem _ (List.mem_append_left _ (List.mem_of_getElem? (i := 1) rfl)))) (fun _ h9 => h9) rfl dX4_ruleOfSide_12 ?_
  refine lv_iload_n hx hb dX4_ruleOfSide_15 rfl (lv_at hl 0 rfl) ?_
  refine va_iald (D := g) hx hb hK hP 2 0 rfl rfl (vi_rg rfl r9 (by decide) (by decide)) dX4_ruleOfSide_16 ?_
  refine lv_topi (fun y16 e16 => ?_)
  refine lv_bipush (v := 16) hx hb dX4_ruleOfSide_17 (by decide) ?_
  refine lv_aload_n hx hb dX4_ruleOfSide_19 rfl (lv_at hl 1 rfl) ?_
  refine va_get (D := g) (ci := 4) (v := .ref ld_returns) (C := RX4) (T := TX4) (N := 15) hx hb hts iX4 hown hK hP 0 rfl rfl 8 (by decide) (hts (.fieldLink RX4 15 "CardsAtYule$Land" "returns" "[I") (List.mem_cons_of_mem _ (List.mem_append_left _ (List.mem_of_getElem? (i := 2) rfl)))) (fun _ h9 => h9) rfl dX4_ruleOfSide_20 ?_
  refine lv_iload_n hx hb dX4_ruleOfSide_23 rfl (lv_at hl 0 rfl) ?_
  refine va_iald (D := g) hx hb hK hP 3 0 rfl rfl (vi_rg rfl r9 (by decide) (by decide)) dX4_ruleOfSide_24 ?_
  refine lv_topi (fun y24 e24 => ?_)
  refine lv_imul hx hb dX4_ruleOfSide_25 ?_
  refine lv_topi (fun y25 e25 => ?_)
  refine lv_iadd hx hb dX4_ruleOfSide_26 ?_
  refine lv_topi (fun y26 e26 => ?_)
  subst hQ
  exact W.iret (v := y26) hx hb hr (fun t ht hW => ⟨⟨y26, (), rfl, trivial, trivial⟩, hS.F ht⟩) hS.2.2 dX4_ruleOfSide_27
def v_X4_lostCards : List Cond := .code yX4_lostCards cX4_lostCards 3 (some .int) :: (([.fieldLink RX4 53 "CardsAtYule$Land" "pairs" "I", .fieldLink RX4 33 "CardsAtYule$Land" "lost" "[J", .methodLink RX4 72 yJ13_bitCount_95d88, .static yJ13_bitCount_95d88, .initialized RJ13] : List Cond) ++ (v_J13_bitCount_95d88 ++ (wsX40 ++ ([] : List Cond))))
theorem good_v_X4_lostCards : v_X4_lostCards.all goodWord = true := ga_c (by decide +kernel) (ga_a (by decide +kernel) (ga_a good_v_J13_bitCount_95d88 (ga_a good_wsX40 rfl)))
set_option maxHeartbeats 4000000 in
set_option maxRecDepth 100000 in
theorem q_X4_lostCards (l : Launch) (g : va_G) (cI cJ cB cZ cL : ClassId) (ld : Nat) (ld_lines : Int32) (ld_years : Int32) (ld_card : Int32) (ld_hurt : Int32) (ld_people : Int32) (ld_pairs : Int32) (ld_strikes : Int64) (ld_rule : Nat) (ld_returns : Nat) (ld_forgets : Nat) (ld_death : Nat) (ld_move : Nat) (ld_begun : Nat) (ld_who : Nat) (ld_lost : Nat) (ld_lost_c : Nat → Int64) (sz : Nat) (hv_ld_years : ir ld_years.toInt 0 40) (hv_ld_people : ir ld_people.toInt 0 10) (hv_ld_pairs : ir ld_pairs.toInt 0 16) : Met l yX4_lostCards v_X4_lostCards ({ frames := 1, cells := 0, slots := 0, locals := 21 }) (va_Pc [.ref ld] (pRO g (tyT cI cJ cB cZ cL) [(ld, .inr (4, [.int ld_lines, .int ld_years, .int ld_card, .int ld_hurt, .int ld_people, .int ld_pairs, .long ld_strikes, .ref ld_rule, .ref ld_returns, .ref ld_forgets, .ref ld_death, .ref ld_move, .ref ld_begun, .ref ld_who, .ref ld_lost])), (ld_lost, .inl (cJ, 32, .inr (.inl ld_lost_c)))] sz)) (va_Qi (fun (r : Int32) (u : Unit) => True) (fun (_ : Unit) (_ : State) => True) (va_A [] sz)) 0 0 (va_A [] sz) := by
  refine Met.ofW (cc := cX4_lostCards) (maxL := 3) (ret := (some .int)) (by decide) rfl ?_
  intro p e s m args below meth c s₁ B hml hv
  obtain ⟨rfl, hsz, hP, hK⟩ := hv
  have hx := B.exec
  have hb := B.bytes
  have hr := B.returns
  have hts := atoms_spec (ws := v_X4_lostCards) B.pre
  have hown : s.vm.findClass RX4 = some m.cls := findClass_of_methodNamed B.named
  have hlocks := B.notSynchronized
  clear B
  subst hsz
  have iX4 : ∀ w ∈ wsX40, w ∈ v_X4_lostCards := (fun _ h => List.mem_cons_of_mem _ (List.mem_append_right _ (List.mem_append_right _ (List.mem_append_left _ h))))
  generalize hAe : (va_A [] s.heap.size) = A
  have hA : ∀ q : Nat, s.heap.size ≤ q → A q := fun q h => by rw [← hAe]; exact Or.inr h
  have hS : va_S A s.heap s.heap [] := va_S.rf
  have hl := lv_entry ([.ref ld]) (n := 3) (Nat.le_of_ble_eq_true rfl)
  rw [lg_entry_eq]
  generalize (lg_sl ([.ref ld]) ++ List.replicate (3 - (lg_sl ([.ref ld])).length) Slot.unset).toArray = ls at hl ⊢
  generalize ([.ref ld] : List Value).toArray = av at hts ⊢
  generalize hQ : MQ below _ av s _ _ A = QQ
  have hl : lv_has ls 3 [(0, .ref ld)] := hl
  have hP : va_P g vwCl [(ld, .inr (4, [.int ld_lines, .int ld_years, .int ld_card, .int ld_hurt, .int ld_people, .int ld_pairs, .long ld_strikes, .ref ld_rule, .ref ld_returns, .ref ld_forgets, .ref ld_death, .ref ld_move, .ref ld_begun, .ref ld_who, .ref ld_lost])), (ld_lost, .inl (cJ, 32, .inr (.inl ld_lost_c)))] s.heap := hP
  refine lv_iconst (v := 0) hx hb dX4_lostCards_0 (by decide) ?_
  refine lv_istore_n (lv' := [(1, .int 0), (0, .ref ld)]) hx hb dX4_lostCards_1 rfl hl (by decide) rfl (fun ls hl => ?_)
  refine lv_iconst (v := 0) hx hb dX4_lostCards_2 (by decide) ?_
  refine lv_istore_n (lv' := [(2, .int 0), (1, .int 0), (0, .ref ld)]) hx hb dX4_lostCards_3 rfl hl (by decide) rfl (fun ls hl => ?_)
  have J4 : ∀ (n4 : Nat) (j4_l1 : Int32) (j4_l2 : Int32) (H : Heap) (locs : List Loc) (ls : Array Slot), (33 - j4_l2.toInt).toNat < n4 → (ir j4_l2.toInt 0 32) → va_P g vwCl [(ld, .inr (4, [.int ld_lines, .int ld_years, .int ld_card, .int ld_hurt, .int ld_people, .int ld_pairs, .long ld_strikes, .ref ld_rule, .ref ld_returns, .ref ld_forgets, .ref ld_death, .ref ld_move, .ref ld_begun, .ref ld_who, .ref ld_lost])), (ld_lost, .inl (cJ, 32, .inr (.inl ld_lost_c)))] H → va_S A s.heap H locs → lv_has ls 3 [(0, .ref ld), (1, .int j4_l1), (2, .int j4_l2)] → W p l e (headSpec v_X4_lostCards ({ frames := 1, cells := 0, slots := 0, locals := 21 })).room s m av below meth c H locs 0 0 QQ (F0 m 4 ls []) := by
    intro n4
    induction n4 with
    | zero => exact fun j4_l1 j4_l2 H locs ls hn => absurd hn (Nat.not_lt_zero _)
    | succ n4 ih4 =>
      intro j4_l1 j4_l2 H locs ls hn4 hj4_l2 hP hS hl
      refine lv_iload_n hx hb dX4_lostCards_4 rfl (lv_at hl 2 rfl) ?_
      refine lv_iconst (v := 2) hx hb dX4_lostCards_5 (by decide) ?_
      refine lv_aload_n hx hb dX4_lostCards_6 rfl (lv_at hl 0 rfl) ?_
      refine va_get (D := g) (ci := 4) (v := .int ld_pairs) (C := RX4) (T := TX4) (N := 15) hx hb hts iX4 hown hK hP 0 rfl rfl 5 (by decide) (hts (.fieldLink RX4 53 "CardsAtYule$Land" "pairs" "I") (List.mem_cons_of_mem _ (List.mem_append_left _ (List.mem_of_getElem? (i := 0) rfl)))) (fun _ h9 => h9) rfl dX4_lostCards_7 ?_
      refine lv_imul hx hb dX4_lostCards_10 ?_
      refine lv_topi (fun y10 e10 => ?_)
      have q10 : y10.toInt = 2 * ld_pairs.toInt := by rw [e10]; exact mu_z rfl rfl (ir_c 2) hv_ld_pairs (by decide) (by decide) (by decide)
      have r10 : ir y10.toInt 0 32 := mu_r q10 (ir_c 2) hv_ld_pairs (by decide) (by decide) (by decide) (by decide)
      refine lv_icmp_ge (tgt := 32) hx hb dX4_lostCards_11 (by decide) (fun c11 => ?_) (fun c11 => ?_)
      · have f11 := (show y10.toInt ≤ j4_l2.toInt from z_le rfl rfl c11)
        refine lv_iload_n hx hb dX4_lostCards_32 rfl (lv_at hl 1 rfl) ?_
        subst hQ
        exact W.iret (v := j4_l1) hx hb hr (fun t ht hW => ⟨⟨j4_l1, (), rfl, trivial, trivial⟩, hS.F ht⟩) hS.2.2 dX4_lostCards_33
      have f11 := (show j4_l2.toInt < y10.toInt from z_nle rfl rfl c11)
      have r11a : ir j4_l2.toInt 0 31 := ir_lta f11 hj4_l2 r10 (by decide)
      have r11b : ir y10.toInt 1 32 := ir_ltb f11 hj4_l2 r10 (by decide)
      refine lv_iload_n hx hb dX4_lostCards_14 rfl (lv_at hl 1 rfl) ?_
      refine lv_aload_n hx hb dX4_lostCards_15 rfl (lv_at hl 0 rfl) ?_
      refine va_get (D := g) (ci := 4) (v := .ref ld_lost) (C := RX4) (T := TX4) (N := 15) hx hb hts iX4 hown hK hP 0 rfl rfl 14 (by decide) (hts (.fieldLink RX4 33 "CardsAtYule$Land" "lost" "[J") (List.mem_cons_of_mem _ (List.mem_append_left _ (List.mem_of_getElem? (i := 1) rfl)))) (fun _ h9 => h9) rfl dX4_lostCards_16 ?_
      refine lv_iload_n hx hb dX4_lostCards_19 rfl (lv_at hl 2 rfl) ?_
      refine va_lald (D := g) hx hb hK hP 1 1 rfl rfl (vi_rg rfl r11a (by decide) (by decide)) dX4_lostCards_20 ?_
      refine lv_topl (fun y20 e20 => ?_)
      refine ro_i (va_runS (As := [.long y20]) (rest := [.int j4_l1]) ⟨hx, hb, hml, hown, hts⟩ (q_J13_bitCount_95d88 l g cI cJ cB cZ cL y20 H.size ) (va_cwS 1 hts (goodIn_app (g_3 (List.mem_cons_of_mem _ (List.mem_append_left _ (List.mem_of_getElem? (i := 2) rfl))) (List.mem_cons_of_mem _ (List.mem_append_left _ (List.mem_of_getElem? (i := 3) rfl))) (List.mem_cons_of_mem _ (List.mem_append_left _ (List.mem_of_getElem? (i := 4) rfl))) (by decide +kernel)) (goodIn_sub (fun _ h => List.mem_cons_of_mem _ (List.mem_append_right _ (List.mem_append_left _ h))) good_v_J13_bitCount_95d88)) rfl rfl rfl (by decide +kernel) ⟨Nat.le_of_ble_eq_true rfl, Nat.le_of_ble_eq_true rfl⟩) (ps_RO (wc := []) hK hP [] rfl) rfl rfl hl.1 rfl (lv_room (Nat.le_of_ble_eq_true rfl)) dX4_lostCards_21 ⟨Nat.le_of_ble_eq_true rfl, Nat.le_of_ble_eq_true rfl⟩) hS hA hP (fun r21 u21 H locs hw21 hP hS => ?_)
      have hw21_0 := hw21
      refine lv_iadd hx hb dX4_lostCards_24 ?_
      refine lv_topi (fun y24 e24 => ?_)
      refine lv_istore_n (lv' := [(1, .int y24), (0, .ref ld), (2, .int j4_l2)]) hx hb dX4_lostCards_25 rfl hl (by decide) rfl (fun ls hl => ?_)
      obtain ⟨y26, e26⟩ : ∃ y : Int32, y = j4_l2 + 1 := ⟨_, rfl⟩
      have q26 : y26.toInt = j4_l2.toInt + 1 := by rw [e26]; exact ad_z rfl rfl r11a (ir_c 1) (by decide) (by decide)
      have r26 : ir y26.toInt 1 32 := ad_r q26 r11a (ir_c 1) (by decide) (by decide)
      refine lv_iinc (v := y26) (lv' := [(2, .int y26), (1, .int y24), (0, .ref ld)]) hx hb dX4_lostCards_26 hl (k := 2) rfl e26.symm (by decide) rfl (fun ls hl => ?_)
      refine lv_goto (tgt := 4) hx hb dX4_lostCards_29 (by decide) ?_
      exact ih4 y24 y26 _ _ _ (by omega) (ir_w r26 (by decide) (by decide)) (hP.sub [0, 1] rfl) hS (lv_sub hl [2, 1, 0] rfl)
  exact J4 _ 0 0 _ _ _ (Nat.lt_succ_self _) (by decide) (hP.sub [0, 1] rfl) hS (lv_sub hl [2, 1, 0] rfl)
def v_X4_livingYears : List Cond := .code yX4_livingYears cX4_livingYears 2 (some .long) :: (([.fieldLink RX4 21 "CardsAtYule$Land" "death" "[I", .fieldLink RX4 41 "CardsAtYule$Land" "years" "I"] : List Cond) ++ (wsX40 ++ ([] : List Cond)))
theorem good_v_X4_livingYears : v_X4_livingYears.all goodWord = true := ga_c (by decide +kernel) (ga_a (by decide +kernel) (ga_a good_wsX40 rfl))
set_option maxHeartbeats 4000000 in
set_option maxRecDepth 100000 in
theorem q_X4_livingYears (l : Launch) (g : va_G) (cI cJ cB cZ cL : ClassId) (p0 : Int32) (ld : Nat) (ld_lines : Int32) (ld_years : Int32) (ld_card : Int32) (ld_hurt : Int32) (ld_people : Int32) (ld_pairs : Int32) (ld_strikes : Int64) (ld_rule : Nat) (ld_returns : Nat) (ld_forgets : Nat) (ld_death : Nat) (ld_move : Nat) (ld_begun : Nat) (ld_who : Nat) (ld_lost : Nat) (ld_death_c : Nat → Int32) (sz : Nat) (hv_p0 : ir p0.toInt 0 9) (hv_ld_years : ir ld_years.toInt 0 40) (hv_ld_people : ir ld_people.toInt 0 10) (hv_ld_pairs : ir ld_pairs.toInt 0 16) : Met l yX4_livingYears v_X4_livingYears ({ frames := 0, cells := 0, slots := 0, locals := 0 }) (va_Pc [.ref ld, .int p0] (pRO g (tyT cI cJ cB cZ cL) [(ld, .inr (4, [.int ld_lines, .int ld_years, .int ld_card, .int ld_hurt, .int ld_people, .int ld_pairs, .long ld_strikes, .ref ld_rule, .ref ld_returns, .ref ld_forgets, .ref ld_death, .ref ld_move, .ref ld_begun, .ref ld_who, .ref ld_lost])), (ld_death, .inl (cI, 10, .inl ld_death_c))] sz)) (va_Ql (fun (r : Int64) (u : Unit) => True) (fun (_ : Unit) (_ : State) => True) (va_A [] sz)) 0 0 (va_A [] sz) := by
  refine Met.ofW (cc := cX4_livingYears) (maxL := 2) (ret := (some .long)) (by decide) rfl ?_
  intro p e s m args below meth c s₁ B hml hv
  obtain ⟨rfl, hsz, hP, hK⟩ := hv
  have hx := B.exec
  have hb := B.bytes
  have hr := B.returns
  have hts := atoms_spec (ws := v_X4_livingYears) B.pre
  have hown : s.vm.findClass RX4 = some m.cls := findClass_of_methodNamed B.named
  have hlocks := B.notSynchronized
  clear B
  subst hsz
  have iX4 : ∀ w ∈ wsX40, w ∈ v_X4_livingYears := (fun _ h => List.mem_cons_of_mem _ (List.mem_append_right _ (List.mem_append_left _ h)))
  generalize hAe : (va_A [] s.heap.size) = A
  have hA : ∀ q : Nat, s.heap.size ≤ q → A q := fun q h => by rw [← hAe]; exact Or.inr h
  have hS : va_S A s.heap s.heap [] := va_S.rf
  have hl := lv_entry ([.ref ld, .int p0]) (n := 2) (Nat.le_of_ble_eq_true rfl)
  rw [lg_entry_eq]
  generalize (lg_sl ([.ref ld, .int p0]) ++ List.replicate (2 - (lg_sl ([.ref ld, .int p0])).length) Slot.unset).toArray = ls at hl ⊢
  generalize ([.ref ld, .int p0] : List Value).toArray = av at hts ⊢
  generalize hQ : MQ below _ av s _ _ A = QQ
  have hl : lv_has ls 2 [(0, .ref ld), (1, .int p0)] := hl
  have hP : va_P g vwCl [(ld, .inr (4, [.int ld_lines, .int ld_years, .int ld_card, .int ld_hurt, .int ld_people, .int ld_pairs, .long ld_strikes, .ref ld_rule, .ref ld_returns, .ref ld_forgets, .ref ld_death, .ref ld_move, .ref ld_begun, .ref ld_who, .ref ld_lost])), (ld_death, .inl (cI, 10, .inl ld_death_c))] s.heap := hP
  refine lv_lconst (v := 1) hx hb dX4_livingYears_0 (by decide) ?_
  refine lv_aload_n hx hb dX4_livingYears_1 rfl (lv_at hl 0 rfl) ?_
  refine va_get (D := g) (ci := 4) (v := .ref ld_death) (C := RX4) (T := TX4) (N := 15) hx hb hts iX4 hown hK hP 0 rfl rfl 10 (by decide) (hts (.fieldLink RX4 21 "CardsAtYule$Land" "death" "[I") (List.mem_cons_of_mem _ (List.mem_append_left _ (List.mem_of_getElem? (i := 0) rfl)))) (fun _ h9 => h9) rfl dX4_livingYears_2 ?_
  refine lv_iload_n hx hb dX4_livingYears_5 rfl (lv_at hl 1 rfl) ?_
  refine va_iald (D := g) hx hb hK hP 1 0 rfl rfl (vi_rg rfl hv_p0 (by decide) (by decide)) dX4_livingYears_6 ?_
  refine lv_topi (fun y6 e6 => ?_)
  refine lv_iconst (v := (-1)) hx hb dX4_livingYears_7 (by decide) ?_
  refine lv_icmp_ne (tgt := 18) hx hb dX4_livingYears_8 (by decide) (fun c8 => ?_) (fun c8 => ?_)
  rotate_left 1
  · have f8 := (show y6.toInt = (-1) from z_eq rfl rfl c8)
    have r8a : ir y6.toInt (-1) (-1) := ir_eqa f8 (rg_all y6) (ir_c (-1)) (by decide) (by decide)
    refine lv_aload_n hx hb dX4_livingYears_11 rfl (lv_at hl 0 rfl) ?_
    refine va_get (D := g) (ci := 4) (v := .int ld_years) (C := RX4) (T := TX4) (N := 15) hx hb hts iX4 hown hK hP 0 rfl rfl 1 (by decide) (hts (.fieldLink RX4 41 "CardsAtYule$Land" "years" "I") (List.mem_cons_of_mem _ (List.mem_append_left _ (List.mem_of_getElem? (i := 1) rfl)))) (fun _ h9 => h9) rfl dX4_livingYears_12 ?_
    refine lv_goto (tgt := 24) hx hb dX4_livingYears_15 (by decide) ?_
    refine lv_lshl (v := (1 <<< (ld_years.toInt64 &&& 63))) hx hb dX4_livingYears_24 rfl ?_
    refine lv_topl (fun y24 e24 => ?_)
    refine lv_lconst (v := 1) hx hb dX4_livingYears_25 (by decide) ?_
    refine lv_lsub hx hb dX4_livingYears_26 ?_
    refine lv_topl (fun y26 e26 => ?_)
    subst hQ
    exact W.lret (v := y26) hx hb hr (fun t ht hW => ⟨⟨y26, (), rfl, trivial, trivial⟩, hS.F ht⟩) hS.2.2 dX4_livingYears_27
  have f8 := (show y6.toInt ≠ (-1) from z_ne rfl rfl c8)
  refine lv_aload_n hx hb dX4_livingYears_18 rfl (lv_at hl 0 rfl) ?_
  refine va_get (D := g) (ci := 4) (v := .ref ld_death) (C := RX4) (T := TX4) (N := 15) hx hb hts iX4 hown hK hP 0 rfl rfl 10 (by decide) (hts (.fieldLink RX4 21 "CardsAtYule$Land" "death" "[I") (List.mem_cons_of_mem _ (List.mem_append_left _ (List.mem_of_getElem? (i := 0) rfl)))) (fun _ h9 => h9) rfl dX4_livingYears_19 ?_
  refine lv_iload_n hx hb dX4_livingYears_22 rfl (lv_at hl 1 rfl) ?_
  refine va_iald (D := g) hx hb hK hP 1 0 rfl rfl (vi_rg rfl hv_p0 (by decide) (by decide)) dX4_livingYears_23 ?_
  refine lv_topi (fun y23 e23 => ?_)
  refine lv_lshl (v := (1 <<< (y23.toInt64 &&& 63))) hx hb dX4_livingYears_24 rfl ?_
  refine lv_topl (fun y24 e24 => ?_)
  refine lv_lconst (v := 1) hx hb dX4_livingYears_25 (by decide) ?_
  refine lv_lsub hx hb dX4_livingYears_26 ?_
  refine lv_topl (fun y26 e26 => ?_)
  subst hQ
  exact W.lret (v := y26) hx hb hr (fun t ht hW => ⟨⟨y26, (), rfl, trivial, trivial⟩, hS.F ht⟩) hS.2.2 dX4_livingYears_27
def v_X4_reachOf : List Cond := .code yX4_reachOf cX4_reachOf 6 (some .long) :: (([.fieldLink RX4 30 "CardsAtYule$Land" "who" "[I", .fieldLink RX4 24 "CardsAtYule$Land" "move" "[I", .methodLink RX4 78 yX4_livingYears, .instanceMethod yX4_livingYears, .selects RX4 yX4_livingYears yX4_livingYears, .initialized RX4, .constantLong RX4 82 (-1), .fieldLink RX4 56 "CardsAtYule$Land" "strikes" "J", .fieldLink RX4 33 "CardsAtYule$Land" "lost" "[J"] : List Cond) ++ (v_X4_livingYears ++ (wsX40 ++ ([] : List Cond))))
theorem good_v_X4_reachOf : v_X4_reachOf.all goodWord = true := ga_c (by decide +kernel) (ga_a (by decide +kernel) (ga_a good_v_X4_livingYears (ga_a good_wsX40 rfl)))
set_option maxHeartbeats 4000000 in
set_option maxRecDepth 100000 in
theorem q_X4_reachOf (l : Launch) (g : va_G) (cI cJ cB cZ cL : ClassId) (p0 : Int32) (p1 : Int32) (ld : Nat) (ld_lines : Int32) (ld_years : Int32) (ld_card : Int32) (ld_hurt : Int32) (ld_people : Int32) (ld_pairs : Int32) (ld_strikes : Int64) (ld_rule : Nat) (ld_returns : Nat) (ld_forgets : Nat) (ld_death : Nat) (ld_move : Nat) (ld_begun : Nat) (ld_who : Nat) (ld_lost : Nat) (ld_who_c : Nat → Int32) (ld_move_c : Nat → Int32) (ld_death_c : Nat → Int32) (ld_lost_c : Nat → Int64) (sz : Nat) (hv_p0 : ir p0.toInt 0 15) (hv_p1 : ir p1.toInt 0 1) (hv_ld_years : ir ld_years.toInt 0 40) (hv_ld_people : ir ld_people.toInt 0 10) (hv_ld_pairs : ir ld_pairs.toInt 0 16) (ha_ld_who_c : ar ld_who_c 32 0 9) : Met l yX4_reachOf v_X4_reachOf ({ frames := 1, cells := 0, slots := 0, locals := 21 }) (va_Pc [.ref ld, .int p0, .int p1] (pRO g (tyT cI cJ cB cZ cL) [(ld, .inr (4, [.int ld_lines, .int ld_years, .int ld_card, .int ld_hurt, .int ld_people, .int ld_pairs, .long ld_strikes, .ref ld_rule, .ref ld_returns, .ref ld_forgets, .ref ld_death, .ref ld_move, .ref ld_begun, .ref ld_who, .ref ld_lost])), (ld_who, .inl (cI, 32, .inl ld_who_c)), (ld_move, .inl (cI, 10, .inl ld_move_c)), (ld_death, .inl (cI, 10, .inl ld_death_c)), (ld_lost, .inl (cJ, 32, .inr (.inl ld_lost_c)))] sz)) (va_Ql (fun (r : Int64) (u : Unit) => True) (fun (_ : Unit) (_ : State) => True) (va_A [] sz)) 0 0 (va_A [] sz) := by
  refine Met.ofW (cc := cX4_reachOf) (maxL := 6) (ret := (some .long)) (by decide) rfl ?_
  intro p e s m args below meth c s₁ B hml hv
  obtain ⟨rfl, hsz, hP, hK⟩ := hv
  have hx := B.exec
  have hb := B.bytes
  have hr := B.returns
  have hts := atoms_spec (ws := v_X4_reachOf) B.pre
  have hown : s.vm.findClass RX4 = some m.cls := findClass_of_methodNamed B.named
  have hlocks := B.notSynchronized
  clear B
  subst hsz
  have iX4 : ∀ w ∈ wsX40, w ∈ v_X4_reachOf := (fun _ h => List.mem_cons_of_mem _ (List.mem_append_right _ (List.mem_append_right _ (List.mem_append_left _ h))))
  generalize hAe : (va_A [] s.heap.size) = A
  have hA : ∀ q : Nat, s.heap.size ≤ q → A q := fun q h => by rw [← hAe]; exact Or.inr h
  have hS : va_S A s.heap s.heap [] := va_S.rf
  have hl := lv_entry ([.ref ld, .int p0, .int p1]) (n := 6) (Nat.le_of_ble_eq_true rfl)
  rw [lg_entry_eq]
  generalize (lg_sl ([.ref ld, .int p0, .int p1]) ++ List.replicate (6 - (lg_sl ([.ref ld, .int p0, .int p1])).length) Slot.unset).toArray = ls at hl ⊢
  generalize ([.ref ld, .int p0, .int p1] : List Value).toArray = av at hts ⊢
  generalize hQ : MQ below _ av s _ _ A = QQ
  have hl : lv_has ls 6 [(0, .ref ld), (1, .int p0), (2, .int p1)] := hl
  have hP : va_P g vwCl [(ld, .inr (4, [.int ld_lines, .int ld_years, .int ld_card, .int ld_hurt, .int ld_people, .int ld_pairs, .long ld_strikes, .ref ld_rule, .ref ld_returns, .ref ld_forgets, .ref ld_death, .ref ld_move, .ref ld_begun, .ref ld_who, .ref ld_lost])), (ld_who, .inl (cI, 32, .inl ld_who_c)), (ld_move, .inl (cI, 10, .inl ld_move_c)), (ld_death, .inl (cI, 10, .inl ld_death_c)), (ld_lost, .inl (cJ, 32, .inr (.inl ld_lost_c)))] s.heap := hP
  refine lv_aload_n hx hb dX4_reachOf_0 rfl (lv_at hl 0 rfl) ?_
  refine va_get (D := g) (ci := 4) (v := .ref ld_who) (C := RX4) (T := TX4) (N := 15) hx hb hts iX4 hown hK hP 0 rfl rfl 13 (by decide) (hts (.fieldLink RX4 30 "CardsAtYule$Land" "who" "[I") (List.mem_cons_of_mem _ (List.mem_append_left _ (List.mem_of_getElem? (i := 0) rfl)))) (fun _ h9 => h9) rfl dX4_reachOf_1 ?_
  refine lv_iconst (v := 2) hx hb dX4_reachOf_4 (by decide) ?_
  refine lv_iload_n hx hb dX4_reachOf_5 rfl (lv_at hl 1 rfl) ?_
  refine lv_imul hx hb dX4_reachOf_6 ?_
  refine lv_topi (fun y6 e6 => ?_)
  have q6 : y6.toInt = 2 * p0.toInt := by rw [e6]; exact mu_z rfl rfl (ir_c 2) hv_p0 (by decide) (by decide) (by decide)
  have r6 : ir y6.toInt 0 30 := mu_r q6 (ir_c 2) hv_p0 (by decide) (by decide) (by decide) (by decide)
  refine lv_iconst (v := 1) hx hb dX4_reachOf_7 (by decide) ?_
  refine lv_iadd hx hb dX4_reachOf_8 ?_
  refine lv_topi (fun y8 e8 => ?_)
  have q8 : y8.toInt = y6.toInt + 1 := by rw [e8]; exact ad_z rfl rfl r6 (ir_c 1) (by decide) (by decide)
  have r8 : ir y8.toInt 1 31 := ad_r q8 r6 (ir_c 1) (by decide) (by decide)
  refine lv_iload_n hx hb dX4_reachOf_9 rfl (lv_at hl 2 rfl) ?_
  refine lv_isub hx hb dX4_reachOf_10 ?_
  refine lv_topi (fun y10 e10 => ?_)
  have q10 : y10.toInt = y8.toInt - p1.toInt := by rw [e10]; exact su_z rfl rfl r8 hv_p1 (by decide) (by decide)
  have r10 : ir y10.toInt 0 31 := su_r q10 r8 hv_p1 (by decide) (by decide)
  refine va_iald (D := g) hx hb hK hP 1 0 rfl rfl (vi_rg rfl r10 (by decide) (by decide)) dX4_reachOf_11 ?_
  refine lv_topi (fun y11 e11 => ?_)
  have r11 : ir y11.toInt 0 9 := by rw [e11]; exact ha_ld_who_c _ (vi_cl (vi_rg rfl r10 (by decide) (by decide)))
  refine lv_istore_n (lv' := [(3, .int y11), (0, .ref ld), (1, .int p0), (2, .int p1)]) hx hb dX4_reachOf_12 rfl hl (by decide) rfl (fun ls hl => ?_)
  refine lv_aload_n hx hb dX4_reachOf_13 rfl (lv_at hl 1 rfl) ?_
  refine va_get (D := g) (ci := 4) (v := .ref ld_move) (C := RX4) (T := TX4) (N := 15) hx hb hts iX4 hown hK hP 0 rfl rfl 11 (by decide) (hts (.fieldLink RX4 24 "CardsAtYule$Land" "move" "[I") (List.mem_cons_of_mem _ (List.mem_append_left _ (List.mem_of_getElem? (i := 1) rfl)))) (fun _ h9 => h9) rfl dX4_reachOf_14 ?_
  refine lv_iload_n hx hb dX4_reachOf_17 rfl (lv_at hl 0 rfl) ?_
  refine va_iald (D := g) hx hb hK hP 2 0 rfl rfl (vi_rg rfl r11 (by decide) (by decide)) dX4_reachOf_18 ?_
  refine lv_topi (fun y18 e18 => ?_)
  refine lv_iconst (v := (-1)) hx hb dX4_reachOf_19 (by decide) ?_
  have J35 : ∀ (j35_s0 : Int64) (H : Heap) (locs : List Loc) (ls : Array Slot), va_P g vwCl [(ld, .inr (4, [.int ld_lines, .int ld_years, .int ld_card, .int ld_hurt, .int ld_people, .int ld_pairs, .long ld_strikes, .ref ld_rule, .ref ld_returns, .ref ld_forgets, .ref ld_death, .ref ld_move, .ref ld_begun, .ref ld_who, .ref ld_lost])), (ld_who, .inl (cI, 32, .inl ld_who_c)), (ld_move, .inl (cI, 10, .inl ld_move_c)), (ld_death, .inl (cI, 10, .inl ld_death_c)), (ld_lost, .inl (cJ, 32, .inr (.inl ld_lost_c)))] H → va_S A s.heap H locs → lv_has ls 6 [(0, .ref ld), (1, .int p0), (2, .int p1), (3, .int y11)] → W p l e (headSpec v_X4_reachOf ({ frames := 1, cells := 0, slots := 0, locals := 21 })).room s m av below meth c H locs 0 0 QQ (F0 m 35 ls [.long j35_s0]) := by
    intro j35_s0 H locs ls  hP hS hl
    refine lv_lstore (lv' := [(4, .long j35_s0), (0, .ref ld), (1, .int p0), (2, .int p1), (3, .int y11)]) hx hb dX4_reachOf_35 hl (by decide) rfl (fun ls hl => ?_)
    refine lv_aload_n hx hb dX4_reachOf_37 rfl (lv_at hl 1 rfl) ?_
    refine lv_iload_n hx hb dX4_reachOf_38 rfl (lv_at hl 4 rfl) ?_
    refine ro_l (va_runV (As := [.int y11]) (rest := []) ⟨hx, hb, hml, hown, hts⟩ (q_X4_livingYears l g cI cJ cB cZ cL y11 ld ld_lines ld_years ld_card ld_hurt ld_people ld_pairs ld_strikes ld_rule ld_returns ld_forgets ld_death ld_move ld_begun ld_who ld_lost ld_death_c H.size r11 hv_ld_years hv_ld_people hv_ld_pairs) (cwV 1 hts (goodIn_app (g_4 (List.mem_cons_of_mem _ (List.mem_append_left _ (List.mem_of_getElem? (i := 2) rfl))) (List.mem_cons_of_mem _ (List.mem_append_left _ (List.mem_of_getElem? (i := 3) rfl))) (List.mem_cons_of_mem _ (List.mem_append_left _ (List.mem_of_getElem? (i := 4) rfl))) (List.mem_cons_of_mem _ (List.mem_append_left _ (List.mem_of_getElem? (i := 5) rfl))) (by decide +kernel)) (goodIn_sub (fun _ h => List.mem_cons_of_mem _ (List.mem_append_right _ (List.mem_append_left _ h))) good_v_X4_livingYears)) rfl rfl rfl (by decide +kernel) ⟨Nat.le_of_ble_eq_true rfl, Nat.le_of_ble_eq_true rfl⟩) (pv_RO (q := (RX4, TX4, 15)) (ci := 4) (q0 := 0) (wc := [(ld, .inr (4, [.int ld_lines, .int ld_years, .int ld_card, .int ld_hurt, .int ld_people, .int ld_pairs, .long ld_strikes, .ref ld_rule, .ref ld_returns, .ref ld_forgets, .ref ld_death, .ref ld_move, .ref ld_begun, .ref ld_who, .ref ld_lost])), (ld_death, .inl (cI, 10, .inl ld_death_c))]) hK hP [0, 3] rfl rfl rfl) rfl rfl hl.1 rfl (lv_room (Nat.le_of_ble_eq_true rfl)) dX4_reachOf_39 ⟨Nat.le_of_ble_eq_true rfl, Nat.le_of_ble_eq_true rfl⟩) hS hA hP (fun r39 u39 H locs hw39 hP hS => ?_)
    refine lv_lload hx hb dX4_reachOf_42 (lv_at hl 0 rfl) ?_
    refine lv_ldc2 (v := (-1)) hx hb hown (hts (.constantLong RX4 82 (-1)) (List.mem_cons_of_mem _ (List.mem_append_left _ (List.mem_of_getElem? (i := 6) rfl)))) dX4_reachOf_44 ?_
    refine lv_lxor hx hb dX4_reachOf_47 ?_
    refine lv_topl (fun y47 e47 => ?_)
    refine lv_land hx hb dX4_reachOf_48 ?_
    refine lv_topl (fun y48 e48 => ?_)
    refine lv_aload_n hx hb dX4_reachOf_49 rfl (lv_at hl 1 rfl) ?_
    refine va_get (D := g) (ci := 4) (v := .long ld_strikes) (C := RX4) (T := TX4) (N := 15) hx hb hts iX4 hown hK hP 0 rfl rfl 6 (by decide) (hts (.fieldLink RX4 56 "CardsAtYule$Land" "strikes" "J") (List.mem_cons_of_mem _ (List.mem_append_left _ (List.mem_of_getElem? (i := 7) rfl)))) (fun _ h9 => h9) rfl dX4_reachOf_50 ?_
    refine lv_ldc2 (v := (-1)) hx hb hown (hts (.constantLong RX4 82 (-1)) (List.mem_cons_of_mem _ (List.mem_append_left _ (List.mem_of_getElem? (i := 6) rfl)))) dX4_reachOf_53 ?_
    refine lv_lxor hx hb dX4_reachOf_56 ?_
    refine lv_topl (fun y56 e56 => ?_)
    refine lv_land hx hb dX4_reachOf_57 ?_
    refine lv_topl (fun y57 e57 => ?_)
    refine lv_aload_n hx hb dX4_reachOf_58 rfl (lv_at hl 1 rfl) ?_
    refine va_get (D := g) (ci := 4) (v := .ref ld_lost) (C := RX4) (T := TX4) (N := 15) hx hb hts iX4 hown hK hP 0 rfl rfl 14 (by decide) (hts (.fieldLink RX4 33 "CardsAtYule$Land" "lost" "[J") (List.mem_cons_of_mem _ (List.mem_append_left _ (List.mem_of_getElem? (i := 8) rfl)))) (fun _ h9 => h9) rfl dX4_reachOf_59 ?_
    refine lv_iconst (v := 2) hx hb dX4_reachOf_62 (by decide) ?_
    refine lv_iload_n hx hb dX4_reachOf_63 rfl (lv_at hl 2 rfl) ?_
    refine lv_imul hx hb dX4_reachOf_64 ?_
    refine lv_topi (fun y64 e64 => ?_)
    have q64 : y64.toInt = 2 * p0.toInt := by rw [e64]; exact mu_z rfl rfl (ir_c 2) hv_p0 (by decide) (by decide) (by decide)
    have r64 : ir y64.toInt 0 30 := mu_r q64 (ir_c 2) hv_p0 (by decide) (by decide) (by decide) (by decide)
    refine lv_iload_n hx hb dX4_reachOf_65 rfl (lv_at hl 3 rfl) ?_
    refine lv_iadd hx hb dX4_reachOf_66 ?_
    refine lv_topi (fun y66 e66 => ?_)
    have q66 : y66.toInt = y64.toInt + p1.toInt := by rw [e66]; exact ad_z rfl rfl r64 hv_p1 (by decide) (by decide)
    have r66 : ir y66.toInt 0 31 := ad_r q66 r64 hv_p1 (by decide) (by decide)
    refine va_lald (D := g) hx hb hK hP 4 1 rfl rfl (vi_rg rfl r66 (by decide) (by decide)) dX4_reachOf_67 ?_
    refine lv_topl (fun y67 e67 => ?_)
    refine lv_ldc2 (v := (-1)) hx hb hown (hts (.constantLong RX4 82 (-1)) (List.mem_cons_of_mem _ (List.mem_append_left _ (List.mem_of_getElem? (i := 6) rfl)))) dX4_reachOf_68 ?_
    refine lv_lxor hx hb dX4_reachOf_71 ?_
    refine lv_topl (fun y71 e71 => ?_)
    refine lv_land hx hb dX4_reachOf_72 ?_
    refine lv_topl (fun y72 e72 => ?_)
    subst hQ
    exact W.lret (v := y72) hx hb hr (fun t ht hW => ⟨⟨y72, (), rfl, trivial, trivial⟩, hS.F ht⟩) hS.2.2 dX4_reachOf_73
  refine lv_icmp_ne (tgt := 27) hx hb dX4_reachOf_20 (by decide) (fun c20 => ?_) (fun c20 => ?_)
  rotate_left 1
  · have f20 := (show y18.toInt = (-1) from z_eq rfl rfl c20)
    have r20a : ir y18.toInt (-1) (-1) := ir_eqa f20 (rg_all y18) (ir_c (-1)) (by decide) (by decide)
    refine lv_lconst (v := 0) hx hb dX4_reachOf_23 (by decide) ?_
    refine lv_goto (tgt := 35) hx hb dX4_reachOf_24 (by decide) ?_
    exact J35 0 _ _ _  (hP.sub [0, 1, 2, 3, 4] rfl) hS (lv_sub hl [1, 2, 3, 0] rfl)
  have f20 := (show y18.toInt ≠ (-1) from z_ne rfl rfl c20)
  refine lv_lconst (v := 1) hx hb dX4_reachOf_27 (by decide) ?_
  refine lv_aload_n hx hb dX4_reachOf_28 rfl (lv_at hl 1 rfl) ?_
  refine va_get (D := g) (ci := 4) (v := .ref ld_move) (C := RX4) (T := TX4) (N := 15) hx hb hts iX4 hown hK hP 0 rfl rfl 11 (by decide) (hts (.fieldLink RX4 24 "CardsAtYule$Land" "move" "[I") (List.mem_cons_of_mem _ (List.mem_append_left _ (List.mem_of_getElem? (i := 1) rfl)))) (fun _ h9 => h9) rfl dX4_reachOf_29 ?_
  refine lv_iload_n hx hb dX4_reachOf_32 rfl (lv_at hl 0 rfl) ?_
  refine va_iald (D := g) hx hb hK hP 2 0 rfl rfl (vi_rg rfl r11 (by decide) (by decide)) dX4_reachOf_33 ?_
  refine lv_topi (fun y33 e33 => ?_)
  refine lv_lshl (v := (1 <<< (y33.toInt64 &&& 63))) hx hb dX4_reachOf_34 rfl ?_
  refine lv_topl (fun y34 e34 => ?_)
  exact J35 y34 _ _ _  (hP.sub [0, 1, 2, 3, 4] rfl) hS (lv_sub hl [1, 2, 3, 0] rfl)
def v_X10_swapped : List Cond := .code yX10_swapped cX10_swapped 1 (some .int) :: (([] : List Cond) ++ ([] : List Cond))
theorem good_v_X10_swapped : v_X10_swapped.all goodWord = true := ga_c (by decide +kernel) (ga_a (by decide +kernel) rfl)
set_option maxHeartbeats 4000000 in
set_option maxRecDepth 100000 in
theorem q_X10_swapped (l : Launch) (g : va_G) (cI cJ cB cZ cL : ClassId) (p0 : Int32) (sz : Nat)  : Met l yX10_swapped v_X10_swapped ({ frames := 0, cells := 0, slots := 0, locals := 0 }) (va_Pc [.int p0] (pRO g (tyT cI cJ cB cZ cL) [] sz)) (va_Qi (fun (r : Int32) (u : Unit) => (ir r.toInt 0 3)) (fun (_ : Unit) (_ : State) => True) (va_A [] sz)) 0 0 (va_A [] sz) := by
  refine Met.ofW (cc := cX10_swapped) (maxL := 1) (ret := (some .int)) (by decide) rfl ?_
  intro p e s m args below meth c s₁ B hml hv
  obtain ⟨rfl, hsz, hP, hK⟩ := hv
  have hx := B.exec
  have hb := B.bytes
  have hr := B.returns
  have hts := atoms_spec (ws := v_X10_swapped) B.pre
  have hown : s.vm.findClass RX10 = some m.cls := findClass_of_methodNamed B.named
  have hlocks := B.notSynchronized
  clear B
  subst hsz
  generalize hAe : (va_A [] s.heap.size) = A
  have hA : ∀ q : Nat, s.heap.size ≤ q → A q := fun q h => by rw [← hAe]; exact Or.inr h
  have hS : va_S A s.heap s.heap [] := va_S.rf
  have hl := lv_entry ([.int p0]) (n := 1) (Nat.le_of_ble_eq_true rfl)
  rw [lg_entry_eq]
  generalize (lg_sl ([.int p0]) ++ List.replicate (1 - (lg_sl ([.int p0])).length) Slot.unset).toArray = ls at hl ⊢
  generalize ([.int p0] : List Value).toArray = av at hts ⊢
  generalize hQ : MQ below _ av s _ _ A = QQ
  have hl : lv_has ls 1 [(0, .int p0)] := hl
  have hP : va_P g vwCl [] s.heap := hP
  refine lv_iload_n hx hb dX10_swapped_0 rfl (lv_at hl 0 rfl) ?_
  refine lv_iconst (v := 1) hx hb dX10_swapped_1 (by decide) ?_
  refine lv_iand hx hb dX10_swapped_2 ?_
  refine lv_topi (fun y2 e2 => ?_)
  have r2 : ir y2.toInt 0 1 := by rw [e2]; exact an_y rfl (ir_c 1) (by decide)
  refine lv_iconst (v := 1) hx hb dX10_swapped_3 (by decide) ?_
  refine lv_ishl hx hb dX10_swapped_4 ?_
  refine lv_topi (fun y4 e4 => ?_)
  have r4 : ir y4.toInt 0 2 := by rw [e4]; exact sl_r 1 rfl r2 (by decide) (by decide) (by decide) (by decide) (by decide)
  refine lv_iload_n hx hb dX10_swapped_5 rfl (lv_at hl 0 rfl) ?_
  refine lv_iconst (v := 1) hx hb dX10_swapped_6 (by decide) ?_
  refine lv_ishr hx hb dX10_swapped_7 ?_
  refine lv_topi (fun y7 e7 => ?_)
  refine lv_iconst (v := 1) hx hb dX10_swapped_8 (by decide) ?_
  refine lv_iand hx hb dX10_swapped_9 ?_
  refine lv_topi (fun y9 e9 => ?_)
  have r9 : ir y9.toInt 0 1 := by rw [e9]; exact an_y rfl (ir_c 1) (by decide)
  refine lv_ior hx hb dX10_swapped_10 ?_
  refine lv_topi (fun y10 e10 => ?_)
  have r10 : ir y10.toInt 0 3 := by rw [e10]; exact or_r 2 rfl rfl r4 r9 (by decide) (by decide) (by decide) (by decide) (by decide)
  subst hQ
  exact W.iret (v := y10) hx hb hr (fun t ht hW => ⟨⟨y10, (), rfl, r10, trivial⟩, hS.F ht⟩) hS.2.2 dX10_swapped_11
def v_X10_firsts : List Cond := .code yX10_firsts cX10_firsts 3 (some .int) :: (([] : List Cond) ++ ([] : List Cond))
theorem good_v_X10_firsts : v_X10_firsts.all goodWord = true := ga_c (by decide +kernel) (ga_a (by decide +kernel) rfl)
set_option maxHeartbeats 4000000 in
set_option maxRecDepth 100000 in
theorem q_X10_firsts (l : Launch) (g : va_G) (cI cJ cB cZ cL : ClassId) (p0 : Int32) (p1 : Int32) (p2 : Int32) (sz : Nat)  : Met l yX10_firsts v_X10_firsts ({ frames := 0, cells := 0, slots := 0, locals := 0 }) (va_Pc [.int p0, .int p1, .int p2] (pRO g (tyT cI cJ cB cZ cL) [] sz)) (va_Qi (fun (r : Int32) (u : Unit) => (ir r.toInt 0 3)) (fun (_ : Unit) (_ : State) => True) (va_A [] sz)) 0 0 (va_A [] sz) := by
  refine Met.ofW (cc := cX10_firsts) (maxL := 3) (ret := (some .int)) (by decide) rfl ?_
  intro p e s m args below meth c s₁ B hml hv
  obtain ⟨rfl, hsz, hP, hK⟩ := hv
  have hx := B.exec
  have hb := B.bytes
  have hr := B.returns
  have hts := atoms_spec (ws := v_X10_firsts) B.pre
  have hown : s.vm.findClass RX10 = some m.cls := findClass_of_methodNamed B.named
  have hlocks := B.notSynchronized
  clear B
  subst hsz
  generalize hAe : (va_A [] s.heap.size) = A
  have hA : ∀ q : Nat, s.heap.size ≤ q → A q := fun q h => by rw [← hAe]; exact Or.inr h
  have hS : va_S A s.heap s.heap [] := va_S.rf
  have hl := lv_entry ([.int p0, .int p1, .int p2]) (n := 3) (Nat.le_of_ble_eq_true rfl)
  rw [lg_entry_eq]
  generalize (lg_sl ([.int p0, .int p1, .int p2]) ++ List.replicate (3 - (lg_sl ([.int p0, .int p1, .int p2])).length) Slot.unset).toArray = ls at hl ⊢
  generalize ([.int p0, .int p1, .int p2] : List Value).toArray = av at hts ⊢
  generalize hQ : MQ below _ av s _ _ A = QQ
  have hl : lv_has ls 3 [(0, .int p0), (1, .int p1), (2, .int p2)] := hl
  have hP : va_P g vwCl [] s.heap := hP
  refine lv_iload_n hx hb dX10_firsts_0 rfl (lv_at hl 0 rfl) ?_
  refine lv_iload_n hx hb dX10_firsts_1 rfl (lv_at hl 2 rfl) ?_
  refine lv_iconst (v := 3) hx hb dX10_firsts_2 (by decide) ?_
  refine lv_iand hx hb dX10_firsts_3 ?_
  refine lv_topi (fun y3 e3 => ?_)
  have r3 : ir y3.toInt 0 3 := by rw [e3]; exact an_y rfl (ir_c 3) (by decide)
  refine lv_ishr hx hb dX10_firsts_4 ?_
  refine lv_topi (fun y4 e4 => ?_)
  refine lv_iconst (v := 1) hx hb dX10_firsts_5 (by decide) ?_
  refine lv_iand hx hb dX10_firsts_6 ?_
  refine lv_topi (fun y6 e6 => ?_)
  have r6 : ir y6.toInt 0 1 := by rw [e6]; exact an_y rfl (ir_c 1) (by decide)
  refine lv_iload_n hx hb dX10_firsts_7 rfl (lv_at hl 1 rfl) ?_
  refine lv_iload_n hx hb dX10_firsts_8 rfl (lv_at hl 2 rfl) ?_
  refine lv_iconst (v := 2) hx hb dX10_firsts_9 (by decide) ?_
  refine lv_ishr hx hb dX10_firsts_10 ?_
  refine lv_topi (fun y10 e10 => ?_)
  refine lv_iconst (v := 3) hx hb dX10_firsts_11 (by decide) ?_
  refine lv_iand hx hb dX10_firsts_12 ?_
  refine lv_topi (fun y12 e12 => ?_)
  have r12 : ir y12.toInt 0 3 := by rw [e12]; exact an_y rfl (ir_c 3) (by decide)
  refine lv_ishr hx hb dX10_firsts_13 ?_
  refine lv_topi (fun y13 e13 => ?_)
  refine lv_iconst (v := 1) hx hb dX10_firsts_14 (by decide) ?_
  refine lv_iand hx hb dX10_firsts_15 ?_
  refine lv_topi (fun y15 e15 => ?_)
  have r15 : ir y15.toInt 0 1 := by rw [e15]; exact an_y rfl (ir_c 1) (by decide)
  refine lv_iconst (v := 1) hx hb dX10_firsts_16 (by decide) ?_
  refine lv_ishl hx hb dX10_firsts_17 ?_
  refine lv_topi (fun y17 e17 => ?_)
  have r17 : ir y17.toInt 0 2 := by rw [e17]; exact sl_r 1 rfl r15 (by decide) (by decide) (by decide) (by decide) (by decide)
  refine lv_ior hx hb dX10_firsts_18 ?_
  refine lv_topi (fun y18 e18 => ?_)
  have r18 : ir y18.toInt 0 3 := by rw [e18]; exact or_r 2 rfl rfl r6 r17 (by decide) (by decide) (by decide) (by decide) (by decide)
  subst hQ
  exact W.iret (v := y18) hx hb hr (fun t ht hW => ⟨⟨y18, (), rfl, r18, trivial⟩, hS.F ht⟩) hS.2.2 dX10_firsts_19
def v_X10_returning : List Cond := .code yX10_returning cX10_returning 2 (some .int) :: (([] : List Cond) ++ ([] : List Cond))
theorem good_v_X10_returning : v_X10_returning.all goodWord = true := ga_c (by decide +kernel) (ga_a (by decide +kernel) rfl)
set_option maxHeartbeats 4000000 in
set_option maxRecDepth 100000 in
theorem q_X10_returning (l : Launch) (g : va_G) (cI cJ cB cZ cL : ClassId) (p0 : Int32) (p1 : Int32) (sz : Nat)  : Met l yX10_returning v_X10_returning ({ frames := 0, cells := 0, slots := 0, locals := 0 }) (va_Pc [.int p0, .int p1] (pRO g (tyT cI cJ cB cZ cL) [] sz)) (va_Qi (fun (r : Int32) (u : Unit) => (ir r.toInt 0 3)) (fun (_ : Unit) (_ : State) => True) (va_A [] sz)) 0 0 (va_A [] sz) := by
  refine Met.ofW (cc := cX10_returning) (maxL := 2) (ret := (some .int)) (by decide) rfl ?_
  intro p e s m args below meth c s₁ B hml hv
  obtain ⟨rfl, hsz, hP, hK⟩ := hv
  have hx := B.exec
  have hb := B.bytes
  have hr := B.returns
  have hts := atoms_spec (ws := v_X10_returning) B.pre
  have hown : s.vm.findClass RX10 = some m.cls := findClass_of_methodNamed B.named
  have hlocks := B.notSynchronized
  clear B
  subst hsz
  generalize hAe : (va_A [] s.heap.size) = A
  have hA : ∀ q : Nat, s.heap.size ≤ q → A q := fun q h => by rw [← hAe]; exact Or.inr h
  have hS : va_S A s.heap s.heap [] := va_S.rf
  have hl := lv_entry ([.int p0, .int p1]) (n := 2) (Nat.le_of_ble_eq_true rfl)
  rw [lg_entry_eq]
  generalize (lg_sl ([.int p0, .int p1]) ++ List.replicate (2 - (lg_sl ([.int p0, .int p1])).length) Slot.unset).toArray = ls at hl ⊢
  generalize ([.int p0, .int p1] : List Value).toArray = av at hts ⊢
  generalize hQ : MQ below _ av s _ _ A = QQ
  have hl : lv_has ls 2 [(0, .int p0), (1, .int p1)] := hl
  have hP : va_P g vwCl [] s.heap := hP
  refine lv_iload_n hx hb dX10_returning_0 rfl (lv_at hl 0 rfl) ?_
  refine lv_iconst (v := 4) hx hb dX10_returning_1 (by decide) ?_
  refine lv_ishr hx hb dX10_returning_2 ?_
  refine lv_topi (fun y2 e2 => ?_)
  refine lv_iconst (v := 1) hx hb dX10_returning_3 (by decide) ?_
  refine lv_iand hx hb dX10_returning_4 ?_
  refine lv_topi (fun y4 e4 => ?_)
  have r4 : ir y4.toInt 0 1 := by rw [e4]; exact an_y rfl (ir_c 1) (by decide)
  refine lv_iload_n hx hb dX10_returning_5 rfl (lv_at hl 1 rfl) ?_
  refine lv_iconst (v := 4) hx hb dX10_returning_6 (by decide) ?_
  refine lv_ishr hx hb dX10_returning_7 ?_
  refine lv_topi (fun y7 e7 => ?_)
  refine lv_iconst (v := 1) hx hb dX10_returning_8 (by decide) ?_
  refine lv_iand hx hb dX10_returning_9 ?_
  refine lv_topi (fun y9 e9 => ?_)
  have r9 : ir y9.toInt 0 1 := by rw [e9]; exact an_y rfl (ir_c 1) (by decide)
  refine lv_iconst (v := 1) hx hb dX10_returning_10 (by decide) ?_
  refine lv_ishl hx hb dX10_returning_11 ?_
  refine lv_topi (fun y11 e11 => ?_)
  have r11 : ir y11.toInt 0 2 := by rw [e11]; exact sl_r 1 rfl r9 (by decide) (by decide) (by decide) (by decide) (by decide)
  refine lv_ior hx hb dX10_returning_12 ?_
  refine lv_topi (fun y12 e12 => ?_)
  have r12 : ir y12.toInt 0 3 := by rw [e12]; exact or_r 2 rfl rfl r4 r11 (by decide) (by decide) (by decide) (by decide) (by decide)
  subst hQ
  exact W.iret (v := y12) hx hb hr (fun t ht hW => ⟨⟨y12, (), rfl, r12, trivial⟩, hS.F ht⟩) hS.2.2 dX10_returning_13
