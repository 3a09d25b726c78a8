def v_X0_writeAll : List Cond := .code yX0_writeAll cX0_writeAll 4 none :: (([.fieldLink RX0 25 "CardsAtYule$Land" "pairs" "I", .fieldLink RX0 9 "CardsAtYule$Book" "stale" "Z", .methodLink RX0 31 yX2_take, .instanceMethod yX2_take, .selects RX2 yX2_take yX2_take, .initialized RX2, .methodLink RX0 37 yX2_run, .instanceMethod yX2_run, .selects RX2 yX2_run yX2_run, .fieldLink RX0 40 "CardsAtYule$Course" "first" "[J", .fieldLink RX0 15 "CardsAtYule$Book" "first" "[J", .methodLink RX0 41 arraycopyName, .native arraycopyName, .static arraycopyName, .initialized "java/lang/System", .fieldLink RX0 47 "CardsAtYule$Course" "back" "[J", .fieldLink RX0 19 "CardsAtYule$Book" "back" "[J", .fieldLink RX0 48 "CardsAtYule$Course" "got" "[J", .fieldLink RX0 22 "CardsAtYule$Book" "got" "[J"] : List Cond) ++ (v_X2_take ++ (v_X2_run ++ (wsX40 ++ (wsX00 ++ (wsX20 ++ ([] : List Cond)))))))
theorem good_v_X0_writeAll : v_X0_writeAll.all goodWord = true := ga_c (by decide +kernel) (ga_a (by decide +kernel) (ga_a good_v_X2_take (ga_a good_v_X2_run (ga_a good_wsX40 (ga_a good_wsX00 (ga_a good_wsX20 rfl))))))
set_option maxHeartbeats 4000000 in
set_option maxRecDepth 100000 in
theorem q_X0_writeAll (l : Launch) (g : va_G) (cI cJ cB cZ cL : ClassId) (kA : Nat → Nat) (vA : Nat → Nat) (bk : Nat) (ld : Nat) (co : Nat) (ld_lines : Int32) (ld_years : Int32) (ld_card : Int32) (ld_hurt : Int32) (ld_people : Int32) (ld_pairs : Int32) (ld_strikes : Int64) (ld_rule : Nat) (ld_returns : Nat) (ld_forgets : Nat) (ld_death : Nat) (ld_move : Nat) (ld_begun : Nat) (ld_who : Nat) (ld_lost : Nat) (bk_stale : Int32) (bk_first : Nat) (bk_back : Nat) (bk_got : Nat) (co_years : Int32) (co_begun : Int32) (co_rule : Nat) (co_may : Nat) (co_reach : Nat) (co_first : Nat) (co_back : Nat) (co_got : Nat) (ld_begun_c : Nat → Int32) (ld_who_c : Nat → Int32) (ld_rule_c : Nat → Int32) (ld_returns_c : Nat → Int32) (co_rule_c : Nat → Int32) (ld_death_c : Nat → Int32) (co_may_c : Nat → Int64) (ld_move_c : Nat → Int32) (ld_lost_c : Nat → Int64) (co_reach_c : Nat → Int64) (co_first_c : Nat → Int64) (co_back_c : Nat → Int64) (co_got_c : Nat → Int64) (bk_first_c : Nat → Int64) (bk_back_c : Nat → Int64) (bk_got_c : Nat → Int64) (sz : Nat) (hv_ld_years : ir ld_years.toInt 0 40) (hv_ld_people : ir ld_people.toInt 0 10) (hv_ld_pairs : ir ld_pairs.toInt 0 16) (hv_bk_stale : ir bk_stale.toInt 0 1) (ha_ld_begun_c : ar ld_begun_c 16 0 15) (ha_ld_who_c : ar ld_who_c 32 0 9) : Met l yX0_writeAll v_X0_writeAll ({ frames := 3, cells := 0, slots := 0, locals := 78 }) (va_Pc [.ref bk, .ref ld, .ref co] (eRW g (tyT cI cJ cB cZ cL) [(ld, .inr (4, [.int ld_lines, .int ld_years, .int ld_card, .int ld_hurt, .int ld_people, .int ld_pairs, .long ld_strikes, .ref ld_rule, .ref ld_returns, .ref ld_forgets, .ref ld_death, .ref ld_move, .ref ld_begun, .ref ld_who, .ref ld_lost])), (bk, .inr (0, [.int bk_stale, .ref bk_first, .ref bk_back, .ref bk_got])), (co, .inr (2, [.int co_years, .int co_begun, .ref co_rule, .ref co_may, .ref co_reach, .ref co_first, .ref co_back, .ref co_got])), (ld_begun, .inl (cI, 16, .inl ld_begun_c)), (ld_who, .inl (cI, 32, .inl ld_who_c)), (ld_rule, .inl (cI, 10, .inl ld_rule_c)), (ld_returns, .inl (cI, 10, .inl ld_returns_c)), (co_rule, .inl (cI, 2, .inl co_rule_c)), (ld_death, .inl (cI, 10, .inl ld_death_c)), (co_may, .inl (cJ, 2, .inr (.inl co_may_c))), (ld_move, .inl (cI, 10, .inl ld_move_c)), (ld_lost, .inl (cJ, 32, .inr (.inl ld_lost_c))), (co_reach, .inl (cJ, 2, .inr (.inl co_reach_c))), (co_first, .inl (cJ, 2, .inr (.inl co_first_c))), (co_back, .inl (cJ, 2, .inr (.inl co_back_c))), (co_got, .inl (cJ, 2, .inr (.inl co_got_c))), (bk_first, .inl (cJ, 32, .inr (.inl bk_first_c))), (bk_back, .inl (cJ, 32, .inr (.inl bk_back_c))), (bk_got, .inl (cJ, 32, .inr (.inl bk_got_c)))] sz kA vA)) (va_Qv (fun (u : Int32 × Int32 × Int32 × (Nat → Int32) × (Nat → Int64) × (Nat → Int64) × (Nat → Int64) × (Nat → Int64) × (Nat → Int64) × (Nat → Int64) × (Nat → Int64) × (Nat → Int64)) => match u with | (n_bk_stale, n_co_years, n_co_begun, n_co_rule_c, n_co_may_c, n_co_reach_c, n_co_first_c, n_co_back_c, n_co_got_c, n_bk_first_c, n_bk_back_c, n_bk_got_c) => (ir n_bk_stale.toInt 0 0)) (fun (u : Int32 × Int32 × Int32 × (Nat → Int32) × (Nat → Int64) × (Nat → Int64) × (Nat → Int64) × (Nat → Int64) × (Nat → Int64) × (Nat → Int64) × (Nat → Int64) × (Nat → Int64)) (t : State) => bRW g (tyT cI cJ cB cZ cL) (va_A [(ld, .inr (4, [.int ld_lines, .int ld_years, .int ld_card, .int ld_hurt, .int ld_people, .int ld_pairs, .long ld_strikes, .ref ld_rule, .ref ld_returns, .ref ld_forgets, .ref ld_death, .ref ld_move, .ref ld_begun, .ref ld_who, .ref ld_lost])), (bk, .inr (0, [.int bk_stale, .ref bk_first, .ref bk_back, .ref bk_got])), (co, .inr (2, [.int co_years, .int co_begun, .ref co_rule, .ref co_may, .ref co_reach, .ref co_first, .ref co_back, .ref co_got])), (ld_begun, .inl (cI, 16, .inl ld_begun_c)), (ld_who, .inl (cI, 32, .inl ld_who_c)), (ld_rule, .inl (cI, 10, .inl ld_rule_c)), (ld_returns, .inl (cI, 10, .inl ld_returns_c)), (co_rule, .inl (cI, 2, .inl co_rule_c)), (ld_death, .inl (cI, 10, .inl ld_death_c)), (co_may, .inl (cJ, 2, .inr (.inl co_may_c))), (ld_move, .inl (cI, 10, .inl ld_move_c)), (ld_lost, .inl (cJ, 32, .inr (.inl ld_lost_c))), (co_reach, .inl (cJ, 2, .inr (.inl co_reach_c))), (co_first, .inl (cJ, 2, .inr (.inl co_first_c))), (co_back, .inl (cJ, 2, .inr (.inl co_back_c))), (co_got, .inl (cJ, 2, .inr (.inl co_got_c))), (bk_first, .inl (cJ, 32, .inr (.inl bk_first_c))), (bk_back, .inl (cJ, 32, .inr (.inl bk_back_c))), (bk_got, .inl (cJ, 32, .inr (.inl bk_got_c)))] sz) (match u with | (n_bk_stale, n_co_years, n_co_begun, n_co_rule_c, n_co_may_c, n_co_reach_c, n_co_first_c, n_co_back_c, n_co_got_c, n_bk_first_c, n_bk_back_c, n_bk_got_c) => [(ld, .inr (4, [.int ld_lines, .int ld_years, .int ld_card, .int ld_hurt, .int ld_people, .int ld_pairs, .long ld_strikes, .ref ld_rule, .ref ld_returns, .ref ld_forgets, .ref ld_death, .ref ld_move, .ref ld_begun, .ref ld_who, .ref ld_lost])), (bk, .inr (0, [.int n_bk_stale, .ref bk_first, .ref bk_back, .ref bk_got])), (co, .inr (2, [.int n_co_years, .int n_co_begun, .ref co_rule, .ref co_may, .ref co_reach, .ref co_first, .ref co_back, .ref co_got])), (ld_begun, .inl (cI, 16, .inl ld_begun_c)), (ld_who, .inl (cI, 32, .inl ld_who_c)), (ld_rule, .inl (cI, 10, .inl ld_rule_c)), (ld_returns, .inl (cI, 10, .inl ld_returns_c)), (co_rule, .inl (cI, 2, .inl n_co_rule_c)), (ld_death, .inl (cI, 10, .inl ld_death_c)), (co_may, .inl (cJ, 2, .inr (.inl n_co_may_c))), (ld_move, .inl (cI, 10, .inl ld_move_c)), (ld_lost, .inl (cJ, 32, .inr (.inl ld_lost_c))), (co_reach, .inl (cJ, 2, .inr (.inl n_co_reach_c))), (co_first, .inl (cJ, 2, .inr (.inl n_co_first_c))), (co_back, .inl (cJ, 2, .inr (.inl n_co_back_c))), (co_got, .inl (cJ, 2, .inr (.inl n_co_got_c))), (bk_first, .inl (cJ, 32, .inr (.inl n_bk_first_c))), (bk_back, .inl (cJ, 32, .inr (.inl n_bk_back_c))), (bk_got, .inl (cJ, 32, .inr (.inl n_bk_got_c)))]) t) (va_A [(ld, .inr (4, [.int ld_lines, .int ld_years, .int ld_card, .int ld_hurt, .int ld_people, .int ld_pairs, .long ld_strikes, .ref ld_rule, .ref ld_returns, .ref ld_forgets, .ref ld_death, .ref ld_move, .ref ld_begun, .ref ld_who, .ref ld_lost])), (bk, .inr (0, [.int bk_stale, .ref bk_first, .ref bk_back, .ref bk_got])), (co, .inr (2, [.int co_years, .int co_begun, .ref co_rule, .ref co_may, .ref co_reach, .ref co_first, .ref co_back, .ref co_got])), (ld_begun, .inl (cI, 16, .inl ld_begun_c)), (ld_who, .inl (cI, 32, .inl ld_who_c)), (ld_rule, .inl (cI, 10, .inl ld_rule_c)), (ld_returns, .inl (cI, 10, .inl ld_returns_c)), (co_rule, .inl (cI, 2, .inl co_rule_c)), (ld_death, .inl (cI, 10, .inl ld_death_c)), (co_may, .inl (cJ, 2, .inr (.inl co_may_c))), (ld_move, .inl (cI, 10, .inl ld_move_c)), (ld_lost, .inl (cJ, 32, .inr (.inl ld_lost_c))), (co_reach, .inl (cJ, 2, .inr (.inl co_reach_c))), (co_first, .inl (cJ, 2, .inr (.inl co_first_c))), (co_back, .inl (cJ, 2, .inr (.inl co_back_c))), (co_got, .inl (cJ, 2, .inr (.inl co_got_c))), (bk_first, .inl (cJ, 32, .inr (.inl bk_first_c))), (bk_back, .inl (cJ, 32, .inr (.inl bk_back_c))), (bk_got, .inl (cJ, 32, .inr (.inl bk_got_c)))] sz)) 0 0 (va_A [(ld, .inr (4, [.int ld_lines, .int ld_years, .int ld_card, .int ld_hurt, .int ld_people, .int ld_pairs, .long ld_strikes, .ref ld_rule, .ref ld_returns, .ref ld_forgets, .ref ld_death, .ref ld_move, .ref ld_begun, .ref ld_who, .ref ld_lost])), (bk, .inr (0, [.int bk_stale, .ref bk_first, .ref bk_back, .ref bk_got])), (co, .inr (2, [.int co_years, .int co_begun, .ref co_rule, .ref co_may, .ref co_reach, .ref co_first, .ref co_back, .ref co_got])), (ld_begun, .inl (cI, 16, .inl ld_begun_c)), (ld_who, .inl (cI, 32, .inl ld_who_c)), (ld_rule, .inl (cI, 10, .inl ld_rule_c)), (ld_returns, .inl (cI, 10, .inl ld_returns_c)), (co_rule, .inl (cI, 2, .inl co_rule_c)), (ld_death, .inl (cI, 10, .inl ld_death_c)), (co_may, .inl (cJ, 2, .inr (.inl co_may_c))), (ld_move, .inl (cI, 10, .inl ld_move_c)), (ld_lost, .inl (cJ, 32, .inr (.inl ld_lost_c))), (co_reach, .inl (cJ, 2, .inr (.inl co_reach_c))), (co_first, .inl (cJ, 2, .inr (.inl co_first_c))), (co_back, .inl (cJ, 2, .inr (.inl co_back_c))), (co_got, .inl (cJ, 2, .inr (.inl co_got_c))), (bk_first, .inl (cJ, 32, .inr (.inl bk_first_c))), (bk_back, .inl (cJ, 32, .inr (.inl bk_back_c))), (bk_got, .inl (cJ, 32, .inr (.inl bk_got_c)))] sz) := by
  refine Met.ofW (cc := cX0_writeAll) (maxL := 4) (ret := none) (by decide) rfl ?_
  intro p e s m args below meth c s₁ B hml hv
  obtain ⟨rfl, ⟨hsz, hP, hK, hD0⟩, hE⟩ := hv
  have hx := B.exec
  have hb := B.bytes
  have hr := B.returns
  have hts := atoms_spec (ws := v_X0_writeAll) B.pre
  have hown : s.vm.findClass RX0 = some m.cls := findClass_of_methodNamed B.named
  have hlocks := B.notSynchronized
  clear B
  subst hsz
  have iX4 : ∀ w ∈ wsX40, w ∈ v_X0_writeAll := (fun _ h => List.mem_cons_of_mem _ (List.mem_append_right _ (List.mem_append_right _ (List.mem_append_right _ (List.mem_append_left _ h)))))
  have iX0 : ∀ w ∈ wsX00, w ∈ v_X0_writeAll := (fun _ h => List.mem_cons_of_mem _ (List.mem_append_right _ (List.mem_append_right _ (List.mem_append_right _ (List.mem_append_right _ (List.mem_append_left _ h))))))
  have iX2 : ∀ w ∈ wsX20, w ∈ v_X0_writeAll := (fun _ h => List.mem_cons_of_mem _ (List.mem_append_right _ (List.mem_append_right _ (List.mem_append_right _ (List.mem_append_right _ (List.mem_append_right _ (List.mem_append_left _ h)))))))
  have hD := hD0.self (sz := s.heap.size)
  generalize hAe : (va_A [(ld, .inr (4, [.int ld_lines, .int ld_years, .int ld_card, .int ld_hurt, .int ld_people, .int ld_pairs, .long ld_strikes, .ref ld_rule, .ref ld_returns, .ref ld_forgets, .ref ld_death, .ref ld_move, .ref ld_begun, .ref ld_who, .ref ld_lost])), (bk, .inr (0, [.int bk_stale, .ref bk_first, .ref bk_back, .ref bk_got])), (co, .inr (2, [.int co_years, .int co_begun, .ref co_rule, .ref co_may, .ref co_reach, .ref co_first, .ref co_back, .ref co_got])), (ld_begun, .inl (cI, 16, .inl ld_begun_c)), (ld_who, .inl (cI, 32, .inl ld_who_c)), (ld_rule, .inl (cI, 10, .inl ld_rule_c)), (ld_returns, .inl (cI, 10, .inl ld_returns_c)), (co_rule, .inl (cI, 2, .inl co_rule_c)), (ld_death, .inl (cI, 10, .inl ld_death_c)), (co_may, .inl (cJ, 2, .inr (.inl co_may_c))), (ld_move, .inl (cI, 10, .inl ld_move_c)), (ld_lost, .inl (cJ, 32, .inr (.inl ld_lost_c))), (co_reach, .inl (cJ, 2, .inr (.inl co_reach_c))), (co_first, .inl (cJ, 2, .inr (.inl co_first_c))), (co_back, .inl (cJ, 2, .inr (.inl co_back_c))), (co_got, .inl (cJ, 2, .inr (.inl co_got_c))), (bk_first, .inl (cJ, 32, .inr (.inl bk_first_c))), (bk_back, .inl (cJ, 32, .inr (.inl bk_back_c))), (bk_got, .inl (cJ, 32, .inr (.inl bk_got_c)))] s.heap.size) = A at hD hE ⊢
  have hA : ∀ q : Nat, s.heap.size ≤ q → A q := fun q h => by rw [← hAe]; exact Or.inr h
  have hS : va_S A s.heap s.heap [] := va_S.rf
  have hl := lv_entry ([.ref bk, .ref ld, .ref co]) (n := 4) (Nat.le_of_ble_eq_true rfl)
  rw [lg_entry_eq]
  generalize (lg_sl ([.ref bk, .ref ld, .ref co]) ++ List.replicate (4 - (lg_sl ([.ref bk, .ref ld, .ref co])).length) Slot.unset).toArray = ls at hl ⊢
  generalize ([.ref bk, .ref ld, .ref co] : List Value).toArray = av at hts ⊢
  generalize hQ : MQ below _ av s _ _ A = QQ
  have hl : lv_has ls 4 [(0, .ref bk), (1, .ref ld), (2, .ref co)] := hl
  have hP : va_P g vwCl [(ld, .inr (4, [.int ld_lines, .int ld_years, .int ld_card, .int ld_hurt, .int ld_people, .int ld_pairs, .long ld_strikes, .ref ld_rule, .ref ld_returns, .ref ld_forgets, .ref ld_death, .ref ld_move, .ref ld_begun, .ref ld_who, .ref ld_lost])), (bk, .inr (0, [.int bk_stale, .ref bk_first, .ref bk_back, .ref bk_got])), (co, .inr (2, [.int co_years, .int co_begun, .ref co_rule, .ref co_may, .ref co_reach, .ref co_first, .ref co_back, .ref co_got])), (ld_begun, .inl (cI, 16, .inl ld_begun_c)), (ld_who, .inl (cI, 32, .inl ld_who_c)), (ld_rule, .inl (cI, 10, .inl ld_rule_c)), (ld_returns, .inl (cI, 10, .inl ld_returns_c)), (co_rule, .inl (cI, 2, .inl co_rule_c)), (ld_death, .inl (cI, 10, .inl ld_death_c)), (co_may, .inl (cJ, 2, .inr (.inl co_may_c))), (ld_move, .inl (cI, 10, .inl ld_move_c)), (ld_lost, .inl (cJ, 32, .inr (.inl ld_lost_c))), (co_reach, .inl (cJ, 2, .inr (.inl co_reach_c))), (co_first, .inl (cJ, 2, .inr (.inl co_first_c))), (co_back, .inl (cJ, 2, .inr (.inl co_back_c))), (co_got, .inl (cJ, 2, .inr (.inl co_got_c))), (bk_first, .inl (cJ, 32, .inr (.inl bk_first_c))), (bk_back, .inl (cJ, 32, .inr (.inl bk_back_c))), (bk_got, .inl (cJ, 32, .inr (.inl bk_got_c)))] s.heap := hP
  refine lv_iconst (v := 0) hx hb dX0_writeAll_0 (by decide) ?_
  refine lv_istore_n (lv' := [(3, .int 0), (0, .ref bk), (1, .ref ld), (2, .ref co)]) hx hb dX0_writeAll_1 rfl hl (by decide) rfl (fun ls hl => ?_)
  have J2 : ∀ (n2 : Nat) (j2_l3 : Int32) (j2_co_years : Int32) (j2_co_begun : Int32) (j2_co_first_c : Nat → Int64) (j2_co_back_c : Nat → Int64) (j2_co_got_c : Nat → Int64) (j2_co_rule_c : Nat → Int32) (j2_co_may_c : Nat → Int64) (j2_co_reach_c : Nat → Int64) (j2_bk_first_c : Nat → Int64) (j2_bk_back_c : Nat → Int64) (j2_bk_got_c : Nat → Int64) (H : Heap) (locs : List Loc) (ls : Array Slot), (17 - j2_l3.toInt).toNat < n2 → (ir j2_l3.toInt 0 16) → va_P g vwCl [(ld, .inr (4, [.int ld_lines, .int ld_years, .int ld_card, .int ld_hurt, .int ld_people, .int ld_pairs, .long ld_strikes, .ref ld_rule, .ref ld_returns, .ref ld_forgets, .ref ld_death, .ref ld_move, .ref ld_begun, .ref ld_who, .ref ld_lost])), (bk, .inr (0, [.int bk_stale, .ref bk_first, .ref bk_back, .ref bk_got])), (co, .inr (2, [.int j2_co_years, .int j2_co_begun, .ref co_rule, .ref co_may, .ref co_reach, .ref co_first, .ref co_back, .ref co_got])), (ld_begun, .inl (cI, 16, .inl ld_begun_c)), (ld_who, .inl (cI, 32, .inl ld_who_c)), (ld_rule, .inl (cI, 10, .inl ld_rule_c)), (ld_returns, .inl (cI, 10, .inl ld_returns_c)), (co_rule, .inl (cI, 2, .inl j2_co_rule_c)), (ld_death, .inl (cI, 10, .inl ld_death_c)), (co_may, .inl (cJ, 2, .inr (.inl j2_co_may_c))), (ld_move, .inl (cI, 10, .inl ld_move_c)), (ld_lost, .inl (cJ, 32, .inr (.inl ld_lost_c))), (co_reach, .inl (cJ, 2, .inr (.inl j2_co_reach_c))), (co_first, .inl (cJ, 2, .inr (.inl j2_co_first_c))), (co_back, .inl (cJ, 2, .inr (.inl j2_co_back_c))), (co_got, .inl (cJ, 2, .inr (.inl j2_co_got_c))), (bk_first, .inl (cJ, 32, .inr (.inl j2_bk_first_c))), (bk_back, .inl (cJ, 32, .inr (.inl j2_bk_back_c))), (bk_got, .inl (cJ, 32, .inr (.inl j2_bk_got_c)))] H → va_D A [(ld, .inr (4, [.int ld_lines, .int ld_years, .int ld_card, .int ld_hurt, .int ld_people, .int ld_pairs, .long ld_strikes, .ref ld_rule, .ref ld_returns, .ref ld_forgets, .ref ld_death, .ref ld_move, .ref ld_begun, .ref ld_who, .ref ld_lost])), (bk, .inr (0, [.int bk_stale, .ref bk_first, .ref bk_back, .ref bk_got])), (co, .inr (2, [.int j2_co_years, .int j2_co_begun, .ref co_rule, .ref co_may, .ref co_reach, .ref co_first, .ref co_back, .ref co_got])), (ld_begun, .inl (cI, 16, .inl ld_begun_c)), (ld_who, .inl (cI, 32, .inl ld_who_c)), (ld_rule, .inl (cI, 10, .inl ld_rule_c)), (ld_returns, .inl (cI, 10, .inl ld_returns_c)), (co_rule, .inl (cI, 2, .inl j2_co_rule_c)), (ld_death, .inl (cI, 10, .inl ld_death_c)), (co_may, .inl (cJ, 2, .inr (.inl j2_co_may_c))), (ld_move, .inl (cI, 10, .inl ld_move_c)), (ld_lost, .inl (cJ, 32, .inr (.inl ld_lost_c))), (co_reach, .inl (cJ, 2, .inr (.inl j2_co_reach_c))), (co_first, .inl (cJ, 2, .inr (.inl j2_co_first_c))), (co_back, .inl (cJ, 2, .inr (.inl j2_co_back_c))), (co_got, .inl (cJ, 2, .inr (.inl j2_co_got_c))), (bk_first, .inl (cJ, 32, .inr (.inl j2_bk_first_c))), (bk_back, .inl (cJ, 32, .inr (.inl j2_bk_back_c))), (bk_got, .inl (cJ, 32, .inr (.inl j2_bk_got_c)))] → va_S A s.heap H locs → lv_has ls 4 [(0, .ref bk), (1, .ref ld), (2, .ref co), (3, .int j2_l3)] → W p l e (headSpec v_X0_writeAll ({ frames := 3, cells := 0, slots := 0, locals := 78 })).room s m av below meth c H locs 0 0 QQ (F0 m 2 ls []) := by
    intro n2
    induction n2 with
    | zero => exact fun j2_l3 j2_co_years j2_co_begun j2_co_first_c j2_co_back_c j2_co_got_c j2_co_rule_c j2_co_may_c j2_co_reach_c j2_bk_first_c j2_bk_back_c j2_bk_got_c H locs ls hn => absurd hn (Nat.not_lt_zero _)
    | succ n2 ih2 =>
      intro j2_l3 j2_co_years j2_co_begun j2_co_first_c j2_co_back_c j2_co_got_c j2_co_rule_c j2_co_may_c j2_co_reach_c j2_bk_first_c j2_bk_back_c j2_bk_got_c H locs ls hn2 hj2_l3 hP hD hS hl
      refine lv_iload_n hx hb dX0_writeAll_2 rfl (lv_at hl 3 rfl) ?_
      refine lv_aload_n hx hb dX0_writeAll_3 rfl (lv_at hl 1 rfl) ?_
      refine va_get (D := g) (ci := 4) (v := .int ld_pairs) (C := RX4) (T := TX4) (N := 15) hx hb hts iX4 hown hK hP 0 rfl rfl 5 (by decide) (hts (.fieldLink RX0 25 "CardsAtYule$Land" "pairs" "I") (List.mem_cons_of_mem _ (List.mem_append_left _ (List.mem_of_getElem? (i := 0) rfl)))) (fun _ h9 => h9) rfl dX0_writeAll_4 ?_
      refine lv_icmp_ge (tgt := 74) hx hb dX0_writeAll_7 (by decide) (fun c7 => ?_) (fun c7 => ?_)
      · have f7 := (show ld_pairs.toInt ≤ j2_l3.toInt from z_le rfl rfl c7)
        refine lv_aload_n hx hb dX0_writeAll_74 rfl (lv_at hl 0 rfl) ?_
        refine lv_iconst (v := 0) hx hb dX0_writeAll_75 (by decide) ?_
        refine va_put (D := g) (ci := 0) (v := .int 0) (ty := .boolean) (C := RX0) (T := TX0) (N := 4) hx hb hts iX0 tyX0 tyX0_ok nmX0 hown hK hP hD hS 1 rfl rfl 0 (by decide) (hts (.fieldLink RX0 9 "CardsAtYule$Book" "stale" "Z") (List.mem_cons_of_mem _ (List.mem_append_left _ (List.mem_of_getElem? (i := 1) rfl)))) (fun _ h9 => h9) rfl (by decide +kernel) rfl rfl (Nat.le_of_ble_eq_true rfl) dX0_writeAll_76 (fun H locs hP hD hS => ?_)
        have hP : va_P g vwCl [(ld, .inr (4, [.int ld_lines, .int ld_years, .int ld_card, .int ld_hurt, .int ld_people, .int ld_pairs, .long ld_strikes, .ref ld_rule, .ref ld_returns, .ref ld_forgets, .ref ld_death, .ref ld_move, .ref ld_begun, .ref ld_who, .ref ld_lost])), (bk, .inr (0, [.int 0, .ref bk_first, .ref bk_back, .ref bk_got])), (co, .inr (2, [.int j2_co_years, .int j2_co_begun, .ref co_rule, .ref co_may, .ref co_reach, .ref co_first, .ref co_back, .ref co_got])), (ld_begun, .inl (cI, 16, .inl ld_begun_c)), (ld_who, .inl (cI, 32, .inl ld_who_c)), (ld_rule, .inl (cI, 10, .inl ld_rule_c)), (ld_returns, .inl (cI, 10, .inl ld_returns_c)), (co_rule, .inl (cI, 2, .inl j2_co_rule_c)), (ld_death, .inl (cI, 10, .inl ld_death_c)), (co_may, .inl (cJ, 2, .inr (.inl j2_co_may_c))), (ld_move, .inl (cI, 10, .inl ld_move_c)), (ld_lost, .inl (cJ, 32, .inr (.inl ld_lost_c))), (co_reach, .inl (cJ, 2, .inr (.inl j2_co_reach_c))), (co_first, .inl (cJ, 2, .inr (.inl j2_co_first_c))), (co_back, .inl (cJ, 2, .inr (.inl j2_co_back_c))), (co_got, .inl (cJ, 2, .inr (.inl j2_co_got_c))), (bk_first, .inl (cJ, 32, .inr (.inl j2_bk_first_c))), (bk_back, .inl (cJ, 32, .inr (.inl j2_bk_back_c))), (bk_got, .inl (cJ, 32, .inr (.inl j2_bk_got_c)))] H := hP
        have hD : va_D A [(ld, .inr (4, [.int ld_lines, .int ld_years, .int ld_card, .int ld_hurt, .int ld_people, .int ld_pairs, .long ld_strikes, .ref ld_rule, .ref ld_returns, .ref ld_forgets, .ref ld_death, .ref ld_move, .ref ld_begun, .ref ld_who, .ref ld_lost])), (bk, .inr (0, [.int 0, .ref bk_first, .ref bk_back, .ref bk_got])), (co, .inr (2, [.int j2_co_years, .int j2_co_begun, .ref co_rule, .ref co_may, .ref co_reach, .ref co_first, .ref co_back, .ref co_got])), (ld_begun, .inl (cI, 16, .inl ld_begun_c)), (ld_who, .inl (cI, 32, .inl ld_who_c)), (ld_rule, .inl (cI, 10, .inl ld_rule_c)), (ld_returns, .inl (cI, 10, .inl ld_returns_c)), (co_rule, .inl (cI, 2, .inl j2_co_rule_c)), (ld_death, .inl (cI, 10, .inl ld_death_c)), (co_may, .inl (cJ, 2, .inr (.inl j2_co_may_c))), (ld_move, .inl (cI, 10, .inl ld_move_c)), (ld_lost, .inl (cJ, 32, .inr (.inl ld_lost_c))), (co_reach, .inl (cJ, 2, .inr (.inl j2_co_reach_c))), (co_first, .inl (cJ, 2, .inr (.inl j2_co_first_c))), (co_back, .inl (cJ, 2, .inr (.inl j2_co_back_c))), (co_got, .inl (cJ, 2, .inr (.inl j2_co_got_c))), (bk_first, .inl (cJ, 32, .inr (.inl j2_bk_first_c))), (bk_back, .inl (cJ, 32, .inr (.inl j2_bk_back_c))), (bk_got, .inl (cJ, 32, .inr (.inl j2_bk_got_c)))] := hD
        subst hQ
        have hP9 := hP.sub (ws' := [(ld, .inr (4, [.int ld_lines, .int ld_years, .int ld_card, .int ld_hurt, .int ld_people, .int ld_pairs, .long ld_strikes, .ref ld_rule, .ref ld_returns, .ref ld_forgets, .ref ld_death, .ref ld_move, .ref ld_begun, .ref ld_who, .ref ld_lost])), (bk, .inr (0, [.int 0, .ref bk_first, .ref bk_back, .ref bk_got])), (co, .inr (2, [.int j2_co_years, .int j2_co_begun, .ref co_rule, .ref co_may, .ref co_reach, .ref co_first, .ref co_back, .ref co_got])), (ld_begun, .inl (cI, 16, .inl ld_begun_c)), (ld_who, .inl (cI, 32, .inl ld_who_c)), (ld_rule, .inl (cI, 10, .inl ld_rule_c)), (ld_returns, .inl (cI, 10, .inl ld_returns_c)), (co_rule, .inl (cI, 2, .inl j2_co_rule_c)), (ld_death, .inl (cI, 10, .inl ld_death_c)), (co_may, .inl (cJ, 2, .inr (.inl j2_co_may_c))), (ld_move, .inl (cI, 10, .inl ld_move_c)), (ld_lost, .inl (cJ, 32, .inr (.inl ld_lost_c))), (co_reach, .inl (cJ, 2, .inr (.inl j2_co_reach_c))), (co_first, .inl (cJ, 2, .inr (.inl j2_co_first_c))), (co_back, .inl (cJ, 2, .inr (.inl j2_co_back_c))), (co_got, .inl (cJ, 2, .inr (.inl j2_co_got_c))), (bk_first, .inl (cJ, 32, .inr (.inl j2_bk_first_c))), (bk_back, .inl (cJ, 32, .inr (.inl j2_bk_back_c))), (bk_got, .inl (cJ, 32, .inr (.inl j2_bk_got_c)))]) [0, 1, 2, 3, 4, 5, 6, 7, 8, 9, 10, 11, 12, 13, 14, 15, 16, 17, 18] rfl
        have hD9 := hD.sub (ws' := [(ld, .inr (4, [.int ld_lines, .int ld_years, .int ld_card, .int ld_hurt, .int ld_people, .int ld_pairs, .long ld_strikes, .ref ld_rule, .ref ld_returns, .ref ld_forgets, .ref ld_death, .ref ld_move, .ref ld_begun, .ref ld_who, .ref ld_lost])), (bk, .inr (0, [.int 0, .ref bk_first, .ref bk_back, .ref bk_got])), (co, .inr (2, [.int j2_co_years, .int j2_co_begun, .ref co_rule, .ref co_may, .ref co_reach, .ref co_first, .ref co_back, .ref co_got])), (ld_begun, .inl (cI, 16, .inl ld_begun_c)), (ld_who, .inl (cI, 32, .inl ld_who_c)), (ld_rule, .inl (cI, 10, .inl ld_rule_c)), (ld_returns, .inl (cI, 10, .inl ld_returns_c)), (co_rule, .inl (cI, 2, .inl j2_co_rule_c)), (ld_death, .inl (cI, 10, .inl ld_death_c)), (co_may, .inl (cJ, 2, .inr (.inl j2_co_may_c))), (ld_move, .inl (cI, 10, .inl ld_move_c)), (ld_lost, .inl (cJ, 32, .inr (.inl ld_lost_c))), (co_reach, .inl (cJ, 2, .inr (.inl j2_co_reach_c))), (co_first, .inl (cJ, 2, .inr (.inl j2_co_first_c))), (co_back, .inl (cJ, 2, .inr (.inl j2_co_back_c))), (co_got, .inl (cJ, 2, .inr (.inl j2_co_got_c))), (bk_first, .inl (cJ, 32, .inr (.inl j2_bk_first_c))), (bk_back, .inl (cJ, 32, .inr (.inl j2_bk_back_c))), (bk_got, .inl (cJ, 32, .inr (.inl j2_bk_got_c)))]) [0, 1, 2, 3, 4, 5, 6, 7, 8, 9, 10, 11, 12, 13, 14, 15, 16, 17, 18] (by decide) rfl
        exact W.vret hx hb hr (fun t ht hW => ⟨⟨(0, j2_co_years, j2_co_begun, j2_co_rule_c, j2_co_may_c, j2_co_reach_c, j2_co_first_c, j2_co_back_c, j2_co_got_c, j2_bk_first_c, j2_bk_back_c, j2_bk_got_c), rfl, (show ir (0 : Int32).toInt 0 0 by decide), ⟨by rw [ht]; exact hP9, va_K.moved hW.alike hK, hD9⟩⟩, hS.F ht⟩) hS.2.2 dX0_writeAll_79
      have f7 := (show j2_l3.toInt < ld_pairs.toInt from z_nle rfl rfl c7)
      have r7a : ir j2_l3.toInt 0 15 := ir_lta f7 hj2_l3 hv_ld_pairs (by decide)
      have r7b : ir ld_pairs.toInt 1 16 := ir_ltb f7 hj2_l3 hv_ld_pairs (by decide)
      refine lv_aload_n hx hb dX0_writeAll_10 rfl (lv_at hl 2 rfl) ?_
      refine lv_aload_n hx hb dX0_writeAll_11 rfl (lv_at hl 1 rfl) ?_
      refine lv_iload_n hx hb dX0_writeAll_12 rfl (lv_at hl 3 rfl) ?_
      refine rw_v (wr := [(bk, .inr (0, [.int bk_stale, .ref bk_first, .ref bk_back, .ref bk_got])), (co_first, .inl (cJ, 2, .inr (.inl j2_co_first_c))), (co_back, .inl (cJ, 2, .inr (.inl j2_co_back_c))), (co_got, .inl (cJ, 2, .inr (.inl j2_co_got_c))), (bk_first, .inl (cJ, 32, .inr (.inl j2_bk_first_c))), (bk_back, .inl (cJ, 32, .inr (.inl j2_bk_back_c))), (bk_got, .inl (cJ, 32, .inr (.inl j2_bk_got_c)))]) (va_runV (As := [.ref ld, .int j2_l3]) (rest := []) ⟨hx, hb, hml, hown, hts⟩ (q_X2_take l g cI cJ cB cZ cL j2_l3 co ld ld_lines ld_years ld_card ld_hurt ld_people ld_pairs ld_strikes ld_rule ld_returns ld_forgets ld_death ld_move ld_begun ld_who ld_lost j2_co_years j2_co_begun co_rule co_may co_reach co_first co_back co_got ld_begun_c ld_who_c ld_rule_c ld_returns_c j2_co_rule_c ld_death_c j2_co_may_c ld_move_c ld_lost_c j2_co_reach_c H.size r7a hv_ld_years hv_ld_people (ir_w r7b (by decide) (by decide)) ha_ld_begun_c ha_ld_who_c) (cwV 2 hts (goodIn_app (g_4 (List.mem_cons_of_mem _ (List.mem_append_left _ (List.mem_of_getElem? (i := 2) rfl))) (List.mem_cons_of_mem _ (List.mem_append_left _ (List.mem_of_getElem? (i := 3) rfl))) (List.mem_cons_of_mem _ (List.mem_append_left _ (List.mem_of_getElem? (i := 4) rfl))) (List.mem_cons_of_mem _ (List.mem_append_left _ (List.mem_of_getElem? (i := 5) rfl))) (by decide +kernel)) (goodIn_sub (fun _ h => List.mem_cons_of_mem _ (List.mem_append_right _ (List.mem_append_left _ h))) good_v_X2_take)) rfl rfl rfl (by decide +kernel) ⟨Nat.le_of_ble_eq_true rfl, Nat.le_of_ble_eq_true rfl⟩) (pv_RW (q := (RX2, TX2, 8)) (ci := 2) (q0 := 1) (wc := [(ld, .inr (4, [.int ld_lines, .int ld_years, .int ld_card, .int ld_hurt, .int ld_people, .int ld_pairs, .long ld_strikes, .ref ld_rule, .ref ld_returns, .ref ld_forgets, .ref ld_death, .ref ld_move, .ref ld_begun, .ref ld_who, .ref ld_lost])), (co, .inr (2, [.int j2_co_years, .int j2_co_begun, .ref co_rule, .ref co_may, .ref co_reach, .ref co_first, .ref co_back, .ref co_got])), (ld_begun, .inl (cI, 16, .inl ld_begun_c)), (ld_who, .inl (cI, 32, .inl ld_who_c)), (ld_rule, .inl (cI, 10, .inl ld_rule_c)), (ld_returns, .inl (cI, 10, .inl ld_returns_c)), (co_rule, .inl (cI, 2, .inl j2_co_rule_c)), (ld_death, .inl (cI, 10, .inl ld_death_c)), (co_may, .inl (cJ, 2, .inr (.inl j2_co_may_c))), (ld_move, .inl (cI, 10, .inl ld_move_c)), (ld_lost, .inl (cJ, 32, .inr (.inl ld_lost_c))), (co_reach, .inl (cJ, 2, .inr (.inl j2_co_reach_c)))]) hK hP hD [0, 2, 3, 4, 5, 6, 7, 8, 9, 10, 11, 12] (by decide) rfl rfl rfl) rfl rfl hl.1 rfl (lv_room (Nat.le_of_ble_eq_true rfl)) dX0_writeAll_13 ⟨Nat.le_of_ble_eq_true rfl, Nat.le_of_ble_eq_true rfl⟩) hS hA hP hD [0, 2, 3, 4, 5, 6, 7, 8, 9, 10, 11, 12] [1, 13, 14, 15, 16, 17, 18] rfl rfl (by decide) (by decide) (fun u13 H locs hw13 hP hD hS => ?_)
      obtain ⟨n_co_years_13, n_co_begun_13, n_co_rule_c_13, n_co_may_c_13, n_co_reach_c_13⟩ := u13
      have hP : va_P g vwCl [(bk, .inr (0, [.int bk_stale, .ref bk_first, .ref bk_back, .ref bk_got])), (co_first, .inl (cJ, 2, .inr (.inl j2_co_first_c))), (co_back, .inl (cJ, 2, .inr (.inl j2_co_back_c))), (co_got, .inl (cJ, 2, .inr (.inl j2_co_got_c))), (bk_first, .inl (cJ, 32, .inr (.inl j2_bk_first_c))), (bk_back, .inl (cJ, 32, .inr (.inl j2_bk_back_c))), (bk_got, .inl (cJ, 32, .inr (.inl j2_bk_got_c))), (ld, .inr (4, [.int ld_lines, .int ld_years, .int ld_card, .int ld_hurt, .int ld_people, .int ld_pairs, .long ld_strikes, .ref ld_rule, .ref ld_returns, .ref ld_forgets, .ref ld_death, .ref ld_move, .ref ld_begun, .ref ld_who, .ref ld_lost])), (co, .inr (2, [.int n_co_years_13, .int n_co_begun_13, .ref co_rule, .ref co_may, .ref co_reach, .ref co_first, .ref co_back, .ref co_got])), (ld_begun, .inl (cI, 16, .inl ld_begun_c)), (ld_who, .inl (cI, 32, .inl ld_who_c)), (ld_rule, .inl (cI, 10, .inl ld_rule_c)), (ld_returns, .inl (cI, 10, .inl ld_returns_c)), (co_rule, .inl (cI, 2, .inl n_co_rule_c_13)), (ld_death, .inl (cI, 10, .inl ld_death_c)), (co_may, .inl (cJ, 2, .inr (.inl n_co_may_c_13))), (ld_move, .inl (cI, 10, .inl ld_move_c)), (ld_lost, .inl (cJ, 32, .inr (.inl ld_lost_c))), (co_reach, .inl (cJ, 2, .inr (.inl n_co_reach_c_13)))] H := hP
      have hD : va_D A [(bk, .inr (0, [.int bk_stale, .ref bk_first, .ref bk_back, .ref bk_got])), (co_first, .inl (cJ, 2, .inr (.inl j2_co_first_c))), (co_back, .inl (cJ, 2, .inr (.inl j2_co_back_c))), (co_got, .inl (cJ, 2, .inr (.inl j2_co_got_c))), (bk_first, .inl (cJ, 32, .inr (.inl j2_bk_first_c))), (bk_back, .inl (cJ, 32, .inr (.inl j2_bk_back_c))), (bk_got, .inl (cJ, 32, .inr (.inl j2_bk_got_c))), (ld, .inr (4, [.int ld_lines, .int ld_years, .int ld_card, .int ld_hurt, .int ld_people, .int ld_pairs, .long ld_strikes, .ref ld_rule, .ref ld_returns, .ref ld_forgets, .ref ld_death, .ref ld_move, .ref ld_begun, .ref ld_who, .ref ld_lost])), (co, .inr (2, [.int n_co_years_13, .int n_co_begun_13, .ref co_rule, .ref co_may, .ref co_reach, .ref co_first, .ref co_back, .ref co_got])), (ld_begun, .inl (cI, 16, .inl ld_begun_c)), (ld_who, .inl (cI, 32, .inl ld_who_c)), (ld_rule, .inl (cI, 10, .inl ld_rule_c)), (ld_returns, .inl (cI, 10, .inl ld_returns_c)), (co_rule, .inl (cI, 2, .inl n_co_rule_c_13)), (ld_death, .inl (cI, 10, .inl ld_death_c)), (co_may, .inl (cJ, 2, .inr (.inl n_co_may_c_13))), (ld_move, .inl (cI, 10, .inl ld_move_c)), (ld_lost, .inl (cJ, 32, .inr (.inl ld_lost_c))), (co_reach, .inl (cJ, 2, .inr (.inl n_co_reach_c_13)))] := hD
      dsimp only at hw13
      obtain ⟨hw13_0, hw13_1⟩ := hw13
      refine lv_aload_n hx hb dX0_writeAll_16 rfl (lv_at hl 2 rfl) ?_
      refine rw_v (wr := [(bk, .inr (0, [.int bk_stale, .ref bk_first, .ref bk_back, .ref bk_got])), (bk_first, .inl (cJ, 32, .inr (.inl j2_bk_first_c))), (bk_back, .inl (cJ, 32, .inr (.inl j2_bk_back_c))), (bk_got, .inl (cJ, 32, .inr (.inl j2_bk_got_c))), (ld, .inr (4, [.int ld_lines, .int ld_years, .int ld_card, .int ld_hurt, .int ld_people, .int ld_pairs, .long ld_strikes, .ref ld_rule, .ref ld_returns, .ref ld_forgets, .ref ld_death, .ref ld_move, .ref ld_begun, .ref ld_who, .ref ld_lost])), (ld_begun, .inl (cI, 16, .inl ld_begun_c)), (ld_who, .inl (cI, 32, .inl ld_who_c)), (ld_rule, .inl (cI, 10, .inl ld_rule_c)), (ld_returns, .inl (cI, 10, .inl ld_returns_c)), (ld_death, .inl (cI, 10, .inl ld_death_c)), (ld_move, .inl (cI, 10, .inl ld_move_c)), (ld_lost, .inl (cJ, 32, .inr (.inl ld_lost_c)))]) (va_runV (As := []) (rest := []) ⟨hx, hb, hml, hown, hts⟩ (q_X2_run l g cI cJ cB cZ cL kA vA co n_co_years_13 n_co_begun_13 co_rule co_may co_reach co_first co_back co_got j2_co_first_c j2_co_back_c j2_co_got_c n_co_rule_c_13 n_co_may_c_13 n_co_reach_c_13 H.size ) (cwV 0 hts (goodIn_app (g_4 (List.mem_cons_of_mem _ (List.mem_append_left _ (List.mem_of_getElem? (i := 6) rfl))) (List.mem_cons_of_mem _ (List.mem_append_left _ (List.mem_of_getElem? (i := 7) rfl))) (List.mem_cons_of_mem _ (List.mem_append_left _ (List.mem_of_getElem? (i := 8) rfl))) (List.mem_cons_of_mem _ (List.mem_append_left _ (List.mem_of_getElem? (i := 5) rfl))) (by decide +kernel)) (goodIn_sub (fun _ h => List.mem_cons_of_mem _ (List.mem_append_right _ (List.mem_append_right _ (List.mem_append_left _ h)))) good_v_X2_run)) rfl rfl rfl (by decide +kernel) ⟨Nat.le_of_ble_eq_true rfl, Nat.le_of_ble_eq_true rfl⟩) (pvE_RW (pv_RW (q := (RX2, TX2, 8)) (ci := 2) (q0 := 0) (wc := [(co, .inr (2, [.int n_co_years_13, .int n_co_begun_13, .ref co_rule, .ref co_may, .ref co_reach, .ref co_first, .ref co_back, .ref co_got])), (co_first, .inl (cJ, 2, .inr (.inl j2_co_first_c))), (co_back, .inl (cJ, 2, .inr (.inl j2_co_back_c))), (co_got, .inl (cJ, 2, .inr (.inl j2_co_got_c))), (co_rule, .inl (cI, 2, .inl n_co_rule_c_13)), (co_may, .inl (cJ, 2, .inr (.inl n_co_may_c_13))), (co_reach, .inl (cJ, 2, .inr (.inl n_co_reach_c_13)))]) hK hP hD [8, 1, 2, 3, 13, 15, 18] (by decide) rfl rfl rfl) hE hS (va_free hD hS hA [8, 1, 2, 3, 13, 15, 18] rfl)) rfl rfl hl.1 rfl (lv_room (Nat.le_of_ble_eq_true rfl)) dX0_writeAll_17 ⟨Nat.le_of_ble_eq_true rfl, Nat.le_of_ble_eq_true rfl⟩) hS hA hP hD [8, 1, 2, 3, 13, 15, 18] [0, 4, 5, 6, 7, 9, 10, 11, 12, 14, 16, 17] rfl rfl (by decide) (by decide) (fun u17 H locs hw17 hP hD hS => ?_)
      obtain ⟨n_co_first_c_17, n_co_back_c_17, n_co_got_c_17⟩ := u17
      have hP : va_P g vwCl [(bk, .inr (0, [.int bk_stale, .ref bk_first, .ref bk_back, .ref bk_got])), (bk_first, .inl (cJ, 32, .inr (.inl j2_bk_first_c))), (bk_back, .inl (cJ, 32, .inr (.inl j2_bk_back_c))), (bk_got, .inl (cJ, 32, .inr (.inl j2_bk_got_c))), (ld, .inr (4, [.int ld_lines, .int ld_years, .int ld_card, .int ld_hurt, .int ld_people, .int ld_pairs, .long ld_strikes, .ref ld_rule, .ref ld_returns, .ref ld_forgets, .ref ld_death, .ref ld_move, .ref ld_begun, .ref ld_who, .ref ld_lost])), (ld_begun, .inl (cI, 16, .inl ld_begun_c)), (ld_who, .inl (cI, 32, .inl ld_who_c)), (ld_rule, .inl (cI, 10, .inl ld_rule_c)), (ld_returns, .inl (cI, 10, .inl ld_returns_c)), (ld_death, .inl (cI, 10, .inl ld_death_c)), (ld_move, .inl (cI, 10, .inl ld_move_c)), (ld_lost, .inl (cJ, 32, .inr (.inl ld_lost_c))), (co, .inr (2, [.int n_co_years_13, .int n_co_begun_13, .ref co_rule, .ref co_may, .ref co_reach, .ref co_first, .ref co_back, .ref co_got])), (co_first, .inl (cJ, 2, .inr (.inl n_co_first_c_17))), (co_back, .inl (cJ, 2, .inr (.inl n_co_back_c_17))), (co_got, .inl (cJ, 2, .inr (.inl n_co_got_c_17))), (co_rule, .inl (cI, 2, .inl n_co_rule_c_13)), (co_may, .inl (cJ, 2, .inr (.inl n_co_may_c_13))), (co_reach, .inl (cJ, 2, .inr (.inl n_co_reach_c_13)))] H := hP
      have hD : va_D A [(bk, .inr (0, [.int bk_stale, .ref bk_first, .ref bk_back, .ref bk_got])), (bk_first, .inl (cJ, 32, .inr (.inl j2_bk_first_c))), (bk_back, .inl (cJ, 32, .inr (.inl j2_bk_back_c))), (bk_got, .inl (cJ, 32, .inr (.inl j2_bk_got_c))), (ld, .inr (4, [.int ld_lines, .int ld_years, .int ld_card, .int ld_hurt, .int ld_people, .int ld_pairs, .long ld_strikes, .ref ld_rule, .ref ld_returns, .ref ld_forgets, .ref ld_death, .ref ld_move, .ref ld_begun, .ref ld_who, .ref ld_lost])), (ld_begun, .inl (cI, 16, .inl ld_begun_c)), (ld_who, .inl (cI, 32, .inl ld_who_c)), (ld_rule, .inl (cI, 10, .inl ld_rule_c)), (ld_returns, .inl (cI, 10, .inl ld_returns_c)), (ld_death, .inl (cI, 10, .inl ld_death_c)), (ld_move, .inl (cI, 10, .inl ld_move_c)), (ld_lost, .inl (cJ, 32, .inr (.inl ld_lost_c))), (co, .inr (2, [.int n_co_years_13, .int n_co_begun_13, .ref co_rule, .ref co_may, .ref co_reach, .ref co_first, .ref co_back, .ref co_got])), (co_first, .inl (cJ, 2, .inr (.inl n_co_first_c_17))), (co_back, .inl (cJ, 2, .inr (.inl n_co_back_c_17))), (co_got, .inl (cJ, 2, .inr (.inl n_co_got_c_17))), (co_rule, .inl (cI, 2, .inl n_co_rule_c_13)), (co_may, .inl (cJ, 2, .inr (.inl n_co_may_c_13))), (co_reach, .inl (cJ, 2, .inr (.inl n_co_reach_c_13)))] := hD
      refine lv_aload_n hx hb dX0_writeAll_20 rfl (lv_at hl 2 rfl) ?_
      refine va_get (D := g) (ci := 2) (v := .ref co_first) (C := RX2) (T := TX2) (N := 8) hx hb hts iX2 hown hK hP 12 rfl rfl 5 (by decide) (hts (.fieldLink RX0 40 "CardsAtYule$Course" "first" "[J") (List.mem_cons_of_mem _ (List.mem_append_left _ (List.mem_of_getElem? (i := 9) rfl)))) (fun _ h9 => h9) rfl dX0_writeAll_21 ?_
      refine lv_iconst (v := 0) hx hb dX0_writeAll_24 (by decide) ?_
      refine lv_aload_n hx hb dX0_writeAll_25 rfl (lv_at hl 0 rfl) ?_
      refine va_get (D := g) (ci := 0) (v := .ref bk_first) (C := RX0) (T := TX0) (N := 4) hx hb hts iX0 hown hK hP 0 rfl rfl 1 (by decide) (hts (.fieldLink RX0 15 "CardsAtYule$Book" "first" "[J") (List.mem_cons_of_mem _ (List.mem_append_left _ (List.mem_of_getElem? (i := 10) rfl)))) (fun _ h9 => h9) rfl dX0_writeAll_26 ?_
      refine lv_iconst (v := 2) hx hb dX0_writeAll_29 (by decide) ?_
      refine lv_iload_n hx hb dX0_writeAll_30 rfl (lv_at hl 3 rfl) ?_
      refine lv_imul hx hb dX0_writeAll_31 ?_
      refine lv_topi (fun y31 e31 => ?_)
      have q31 : y31.toInt = 2 * j2_l3.toInt := by rw [e31]; exact mu_z rfl rfl (ir_c 2) r7a (by decide) (by decide) (by decide)
      have r31 : ir y31.toInt 0 30 := mu_r q31 (ir_c 2) r7a (by decide) (by decide) (by decide) (by decide)
      refine lv_iconst (v := 2) hx hb dX0_writeAll_32 (by decide) ?_
      refine va_copyl (D := g) hx hb (hml.trans hl.1.symm) hown (hts (.methodLink RX0 41 arraycopyName) (List.mem_cons_of_mem _ (List.mem_append_left _ (List.mem_of_getElem? (i := 11) rfl)))) (hts (.native arraycopyName) (List.mem_cons_of_mem _ (List.mem_append_left _ (List.mem_of_getElem? (i := 12) rfl)))) (hts (.static arraycopyName) (List.mem_cons_of_mem _ (List.mem_append_left _ (List.mem_of_getElem? (i := 13) rfl)))) (hts (.initialized "java/lang/System") (List.mem_cons_of_mem _ (List.mem_append_left _ (List.mem_of_getElem? (i := 14) rfl)))) hK hP hD hS 13 1 1 1 rfl rfl rfl rfl rfl (by decide) (nn_i rfl r31 (by decide)) (by decide) (by decide) (cp_i rfl rfl r31 (ir_c 2) (by decide) (by decide) (by decide)) (fun _ _ => rfl) (Nat.le_of_ble_eq_true rfl) (Nat.le_of_ble_eq_true rfl) dX0_writeAll_33 (fun H locs hP hD hS => ?_)
      obtain ⟨g33, e33⟩ : ∃ z, z = va_cpy n_co_first_c_17 j2_bk_first_c 0 y31.toNatClampNeg 2 := ⟨_, rfl⟩
      have hP : va_P g vwCl [(bk, .inr (0, [.int bk_stale, .ref bk_first, .ref bk_back, .ref bk_got])), (bk_first, .inl (cJ, 32, .inr (.inl (va_cpy n_co_first_c_17 j2_bk_first_c 0 y31.toNatClampNeg 2)))), (bk_back, .inl (cJ, 32, .inr (.inl j2_bk_back_c))), (bk_got, .inl (cJ, 32, .inr (.inl j2_bk_got_c))), (ld, .inr (4, [.int ld_lines, .int ld_years, .int ld_card, .int ld_hurt, .int ld_people, .int ld_pairs, .long ld_strikes, .ref ld_rule, .ref ld_returns, .ref ld_forgets, .ref ld_death, .ref ld_move, .ref ld_begun, .ref ld_who, .ref ld_lost])), (ld_begun, .inl (cI, 16, .inl ld_begun_c)), (ld_who, .inl (cI, 32, .inl ld_who_c)), (ld_rule, .inl (cI, 10, .inl ld_rule_c)), (ld_returns, .inl (cI, 10, .inl ld_returns_c)), (ld_death, .inl (cI, 10, .inl ld_death_c)), (ld_move, .inl (cI, 10, .inl ld_move_c)), (ld_lost, .inl (cJ, 32, .inr (.inl ld_lost_c))), (co, .inr (2, [.int n_co_years_13, .int n_co_begun_13, .ref co_rule, .ref co_may, .ref co_reach, .ref co_first, .ref co_back, .ref co_got])), (co_first, .inl (cJ, 2, .inr (.inl n_co_first_c_17))), (co_back, .inl (cJ, 2, .inr (.inl n_co_back_c_17))), (co_got, .inl (cJ, 2, .inr (.inl n_co_got_c_17))), (co_rule, .inl (cI, 2, .inl n_co_rule_c_13)), (co_may, .inl (cJ, 2, .inr (.inl n_co_may_c_13))), (co_reach, .inl (cJ, 2, .inr (.inl n_co_reach_c_13)))] H := hP
      have hD : va_D A [(bk, .inr (0, [.int bk_stale, .ref bk_first, .ref bk_back, .ref bk_got])), (bk_first, .inl (cJ, 32, .inr (.inl (va_cpy n_co_first_c_17 j2_bk_first_c 0 y31.toNatClampNeg 2)))), (bk_back, .inl (cJ, 32, .inr (.inl j2_bk_back_c))), (bk_got, .inl (cJ, 32, .inr (.inl j2_bk_got_c))), (ld, .inr (4, [.int ld_lines, .int ld_years, .int ld_card, .int ld_hurt, .int ld_people, .int ld_pairs, .long ld_strikes, .ref ld_rule, .ref ld_returns, .ref ld_forgets, .ref ld_death, .ref ld_move, .ref ld_begun, .ref ld_who, .ref ld_lost])), (ld_begun, .inl (cI, 16, .inl ld_begun_c)), (ld_who, .inl (cI, 32, .inl ld_who_c)), (ld_rule, .inl (cI, 10, .inl ld_rule_c)), (ld_returns, .inl (cI, 10, .inl ld_returns_c)), (ld_death, .inl (cI, 10, .inl ld_death_c)), (ld_move, .inl (cI, 10, .inl ld_move_c)), (ld_lost, .inl (cJ, 32, .inr (.inl ld_lost_c))), (co, .inr (2, [.int n_co_years_13, .int n_co_begun_13, .ref co_rule, .ref co_may, .ref co_reach, .ref co_first, .ref co_back, .ref co_got])), (co_first, .inl (cJ, 2, .inr (.inl n_co_first_c_17))), (co_back, .inl (cJ, 2, .inr (.inl n_co_back_c_17))), (co_got, .inl (cJ, 2, .inr (.inl n_co_got_c_17))), (co_rule, .inl (cI, 2, .inl n_co_rule_c_13)), (co_may, .inl (cJ, 2, .inr (.inl n_co_may_c_13))), (co_reach, .inl (cJ, 2, .inr (.inl n_co_reach_c_13)))] := hD
      rw [← e33] at hP hD
      refine lv_aload_n hx hb dX0_writeAll_36 rfl (lv_at hl 2 rfl) ?_
      refine va_get (D := g) (ci := 2) (v := .ref co_back) (C := RX2) (T := TX2) (N := 8) hx hb hts iX2 hown hK hP 12 rfl rfl 6 (by decide) (hts (.fieldLink RX0 47 "CardsAtYule$Course" "back" "[J") (List.mem_cons_of_mem _ (List.mem_append_left _ (List.mem_of_getElem? (i := 15) rfl)))) (fun _ h9 => h9) rfl dX0_writeAll_37 ?_
      refine lv_iconst (v := 0) hx hb dX0_writeAll_40 (by decide) ?_
      refine lv_aload_n hx hb dX0_writeAll_41 rfl (lv_at hl 0 rfl) ?_
      refine va_get (D := g) (ci := 0) (v := .ref bk_back) (C := RX0) (T := TX0) (N := 4) hx hb hts iX0 hown hK hP 0 rfl rfl 2 (by decide) (hts (.fieldLink RX0 19 "CardsAtYule$Book" "back" "[J") (List.mem_cons_of_mem _ (List.mem_append_left _ (List.mem_of_getElem? (i := 16) rfl)))) (fun _ h9 => h9) rfl dX0_writeAll_42 ?_
      refine lv_iconst (v := 2) hx hb dX0_writeAll_45 (by decide) ?_
      refine lv_iload_n hx hb dX0_writeAll_46 rfl (lv_at hl 3 rfl) ?_
      refine lv_imul hx hb dX0_writeAll_47 ?_
      refine lv_topi (fun y47 e47 => ?_)
      have q47 : y47.toInt = 2 * j2_l3.toInt := by rw [e47]; exact mu_z rfl rfl (ir_c 2) r7a (by decide) (by decide) (by decide)
      have r47 : ir y47.toInt 0 30 := mu_r q47 (ir_c 2) r7a (by decide) (by decide) (by decide) (by decide)
      refine lv_iconst (v := 2) hx hb dX0_writeAll_48 (by decide) ?_
      refine va_copyl (D := g) hx hb (hml.trans hl.1.symm) hown (hts (.methodLink RX0 41 arraycopyName) (List.mem_cons_of_mem _ (List.mem_append_left _ (List.mem_of_getElem? (i := 11) rfl)))) (hts (.native arraycopyName) (List.mem_cons_of_mem _ (List.mem_append_left _ (List.mem_of_getElem? (i := 12) rfl)))) (hts (.static arraycopyName) (List.mem_cons_of_mem _ (List.mem_append_left _ (List.mem_of_getElem? (i := 13) rfl)))) (hts (.initialized "java/lang/System") (List.mem_cons_of_mem _ (List.mem_append_left _ (List.mem_of_getElem? (i := 14) rfl)))) hK hP hD hS 14 2 1 1 rfl rfl rfl rfl rfl (by decide) (nn_i rfl r47 (by decide)) (by decide) (by decide) (cp_i rfl rfl r47 (ir_c 2) (by decide) (by decide) (by decide)) (fun _ _ => rfl) (Nat.le_of_ble_eq_true rfl) (Nat.le_of_ble_eq_true rfl) dX0_writeAll_49 (fun H locs hP hD hS => ?_)
      obtain ⟨g49, e49⟩ : ∃ z, z = va_cpy n_co_back_c_17 j2_bk_back_c 0 y47.toNatClampNeg 2 := ⟨_, rfl⟩
      have hP : va_P g vwCl [(bk, .inr (0, [.int bk_stale, .ref bk_first, .ref bk_back, .ref bk_got])), (bk_first, .inl (cJ, 32, .inr (.inl g33))), (bk_back, .inl (cJ, 32, .inr (.inl (va_cpy n_co_back_c_17 j2_bk_back_c 0 y47.toNatClampNeg 2)))), (bk_got, .inl (cJ, 32, .inr (.inl j2_bk_got_c))), (ld, .inr (4, [.int ld_lines, .int ld_years, .int ld_card, .int ld_hurt, .int ld_people, .int ld_pairs, .long ld_strikes, .ref ld_rule, .ref ld_returns, .ref ld_forgets, .ref ld_death, .ref ld_move, .ref ld_begun, .ref ld_who, .ref ld_lost])), (ld_begun, .inl (cI, 16, .inl ld_begun_c)), (ld_who, .inl (cI, 32, .inl ld_who_c)), (ld_rule, .inl (cI, 10, .inl ld_rule_c)), (ld_returns, .inl (cI, 10, .inl ld_returns_c)), (ld_death, .inl (cI, 10, .inl ld_death_c)), (ld_move, .inl (cI, 10, .inl ld_move_c)), (ld_lost, .inl (cJ, 32, .inr (.inl ld_lost_c))), (co, .inr (2, [.int n_co_years_13, .int n_co_begun_13, .ref co_rule, .ref co_may, .ref co_reach, .ref co_first, .ref co_back, .ref co_got])), (co_first, .inl (cJ, 2, .inr (.inl n_co_first_c_17))), (co_back, .inl (cJ, 2, .inr (.inl n_co_back_c_17))), (co_got, .inl (cJ, 2, .inr (.inl n_co_got_c_17))), (co_rule, .inl (cI, 2, .inl n_co_rule_c_13)), (co_may, .inl (cJ, 2, .inr (.inl n_co_may_c_13))), (co_reach, .inl (cJ, 2, .inr (.inl n_co_reach_c_13)))] H := hP
      have hD : va_D A [(bk, .inr (0, [.int bk_stale, .ref bk_first, .ref bk_back, .ref bk_got])), (bk_first, .inl (cJ, 32, .inr (.inl g33))), (bk_back, .inl (cJ, 32, .inr (.inl (va_cpy n_co_back_c_17 j2_bk_back_c 0 y47.toNatClampNeg 2)))), (bk_got, .inl (cJ, 32, .inr (.inl j2_bk_got_c))), (ld, .inr (4, [.int ld_lines, .int ld_years, .int ld_card, .int ld_hurt, .int ld_people, .int ld_pairs, .long ld_strikes, .ref ld_rule, .ref ld_returns, .ref ld_forgets, .ref ld_death, .ref ld_move, .ref ld_begun, .ref ld_who, .ref ld_lost])), (ld_begun, .inl (cI, 16, .inl ld_begun_c)), (ld_who, .inl (cI, 32, .inl ld_who_c)), (ld_rule, .inl (cI, 10, .inl ld_rule_c)), (ld_returns, .inl (cI, 10, .inl ld_returns_c)), (ld_death, .inl (cI, 10, .inl ld_death_c)), (ld_move, .inl (cI, 10, .inl ld_move_c)), (ld_lost, .inl (cJ, 32, .inr (.inl ld_lost_c))), (co, .inr (2, [.int n_co_years_13, .int n_co_begun_13, .ref co_rule, .ref co_may, .ref co_reach, .ref co_first, .ref co_back, .ref co_got])), (co_first, .inl (cJ, 2, .inr (.inl n_co_first_c_17))), (co_back, .inl (cJ, 2, .inr (.inl n_co_back_c_17))), (co_got, .inl (cJ, 2, .inr (.inl n_co_got_c_17))), (co_rule, .inl (cI, 2, .inl n_co_rule_c_13)), (co_may, .inl (cJ, 2, .inr (.inl n_co_may_c_13))), (co_reach, .inl (cJ, 2, .inr (.inl n_co_reach_c_13)))] := hD
      rw [← e49] at hP hD
      refine lv_aload_n hx hb dX0_writeAll_52 rfl (lv_at hl 2 rfl) ?_
      refine va_get (D := g) (ci := 2) (v := .ref co_got) (C := RX2) (T := TX2) (N := 8) hx hb hts iX2 hown hK hP 12 rfl rfl 7 (by decide) (hts (.fieldLink RX0 48 "CardsAtYule$Course" "got" "[J") (List.mem_cons_of_mem _ (List.mem_append_left _ (List.mem_of_getElem? (i := 17) rfl)))) (fun _ h9 => h9) rfl dX0_writeAll_53 ?_
      refine lv_iconst (v := 0) hx hb dX0_writeAll_56 (by decide) ?_
      refine lv_aload_n hx hb dX0_writeAll_57 rfl (lv_at hl 0 rfl) ?_
      refine va_get (D := g) (ci := 0) (v := .ref bk_got) (C := RX0) (T := TX0) (N := 4) hx hb hts iX0 hown hK hP 0 rfl rfl 3 (by decide) (hts (.fieldLink RX0 22 "CardsAtYule$Book" "got" "[J") (List.mem_cons_of_mem _ (List.mem_append_left _ (List.mem_of_getElem? (i := 18) rfl)))) (fun _ h9 => h9) rfl dX0_writeAll_58 ?_
      refine lv_iconst (v := 2) hx hb dX0_writeAll_61 (by decide) ?_
      refine lv_iload_n hx hb dX0_writeAll_62 rfl (lv_at hl 3 rfl) ?_
      refine lv_imul hx hb dX0_writeAll_63 ?_
      refine lv_topi (fun y63 e63 => ?_)
      have q63 : y63.toInt = 2 * j2_l3.toInt := by rw [e63]; exact mu_z rfl rfl (ir_c 2) r7a (by decide) (by decide) (by decide)
      have r63 : ir y63.toInt 0 30 := mu_r q63 (ir_c 2) r7a (by decide) (by decide) (by decide) (by decide)
      refine lv_iconst (v := 2) hx hb dX0_writeAll_64 (by decide) ?_
      refine va_copyl (D := g) hx hb (hml.trans hl.1.symm) hown (hts (.methodLink RX0 41 arraycopyName) (List.mem_cons_of_mem _ (List.mem_append_left _ (List.mem_of_getElem? (i := 11) rfl)))) (hts (.native arraycopyName) (List.mem_cons_of_mem _ (List.mem_append_left _ (List.mem_of_getElem? (i := 12) rfl)))) (hts (.static arraycopyName) (List.mem_cons_of_mem _ (List.mem_append_left _ (List.mem_of_getElem? (i := 13) rfl)))) (hts (.initialized "java/lang/System") (List.mem_cons_of_mem _ (List.mem_append_left _ (List.mem_of_getElem? (i := 14) rfl)))) hK hP hD hS 15 3 1 1 rfl rfl rfl rfl rfl (by decide) (nn_i rfl r63 (by decide)) (by decide) (by decide) (cp_i rfl rfl r63 (ir_c 2) (by decide) (by decide) (by decide)) (fun _ _ => rfl) (Nat.le_of_ble_eq_true rfl) (Nat.le_of_ble_eq_true rfl) dX0_writeAll_65 (fun H locs hP hD hS => ?_)
      obtain ⟨g65, e65⟩ : ∃ z, z = va_cpy n_co_got_c_17 j2_bk_got_c 0 y63.toNatClampNeg 2 := ⟨_, rfl⟩
      have hP : va_P g vwCl [(bk, .inr (0, [.int bk_stale, .ref bk_first, .ref bk_back, .ref bk_got])), (bk_first, .inl (cJ, 32, .inr (.inl g33))), (bk_back, .inl (cJ, 32, .inr (.inl g49))), (bk_got, .inl (cJ, 32, .inr (.inl (va_cpy n_co_got_c_17 j2_bk_got_c 0 y63.toNatClampNeg 2)))), (ld, .inr (4, [.int ld_lines, .int ld_years, .int ld_card, .int ld_hurt, .int ld_people, .int ld_pairs, .long ld_strikes, .ref ld_rule, .ref ld_returns, .ref ld_forgets, .ref ld_death, .ref ld_move, .ref ld_begun, .ref ld_who, .ref ld_lost])), (ld_begun, .inl (cI, 16, .inl ld_begun_c)), (ld_who, .inl (cI, 32, .inl ld_who_c)), (ld_rule, .inl (cI, 10, .inl ld_rule_c)), (ld_returns, .inl (cI, 10, .inl ld_returns_c)), (ld_death, .inl (cI, 10, .inl ld_death_c)), (ld_move, .inl (cI, 10, .inl ld_move_c)), (ld_lost, .inl (cJ, 32, .inr (.inl ld_lost_c))), (co, .inr (2, [.int n_co_years_13, .int n_co_begun_13, .ref co_rule, .ref co_may, .ref co_reach, .ref co_first, .ref co_back, .ref co_got])), (co_first, .inl (cJ, 2, .inr (.inl n_co_first_c_17))), (co_back, .inl (cJ, 2, .inr (.inl n_co_back_c_17))), (co_got, .inl (cJ, 2, .inr (.inl n_co_got_c_17))), (co_rule, .inl (cI, 2, .inl n_co_rule_c_13)), (co_may, .inl (cJ, 2, .inr (.inl n_co_may_c_13))), (co_reach, .inl (cJ, 2, .inr (.inl n_co_reach_c_13)))] H := hP
      have hD : va_D A [(bk, .inr (0, [.int bk_stale, .ref bk_first, .ref bk_back, .ref bk_got])), (bk_first, .inl (cJ, 32, .inr (.inl g33))), (bk_back, .inl (cJ, 32, .inr (.inl g49))), (bk_got, .inl (cJ, 32, .inr (.inl (va_cpy n_co_got_c_17 j2_bk_got_c 0 y63.toNatClampNeg 2)))), (ld, .inr (4, [.int ld_lines, .int ld_years, .int ld_card, .int ld_hurt, .int ld_people, .int ld_pairs, .long ld_strikes, .ref ld_rule, .ref ld_returns, .ref ld_forgets, .ref ld_death, .ref ld_move, .ref ld_begun, .ref ld_who, .ref ld_lost])), (ld_begun, .inl (cI, 16, .inl ld_begun_c)), (ld_who, .inl (cI, 32, .inl ld_who_c)), (ld_rule, .inl (cI, 10, .inl ld_rule_c)), (ld_returns, .inl (cI, 10, .inl ld_returns_c)), (ld_death, .inl (cI, 10, .inl ld_death_c)), (ld_move, .inl (cI, 10, .inl ld_move_c)), (ld_lost, .inl (cJ, 32, .inr (.inl ld_lost_c))), (co, .inr (2, [.int n_co_years_13, .int n_co_begun_13, .ref co_rule, .ref co_may, .ref co_reach, .ref co_first, .ref co_back, .ref co_got])), (co_first, .inl (cJ, 2, .inr (.inl n_co_first_c_17))), (co_back, .inl (cJ, 2, .inr (.inl n_co_back_c_17))), (co_got, .inl (cJ, 2, .inr (.inl n_co_got_c_17))), (co_rule, .inl (cI, 2, .inl n_co_rule_c_13)), (co_may, .inl (cJ, 2, .inr (.inl n_co_may_c_13))), (co_reach, .inl (cJ, 2, .inr (.inl n_co_reach_c_13)))] := hD
      rw [← e65] at hP hD
      obtain ⟨y68, e68⟩ : ∃ y : Int32, y = j2_l3 + 1 := ⟨_, rfl⟩
      have q68 : y68.toInt = j2_l3.toInt + 1 := by rw [e68]; exact ad_z rfl rfl r7a (ir_c 1) (by decide) (by decide)
      have r68 : ir y68.toInt 1 16 := ad_r q68 r7a (ir_c 1) (by decide) (by decide)
      refine lv_iinc (v := y68) (lv' := [(3, .int y68), (0, .ref bk), (1, .ref ld), (2, .ref co)]) hx hb dX0_writeAll_68 hl (k := 3) rfl e68.symm (by decide) rfl (fun ls hl => ?_)
      refine lv_goto (tgt := 2) hx hb dX0_writeAll_71 (by decide) ?_
      exact ih2 y68 n_co_years_13 n_co_begun_13 n_co_first_c_17 n_co_back_c_17 n_co_got_c_17 n_co_rule_c_13 n_co_may_c_13 n_co_reach_c_13 g33 g49 g65 _ _ _ (by omega) (ir_w r68 (by decide) (by decide)) (hP.sub [4, 0, 12, 5, 6, 7, 8, 16, 9, 17, 10, 11, 18, 13, 14, 15, 1, 2, 3] rfl) (hD.sub [4, 0, 12, 5, 6, 7, 8, 16, 9, 17, 10, 11, 18, 13, 14, 15, 1, 2, 3] (by decide) rfl) hS (lv_sub hl [1, 2, 3, 0] rfl)
  exact J2 _ 0 co_years co_begun co_first_c co_back_c co_got_c co_rule_c co_may_c co_reach_c bk_first_c bk_back_c bk_got_c _ _ _ (Nat.lt_succ_self _) (by decide) (hP.sub [0, 1, 2, 3, 4, 5, 6, 7, 8, 9, 10, 11, 12, 13, 14, 15, 16, 17, 18] rfl) (hD.sub [0, 1, 2, 3, 4, 5, 6, 7, 8, 9, 10, 11, 12, 13, 14, 15, 16, 17, 18] (by decide) rfl) hS (lv_sub hl [1, 2, 3, 0] rfl)
def v_X0_sentOf : List Cond := .code yX0_sentOf cX0_sentOf 2 (some .long) :: (([.fieldLink RX0 15 "CardsAtYule$Book" "first" "[J", .fieldLink RX0 19 "CardsAtYule$Book" "back" "[J"] : List Cond) ++ (wsX00 ++ ([] : List Cond)))
theorem good_v_X0_sentOf : v_X0_sentOf.all goodWord = true := ga_c (by decide +kernel) (ga_a (by decide +kernel) (ga_a good_wsX00 rfl))
set_option maxHeartbeats 4000000 in
set_option maxRecDepth 100000 in
theorem q_X0_sentOf (l : Launch) (g : va_G) (cI cJ cB cZ cL : ClassId) (p0 : Int32) (bk : Nat) (bk_stale : Int32) (bk_first : Nat) (bk_back : Nat) (bk_got : Nat) (bk_first_c : Nat → Int64) (bk_back_c : Nat → Int64) (sz : Nat) (hv_p0 : ir p0.toInt 0 31) (hv_bk_stale : ir bk_stale.toInt 0 1) : Met l yX0_sentOf v_X0_sentOf ({ frames := 0, cells := 0, slots := 0, locals := 0 }) (va_Pc [.ref bk, .int p0] (pRO g (tyT cI cJ cB cZ cL) [(bk, .inr (0, [.int bk_stale, .ref bk_first, .ref bk_back, .ref bk_got])), (bk_first, .inl (cJ, 32, .inr (.inl bk_first_c))), (bk_back, .inl (cJ, 32, .inr (.inl bk_back_c)))] sz)) (va_Ql (fun (r : Int64) (u : Unit) => True) (fun (_ : Unit) (_ : State) => True) (va_A [] sz)) 0 0 (va_A [] sz) := by
  refine Met.ofW (cc := cX0_sentOf) (maxL := 2) (ret := (some .long)) (by decide) rfl ?_
  intro p e s m args below meth c s₁ B hml hv
  obtain ⟨rfl, hsz, hP, hK⟩ := hv
  have hx := B.exec
  have hb := B.bytes
  have hr := B.returns
  have hts := atoms_spec (ws := v_X0_sentOf) B.pre
  have hown : s.vm.findClass RX0 = some m.cls := findClass_of_methodNamed B.named
  have hlocks := B.notSynchronized
  clear B
  subst hsz
  have iX0 : ∀ w ∈ wsX00, w ∈ v_X0_sentOf := (fun _ h => List.mem_cons_of_mem _ (List.mem_append_right _ (List.mem_append_left _ h)))
  generalize hAe : (va_A [] s.heap.size) = A
  have hA : ∀ q : Nat, s.heap.size ≤ q → A q := fun q h => by rw [← hAe]; exact Or.inr h
  have hS : va_S A s.heap s.heap [] := va_S.rf
  have hl := lv_entry ([.ref bk, .int p0]) (n := 2) (Nat.le_of_ble_eq_true rfl)
  rw [lg_entry_eq]
  generalize (lg_sl ([.ref bk, .int p0]) ++ List.replicate (2 - (lg_sl ([.ref bk, .int p0])).length) Slot.unset).toArray = ls at hl ⊢
  generalize ([.ref bk, .int p0] : List Value).toArray = av at hts ⊢
  generalize hQ : MQ below _ av s _ _ A = QQ
  have hl : lv_has ls 2 [(0, .ref bk), (1, .int p0)] := hl
  have hP : va_P g vwCl [(bk, .inr (0, [.int bk_stale, .ref bk_first, .ref bk_back, .ref bk_got])), (bk_first, .inl (cJ, 32, .inr (.inl bk_first_c))), (bk_back, .inl (cJ, 32, .inr (.inl bk_back_c)))] s.heap := hP
  refine lv_aload_n hx hb dX0_sentOf_0 rfl (lv_at hl 0 rfl) ?_
  refine va_get (D := g) (ci := 0) (v := .ref bk_first) (C := RX0) (T := TX0) (N := 4) hx hb hts iX0 hown hK hP 0 rfl rfl 1 (by decide) (hts (.fieldLink RX0 15 "CardsAtYule$Book" "first" "[J") (List.mem_cons_of_mem _ (List.mem_append_left _ (List.mem_of_getElem? (i := 0) rfl)))) (fun _ h9 => h9) rfl dX0_sentOf_1 ?_
  refine lv_iload_n hx hb dX0_sentOf_4 rfl (lv_at hl 1 rfl) ?_
  refine va_lald (D := g) hx hb hK hP 1 1 rfl rfl (vi_rg rfl hv_p0 (by decide) (by decide)) dX0_sentOf_5 ?_
  refine lv_topl (fun y5 e5 => ?_)
  refine lv_aload_n hx hb dX0_sentOf_6 rfl (lv_at hl 0 rfl) ?_
  refine va_get (D := g) (ci := 0) (v := .ref bk_back) (C := RX0) (T := TX0) (N := 4) hx hb hts iX0 hown hK hP 0 rfl rfl 2 (by decide) (hts (.fieldLink RX0 19 "CardsAtYule$Book" "back" "[J") (List.mem_cons_of_mem _ (List.mem_append_left _ (List.mem_of_getElem? (i := 1) rfl)))) (fun _ h9 => h9) rfl dX0_sentOf_7 ?_
  refine lv_iload_n hx hb dX0_sentOf_10 rfl (lv_at hl 1 rfl) ?_
  refine va_lald (D := g) hx hb hK hP 2 1 rfl rfl (vi_rg rfl hv_p0 (by decide) (by decide)) dX0_sentOf_11 ?_
  refine lv_topl (fun y11 e11 => ?_)
  refine lv_lor hx hb dX0_sentOf_12 ?_
  refine lv_topl (fun y12 e12 => ?_)
  subst hQ
  exact W.lret (v := y12) hx hb hr (fun t ht hW => ⟨⟨y12, (), rfl, trivial, trivial⟩, hS.F ht⟩) hS.2.2 dX0_sentOf_13
def v_X0_sentByAny : List Cond := .code yX0_sentByAny cX0_sentByAny 2 (some .long) :: (([.methodLink RX0 49 yX0_sentOf, .instanceMethod yX0_sentOf, .selects RX0 yX0_sentOf yX0_sentOf, .initialized RX0] : List Cond) ++ (v_X0_sentOf ++ ([] : List Cond)))
theorem good_v_X0_sentByAny : v_X0_sentByAny.all goodWord = true := ga_c (by decide +kernel) (ga_a (by decide +kernel) (ga_a good_v_X0_sentOf rfl))
set_option maxHeartbeats 4000000 in
set_option maxRecDepth 100000 in
theorem q_X0_sentByAny (l : Launch) (g : va_G) (cI cJ cB cZ cL : ClassId) (p0 : Int32) (bk : Nat) (bk_stale : Int32) (bk_first : Nat) (bk_back : Nat) (bk_got : Nat) (bk_first_c : Nat → Int64) (bk_back_c : Nat → Int64) (sz : Nat) (hv_p0 : ir p0.toInt 0 15) (hv_bk_stale : ir bk_stale.toInt 0 1) : Met l yX0_sentByAny v_X0_sentByAny ({ frames := 1, cells := 0, slots := 0, locals := 21 }) (va_Pc [.ref bk, .int p0] (pRO g (tyT cI cJ cB cZ cL) [(bk, .inr (0, [.int bk_stale, .ref bk_first, .ref bk_back, .ref bk_got])), (bk_first, .inl (cJ, 32, .inr (.inl bk_first_c))), (bk_back, .inl (cJ, 32, .inr (.inl bk_back_c)))] sz)) (va_Ql (fun (r : Int64) (u : Unit) => True) (fun (_ : Unit) (_ : State) => True) (va_A [] sz)) 0 0 (va_A [] sz) := by
  refine Met.ofW (cc := cX0_sentByAny) (maxL := 2) (ret := (some .long)) (by decide) rfl ?_
  intro p e s m args below meth c s₁ B hml hv
  obtain ⟨rfl, hsz, hP, hK⟩ := hv
  have hx := B.exec
  have hb := B.bytes
  have hr := B.returns
  have hts := atoms_spec (ws := v_X0_sentByAny) B.pre
  have hown : s.vm.findClass RX0 = some m.cls := findClass_of_methodNamed B.named
  have hlocks := B.notSynchronized
  clear B
  subst hsz
  generalize hAe : (va_A [] s.heap.size) = A
  have hA : ∀ q : Nat, s.heap.size ≤ q → A q := fun q h => by rw [← hAe]; exact Or.inr h
  have hS : va_S A s.heap s.heap [] := va_S.rf
  have hl := lv_entry ([.ref bk, .int p0]) (n := 2) (Nat.le_of_ble_eq_true rfl)
  rw [lg_entry_eq]
  generalize (lg_sl ([.ref bk, .int p0]) ++ List.replicate (2 - (lg_sl ([.ref bk, .int p0])).length) Slot.unset).toArray = ls at hl ⊢
  generalize ([.ref bk, .int p0] : List Value).toArray = av at hts ⊢
  generalize hQ : MQ below _ av s _ _ A = QQ
  have hl : lv_has ls 2 [(0, .ref bk), (1, .int p0)] := hl
  have hP : va_P g vwCl [(bk, .inr (0, [.int bk_stale, .ref bk_first, .ref bk_back, .ref bk_got])), (bk_first, .inl (cJ, 32, .inr (.inl bk_first_c))), (bk_back, .inl (cJ, 32, .inr (.inl bk_back_c)))] s.heap := hP
  refine lv_aload_n hx hb dX0_sentByAny_0 rfl (lv_at hl 0 rfl) ?_
  refine lv_iconst (v := 2) hx hb dX0_sentByAny_1 (by decide) ?_
  refine lv_iload_n hx hb dX0_sentByAny_2 rfl (lv_at hl 1 rfl) ?_
  refine lv_imul hx hb dX0_sentByAny_3 ?_
  refine lv_topi (fun y3 e3 => ?_)
  have q3 : y3.toInt = 2 * p0.toInt := by rw [e3]; exact mu_z rfl rfl (ir_c 2) hv_p0 (by decide) (by decide) (by decide)
  have r3 : ir y3.toInt 0 30 := mu_r q3 (ir_c 2) hv_p0 (by decide) (by decide) (by decide) (by decide)
  refine ro_l (va_runV (As := [.int y3]) (rest := []) ⟨hx, hb, hml, hown, hts⟩ (q_X0_sentOf l g cI cJ cB cZ cL y3 bk bk_stale bk_first bk_back bk_got bk_first_c bk_back_c s.heap.size (ir_w r3 (by decide) (by decide)) hv_bk_stale) (cwV 1 hts (goodIn_app (g_4 (List.mem_cons_of_mem _ (List.mem_append_left _ (List.mem_of_getElem? (i := 0) rfl))) (List.mem_cons_of_mem _ (List.mem_append_left _ (List.mem_of_getElem? (i := 1) rfl))) (List.mem_cons_of_mem _ (List.mem_append_left _ (List.mem_of_getElem? (i := 2) rfl))) (List.mem_cons_of_mem _ (List.mem_append_left _ (List.mem_of_getElem? (i := 3) rfl))) (by decide +kernel)) (goodIn_sub (fun _ h => List.mem_cons_of_mem _ (List.mem_append_right _ (List.mem_append_left _ h))) good_v_X0_sentOf)) rfl rfl rfl (by decide +kernel) ⟨Nat.le_of_ble_eq_true rfl, Nat.le_of_ble_eq_true rfl⟩) (pv_RO (q := (RX0, TX0, 4)) (ci := 0) (q0 := 0) (wc := [(bk, .inr (0, [.int bk_stale, .ref bk_first, .ref bk_back, .ref bk_got])), (bk_first, .inl (cJ, 32, .inr (.inl bk_first_c))), (bk_back, .inl (cJ, 32, .inr (.inl bk_back_c)))]) hK hP [0, 1, 2] rfl rfl rfl) rfl rfl hl.1 rfl (lv_room (Nat.le_of_ble_eq_true rfl)) dX0_sentByAny_4 ⟨Nat.le_of_ble_eq_true rfl, Nat.le_of_ble_eq_true rfl⟩) hS hA hP (fun r4 u4 H locs hw4 hP hS => ?_)
  refine lv_aload_n hx hb dX0_sentByAny_7 rfl (lv_at hl 0 rfl) ?_
  refine lv_iconst (v := 2) hx hb dX0_sentByAny_8 (by decide) ?_
  refine lv_iload_n hx hb dX0_sentByAny_9 rfl (lv_at hl 1 rfl) ?_
  refine lv_imul hx hb dX0_sentByAny_10 ?_
  refine lv_topi (fun y10 e10 => ?_)
  have q10 : y10.toInt = 2 * p0.toInt := by rw [e10]; exact mu_z rfl rfl (ir_c 2) hv_p0 (by decide) (by decide) (by decide)
  have r10 : ir y10.toInt 0 30 := mu_r q10 (ir_c 2) hv_p0 (by decide) (by decide) (by decide) (by decide)
  refine lv_iconst (v := 1) hx hb dX0_sentByAny_11 (by decide) ?_
  refine lv_iadd hx hb dX0_sentByAny_12 ?_
  refine lv_topi (fun y12 e12 => ?_)
  have q12 : y12.toInt = y10.toInt + 1 := by rw [e12]; exact ad_z rfl rfl r10 (ir_c 1) (by decide) (by decide)
  have r12 : ir y12.toInt 1 31 := ad_r q12 r10 (ir_c 1) (by decide) (by decide)
  refine ro_l (va_runV (As := [.int y12]) (rest := [.long r4]) ⟨hx, hb, hml, hown, hts⟩ (q_X0_sentOf l g cI cJ cB cZ cL y12 bk bk_stale bk_first bk_back bk_got bk_first_c bk_back_c H.size (ir_w r12 (by decide) (by decide)) hv_bk_stale) (cwV 1 hts (goodIn_app (g_4 (List.mem_cons_of_mem _ (List.mem_append_left _ (List.mem_of_getElem? (i := 0) rfl))) (List.mem_cons_of_mem _ (List.mem_append_left _ (List.mem_of_getElem? (i := 1) rfl))) (List.mem_cons_of_mem _ (List.mem_append_left _ (List.mem_of_getElem? (i := 2) rfl))) (List.mem_cons_of_mem _ (List.mem_append_left _ (List.mem_of_getElem? (i := 3) rfl))) (by decide +kernel)) (goodIn_sub (fun _ h => List.mem_cons_of_mem _ (List.mem_append_right _ (List.mem_append_left _ h))) good_v_X0_sentOf)) rfl rfl rfl (by decide +kernel) ⟨Nat.le_of_ble_eq_true rfl, Nat.le_of_ble_eq_true rfl⟩) (pv_RO (q := (RX0, TX0, 4)) (ci := 0) (q0 := 0) (wc := [(bk, .inr (0, [.int bk_stale, .ref bk_first, .ref bk_back, .ref bk_got])), (bk_first, .inl (cJ, 32, .inr (.inl bk_first_c))), (bk_back, .inl (cJ, 32, .inr (.inl bk_back_c)))]) hK hP [0, 1, 2] rfl rfl rfl) rfl rfl hl.1 rfl (lv_room (Nat.le_of_ble_eq_true rfl)) dX0_sentByAny_13 ⟨Nat.le_of_ble_eq_true rfl, Nat.le_of_ble_eq_true rfl⟩) hS hA hP (fun r13 u13 H locs hw13 hP hS => ?_)
  refine lv_lor hx hb dX0_sentByAny_16 ?_
  refine lv_topl (fun y16 e16 => ?_)
  subst hQ
  exact W.lret (v := y16) hx hb hr (fun t ht hW => ⟨⟨y16, (), rfl, trivial, trivial⟩, hS.F ht⟩) hS.2.2 dX0_sentByAny_17
def v_X0_stateAhead : List Cond := .code yX0_stateAhead cX0_stateAhead 5 (some .int) :: (([.fieldLink RX0 53 "CardsAtYule$Land" "begun" "[I", .fieldLink RX0 22 "CardsAtYule$Book" "got" "[J", .methodLink RX0 57 yX0_stateOfSide, .static yX0_stateOfSide, .initialized RX0] : List Cond) ++ (v_X0_stateOfSide ++ (wsX40 ++ (wsX00 ++ ([] : List Cond)))))
theorem good_v_X0_stateAhead : v_X0_stateAhead.all goodWord = true := ga_c (by decide +kernel) (ga_a (by decide +kernel) (ga_a good_v_X0_stateOfSide (ga_a good_wsX40 (ga_a good_wsX00 rfl))))
set_option maxHeartbeats 4000000 in
set_option maxRecDepth 100000 in
theorem q_X0_stateAhead (l : Launch) (g : va_G) (cI cJ cB cZ cL : ClassId) (p1 : Int32) (p2 : Int32) (bk : Nat) (ld : Nat) (ld_lines : Int32) (ld_years : Int32) (ld_card : Int32) (ld_hurt : Int32) (ld_people : Int32) (ld_pairs : Int32) (ld_strikes : Int64) (ld_rule : Nat) (ld_returns : Nat) (ld_forgets : Nat) (ld_death : Nat) (ld_move : Nat) (ld_begun : Nat) (ld_who : Nat) (ld_lost : Nat) (ld_begun_c : Nat → Int32) (bk_stale : Int32) (bk_first : Nat) (bk_back : Nat) (bk_got : Nat) (bk_got_c : Nat → Int64) (sz : Nat) (hv_p1 : ir p1.toInt 0 15) (hv_ld_years : ir ld_years.toInt 0 40) (hv_ld_people : ir ld_people.toInt 0 10) (hv_ld_pairs : ir ld_pairs.toInt 0 16) (ha_ld_begun_c : ar ld_begun_c 16 0 15) (hv_bk_stale : ir bk_stale.toInt 0 1) : Met l yX0_stateAhead v_X0_stateAhead ({ frames := 1, cells := 0, slots := 0, locals := 25 }) (va_Pc [.ref bk, .ref ld, .int p1, .int p2] (pRO g (tyT cI cJ cB cZ cL) [(ld, .inr (4, [.int ld_lines, .int ld_years, .int ld_card, .int ld_hurt, .int ld_people, .int ld_pairs, .long ld_strikes, .ref ld_rule, .ref ld_returns, .ref ld_forgets, .ref ld_death, .ref ld_move, .ref ld_begun, .ref ld_who, .ref ld_lost])), (ld_begun, .inl (cI, 16, .inl ld_begun_c)), (bk, .inr (0, [.int bk_stale, .ref bk_first, .ref bk_back, .ref bk_got])), (bk_got, .inl (cJ, 32, .inr (.inl bk_got_c)))] sz)) (va_Qi (fun (r : Int32) (u : Unit) => (ir r.toInt 0 15)) (fun (_ : Unit) (_ : State) => True) (va_A [] sz)) 0 0 (va_A [] sz) := by
  refine Met.ofW (cc := cX0_stateAhead) (maxL := 5) (ret := (some .int)) (by decide) rfl ?_
  intro p e s m args below meth c s₁ B hml hv
  obtain ⟨rfl, hsz, hP, hK⟩ := hv
  have hx := B.exec
  have hb := B.bytes
  have hr := B.returns
  have hts := atoms_spec (ws := v_X0_stateAhead) B.pre
  have hown : s.vm.findClass RX0 = some m.cls := findClass_of_methodNamed B.named
  have hlocks := B.notSynchronized
  clear B
  subst hsz
  have iX4 : ∀ w ∈ wsX40, w ∈ v_X0_stateAhead := (fun _ h => List.mem_cons_of_mem _ (List.mem_append_right _ (List.mem_append_right _ (List.mem_append_left _ h))))
  have iX0 : ∀ w ∈ wsX00, w ∈ v_X0_stateAhead := (fun _ h => List.mem_cons_of_mem _ (List.mem_append_right _ (List.mem_append_right _ (List.mem_append_right _ (List.mem_append_left _ h)))))
  generalize hAe : (va_A [] s.heap.size) = A
  have hA : ∀ q : Nat, s.heap.size ≤ q → A q := fun q h => by rw [← hAe]; exact Or.inr h
  have hS : va_S A s.heap s.heap [] := va_S.rf
  have hl := lv_entry ([.ref bk, .ref ld, .int p1, .int p2]) (n := 5) (Nat.le_of_ble_eq_true rfl)
  rw [lg_entry_eq]
  generalize (lg_sl ([.ref bk, .ref ld, .int p1, .int p2]) ++ List.replicate (5 - (lg_sl ([.ref bk, .ref ld, .int p1, .int p2])).length) Slot.unset).toArray = ls at hl ⊢
  generalize ([.ref bk, .ref ld, .int p1, .int p2] : List Value).toArray = av at hts ⊢
  generalize hQ : MQ below _ av s _ _ A = QQ
  have hl : lv_has ls 5 [(0, .ref bk), (1, .ref ld), (2, .int p1), (3, .int p2)] := hl
  have hP : va_P g vwCl [(ld, .inr (4, [.int ld_lines, .int ld_years, .int ld_card, .int ld_hurt, .int ld_people, .int ld_pairs, .long ld_strikes, .ref ld_rule, .ref ld_returns, .ref ld_forgets, .ref ld_death, .ref ld_move, .ref ld_begun, .ref ld_who, .ref ld_lost])), (ld_begun, .inl (cI, 16, .inl ld_begun_c)), (bk, .inr (0, [.int bk_stale, .ref bk_first, .ref bk_back, .ref bk_got])), (bk_got, .inl (cJ, 32, .inr (.inl bk_got_c)))] s.heap := hP
  refine lv_aload_n hx hb dX0_stateAhead_0 rfl (lv_at hl 1 rfl) ?_
  refine va_get (D := g) (ci := 4) (v := .ref ld_begun) (C := RX4) (T := TX4) (N := 15) hx hb hts iX4 hown hK hP 0 rfl rfl 12 (by decide) (hts (.fieldLink RX0 53 "CardsAtYule$Land" "begun" "[I") (List.mem_cons_of_mem _ (List.mem_append_left _ (List.mem_of_getElem? (i := 0) rfl)))) (fun _ h9 => h9) rfl dX0_stateAhead_1 ?_
  refine lv_iload_n hx hb dX0_stateAhead_4 rfl (lv_at hl 2 rfl) ?_
  refine va_iald (D := g) hx hb hK hP 1 0 rfl rfl (vi_rg rfl hv_p1 (by decide) (by decide)) dX0_stateAhead_5 ?_
  refine lv_topi (fun y5 e5 => ?_)
  have r5 : ir y5.toInt 0 15 := by rw [e5]; exact ha_ld_begun_c _ (vi_cl (vi_rg rfl hv_p1 (by decide) (by decide)))
  refine lv_istore (lv' := [(4, .int y5), (0, .ref bk), (1, .ref ld), (2, .int p1), (3, .int p2)]) hx hb dX0_stateAhead_6 hl (by decide) rfl (fun ls hl => ?_)
  refine lv_aload_n hx hb dX0_stateAhead_8 rfl (lv_at hl 1 rfl) ?_
  refine va_get (D := g) (ci := 0) (v := .ref bk_got) (C := RX0) (T := TX0) (N := 4) hx hb hts iX0 hown hK hP 2 rfl rfl 3 (by decide) (hts (.fieldLink RX0 22 "CardsAtYule$Book" "got" "[J") (List.mem_cons_of_mem _ (List.mem_append_left _ (List.mem_of_getElem? (i := 1) rfl)))) (fun _ h9 => h9) rfl dX0_stateAhead_9 ?_
  refine lv_iconst (v := 2) hx hb dX0_stateAhead_12 (by decide) ?_
  refine lv_iload_n hx hb dX0_stateAhead_13 rfl (lv_at hl 3 rfl) ?_
  refine lv_imul hx hb dX0_stateAhead_14 ?_
  refine lv_topi (fun y14 e14 => ?_)
  have q14 : y14.toInt = 2 * p1.toInt := by rw [e14]; exact mu_z rfl rfl (ir_c 2) hv_p1 (by decide) (by decide) (by decide)
  have r14 : ir y14.toInt 0 30 := mu_r q14 (ir_c 2) hv_p1 (by decide) (by decide) (by decide) (by decide)
  refine va_lald (D := g) hx hb hK hP 3 1 rfl rfl (vi_rg rfl r14 (by decide) (by decide)) dX0_stateAhead_15 ?_
  refine lv_topl (fun y15 e15 => ?_)
  refine lv_iload hx hb dX0_stateAhead_16 (lv_at hl 0 rfl) ?_
  refine lv_iconst (v := 3) hx hb dX0_stateAhead_18 (by decide) ?_
  refine lv_iand hx hb dX0_stateAhead_19 ?_
  refine lv_topi (fun y19 e19 => ?_)
  have r19 : ir y19.toInt 0 3 := by rw [e19]; exact an_y rfl (ir_c 3) (by decide)
  refine lv_iload_n hx hb dX0_stateAhead_20 rfl (lv_at hl 4 rfl) ?_
  refine ro_i (va_runS (As := [.long y15, .int y19, .int p2]) (rest := []) ⟨hx, hb, hml, hown, hts⟩ (q_X0_stateOfSide l g cI cJ cB cZ cL y15 y19 p2 s.heap.size ) (va_cwS 3 hts (goodIn_app (g_3 (List.mem_cons_of_mem _ (List.mem_append_left _ (List.mem_of_getElem? (i := 2) rfl))) (List.mem_cons_of_mem _ (List.mem_append_left _ (List.mem_of_getElem? (i := 3) rfl))) (List.mem_cons_of_mem _ (List.mem_append_left _ (List.mem_of_getElem? (i := 4) rfl))) (by decide +kernel)) (goodIn_sub (fun _ h => List.mem_cons_of_mem _ (List.mem_append_right _ (List.mem_append_left _ h))) good_v_X0_stateOfSide)) rfl rfl rfl (by decide +kernel) ⟨Nat.le_of_ble_eq_true rfl, Nat.le_of_ble_eq_true rfl⟩) (ps_RO (wc := []) hK hP [] rfl) rfl rfl hl.1 rfl (lv_room (Nat.le_of_ble_eq_true rfl)) dX0_stateAhead_21 ⟨Nat.le_of_ble_eq_true rfl, Nat.le_of_ble_eq_true rfl⟩) hS hA hP (fun r21 u21 H locs hw21 hP hS => ?_)
  have hw21_0 := hw21
  refine lv_aload_n hx hb dX0_stateAhead_24 rfl (lv_at hl 1 rfl) ?_
  refine va_get (D := g) (ci := 0) (v := .ref bk_got) (C := RX0) (T := TX0) (N := 4) hx hb hts iX0 hown hK hP 2 rfl rfl 3 (by decide) (hts (.fieldLink RX0 22 "CardsAtYule$Book" "got" "[J") (List.mem_cons_of_mem _ (List.mem_append_left _ (List.mem_of_getElem? (i := 1) rfl)))) (fun _ h9 => h9) rfl dX0_stateAhead_25 ?_
  refine lv_iconst (v := 2) hx hb dX0_stateAhead_28 (by decide) ?_
  refine lv_iload_n hx hb dX0_stateAhead_29 rfl (lv_at hl 3 rfl) ?_
  refine lv_imul hx hb dX0_stateAhead_30 ?_
  refine lv_topi (fun y30 e30 => ?_)
  have q30 : y30.toInt = 2 * p1.toInt := by rw [e30]; exact mu_z rfl rfl (ir_c 2) hv_p1 (by decide) (by decide) (by decide)
  have r30 : ir y30.toInt 0 30 := mu_r q30 (ir_c 2) hv_p1 (by decide) (by decide) (by decide) (by decide)
  refine lv_iconst (v := 1) hx hb dX0_stateAhead_31 (by decide) ?_
  refine lv_iadd hx hb dX0_stateAhead_32 ?_
  refine lv_topi (fun y32 e32 => ?_)
  have q32 : y32.toInt = y30.toInt + 1 := by rw [e32]; exact ad_z rfl rfl r30 (ir_c 1) (by decide) (by decide)
  have r32 : ir y32.toInt 1 31 := ad_r q32 r30 (ir_c 1) (by decide) (by decide)
  refine va_lald (D := g) hx hb hK hP 3 1 rfl rfl (vi_rg rfl r32 (by decide) (by decide)) dX0_stateAhead_33 ?_
  refine lv_topl (fun y33 e33 => ?_)
  refine lv_iload hx hb dX0_stateAhead_34 (lv_at hl 0 rfl) ?_
  refine lv_iconst (v := 2) hx hb dX0_stateAhead_36 (by decide) ?_
  refine lv_ishr hx hb dX0_stateAhead_37 ?_
  refine lv_topi (fun y37 e37 => ?_)
  have r37 : ir y37.toInt 0 3 := by rw [e37]; exact sr_r 2 rfl r5 (by decide) (by decide) (by decide) (by decide)
  refine lv_iload_n hx hb dX0_stateAhead_38 rfl (lv_at hl 4 rfl) ?_
  refine ro_i (va_runS (As := [.long y33, .int y37, .int p2]) (rest := [.int r21]) ⟨hx, hb, hml, hown, hts⟩ (q_X0_stateOfSide l g cI cJ cB cZ cL y33 y37 p2 H.size ) (va_cwS 3 hts (goodIn_app (g_3 (List.mem_cons_of_mem _ (List.mem_append_left _ (List.mem_of_getElem? (i := 2) rfl))) (List.mem_cons_of_mem _ (List.mem_append_left _ (List.mem_of_getElem? (i := 3) rfl))) (List.mem_cons_of_mem _ (List.mem_append_left _ (List.mem_of_getElem? (i := 4) rfl))) (by decide +kernel)) (goodIn_sub (fun _ h => List.mem_cons_of_mem _ (List.mem_append_right _ (List.mem_append_left _ h))) good_v_X0_stateOfSide)) rfl rfl rfl (by decide +kernel) ⟨Nat.le_of_ble_eq_true rfl, Nat.le_of_ble_eq_true rfl⟩) (ps_RO (wc := []) hK hP [] rfl) rfl rfl hl.1 rfl (lv_room (Nat.le_of_ble_eq_true rfl)) dX0_stateAhead_39 ⟨Nat.le_of_ble_eq_true rfl, Nat.le_of_ble_eq_true rfl⟩) hS hA hP (fun r39 u39 H locs hw39 hP hS => ?_)
  have hw39_0 := hw39
  refine lv_iconst (v := 2) hx hb dX0_stateAhead_42 (by decide) ?_
  refine lv_ishl hx hb dX0_stateAhead_43 ?_
  refine lv_topi (fun y43 e43 => ?_)
  have r43 : ir y43.toInt 0 12 := by rw [e43]; exact sl_r 2 rfl hw39_0 (by decide) (by decide) (by decide) (by decide) (by decide)
  refine lv_ior hx hb dX0_stateAhead_44 ?_
  refine lv_topi (fun y44 e44 => ?_)
  have r44 : ir y44.toInt 0 15 := by rw [e44]; exact or_r 4 rfl rfl hw21_0 r43 (by decide) (by decide) (by decide) (by decide) (by decide)
  subst hQ
  exact W.iret (v := y44) hx hb hr (fun t ht hW => ⟨⟨y44, (), rfl, r44, trivial⟩, hS.F ht⟩) hS.2.2 dX0_stateAhead_45
def v_X0_sentIn : List Cond := .code yX0_sentIn cX0_sentIn 5 (some .int) :: (([.fieldLink RX0 25 "CardsAtYule$Land" "pairs" "I", .methodLink RX0 49 yX0_sentOf, .instanceMethod yX0_sentOf, .selects RX0 yX0_sentOf yX0_sentOf, .initialized RX0, .initialized RX11, .static yX11_isAt] : List Cond) ++ (v_X0_sentOf ++ (v_X11_isAt ++ (wsX40 ++ ([] : List Cond)))))
theorem good_v_X0_sentIn : v_X0_sentIn.all goodWord = true := ga_c (by decide +kernel) (ga_a (by decide +kernel) (ga_a good_v_X0_sentOf (ga_a good_v_X11_isAt (ga_a good_wsX40 rfl))))
set_option maxHeartbeats 4000000 in
set_option maxRecDepth 100000 in
theorem q_X0_sentIn (l : Launch) (g : va_G) (cI cJ cB cZ cL : ClassId) (kA : Nat → Nat) (vA : Nat → Nat) (p1 : Int32) (bk : Nat) (ld : Nat) (ld_lines : Int32) (ld_years : Int32) (ld_card : Int32) (ld_hurt : Int32) (ld_people : Int32) (ld_pairs : Int32) (ld_strikes : Int64) (ld_rule : Nat) (ld_returns : Nat) (ld_forgets : Nat) (ld_death : Nat) (ld_move : Nat) (ld_begun : Nat) (ld_who : Nat) (ld_lost : Nat) (bk_stale : Int32) (bk_first : Nat) (bk_back : Nat) (bk_got : Nat) (bk_first_c : Nat → Int64) (bk_back_c : Nat → Int64) (sz : Nat) (hv_ld_years : ir ld_years.toInt 0 40) (hv_ld_people : ir ld_people.toInt 0 10) (hv_ld_pairs : ir ld_pairs.toInt 0 16) (hv_bk_stale : ir bk_stale.toInt 0 1) : Met l yX0_sentIn v_X0_sentIn ({ frames := 1, cells := 0, slots := 0, locals := 22 }) (va_Pc [.ref bk, .ref ld, .int p1] (eRO g (tyT cI cJ cB cZ cL) [(ld, .inr (4, [.int ld_lines, .int ld_years, .int ld_card, .int ld_hurt, .int ld_people, .int ld_pairs, .long ld_strikes, .ref ld_rule, .ref ld_returns, .ref ld_forgets, .ref ld_death, .ref ld_move, .ref ld_begun, .ref ld_who, .ref ld_lost])), (bk, .inr (0, [.int bk_stale, .ref bk_first, .ref bk_back, .ref bk_got])), (bk_first, .inl (cJ, 32, .inr (.inl bk_first_c))), (bk_back, .inl (cJ, 32, .inr (.inl bk_back_c)))] sz kA vA)) (va_Qi (fun (r : Int32) (u : Unit) => True) (fun (_ : Unit) (_ : State) => True) (va_A [] sz)) 0 0 (va_A [] sz) := by
  refine Met.ofW (cc := cX0_sentIn) (maxL := 5) (ret := (some .int)) (by decide) rfl ?_
  intro p e s m args below meth c s₁ B hml hv
  obtain ⟨rfl, ⟨hsz, hP, hK⟩, hE⟩ := hv
  have hx := B.exec
  have hb := B.bytes
  have hr := B.returns
  have hts := atoms_spec (ws := v_X0_sentIn) B.pre
  have hown : s.vm.findClass RX0 = some m.cls := findClass_of_methodNamed B.named
  have hlocks := B.notSynchronized
  clear B
  subst hsz
  have iX4 : ∀ w ∈ wsX40, w ∈ v_X0_sentIn := (fun _ h => List.mem_cons_of_mem _ (List.mem_append_right _ (List.mem_append_right _ (List.mem_append_right _ (List.mem_append_left _ h)))))
  generalize hAe : (va_A [] s.heap.size) = A at hE ⊢
  have hA : ∀ q : Nat, s.heap.size ≤ q → A q := fun q h => by rw [← hAe]; exact Or.inr h
  have hS : va_S A s.heap s.heap [] := va_S.rf
  have hl := lv_entry ([.ref bk, .ref ld, .int p1]) (n := 5) (Nat.le_of_ble_eq_true rfl)
  rw [lg_entry_eq]
  generalize (lg_sl ([.ref bk, .ref ld, .int p1]) ++ List.replicate (5 - (lg_sl ([.ref bk, .ref ld, .int p1])).length) Slot.unset).toArray = ls at hl ⊢
  generalize ([.ref bk, .ref ld, .int p1] : List Value).toArray = av at hts ⊢
  generalize hQ : MQ below _ av s _ _ A = QQ
  have hl : lv_has ls 5 [(0, .ref bk), (1, .ref ld), (2, .int p1)] := hl
  have hP : va_P g vwCl [(ld, .inr (4, [.int ld_lines, .int ld_years, .int ld_card, .int ld_hurt, .int ld_people, .int ld_pairs, .long ld_strikes, .ref ld_rule, .ref ld_returns, .ref ld_forgets, .ref ld_death, .ref ld_move, .ref ld_begun, .ref ld_who, .ref ld_lost])), (bk, .inr (0, [.int bk_stale, .ref bk_first, .ref bk_back, .ref bk_got])), (bk_first, .inl (cJ, 32, .inr (.inl bk_first_c))), (bk_back, .inl (cJ, 32, .inr (.inl bk_back_c)))] s.heap := hP
  refine lv_iconst (v := 0) hx hb dX0_sentIn_0 (by decide) ?_
  refine lv_istore_n (lv' := [(3, .int 0), (0, .ref bk), (1, .ref ld), (2, .int p1)]) hx hb dX0_sentIn_1 rfl hl (by decide) rfl (fun ls hl => ?_)
  refine lv_iconst (v := 0) hx hb dX0_sentIn_2 (by decide) ?_
  refine lv_istore (lv' := [(4, .int 0), (3, .int 0), (0, .ref bk), (1, .ref ld), (2, .int p1)]) hx hb dX0_sentIn_3 hl (by decide) rfl (fun ls hl => ?_)
  have J5 : ∀ (n5 : Nat) (j5_l3 : Int32) (j5_l4 : Int32) (H : Heap) (locs : List Loc) (ls : Array Slot), (33 - j5_l4.toInt).toNat < n5 → (ir j5_l4.toInt 0 32) → va_P g vwCl [(ld, .inr (4, [.int ld_lines, .int ld_years, .int ld_card, .int ld_hurt, .int ld_people, .int ld_pairs, .long ld_strikes, .ref ld_rule, .ref ld_returns, .ref ld_forgets, .ref ld_death, .ref ld_move, .ref ld_begun, .ref ld_who, .ref ld_lost])), (bk, .inr (0, [.int bk_stale, .ref bk_first, .ref bk_back, .ref bk_got])), (bk_first, .inl (cJ, 32, .inr (.inl bk_first_c))), (bk_back, .inl (cJ, 32, .inr (.inl bk_back_c)))] H → va_S A s.heap H locs → lv_has ls 5 [(0, .ref bk), (1, .ref ld), (2, .int p1), (3, .int j5_l3), (4, .int j5_l4)] → W p l e (headSpec v_X0_sentIn ({ frames := 1, cells := 0, slots := 0, locals := 22 })).room s m av below meth c H locs 0 0 QQ (F0 m 5 ls []) := by
    intro n5
    induction n5 with
    | zero => exact fun j5_l3 j5_l4 H locs ls hn => absurd hn (Nat.not_lt_zero _)
    | succ n5 ih5 =>
      intro j5_l3 j5_l4 H locs ls hn5 hj5_l4 hP hS hl
      refine lv_iload hx hb dX0_sentIn_5 (lv_at hl 4 rfl) ?_
      refine lv_iconst (v := 2) hx hb dX0_sentIn_7 (by decide) ?_
      refine lv_aload_n hx hb dX0_sentIn_8 rfl (lv_at hl 1 rfl) ?_
      refine va_get (D := g) (ci := 4) (v := .int ld_pairs) (C := RX4) (T := TX4) (N := 15) hx hb hts iX4 hown hK hP 0 rfl rfl 5 (by decide) (hts (.fieldLink RX0 25 "CardsAtYule$Land" "pairs" "I") (List.mem_cons_of_mem _ (List.mem_append_left _ (List.mem_of_getElem? (i := 0) rfl)))) (fun _ h9 => h9) rfl dX0_sentIn_9 ?_
      refine lv_imul hx hb dX0_sentIn_12 ?_
      refine lv_topi (fun y12 e12 => ?_)
      have q12 : y12.toInt = 2 * ld_pairs.toInt := by rw [e12]; exact mu_z rfl rfl (ir_c 2) hv_ld_pairs (by decide) (by decide) (by decide)
      have r12 : ir y12.toInt 0 32 := mu_r q12 (ir_c 2) hv_ld_pairs (by decide) (by decide) (by decide) (by decide)
      refine lv_icmp_ge (tgt := 43) hx hb dX0_sentIn_13 (by decide) (fun c13 => ?_) (fun c13 => ?_)
      · have f13 := (show y12.toInt ≤ j5_l4.toInt from z_le rfl rfl c13)
        refine lv_iload_n hx hb dX0_sentIn_43 rfl (lv_at hl 3 rfl) ?_
        subst hQ
        exact W.iret (v := j5_l3) hx hb hr (fun t ht hW => ⟨⟨j5_l3, (), rfl, trivial, trivial⟩, hS.F ht⟩) hS.2.2 dX0_sentIn_44
      have f13 := (show j5_l4.toInt < y12.toInt from z_nle rfl rfl c13)
      have r13a : ir j5_l4.toInt 0 31 := ir_lta f13 hj5_l4 r12 (by decide)
      have r13b : ir y12.toInt 1 32 := ir_ltb f13 hj5_l4 r12 (by decide)
      refine lv_iload_n hx hb dX0_sentIn_16 rfl (lv_at hl 3 rfl) ?_
      refine lv_aload_n hx hb dX0_sentIn_17 rfl (lv_at hl 0 rfl) ?_
      refine lv_iload hx hb dX0_sentIn_18 (lv_at hl 4 rfl) ?_
      refine ro_l (va_runV (As := [.int j5_l4]) (rest := [.int j5_l3]) ⟨hx, hb, hml, hown, hts⟩ (q_X0_sentOf l g cI cJ cB cZ cL j5_l4 bk bk_stale bk_first bk_back bk_got bk_first_c bk_back_c H.size r13a hv_bk_stale) (cwV 1 hts (goodIn_app (g_4 (List.mem_cons_of_mem _ (List.mem_append_left _ (List.mem_of_getElem? (i := 1) rfl))) (List.mem_cons_of_mem _ (List.mem_append_left _ (List.mem_of_getElem? (i := 2) rfl))) (List.mem_cons_of_mem _ (List.mem_append_left _ (List.mem_of_getElem? (i := 3) rfl))) (List.mem_cons_of_mem _ (List.mem_append_left _ (List.mem_of_getElem? (i := 4) rfl))) (by decide +kernel)) (goodIn_sub (fun _ h => List.mem_cons_of_mem _ (List.mem_append_right _ (List.mem_append_left _ h))) good_v_X0_sentOf)) rfl rfl rfl (by decide +kernel) ⟨Nat.le_of_ble_eq_true rfl, Nat.le_of_ble_eq_true rfl⟩) (pv_RO (q := (RX0, TX0, 4)) (ci := 0) (q0 := 0) (wc := [(bk, .inr (0, [.int bk_stale, .ref bk_first, .ref bk_back, .ref bk_got])), (bk_first, .inl (cJ, 32, .inr (.inl bk_first_c))), (bk_back, .inl (cJ, 32, .inr (.inl bk_back_c)))]) hK hP [1, 2, 3] rfl rfl rfl) rfl rfl hl.1 rfl (lv_room (Nat.le_of_ble_eq_true rfl)) dX0_sentIn_20 ⟨Nat.le_of_ble_eq_true rfl, Nat.le_of_ble_eq_true rfl⟩) hS hA hP (fun r20 u20 H locs hw20 hP hS => ?_)
      refine lv_iload_n hx hb dX0_sentIn_23 rfl (lv_at hl 2 rfl) ?_
      refine ro_i (va_runSN (As := [.long r20, .int p1]) (rest := [.int j5_l3]) ⟨hx, hb, hml, hown, hts⟩ (q_X11_isAt l g cI cJ cB cZ cL r20 p1 H.size ) ⟨(va_cnB 2 hts (goodIn_sub (fun _ h => List.mem_cons_of_mem _ (List.mem_append_right _ (List.mem_append_right _ (List.mem_append_left _ h)))) good_v_X11_isAt) rfl rfl rfl (hE.nest _ (List.mem_of_getElem? (i := 0) rfl)) (hts (.initialized RX11) (List.mem_cons_of_mem _ (List.mem_append_left _ (List.mem_of_getElem? (i := 5) rfl)))) (by decide +kernel) ⟨Nat.le_of_ble_eq_true rfl, Nat.le_of_ble_eq_true rfl⟩), (hts (.static yX11_isAt) (List.mem_cons_of_mem _ (List.mem_append_left _ (List.mem_of_getElem? (i := 6) rfl)))), trivial⟩ (ps_RO (wc := []) hK hP [] rfl) rfl rfl hl.1 rfl (lv_room (Nat.le_of_ble_eq_true rfl)) dX0_sentIn_24 ⟨Nat.le_of_ble_eq_true rfl, Nat.le_of_ble_eq_true rfl⟩) hS hA hP (fun r24 u24 H locs hw24 hP hS => ?_)
      have hw24_0 := hw24
      have J35 : ∀ (j35_s0 : Int32) (H : Heap) (locs : List Loc) (ls : Array Slot), (ir j35_s0.toInt 0 1) → va_P g vwCl [(ld, .inr (4, [.int ld_lines, .int ld_years, .int ld_card, .int ld_hurt, .int ld_people, .int ld_pairs, .long ld_strikes, .ref ld_rule, .ref ld_returns, .ref ld_forgets, .ref ld_death, .ref ld_move, .ref ld_begun, .ref ld_who, .ref ld_lost])), (bk, .inr (0, [.int bk_stale, .ref bk_first, .ref bk_back, .ref bk_got])), (bk_first, .inl (cJ, 32, .inr (.inl bk_first_c))), (bk_back, .inl (cJ, 32, .inr (.inl bk_back_c)))] H → va_S A s.heap H locs → lv_has ls 5 [(0, .ref bk), (1, .ref ld), (2, .int p1), (4, .int j5_l4)] → W p l e (headSpec v_X0_sentIn ({ frames := 1, cells := 0, slots := 0, locals := 22 })).room s m av below meth c H locs 0 0 QQ (F0 m 35 ls [.int j35_s0, .int j5_l3]) := by
        intro j35_s0 H locs ls hj35_s0 hP hS hl
        refine lv_iadd hx hb dX0_sentIn_35 ?_
        refine lv_topi (fun y35 e35 => ?_)
        refine lv_istore_n (lv' := [(3, .int y35), (0, .ref bk), (1, .ref ld), (2, .int p1), (4, .int j5_l4)]) hx hb dX0_sentIn_36 rfl hl (by decide) rfl (fun ls hl => ?_)
        obtain ⟨y37, e37⟩ : ∃ y : Int32, y = j5_l4 + 1 := ⟨_, rfl⟩
        have q37 : y37.toInt = j5_l4.toInt + 1 := by rw [e37]; exact ad_z rfl rfl r13a (ir_c 1) (by decide) (by decide)
        have r37 : ir y37.toInt 1 32 := ad_r q37 r13a (ir_c 1) (by decide) (by decide)
        refine lv_iinc (v := y37) (lv' := [(4, .int y37), (3, .int y35), (0, .ref bk), (1, .ref ld), (2, .int p1)]) hx hb dX0_sentIn_37 hl (k := 4) rfl e37.symm (by decide) rfl (fun ls hl => ?_)
        refine lv_goto (tgt := 5) hx hb dX0_sentIn_40 (by decide) ?_
        exact ih5 y35 y37 _ _ _ (by omega) (ir_w r37 (by decide) (by decide)) (hP.sub [0, 1, 2, 3] rfl) hS (lv_sub hl [2, 3, 4, 1, 0] rfl)
      refine lv_if_eq (tgt := 34) hx hb dX0_sentIn_27 (by decide) (fun c27 => ?_) (fun c27 => ?_)
      · have f27 := (show r24.toInt = 0 from z_eq rfl rfl c27)
        have r27a : ir r24.toInt 0 0 := ir_eqa f27 hw24_0 (ir_c 0) (by decide) (by decide)
        refine lv_iconst (v := 0) hx hb dX0_sentIn_34 (by decide) ?_
        exact J35 0 _ _ _ (by decide) (hP.sub [0, 1, 2, 3] rfl) hS (lv_sub hl [0, 1, 2, 4] rfl)
      have f27 := (show r24.toInt ≠ 0 from z_ne rfl rfl c27)
      have r27a : ir r24.toInt 1 1 := ir_nel f27 hw24_0 (by decide) (by decide)
      refine lv_iconst (v := 1) hx hb dX0_sentIn_30 (by decide) ?_
      refine lv_goto (tgt := 35) hx hb dX0_sentIn_31 (by decide) ?_
      exact J35 1 _ _ _ (by decide) (hP.sub [0, 1, 2, 3] rfl) hS (lv_sub hl [0, 1, 2, 4] rfl)
  exact J5 _ 0 0 _ _ _ (Nat.lt_succ_self _) (by decide) (hP.sub [0, 1, 2, 3] rfl) hS (lv_sub hl [2, 3, 4, 1, 0] rfl)
def v_X0_comeIn : List Cond := .code yX0_comeIn cX0_comeIn 5 (some .int) :: (([.fieldLink RX0 25 "CardsAtYule$Land" "pairs" "I", .fieldLink RX0 22 "CardsAtYule$Book" "got" "[J", .initialized RX11, .static yX11_isAt] : List Cond) ++ (v_X11_isAt ++ (wsX40 ++ (wsX00 ++ ([] : List Cond)))))
theorem good_v_X0_comeIn : v_X0_comeIn.all goodWord = true := ga_c (by decide +kernel) (ga_a (by decide +kernel) (ga_a good_v_X11_isAt (ga_a good_wsX40 (ga_a good_wsX00 rfl))))
set_option maxHeartbeats 4000000 in
set_option maxRecDepth 100000 in
theorem q_X0_comeIn (l : Launch) (g : va_G) (cI cJ cB cZ cL : ClassId) (kA : Nat → Nat) (vA : Nat → Nat) (p1 : Int32) (bk : Nat) (ld : Nat) (ld_lines : Int32) (ld_years : Int32) (ld_card : Int32) (ld_hurt : Int32) (ld_people : Int32) (ld_pairs : Int32) (ld_strikes : Int64) (ld_rule : Nat) (ld_returns : Nat) (ld_forgets : Nat) (ld_death : Nat) (ld_move : Nat) (ld_begun : Nat) (ld_who : Nat) (ld_lost : Nat) (bk_stale : Int32) (bk_first : Nat) (bk_back : Nat) (bk_got : Nat) (bk_got_c : Nat → Int64) (sz : Nat) (hv_ld_years : ir ld_years.toInt 0 40) (hv_ld_people : ir ld_people.toInt 0 10) (hv_ld_pairs : ir ld_pairs.toInt 0 16) (hv_bk_stale : ir bk_stale.toInt 0 1) : Met l yX0_comeIn v_X0_comeIn ({ frames := 1, cells := 0, slots := 0, locals := 22 }) (va_Pc [.ref bk, .ref ld, .int p1] (eRO g (tyT cI cJ cB cZ cL) [(ld, .inr (4, [.int ld_lines, .int ld_years, .int ld_card, .int ld_hurt, .int ld_people, .int ld_pairs, .long ld_strikes, .ref ld_rule, .ref ld_returns, .ref ld_forgets, .ref ld_death, .ref ld_move, .ref ld_begun, .ref ld_who, .ref ld_lost])), (bk, .inr (0, [.int bk_stale, .ref bk_first, .ref bk_back, .ref bk_got])), (bk_got, .inl (cJ, 32, .inr (.inl bk_got_c)))] sz kA vA)) (va_Qi (fun (r : Int32) (u : Unit) => True) (fun (_ : Unit) (_ : State) => True) (va_A [] sz)) 0 0 (va_A [] sz) := by
  refine Met.ofW (cc := cX0_comeIn) (maxL := 5) (ret := (some .int)) (by decide) rfl ?_
  intro p e s m args below meth c s₁ B hml hv
  obtain ⟨rfl, ⟨hsz, hP, hK⟩, hE⟩ := hv
  have hx := B.exec
  have hb := B.bytes
  have hr := B.returns
  have hts := atoms_spec (ws := v_X0_comeIn) B.pre
  have hown : s.vm.findClass RX0 = some m.cls := findClass_of_methodNamed B.named
  have hlocks := B.notSynchronized
  clear B
  subst hsz
  have iX4 : ∀ w ∈ wsX40, w ∈ v_X0_comeIn := (fun _ h => List.mem_cons_of_mem _ (List.mem_append_right _ (List.mem_append_right _ (List.mem_append_left _ h))))
  have iX0 : ∀ w ∈ wsX00, w ∈ v_X0_comeIn := (fun _ h => List.mem_cons_of_mem _ (List.mem_append_right _ (List.mem_append_right _ (List.mem_append_right _ (List.mem_append_left _ h)))))
  generalize hAe : (va_A [] s.heap.size) = A at hE ⊢
  have hA : ∀ q : Nat, s.heap.size ≤ q → A q := fun q h => by rw [← hAe]; exact Or.inr h
  have hS : va_S A s.heap s.heap [] := va_S.rf
  have hl := lv_entry ([.ref bk, .ref ld, .int p1]) (n := 5) (Nat.le_of_ble_eq_true rfl)
  rw [lg_entry_eq]
  generalize (lg_sl ([.ref bk, .ref ld, .int p1]) ++ List.replicate (5 - (lg_sl ([.ref bk, .ref ld, .int p1])).length) Slot.unset).toArray = ls at hl ⊢
  generalize ([.ref bk, .ref ld, .int p1] : List Value).toArray = av at hts ⊢
  generalize hQ : MQ below _ av s _ _ A = QQ
  have hl : lv_has ls 5 [(0, .ref bk), (1, .ref ld), (2, .int p1)] := hl
  have hP : va_P g vwCl [(ld, .inr (4, [.int ld_lines, .int ld_years, .int ld_card, .int ld_hurt, .int ld_people, .int ld_pairs, .long ld_strikes, .ref ld_rule, .ref ld_returns, .ref ld_forgets, .ref ld_death, .ref ld_move, .ref ld_begun, .ref ld_who, .ref ld_lost])), (bk, .inr (0, [.int bk_stale, .ref bk_first, .ref bk_back, .ref bk_got])), (bk_got, .inl (cJ, 32, .inr (.inl bk_got_c)))] s.heap := hP
  refine lv_iconst (v := 0) hx hb dX0_comeIn_0 (by decide) ?_
  refine lv_istore_n (lv' := [(3, .int 0), (0, .ref bk), (1, .ref ld), (2, .int p1)]) hx hb dX0_comeIn_1 rfl hl (by decide) rfl (fun ls hl => ?_)
  refine lv_iconst (v := 0) hx hb dX0_comeIn_2 (by decide) ?_
  refine lv_istore (lv' := [(4, .int 0), (3, .int 0), (0, .ref bk), (1, .ref ld), (2, .int p1)]) hx hb dX0_comeIn_3 hl (by decide) rfl (fun ls hl => ?_)
  have J5 : ∀ (n5 : Nat) (j5_l3 : Int32) (j5_l4 : Int32) (H : Heap) (locs : List Loc) (ls : Array Slot), (33 - j5_l4.toInt).toNat < n5 → (ir j5_l4.toInt 0 32) → va_P g vwCl [(ld, .inr (4, [.int ld_lines, .int ld_years, .int ld_card, .int ld_hurt, .int ld_people, .int ld_pairs, .long ld_strikes, .ref ld_rule, .ref ld_returns, .ref ld_forgets, .ref ld_death, .ref ld_move, .ref ld_begun, .ref ld_who, .ref ld_lost])), (bk, .inr (0, [.int bk_stale, .ref bk_first, .ref bk_back, .ref bk_got])), (bk_got, .inl (cJ, 32, .inr (.inl bk_got_c)))] H → va_S A s.heap H locs → lv_has ls 5 [(0, .ref bk), (1, .ref ld), (2, .int p1), (3, .int j5_l3), (4, .int j5_l4)] → W p l e (headSpec v_X0_comeIn ({ frames := 1, cells := 0, slots := 0, locals := 22 })).room s m av below meth c H locs 0 0 QQ (F0 m 5 ls []) := by
    intro n5
    induction n5 with
    | zero => exact fun j5_l3 j5_l4 H locs ls hn => absurd hn (Nat.not_lt_zero _)
    | succ n5 ih5 =>
      intro j5_l3 j5_l4 H locs ls hn5 hj5_l4 hP hS hl
      refine lv_iload hx hb dX0_comeIn_5 (lv_at hl 4 rfl) ?_
      refine lv_iconst (v := 2) hx hb dX0_comeIn_7 (by decide) ?_
      refine lv_aload_n hx hb dX0_comeIn_8 rfl (lv_at hl 1 rfl) ?_
      refine va_get (D := g) (ci := 4) (v := .int ld_pairs) (C := RX4) (T := TX4) (N := 15) hx hb hts iX4 hown hK hP 0 rfl rfl 5 (by decide) (hts (.fieldLink RX0 25 "CardsAtYule$Land" "pairs" "I") (List.mem_cons_of_mem _ (List.mem_append_left _ (List.mem_of_getElem? (i := 0) rfl)))) (fun _ h9 => h9) rfl dX0_comeIn_9 ?_
      refine lv_imul hx hb dX0_comeIn_12 ?_
      refine lv_topi (fun y12 e12 => ?_)
      have q12 : y12.toInt = 2 * ld_pairs.toInt := by rw [e12]; exact mu_z rfl rfl (ir_c 2) hv_ld_pairs (by decide) (by decide) (by decide)
      have r12 : ir y12.toInt 0 32 := mu_r q12 (ir_c 2) hv_ld_pairs (by decide) (by decide) (by decide) (by decide)
      refine lv_icmp_ge (tgt := 44) hx hb dX0_comeIn_13 (by decide) (fun c13 => ?_) (fun c13 => ?_)
      · have f13 := (show y12.toInt ≤ j5_l4.toInt from z_le rfl rfl c13)
        refine lv_iload_n hx hb dX0_comeIn_44 rfl (lv_at hl 3 rfl) ?_
        subst hQ
        exact W.iret (v := j5_l3) hx hb hr (fun t ht hW => ⟨⟨j5_l3, (), rfl, trivial, trivial⟩, hS.F ht⟩) hS.2.2 dX0_comeIn_45
      have f13 := (show j5_l4.toInt < y12.toInt from z_nle rfl rfl c13)
      have r13a : ir j5_l4.toInt 0 31 := ir_lta f13 hj5_l4 r12 (by decide)
      have r13b : ir y12.toInt 1 32 := ir_ltb f13 hj5_l4 r12 (by decide)
      refine lv_iload_n hx hb dX0_comeIn_16 rfl (lv_at hl 3 rfl) ?_
      refine lv_aload_n hx hb dX0_comeIn_17 rfl (lv_at hl 0 rfl) ?_
      refine va_get (D := g) (ci := 0) (v := .ref bk_got) (C := RX0) (T := TX0) (N := 4) hx hb hts iX0 hown hK hP 1 rfl rfl 3 (by decide) (hts (.fieldLink RX0 22 "CardsAtYule$Book" "got" "[J") (List.mem_cons_of_mem _ (List.mem_append_left _ (List.mem_of_getElem? (i := 1) rfl)))) (fun _ h9 => h9) rfl dX0_comeIn_18 ?_
      refine lv_iload hx hb dX0_comeIn_21 (lv_at hl 4 rfl) ?_
      refine va_lald (D := g) hx hb hK hP 2 1 rfl rfl (vi_rg rfl r13a (by decide) (by decide)) dX0_comeIn_23 ?_
      refine lv_topl (fun y23 e23 => ?_)
      refine lv_iload_n hx hb dX0_comeIn_24 rfl (lv_at hl 2 rfl) ?_
      refine ro_i (va_runSN (As := [.long y23, .int p1]) (rest := [.int j5_l3]) ⟨hx, hb, hml, hown, hts⟩ (q_X11_isAt l g cI cJ cB cZ cL y23 p1 H.size ) ⟨(va_cnB 2 hts (goodIn_sub (fun _ h => List.mem_cons_of_mem _ (List.mem_append_right _ (List.mem_append_left _ h))) good_v_X11_isAt) rfl rfl rfl (hE.nest _ (List.mem_of_getElem? (i := 0) rfl)) (hts (.initialized RX11) (List.mem_cons_of_mem _ (List.mem_append_left _ (List.mem_of_getElem? (i := 2) rfl)))) (by decide +kernel) ⟨Nat.le_of_ble_eq_true rfl, Nat.le_of_ble_eq_true rfl⟩), (hts (.static yX11_isAt) (List.mem_cons_of_mem _ (List.mem_append_left _ (List.mem_of_getElem? (i := 3) rfl)))), trivial⟩ (ps_RO (wc := []) hK hP [] rfl) rfl rfl hl.1 rfl (lv_room (Nat.le_of_ble_eq_true rfl)) dX0_comeIn_25 ⟨Nat.le_of_ble_eq_true rfl, Nat.le_of_ble_eq_true rfl⟩) hS hA hP (fun r25 u25 H locs hw25 hP hS => ?_)
      have hw25_0 := hw25
      have J36 : ∀ (j36_s0 : Int32) (H : Heap) (locs : List Loc) (ls : Array Slot), (ir j36_s0.toInt 0 1) → va_P g vwCl [(ld, .inr (4, [.int ld_lines, .int ld_years, .int ld_card, .int ld_hurt, .int ld_people, .int ld_pairs, .long ld_strikes, .ref ld_rule, .ref ld_returns, .ref ld_forgets, .ref ld_death, .ref ld_move, .ref ld_begun, .ref ld_who, .ref ld_lost])), (bk, .inr (0, [.int bk_stale, .ref bk_first, .ref bk_back, .ref bk_got])), (bk_got, .inl (cJ, 32, .inr (.inl bk_got_c)))] H → va_S A s.heap H locs → lv_has ls 5 [(0, .ref bk), (1, .ref ld), (2, .int p1), (4, .int j5_l4)] → W p l e (headSpec v_X0_comeIn ({ frames := 1, cells := 0, slots := 0, locals := 22 })).room s m av below meth c H locs 0 0 QQ (F0 m 36 ls [.int j36_s0, .int j5_l3]) := by
        intro j36_s0 H locs ls hj36_s0 hP hS hl
        refine lv_iadd hx hb dX0_comeIn_36 ?_
        refine lv_topi (fun y36 e36 => ?_)
        refine lv_istore_n (lv' := [(3, .int y36), (0, .ref bk), (1, .ref ld), (2, .int p1), (4, .int j5_l4)]) hx hb dX0_comeIn_37 rfl hl (by decide) rfl (fun ls hl => ?_)
        obtain ⟨y38, e38⟩ : ∃ y : Int32, y = j5_l4 + 1 := ⟨_, rfl⟩
        have q38 : y38.toInt = j5_l4.toInt + 1 := by rw [e38]; exact ad_z rfl rfl r13a (ir_c 1) (by decide) (by decide)
        have r38 : ir y38.toInt 1 32 := ad_r q38 r13a (ir_c 1) (by decide) (by decide)
        refine lv_iinc (v := y38) (lv' := [(4, .int y38), (3, .int y36), (0, .ref bk), (1, .ref ld), (2, .int p1)]) hx hb dX0_comeIn_38 hl (k := 4) rfl e38.symm (by decide) rfl (fun ls hl => ?_)
        refine lv_goto (tgt := 5) hx hb dX0_comeIn_41 (by decide) ?_
        exact ih5 y36 y38 _ _ _ (by omega) (ir_w r38 (by decide) (by decide)) (hP.sub [0, 1, 2] rfl) hS (lv_sub hl [2, 3, 4, 1, 0] rfl)
      refine lv_if_eq (tgt := 35) hx hb dX0_comeIn_28 (by decide) (fun c28 => ?_) (fun c28 => ?_)
      · have f28 := (show r25.toInt = 0 from z_eq rfl rfl c28)
        have r28a : ir r25.toInt 0 0 := ir_eqa f28 hw25_0 (ir_c 0) (by decide) (by decide)
        refine lv_iconst (v := 0) hx hb dX0_comeIn_35 (by decide) ?_
        exact J36 0 _ _ _ (by decide) (hP.sub [0, 1, 2] rfl) hS (lv_sub hl [0, 1, 2, 4] rfl)
      have f28 := (show r25.toInt ≠ 0 from z_ne rfl rfl c28)
      have r28a : ir r25.toInt 1 1 := ir_nel f28 hw25_0 (by decide) (by decide)
      refine lv_iconst (v := 1) hx hb dX0_comeIn_31 (by decide) ?_
      refine lv_goto (tgt := 36) hx hb dX0_comeIn_32 (by decide) ?_
      exact J36 1 _ _ _ (by decide) (hP.sub [0, 1, 2] rfl) hS (lv_sub hl [0, 1, 2, 4] rfl)
  exact J5 _ 0 0 _ _ _ (Nat.lt_succ_self _) (by decide) (hP.sub [0, 1, 2] rfl) hS (lv_sub hl [2, 3, 4, 1, 0] rfl)
def v_X0_costOf : List Cond := .code yX0_costOf cX0_costOf 7 (some .int) :: (([.fieldLink RX0 25 "CardsAtYule$Land" "pairs" "I", .fieldLink RX0 65 "CardsAtYule$Land" "who" "[I", .methodLink RX0 49 yX0_sentOf, .instanceMethod yX0_sentOf, .selects RX0 yX0_sentOf yX0_sentOf, .initialized RX0, .fieldLink RX0 68 "CardsAtYule$Land" "card" "I", .methodLink RX0 71 yJ13_bitCount_95d88, .static yJ13_bitCount_95d88, .initialized RJ13, .fieldLink RX0 77 "CardsAtYule$Land" "hurt" "I", .fieldLink RX0 22 "CardsAtYule$Book" "got" "[J", .constantLong RX0 80 (-1)] : List Cond) ++ (v_X0_sentOf ++ (v_J13_bitCount_95d88 ++ (wsX40 ++ (wsX00 ++ ([] : List Cond))))))
theorem good_v_X0_costOf : v_X0_costOf.all goodWord = true := ga_c (by decide +kernel) (ga_a (by decide +kernel) (ga_a good_v_X0_sentOf (ga_a good_v_J13_bitCount_95d88 (ga_a good_wsX40 (ga_a good_wsX00 rfl)))))
set_option maxHeartbeats 4000000 in
set_option maxRecDepth 100000 in
theorem q_X0_costOf (l : Launch) (g : va_G) (cI cJ cB cZ cL : ClassId) (p1 : Int32) (bk : Nat) (ld : Nat) (ld_lines : Int32) (ld_years : Int32) (ld_card : Int32) (ld_hurt : Int32) (ld_people : Int32) (ld_pairs : Int32) (ld_strikes : Int64) (ld_rule : Nat) (ld_returns : Nat) (ld_forgets : Nat) (ld_death : Nat) (ld_move : Nat) (ld_begun : Nat) (ld_who : Nat) (ld_lost : Nat) (ld_who_c : Nat → Int32) (bk_stale : Int32) (bk_first : Nat) (bk_back : Nat) (bk_got : Nat) (bk_first_c : Nat → Int64) (bk_back_c : Nat → Int64) (bk_got_c : Nat → Int64) (sz : Nat) (hv_ld_years : ir ld_years.toInt 0 40) (hv_ld_people : ir ld_people.toInt 0 10) (hv_ld_pairs : ir ld_pairs.toInt 0 16) (ha_ld_who_c : ar ld_who_c 32 0 9) (hv_bk_stale : ir bk_stale.toInt 0 1) : Met l yX0_costOf v_X0_costOf ({ frames := 1, cells := 0, slots := 0, locals := 21 }) (va_Pc [.ref bk, .ref ld, .int p1] (pRO g (tyT cI cJ cB cZ cL) [(ld, .inr (4, [.int ld_lines, .int ld_years, .int ld_card, .int ld_hurt, .int ld_people, .int ld_pairs, .long ld_strikes, .ref ld_rule, .ref ld_returns, .ref ld_forgets, .ref ld_death, .ref ld_move, .ref ld_begun, .ref ld_who, .ref ld_lost])), (ld_who, .inl (cI, 32, .inl ld_who_c)), (bk, .inr (0, [.int bk_stale, .ref bk_first, .ref bk_back, .ref bk_got])), (bk_first, .inl (cJ, 32, .inr (.inl bk_first_c))), (bk_back, .inl (cJ, 32, .inr (.inl bk_back_c))), (bk_got, .inl (cJ, 32, .inr (.inl bk_got_c)))] sz)) (va_Qi (fun (r : Int32) (u : Unit) => True) (fun (_ : Unit) (_ : State) => True) (va_A [] sz)) 0 0 (va_A [] sz) := by
  refine Met.ofW (cc := cX0_costOf) (maxL := 7) (ret := (some .int)) (by decide) rfl ?_
  intro p e s m args below meth c s₁ B hml hv
  obtain ⟨rfl, hsz, hP, hK⟩ := hv
  have hx := B.exec
  have hb := B.bytes
  have hr := B.returns
  have hts := atoms_spec (ws := v_X0_costOf) B.pre
  have hown : s.vm.findClass RX0 = some m.cls := findClass_of_methodNamed B.named
  have hlocks := B.notSynchronized
  clear B
  subst hsz
  have iX4 : ∀ w ∈ wsX40, w ∈ v_X0_costOf := (fun _ h => List.mem_cons_of_mem _ (List.mem_append_right _ (List.mem_append_right _ (List.mem_append_right _ (List.mem_append_left _ h)))))
  have iX0 : ∀ w ∈ wsX00, w ∈ v_X0_costOf := (fun _ h => List.mem_cons_of_mem _ (List.mem_append_right _ (List.mem_append_right _ (List.mem_append_right _ (List.mem_append_right _ (List.mem_append_left _ h))))))
  generalize hAe : (va_A [] s.heap.size) = A
  have hA : ∀ q : Nat, s.heap.size ≤ q → A q := fun q h => by rw [← hAe]; exact Or.inr h
  have hS : va_S A s.heap s.heap [] := va_S.rf
  have hl := lv_entry ([.ref bk, .ref ld, .int p1]) (n := 7) (Nat.le_of_ble_eq_true rfl)
  rw [lg_entry_eq]
  generalize (lg_sl ([.ref bk, .ref ld, .int p1]) ++ List.replicate (7 - (lg_sl ([.ref bk, .ref ld, .int p1])).length) Slot.unset).toArray = ls at hl ⊢
  generalize ([.ref bk, .ref ld, .int p1] : List Value).toArray = av at hts ⊢
  generalize hQ : MQ below _ av s _ _ A = QQ
  have hl : lv_has ls 7 [(0, .ref bk), (1, .ref ld), (2, .int p1)] := hl
  have hP : va_P g vwCl [(ld, .inr (4, [.int ld_lines, .int ld_years, .int ld_card, .int ld_hurt, .int ld_people, .int ld_pairs, .long ld_strikes, .ref ld_rule, .ref ld_returns, .ref ld_forgets, .ref ld_death, .ref ld_move, .ref ld_begun, .ref ld_who, .ref ld_lost])), (ld_who, .inl (cI, 32, .inl ld_who_c)), (bk, .inr (0, [.int bk_stale, .ref bk_first, .ref bk_back, .ref bk_got])), (bk_first, .inl (cJ, 32, .inr (.inl bk_first_c))), (bk_back, .inl (cJ, 32, .inr (.inl bk_back_c))), (bk_got, .inl (cJ, 32, .inr (.inl bk_got_c)))] s.heap := hP
  refine lv_iconst (v := 0) hx hb dX0_costOf_0 (by decide) ?_
  refine lv_istore_n (lv' := [(3, .int 0), (0, .ref bk), (1, .ref ld), (2, .int p1)]) hx hb dX0_costOf_1 rfl hl (by decide) rfl (fun ls hl => ?_)
  refine lv_iconst (v := 0) hx hb dX0_costOf_2 (by decide) ?_
  refine lv_istore (lv' := [(4, .int 0), (3, .int 0), (0, .ref bk), (1, .ref ld), (2, .int p1)]) hx hb dX0_costOf_3 hl (by decide) rfl (fun ls hl => ?_)
  have J5 : ∀ (n5 : Nat) (j5_l3 : Int32) (j5_l4 : Int32) (H : Heap) (locs : List Loc) (ls : Array Slot), (33 - j5_l4.toInt).toNat < n5 → (ir j5_l4.toInt 0 32) → va_P g vwCl [(ld, .inr (4, [.int ld_lines, .int ld_years, .int ld_card, .int ld_hurt, .int ld_people, .int ld_pairs, .long ld_strikes, .ref ld_rule, .ref ld_returns, .ref ld_forgets, .ref ld_death, .ref ld_move, .ref ld_begun, .ref ld_who, .ref ld_lost])), (ld_who, .inl (cI, 32, .inl ld_who_c)), (bk, .inr (0, [.int bk_stale, .ref bk_first, .ref bk_back, .ref bk_got])), (bk_first, .inl (cJ, 32, .inr (.inl bk_first_c))), (bk_back, .inl (cJ, 32, .inr (.inl bk_back_c))), (bk_got, .inl (cJ, 32, .inr (.inl bk_got_c)))] H → va_S A s.heap H locs → lv_has ls 7 [(0, .ref bk), (1, .ref ld), (2, .int p1), (3, .int j5_l3), (4, .int j5_l4)] → W p l e (headSpec v_X0_costOf ({ frames := 1, cells := 0, slots := 0, locals := 21 })).room s m av below meth c H locs 0 0 QQ (F0 m 5 ls []) := by
    intro n5
    induction n5 with
    | zero => exact fun j5_l3 j5_l4 H locs ls hn => absurd hn (Nat.not_lt_zero _)
    | succ n5 ih5 =>
      intro j5_l3 j5_l4 H locs ls hn5 hj5_l4 hP hS hl
      refine lv_iload hx hb dX0_costOf_5 (lv_at hl 4 rfl) ?_
      refine lv_iconst (v := 2) hx hb dX0_costOf_7 (by decide) ?_
      refine lv_aload_n hx hb dX0_costOf_8 rfl (lv_at hl 1 rfl) ?_
      refine va_get (D := g) (ci := 4) (v := .int ld_pairs) (C := RX4) (T := TX4) (N := 15) hx hb hts iX4 hown hK hP 0 rfl rfl 5 (by decide) (hts (.fieldLink RX0 25 "CardsAtYule$Land" "pairs" "I") (List.mem_cons_of_mem _ (List.mem_append_left _ (List.mem_of_getElem? (i := 0) rfl)))) (fun _ h9 => h9) rfl dX0_costOf_9 ?_
      refine lv_imul hx hb dX0_costOf_12 ?_
      refine lv_topi (fun y12 e12 => ?_)
      have q12 : y12.toInt = 2 * ld_pairs.toInt := by rw [e12]; exact mu_z rfl rfl (ir_c 2) hv_ld_pairs (by decide) (by decide) (by decide)
      have r12 : ir y12.toInt 0 32 := mu_r q12 (ir_c 2) hv_ld_pairs (by decide) (by decide) (by decide) (by decide)
      refine lv_icmp_ge (tgt := 77) hx hb dX0_costOf_13 (by decide) (fun c13 => ?_) (fun c13 => ?_)
      · have f13 := (show y12.toInt ≤ j5_l4.toInt from z_le rfl rfl c13)
        refine lv_iload_n hx hb dX0_costOf_77 rfl (lv_at hl 3 rfl) ?_
        subst hQ
        exact W.iret (v := j5_l3) hx hb hr (fun t ht hW => ⟨⟨j5_l3, (), rfl, trivial, trivial⟩, hS.F ht⟩) hS.2.2 dX0_costOf_78
      have f13 := (show j5_l4.toInt < y12.toInt from z_nle rfl rfl c13)
      have r13a : ir j5_l4.toInt 0 31 := ir_lta f13 hj5_l4 r12 (by decide)
      have r13b : ir y12.toInt 1 32 := ir_ltb f13 hj5_l4 r12 (by decide)
      refine lv_aload_n hx hb dX0_costOf_16 rfl (lv_at hl 1 rfl) ?_
      refine va_get (D := g) (ci := 4) (v := .ref ld_who) (C := RX4) (T := TX4) (N := 15) hx hb hts iX4 hown hK hP 0 rfl rfl 13 (by decide) (hts (.fieldLink RX0 65 "CardsAtYule$Land" "who" "[I") (List.mem_cons_of_mem _ (List.mem_append_left _ (List.mem_of_getElem? (i := 1) rfl)))) (fun _ h9 => h9) rfl dX0_costOf_17 ?_
      refine lv_iload hx hb dX0_costOf_20 (lv_at hl 4 rfl) ?_
      refine va_iald (D := g) hx hb hK hP 1 0 rfl rfl (vi_rg rfl r13a (by decide) (by decide)) dX0_costOf_22 ?_
      refine lv_topi (fun y22 e22 => ?_)
      have r22 : ir y22.toInt 0 9 := by rw [e22]; exact ha_ld_who_c _ (vi_cl (vi_rg rfl r13a (by decide) (by decide)))
      refine lv_iload_n hx hb dX0_costOf_23 rfl (lv_at hl 2 rfl) ?_
      have J71 : ∀ (j71_l3 : Int32) (H : Heap) (locs : List Loc) (ls : Array Slot), va_P g vwCl [(ld, .inr (4, [.int ld_lines, .int ld_years, .int ld_card, .int ld_hurt, .int ld_people, .int ld_pairs, .long ld_strikes, .ref ld_rule, .ref ld_returns, .ref ld_forgets, .ref ld_death, .ref ld_move, .ref ld_begun, .ref ld_who, .ref ld_lost])), (ld_who, .inl (cI, 32, .inl ld_who_c)), (bk, .inr (0, [.int bk_stale, .ref bk_first, .ref bk_back, .ref bk_got])), (bk_first, .inl (cJ, 32, .inr (.inl bk_first_c))), (bk_back, .inl (cJ, 32, .inr (.inl bk_back_c))), (bk_got, .inl (cJ, 32, .inr (.inl bk_got_c)))] H → va_S A s.heap H locs → lv_has ls 7 [(0, .ref bk), (1, .ref ld), (2, .int p1), (3, .int j71_l3), (4, .int j5_l4)] → W p l e (headSpec v_X0_costOf ({ frames := 1, cells := 0, slots := 0, locals := 21 })).room s m av below meth c H locs 0 0 QQ (F0 m 71 ls []) := by
        intro j71_l3 H locs ls  hP hS hl
        obtain ⟨y71, e71⟩ : ∃ y : Int32, y = j5_l4 + 1 := ⟨_, rfl⟩
        have q71 : y71.toInt = j5_l4.toInt + 1 := by rw [e71]; exact ad_z rfl rfl r13a (ir_c 1) (by decide) (by decide)
        have r71 : ir y71.toInt 1 32 := ad_r q71 r13a (ir_c 1) (by decide) (by decide)
        refine lv_iinc (v := y71) (lv' := [(4, .int y71), (0, .ref bk), (1, .ref ld), (2, .int p1), (3, .int j71_l3)]) hx hb dX0_costOf_71 hl (k := 4) rfl e71.symm (by decide) rfl (fun ls hl => ?_)
        refine lv_goto (tgt := 5) hx hb dX0_costOf_74 (by decide) ?_
        exact ih5 j71_l3 y71 _ _ _ (by omega) (ir_w r71 (by decide) (by decide)) (hP.sub [0, 1, 2, 3, 4, 5] rfl) hS (lv_sub hl [1, 2, 3, 4, 0] rfl)
      refine lv_icmp_ne (tgt := 71) hx hb dX0_costOf_24 (by decide) (fun c24 => ?_) (fun c24 => ?_)
      · have f24 := (show y22.toInt ≠ p1.toInt from z_ne rfl rfl c24)
        exact J71 j5_l3 _ _ _  (hP.sub [0, 1, 2, 3, 4, 5] rfl) hS (lv_sub hl [0, 1, 2, 3, 4] rfl)
      have f24 := (show y22.toInt = p1.toInt from z_eq rfl rfl c24)
      have r24b : ir p1.toInt 0 9 := ir_eqb f24 r22 (rg_all p1) (by decide) (by decide)
      refine lv_aload_n hx hb dX0_costOf_27 rfl (lv_at hl 0 rfl) ?_
      refine lv_iload hx hb dX0_costOf_28 (lv_at hl 4 rfl) ?_
      refine ro_l (va_runV (As := [.int j5_l4]) (rest := []) ⟨hx, hb, hml, hown, hts⟩ (q_X0_sentOf l g cI cJ cB cZ cL j5_l4 bk bk_stale bk_first bk_back bk_got bk_first_c bk_back_c H.size r13a hv_bk_stale) (cwV 1 hts (goodIn_app (g_4 (List.mem_cons_of_mem _ (List.mem_append_left _ (List.mem_of_getElem? (i := 2) rfl))) (List.mem_cons_of_mem _ (List.mem_append_left _ (List.mem_of_getElem? (i := 3) rfl))) (List.mem_cons_of_mem _ (List.mem_append_left _ (List.mem_of_getElem? (i := 4) rfl))) (List.mem_cons_of_mem _ (List.mem_append_left _ (List.mem_of_getElem? (i := 5) rfl))) (by decide +kernel)) (goodIn_sub (fun _ h => List.mem_cons_of_mem _ (List.mem_append_right _ (List.mem_append_left _ h))) good_v_X0_sentOf)) rfl rfl rfl (by decide +kernel) ⟨Nat.le_of_ble_eq_true rfl, Nat.le_of_ble_eq_true rfl⟩) (pv_RO (q := (RX0, TX0, 4)) (ci := 0) (q0 := 0) (wc := [(bk, .inr (0, [.int bk_stale, .ref bk_first, .ref bk_back, .ref bk_got])), (bk_first, .inl (cJ, 32, .inr (.inl bk_first_c))), (bk_back, .inl (cJ, 32, .inr (.inl bk_back_c)))]) hK hP [2, 3, 4] rfl rfl rfl) rfl rfl hl.1 rfl (lv_room (Nat.le_of_ble_eq_true rfl)) dX0_costOf_30 ⟨Nat.le_of_ble_eq_true rfl, Nat.le_of_ble_eq_true rfl⟩) hS hA hP (fun r30 u30 H locs hw30 hP hS => ?_)
      refine lv_lstore (lv' := [(5, .long r30), (0, .ref bk), (1, .ref ld), (2, .int p1), (3, .int j5_l3), (4, .int j5_l4)]) hx hb dX0_costOf_33 hl (by decide) rfl (fun ls hl => ?_)
      refine lv_iload_n hx hb dX0_costOf_35 rfl (lv_at hl 4 rfl) ?_
      refine lv_aload_n hx hb dX0_costOf_36 rfl (lv_at hl 2 rfl) ?_
      refine va_get (D := g) (ci := 4) (v := .int ld_card) (C := RX4) (T := TX4) (N := 15) hx hb hts iX4 hown hK hP 0 rfl rfl 2 (by decide) (hts (.fieldLink RX0 68 "CardsAtYule$Land" "card" "I") (List.mem_cons_of_mem _ (List.mem_append_left _ (List.mem_of_getElem? (i := 6) rfl)))) (fun _ h9 => h9) rfl dX0_costOf_37 ?_
      refine lv_lload hx hb dX0_costOf_40 (lv_at hl 0 rfl) ?_
      refine ro_i (va_runS (As := [.long r30]) (rest := [.int ld_card, .int j5_l3]) ⟨hx, hb, hml, hown, hts⟩ (q_J13_bitCount_95d88 l g cI cJ cB cZ cL r30 H.size ) (va_cwS 1 hts (goodIn_app (g_3 (List.mem_cons_of_mem _ (List.mem_append_left _ (List.mem_of_getElem? (i := 7) rfl))) (List.mem_cons_of_mem _ (List.mem_append_left _ (List.mem_of_getElem? (i := 8) rfl))) (List.mem_cons_of_mem _ (List.mem_append_left _ (List.mem_of_getElem? (i := 9) rfl))) (by decide +kernel)) (goodIn_sub (fun _ h => List.mem_cons_of_mem _ (List.mem_append_right _ (List.mem_append_right _ (List.mem_append_left _ h)))) good_v_J13_bitCount_95d88)) rfl rfl rfl (by decide +kernel) ⟨Nat.le_of_ble_eq_true rfl, Nat.le_of_ble_eq_true rfl⟩) (ps_RO (wc := []) hK hP [] rfl) rfl rfl hl.1 rfl (lv_room (Nat.le_of_ble_eq_true rfl)) dX0_costOf_42 ⟨Nat.le_of_ble_eq_true rfl, Nat.le_of_ble_eq_true rfl⟩) hS hA hP (fun r42 u42 H locs hw42 hP hS => ?_)
      have hw42_0 := hw42
      refine lv_imul hx hb dX0_costOf_45 ?_
      refine lv_topi (fun y45 e45 => ?_)
      refine lv_aload_n hx hb dX0_costOf_46 rfl (lv_at hl 2 rfl) ?_
      refine va_get (D := g) (ci := 4) (v := .int ld_hurt) (C := RX4) (T := TX4) (N := 15) hx hb hts iX4 hown hK hP 0 rfl rfl 3 (by decide) (hts (.fieldLink RX0 77 "CardsAtYule$Land" "hurt" "I") (List.mem_cons_of_mem _ (List.mem_append_left _ (List.mem_of_getElem? (i := 10) rfl)))) (fun _ h9 => h9) rfl dX0_costOf_47 ?_
      refine lv_lload hx hb dX0_costOf_50 (lv_at hl 0 rfl) ?_
      refine lv_aload_n hx hb dX0_costOf_52 rfl (lv_at hl 1 rfl) ?_
      refine va_get (D := g) (ci := 0) (v := .ref bk_got) (C := RX0) (T := TX0) (N := 4) hx hb hts iX0 hown hK hP 2 rfl rfl 3 (by decide) (hts (.fieldLink RX0 22 "CardsAtYule$Book" "got" "[J") (List.mem_cons_of_mem _ (List.mem_append_left _ (List.mem_of_getElem? (i := 11) rfl)))) (fun _ h9 => h9) rfl dX0_costOf_53 ?_
      refine lv_iload hx hb dX0_costOf_56 (lv_at hl 5 rfl) ?_
      refine va_lald (D := g) hx hb hK hP 5 1 rfl rfl (vi_rg rfl r13a (by decide) (by decide)) dX0_costOf_58 ?_
      refine lv_topl (fun y58 e58 => ?_)
      refine lv_ldc2 (v := (-1)) hx hb hown (hts (.constantLong RX0 80 (-1)) (List.mem_cons_of_mem _ (List.mem_append_left _ (List.mem_of_getElem? (i := 12) rfl)))) dX0_costOf_59 ?_
      refine lv_lxor hx hb dX0_costOf_62 ?_
      refine lv_topl (fun y62 e62 => ?_)
      refine lv_land hx hb dX0_costOf_63 ?_
      refine lv_topl (fun y63 e63 => ?_)
      refine ro_i (va_runS (As := [.long y63]) (rest := [.int ld_hurt, .int y45, .int j5_l3]) ⟨hx, hb, hml, hown, hts⟩ (q_J13_bitCount_95d88 l g cI cJ cB cZ cL y63 H.size ) (va_cwS 1 hts (goodIn_app (g_3 (List.mem_cons_of_mem _ (List.mem_append_left _ (List.mem_of_getElem? (i := 7) rfl))) (List.mem_cons_of_mem _ (List.mem_append_left _ (List.mem_of_getElem? (i := 8) rfl))) (List.mem_cons_of_mem _ (List.mem_append_left _ (List.mem_of_getElem? (i := 9) rfl))) (by decide +kernel)) (goodIn_sub (fun _ h => List.mem_cons_of_mem _ (List.mem_append_right _ (List.mem_append_right _ (List.mem_append_left _ h)))) good_v_J13_bitCount_95d88)) rfl rfl rfl (by decide +kernel) ⟨Nat.le_of_ble_eq_true rfl, Nat.le_of_ble_eq_true rfl⟩) (ps_RO (wc := []) hK hP [] rfl) rfl rfl hl.1 rfl (lv_room (Nat.le_of_ble_eq_true rfl)) dX0_costOf_64 ⟨Nat.le_of_ble_eq_true rfl, Nat.le_of_ble_eq_true rfl⟩) hS hA hP (fun r64 u64 H locs hw64 hP hS => ?_)
      have hw64_0 := hw64
      refine lv_imul hx hb dX0_costOf_67 ?_
      refine lv_topi (fun y67 e67 => ?_)
      refine lv_iadd hx hb dX0_costOf_68 ?_
      refine lv_topi (fun y68 e68 => ?_)
      refine lv_iadd hx hb dX0_costOf_69 ?_
      refine lv_topi (fun y69 e69 => ?_)
      refine lv_istore_n (lv' := [(3, .int y69), (5, .long r30), (0, .ref bk), (1, .ref ld), (2, .int p1), (4, .int j5_l4)]) hx hb dX0_costOf_70 rfl hl (by decide) rfl (fun ls hl => ?_)
      exact J71 y69 _ _ _  (hP.sub [0, 1, 2, 3, 4, 5] rfl) hS (lv_sub hl [2, 3, 4, 0, 5] rfl)
  exact J5 _ 0 0 _ _ _ (Nat.lt_succ_self _) (by decide) (hP.sub [0, 1, 2, 3, 4, 5] rfl) hS (lv_sub hl [2, 3, 4, 1, 0] rfl)
def v_X3_sentIn : List Cond := .code yX3_sentIn cX3_sentIn 4 (some .int) :: (([.fieldLink RX3 15 "CardsAtYule$Fate" "rule0" "I", .fieldLink RX3 19 "CardsAtYule$Fate" "rule1" "I", .methodLink RX3 61 yX10_firsts, .static yX10_firsts, .initialized RX10, .methodLink RX3 67 yX10_returning, .static yX10_returning, .methodLink RX3 70 yX10_backs, .static yX10_backs] : List Cond) ++ (v_X10_firsts ++ (v_X10_returning ++ (v_X10_backs ++ (wsX30 ++ ([] : List Cond))))))
theorem good_v_X3_sentIn : v_X3_sentIn.all goodWord = true := ga_c (by decide +kernel) (ga_a (by decide +kernel) (ga_a good_v_X10_firsts (ga_a good_v_X10_returning (ga_a good_v_X10_backs (ga_a good_wsX30 rfl)))))
set_option maxHeartbeats 4000000 in
set_option maxRecDepth 100000 in
theorem q_X3_sentIn (l : Launch) (g : va_G) (cI cJ cB cZ cL : ClassId) (p0 : Int32) (p1 : Int32) (fa : Nat) (fa_begins : Int32) (fa_length : Int32) (fa_cards : Int32) (fa_round : Int32) (fa_rule0 : Int32) (fa_rule1 : Int32) (fa_yearOf : Nat) (sz : Nat) (hv_fa_round : ir fa_round.toInt 0 15) : Met l yX3_sentIn v_X3_sentIn ({ frames := 1, cells := 0, slots := 0, locals := 23 }) (va_Pc [.ref fa, .int p0, .int p1] (pRO g (tyT cI cJ cB cZ cL) [(fa, .inr (3, [.int fa_begins, .int fa_length, .int fa_cards, .int fa_round, .int fa_rule0, .int fa_rule1, .ref fa_yearOf]))] sz)) (va_Qi (fun (r : Int32) (u : Unit) => (ir r.toInt 0 3)) (fun (_ : Unit) (_ : State) => True) (va_A [] sz)) 0 0 (va_A [] sz) := by
  refine Met.ofW (cc := cX3_sentIn) (maxL := 4) (ret := (some .int)) (by decide) rfl ?_
  intro p e s m args below meth c s₁ B hml hv
  obtain ⟨rfl, hsz, hP, hK⟩ := hv
  have hx := B.exec
  have hb := B.bytes
  have hr := B.returns
  have hts := atoms_spec (ws := v_X3_sentIn) B.pre
  have hown : s.vm.findClass RX3 = some m.cls := findClass_of_methodNamed B.named
  have hlocks := B.notSynchronized
  clear B
  subst hsz
  have iX3 : ∀ w ∈ wsX30, w ∈ v_X3_sentIn := (fun _ h => List.mem_cons_of_mem _ (List.mem_append_right _ (List.mem_append_right _ (List.mem_append_right _ (List.mem_append_right _ (List.mem_append_left _ h))))))
  generalize hAe : (va_A [] s.heap.size) = A
  have hA : ∀ q : Nat, s.heap.size ≤ q → A q := fun q h => by rw [← hAe]; exact Or.inr h
  have hS : va_S A s.heap s.heap [] := va_S.rf
  have hl := lv_entry ([.ref fa, .int p0, .int p1]) (n := 4) (Nat.le_of_ble_eq_true rfl)
  rw [lg_entry_eq]
  generalize (lg_sl ([.ref fa, .int p0, .int p1]) ++ List.replicate (4 - (lg_sl ([.ref fa, .int p0, .int p1])).length) Slot.unset).toArray = ls at hl ⊢
  generalize ([.ref fa, .int p0, .int p1] : List Value).toArray = av at hts ⊢
  generalize hQ : MQ below _ av s _ _ A = QQ
  have hl : lv_has ls 4 [(0, .ref fa), (1, .int p0), (2, .int p1)] := hl
  have hP : va_P g vwCl [(fa, .inr (3, [.int fa_begins, .int fa_length, .int fa_cards, .int fa_round, .int fa_rule0, .int fa_rule1, .ref fa_yearOf]))] s.heap := hP
  refine lv_aload_n hx hb dX3_sentIn_0 rfl (lv_at hl 0 rfl) ?_
  refine va_get (D := g) (ci := 3) (v := .int fa_rule0) (C := RX3) (T := TX3) (N := 7) hx hb hts iX3 hown hK hP 0 rfl rfl 4 (by decide) (hts (.fieldLink RX3 15 "CardsAtYule$Fate" "rule0" "I") (List.mem_cons_of_mem _ (List.mem_append_left _ (List.mem_of_getElem? (i := 0) rfl)))) (fun _ h9 => h9) rfl dX3_sentIn_1 ?_
  refine lv_aload_n hx hb dX3_sentIn_4 rfl (lv_at hl 0 rfl) ?_
  refine va_get (D := g) (ci := 3) (v := .int fa_rule1) (C := RX3) (T := TX3) (N := 7) hx hb hts iX3 hown hK hP 0 rfl rfl 5 (by decide) (hts (.fieldLink RX3 19 "CardsAtYule$Fate" "rule1" "I") (List.mem_cons_of_mem _ (List.mem_append_left _ (List.mem_of_getElem? (i := 1) rfl)))) (fun _ h9 => h9) rfl dX3_sentIn_5 ?_
  refine lv_iload_n hx hb dX3_sentIn_8 rfl (lv_at hl 1 rfl) ?_
  refine ro_i (va_runS (As := [.int fa_rule0, .int fa_rule1, .int p0]) (rest := []) ⟨hx, hb, hml, hown, hts⟩ (q_X10_firsts l g cI cJ cB cZ cL fa_rule0 fa_rule1 p0 s.heap.size ) (va_cwS 3 hts (goodIn_app (g_3 (List.mem_cons_of_mem _ (List.mem_append_left _ (List.mem_of_getElem? (i := 2) rfl))) (List.mem_cons_of_mem _ (List.mem_append_left _ (List.mem_of_getElem? (i := 3) rfl))) (List.mem_cons_of_mem _ (List.mem_append_left _ (List.mem_of_getElem? (i := 4) rfl))) (by decide +kernel)) (goodIn_sub (fun _ h => List.mem_cons_of_mem _ (List.mem_append_right _ (List.mem_append_left _ h))) good_v_X10_firsts)) rfl rfl rfl (by decide +kernel) ⟨Nat.le_of_ble_eq_true rfl, Nat.le_of_ble_eq_true rfl⟩) (ps_RO (wc := []) hK hP [] rfl) rfl rfl hl.1 rfl (lv_room (Nat.le_of_ble_eq_true rfl)) dX3_sentIn_9 ⟨Nat.le_of_ble_eq_true rfl, Nat.le_of_ble_eq_true rfl⟩) hS hA hP (fun r9 u9 H locs hw9 hP hS => ?_)
  have hw9_0 := hw9
  refine lv_istore_n (lv' := [(3, .int r9), (0, .ref fa), (1, .int p0), (2, .int p1)]) hx hb dX3_sentIn_12 rfl hl (by decide) rfl (fun ls hl => ?_)
  refine lv_iload_n hx hb dX3_sentIn_13 rfl (lv_at hl 0 rfl) ?_
  refine lv_iload_n hx hb dX3_sentIn_14 rfl (lv_at hl 0 rfl) ?_
  refine lv_aload_n hx hb dX3_sentIn_15 rfl (lv_at hl 1 rfl) ?_
  refine va_get (D := g) (ci := 3) (v := .int fa_rule0) (C := RX3) (T := TX3) (N := 7) hx hb hts iX3 hown hK hP 0 rfl rfl 4 (by decide) (hts (.fieldLink RX3 15 "CardsAtYule$Fate" "rule0" "I") (List.mem_cons_of_mem _ (List.mem_append_left _ (List.mem_of_getElem? (i := 0) rfl)))) (fun _ h9 => h9) rfl dX3_sentIn_16 ?_
  refine lv_aload_n hx hb dX3_sentIn_19 rfl (lv_at hl 1 rfl) ?_
  refine va_get (D := g) (ci := 3) (v := .int fa_rule1) (C := RX3) (T := TX3) (N := 7) hx hb hts iX3 hown hK hP 0 rfl rfl 5 (by decide) (hts (.fieldLink RX3 19 "CardsAtYule$Fate" "rule1" "I") (List.mem_cons_of_mem _ (List.mem_append_left _ (List.mem_of_getElem? (i := 1) rfl)))) (fun _ h9 => h9) rfl dX3_sentIn_20 ?_
  refine ro_i (va_runS (As := [.int fa_rule0, .int fa_rule1]) (rest := [.int r9, .int r9]) ⟨hx, hb, hml, hown, hts⟩ (q_X10_returning l g cI cJ cB cZ cL fa_rule0 fa_rule1 H.size ) (va_cwS 2 hts (goodIn_app (g_3 (List.mem_cons_of_mem _ (List.mem_append_left _ (List.mem_of_getElem? (i := 5) rfl))) (List.mem_cons_of_mem _ (List.mem_append_left _ (List.mem_of_getElem? (i := 6) rfl))) (List.mem_cons_of_mem _ (List.mem_append_left _ (List.mem_of_getElem? (i := 4) rfl))) (by decide +kernel)) (goodIn_sub (fun _ h => List.mem_cons_of_mem _ (List.mem_append_right _ (List.mem_append_right _ (List.mem_append_left _ h)))) good_v_X10_returning)) rfl rfl rfl (by decide +kernel) ⟨Nat.le_of_ble_eq_true rfl, Nat.le_of_ble_eq_true rfl⟩) (ps_RO (wc := []) hK hP [] rfl) rfl rfl hl.1 rfl (lv_room (Nat.le_of_ble_eq_true rfl)) dX3_sentIn_23 ⟨Nat.le_of_ble_eq_true rfl, Nat.le_of_ble_eq_true rfl⟩) hS hA hP (fun r23 u23 H locs hw23 hP hS => ?_)
  have hw23_0 := hw23
  refine lv_iload_n hx hb dX3_sentIn_26 rfl (lv_at hl 3 rfl) ?_
  refine ro_i (va_runS (As := [.int r9, .int r23, .int p1]) (rest := [.int r9]) ⟨hx, hb, hml, hown, hts⟩ (q_X10_backs l g cI cJ cB cZ cL r9 r23 p1 H.size hw23_0) (va_cwS 3 hts (goodIn_app (g_3 (List.mem_cons_of_mem _ (List.mem_append_left _ (List.mem_of_getElem? (i := 7) rfl))) (List.mem_cons_of_mem _ (List.mem_append_left _ (List.mem_of_getElem? (i := 8) rfl))) (List.mem_cons_of_mem _ (List.mem_append_left _ (List.mem_of_getElem? (i := 4) rfl))) (by decide +kernel)) (goodIn_sub (fun _ h => List.mem_cons_of_mem _ (List.mem_append_right _ (List.mem_append_right _ (List.mem_append_right _ (List.mem_append_left _ h))))) good_v_X10_backs)) rfl rfl rfl (by decide +kernel) ⟨Nat.le_of_ble_eq_true rfl, Nat.le_of_ble_eq_true rfl⟩) (ps_RO (wc := []) hK hP [] rfl) rfl rfl hl.1 rfl (lv_room (Nat.le_of_ble_eq_true rfl)) dX3_sentIn_27 ⟨Nat.le_of_ble_eq_true rfl, Nat.le_of_ble_eq_true rfl⟩) hS hA hP (fun r27 u27 H locs hw27 hP hS => ?_)
  have hw27_0 := hw27
  refine lv_ior hx hb dX3_sentIn_30 ?_
  refine lv_topi (fun y30 e30 => ?_)
  have r30 : ir y30.toInt 0 3 := by rw [e30]; exact or_r 2 rfl rfl hw9_0 hw27_0 (by decide) (by decide) (by decide) (by decide) (by decide)
  subst hQ
  exact W.iret (v := y30) hx hb hr (fun t ht hW => ⟨⟨y30, (), rfl, r30, trivial⟩, hS.F ht⟩) hS.2.2 dX3_sentIn_31
def v_X3_next : List Cond := .code yX3_next cX3_next 3 (some .int) :: (([.methodLink RX3 44 yX3_sentIn, .instanceMethod yX3_sentIn, .selects RX3 yX3_sentIn yX3_sentIn, .initialized RX3, .methodLink RX3 73 yX10_swapped, .static yX10_swapped, .initialized RX10, .methodLink RX3 76 yX10_after, .static yX10_after] : List Cond) ++ (v_X3_sentIn ++ (v_X10_swapped ++ (v_X10_after ++ ([] : List Cond)))))
theorem good_v_X3_next : v_X3_next.all goodWord = true := ga_c (by decide +kernel) (ga_a (by decide +kernel) (ga_a good_v_X3_sentIn (ga_a good_v_X10_swapped (ga_a good_v_X10_after rfl))))
set_option maxHeartbeats 4000000 in
set_option maxRecDepth 100000 in
theorem q_X3_next (l : Launch) (g : va_G) (cI cJ cB cZ cL : ClassId) (p0 : Int32) (p1 : Int32) (fa : Nat) (fa_begins : Int32) (fa_length : Int32) (fa_cards : Int32) (fa_round : Int32) (fa_rule0 : Int32) (fa_rule1 : Int32) (fa_yearOf : Nat) (sz : Nat) (hv_fa_round : ir fa_round.toInt 0 15) : Met l yX3_next v_X3_next ({ frames := 2, cells := 0, slots := 0, locals := 46 }) (va_Pc [.ref fa, .int p0, .int p1] (pRO g (tyT cI cJ cB cZ cL) [(fa, .inr (3, [.int fa_begins, .int fa_length, .int fa_cards, .int fa_round, .int fa_rule0, .int fa_rule1, .ref fa_yearOf]))] sz)) (va_Qi (fun (r : Int32) (u : Unit) => (ir r.toInt 0 15)) (fun (_ : Unit) (_ : State) => True) (va_A [] sz)) 0 0 (va_A [] sz) := by
  refine Met.ofW (cc := cX3_next) (maxL := 3) (ret := (some .int)) (by decide) rfl ?_
  intro p e s m args below meth c s₁ B hml hv
  obtain ⟨rfl, hsz, hP, hK⟩ := hv
  have hx := B.exec
  have hb := B.bytes
  have hr := B.returns
  have hts := atoms_spec (ws := v_X3_next) B.pre
  have hown : s.vm.findClass RX3 = some m.cls := findClass_of_methodNamed B.named
  have hlocks := B.notSynchronized
  clear B
  subst hsz
  generalize hAe : (va_A [] s.heap.size) = A
  have hA : ∀ q : Nat, s.heap.size ≤ q → A q := fun q h => by rw [← hAe]; exact Or.inr h
  have hS : va_S A s.heap s.heap [] := va_S.rf
  have hl := lv_entry ([.ref fa, .int p0, .int p1]) (n := 3) (Nat.le_of_ble_eq_true rfl)
  rw [lg_entry_eq]
  generalize (lg_sl ([.ref fa, .int p0, .int p1]) ++ List.replicate (3 - (lg_sl ([.ref fa, .int p0, .int p1])).length) Slot.unset).toArray = ls at hl ⊢
  generalize ([.ref fa, .int p0, .int p1] : List Value).toArray = av at hts ⊢
  generalize hQ : MQ below _ av s _ _ A = QQ
  have hl : lv_has ls 3 [(0, .ref fa), (1, .int p0), (2, .int p1)] := hl
  have hP : va_P g vwCl [(fa, .inr (3, [.int fa_begins, .int fa_length, .int fa_cards, .int fa_round, .int fa_rule0, .int fa_rule1, .ref fa_yearOf]))] s.heap := hP
  refine lv_iload_n hx hb dX3_next_0 rfl (lv_at hl 1 rfl) ?_
  refine lv_aload_n hx hb dX3_next_1 rfl (lv_at hl 0 rfl) ?_
  refine lv_iload_n hx hb dX3_next_2 rfl (lv_at hl 1 rfl) ?_
  refine lv_iload_n hx hb dX3_next_3 rfl (lv_at hl 2 rfl) ?_
  refine ro_i (va_runV (As := [.int p0, .int p1]) (rest := [.int p0]) ⟨hx, hb, hml, hown, hts⟩ (q_X3_sentIn l g cI cJ cB cZ cL p0 p1 fa fa_begins fa_length fa_cards fa_round fa_rule0 fa_rule1 fa_yearOf s.heap.size hv_fa_round) (cwV 2 hts (goodIn_app (g_4 (List.mem_cons_of_mem _ (List.mem_append_left _ (List.mem_of_getElem? (i := 0) rfl))) (List.mem_cons_of_mem _ (List.mem_append_left _ (List.mem_of_getElem? (i := 1) rfl))) (List.mem_cons_of_mem _ (List.mem_append_left _ (List.mem_of_getElem? (i := 2) rfl))) (List.mem_cons_of_mem _ (List.mem_append_left _ (List.mem_of_getElem? (i := 3) rfl))) (by decide +kernel)) (goodIn_sub (fun _ h => List.mem_cons_of_mem _ (List.mem_append_right _ (List.mem_append_left _ h))) good_v_X3_sentIn)) rfl rfl rfl (by decide +kernel) ⟨Nat.le_of_ble_eq_true rfl, Nat.le_of_ble_eq_true rfl⟩) (pv_RO (q := (RX3, TX3, 7)) (ci := 3) (q0 := 0) (wc := [(fa, .inr (3, [.int fa_begins, .int fa_length, .int fa_cards, .int fa_round, .int fa_rule0, .int fa_rule1, .ref fa_yearOf]))]) hK hP [0] rfl rfl rfl) rfl rfl hl.1 rfl (lv_room (Nat.le_of_ble_eq_true rfl)) dX3_next_4 ⟨Nat.le_of_ble_eq_true rfl, Nat.le_of_ble_eq_true rfl⟩) hS hA hP (fun r4 u4 H locs hw4 hP hS => ?_)
  have hw4_0 := hw4
  refine lv_iload_n hx hb dX3_next_7 rfl (lv_at hl 2 rfl) ?_
  refine lv_iand hx hb dX3_next_8 ?_
  refine lv_topi (fun y8 e8 => ?_)
  have r8 : ir y8.toInt 0 3 := by rw [e8]; exact an_x rfl hw4_0 (by decide)
  refine ro_i (va_runS (As := [.int y8]) (rest := [.int p0]) ⟨hx, hb, hml, hown, hts⟩ (q_X10_swapped l g cI cJ cB cZ cL y8 H.size ) (va_cwS 1 hts (goodIn_app (g_3 (List.mem_cons_of_mem _ (List.mem_append_left _ (List.mem_of_getElem? (i := 4) rfl))) (List.mem_cons_of_mem _ (List.mem_append_left _ (List.mem_of_getElem? (i := 5) rfl))) (List.mem_cons_of_mem _ (List.mem_append_left _ (List.mem_of_getElem? (i := 6) rfl))) (by decide +kernel)) (goodIn_sub (fun _ h => List.mem_cons_of_mem _ (List.mem_append_right _ (List.mem_append_right _ (List.mem_append_left _ h)))) good_v_X10_swapped)) rfl rfl rfl (by decide +kernel) ⟨Nat.le_of_ble_eq_true rfl, Nat.le_of_ble_eq_true rfl⟩) (ps_RO (wc := []) hK hP [] rfl) rfl rfl hl.1 rfl (lv_room (Nat.le_of_ble_eq_true rfl)) dX3_next_9 ⟨Nat.le_of_ble_eq_true rfl, Nat.le_of_ble_eq_true rfl⟩) hS hA hP (fun r9 u9 H locs hw9 hP hS => ?_)
  have hw9_0 := hw9
  refine ro_i (va_runS (As := [.int p0, .int r9]) (rest := []) ⟨hx, hb, hml, hown, hts⟩ (q_X10_after l g cI cJ cB cZ cL p0 r9 H.size ) (va_cwS 2 hts (goodIn_app (g_3 (List.mem_cons_of_mem _ (List.mem_append_left _ (List.mem_of_getElem? (i := 7) rfl))) (List.mem_cons_of_mem _ (List.mem_append_left _ (List.mem_of_getElem? (i := 8) rfl))) (List.mem_cons_of_mem _ (List.mem_append_left _ (List.mem_of_getElem? (i := 6) rfl))) (by decide +kernel)) (goodIn_sub (fun _ h => List.mem_cons_of_mem _ (List.mem_append_right _ (List.mem_append_right _ (List.mem_append_right _ (List.mem_append_left _ h))))) good_v_X10_after)) rfl rfl rfl (by decide +kernel) ⟨Nat.le_of_ble_eq_true rfl, Nat.le_of_ble_eq_true rfl⟩) (ps_RO (wc := []) hK hP [] rfl) rfl rfl hl.1 rfl (lv_room (Nat.le_of_ble_eq_true rfl)) dX3_next_12 ⟨Nat.le_of_ble_eq_true rfl, Nat.le_of_ble_eq_true rfl⟩) hS hA hP (fun r12 u12 H locs hw12 hP hS => ?_)
  have hw12_0 := hw12
  subst hQ
  exact W.iret (v := r12) hx hb hr (fun t ht hW => ⟨⟨r12, (), rfl, hw12_0, trivial⟩, hS.F ht⟩) hS.2.2 dX3_next_15
def v_X3_find : List Cond := .code yX3_find cX3_find 7 none :: (([.fieldLink RX3 15 "CardsAtYule$Fate" "rule0" "I", .fieldLink RX3 19 "CardsAtYule$Fate" "rule1" "I", .fieldLink RX3 9 "CardsAtYule$Fate" "yearOf" "[I", .methodLink RX3 22 yJ7_fill_53178, .static yJ7_fill_53178, .initialized RJ7, .fieldLink RX3 32 "CardsAtYule$Fate" "round" "I", .fieldLink RX3 35 "CardsAtYule$Fate" "begins" "I", .fieldLink RX3 38 "CardsAtYule$Fate" "length" "I", .fieldLink RX3 41 "CardsAtYule$Fate" "cards" "I", .methodLink RX3 44 yX3_sentIn, .instanceMethod yX3_sentIn, .selects RX3 yX3_sentIn yX3_sentIn, .initialized RX3, .methodLink RX3 47 yJ6_bitCount_0f7a4, .static yJ6_bitCount_0f7a4, .initialized RJ6, .methodLink RX3 28 yX3_next, .instanceMethod yX3_next, .selects RX3 yX3_next yX3_next] : List Cond) ++ (v_J7_filli16 ++ (v_X3_sentIn ++ (v_J6_bitCount_0f7a4 ++ (v_X3_next ++ (wsX30 ++ ([] : List Cond)))))))
theorem good_v_X3_find : v_X3_find.all goodWord = true := ga_c (by decide +kernel) (ga_a (by decide +kernel) (ga_a good_v_J7_filli16 (ga_a good_v_X3_sentIn (ga_a good_v_J6_bitCount_0f7a4 (ga_a good_v_X3_next (ga_a good_wsX30 rfl))))))
set_option maxHeartbeats 4000000 in
set_option maxRecDepth 100000 in
theorem q_X3_find (l : Launch) (g : va_G) (cI cJ cB cZ cL : ClassId) (p0 : Int32) (p1 : Int32) (p2 : Int32) (fa : Nat) (fa_begins : Int32) (fa_length : Int32) (fa_cards : Int32) (fa_round : Int32) (fa_rule0 : Int32) (fa_rule1 : Int32) (fa_yearOf : Nat) (fa_yearOf_c : Nat → Int32) (sz : Nat) (hv_p2 : ir p2.toInt 0 15) (hv_fa_round : ir fa_round.toInt 0 15) : Met l yX3_find v_X3_find ({ frames := 3, cells := 0, slots := 0, locals := 68 }) (va_Pc [.ref fa, .int p0, .int p1, .int p2] (pRW g (tyT cI cJ cB cZ cL) [(fa, .inr (3, [.int fa_begins, .int fa_length, .int fa_cards, .int fa_round, .int fa_rule0, .int fa_rule1, .ref fa_yearOf])), (fa_yearOf, .inl (cI, 16, .inl fa_yearOf_c))] sz)) (va_Qv (fun (u : Int32 × Int32 × Int32 × Int32 × Int32 × Int32 × (Nat → Int32)) => match u with | (n_fa_begins, n_fa_length, n_fa_cards, n_fa_round, n_fa_rule0, n_fa_rule1, n_fa_yearOf_c) => (ir n_fa_round.toInt 0 15)) (fun (u : Int32 × Int32 × Int32 × Int32 × Int32 × Int32 × (Nat → Int32)) (t : State) => bRW g (tyT cI cJ cB cZ cL) (va_A [(fa, .inr (3, [.int fa_begins, .int fa_length, .int fa_cards, .int fa_round, .int fa_rule0, .int fa_rule1, .ref fa_yearOf])), (fa_yearOf, .inl (cI, 16, .inl fa_yearOf_c))] sz) (match u with | (n_fa_begins, n_fa_length, n_fa_cards, n_fa_round, n_fa_rule0, n_fa_rule1, n_fa_yearOf_c) => [(fa, .inr (3, [.int n_fa_begins, .int n_fa_length, .int n_fa_cards, .int n_fa_round, .int n_fa_rule0, .int n_fa_rule1, .ref fa_yearOf])), (fa_yearOf, .inl (cI, 16, .inl n_fa_yearOf_c))]) t) (va_A [(fa, .inr (3, [.int fa_begins, .int fa_length, .int fa_cards, .int fa_round, .int fa_rule0, .int fa_rule1, .ref fa_yearOf])), (fa_yearOf, .inl (cI, 16, .inl fa_yearOf_c))] sz)) 0 0 (va_A [(fa, .inr (3, [.int fa_begins, .int fa_length, .int fa_cards, .int fa_round, .int fa_rule0, .int fa_rule1, .ref fa_yearOf])), (fa_yearOf, .inl (cI, 16, .inl fa_yearOf_c))] sz) := by
  refine Met.ofW (cc := cX3_find) (maxL := 7) (ret := none) (by decide) rfl ?_
  intro p e s m args below meth c s₁ B hml hv
  obtain ⟨rfl, hsz, hP, hK, hD0⟩ := hv
  have hx := B.exec
  have hb := B.bytes
  have hr := B.returns
  have hts := atoms_spec (ws := v_X3_find) B.pre
  have hown : s.vm.findClass RX3 = some m.cls := findClass_of_methodNamed B.named
  have hlocks := B.notSynchronized
  clear B
  subst hsz
  have iX3 : ∀ w ∈ wsX30, w ∈ v_X3_find := (fun _ h => List.mem_cons_of_mem _ (List.mem_append_right _ (List.mem_append_right _ (List.mem_append_right _ (List.mem_append_right _ (List.mem_append_right _ (List.mem_append_left _ h)))))))
  have hD := hD0.self (sz := s.heap.size)
  generalize hAe : (va_A [(fa, .inr (3, [.int fa_begins, .int fa_length, .int fa_cards, .int fa_round, .int fa_rule0, .int fa_rule1, .ref fa_yearOf])), (fa_yearOf, .inl (cI, 16, .inl fa_yearOf_c))] s.heap.size) = A at hD ⊢
  have hA : ∀ q : Nat, s.heap.size ≤ q → A q := fun q h => by rw [← hAe]; exact Or.inr h
  have hS : va_S A s.heap s.heap [] := va_S.rf
  have hl := lv_entry ([.ref fa, .int p0, .int p1, .int p2]) (n := 7) (Nat.le_of_ble_eq_true rfl)
  rw [lg_entry_eq]
  generalize (lg_sl ([.ref fa, .int p0, .int p1, .int p2]) ++ List.replicate (7 - (lg_sl ([.ref fa, .int p0, .int p1, .int p2])).length) Slot.unset).toArray = ls at hl ⊢
  generalize ([.ref fa, .int p0, .int p1, .int p2] : List Value).toArray = av at hts ⊢
  generalize hQ : MQ below _ av s _ _ A = QQ
  have hl : lv_has ls 7 [(0, .ref fa), (1, .int p0), (2, .int p1), (3, .int p2)] := hl
  have hP : va_P g vwCl [(fa, .inr (3, [.int fa_begins, .int fa_length, .int fa_cards, .int fa_round, .int fa_rule0, .int fa_rule1, .ref fa_yearOf])), (fa_yearOf, .inl (cI, 16, .inl fa_yearOf_c))] s.heap := hP
  refine lv_aload_n hx hb dX3_find_0 rfl (lv_at hl 0 rfl) ?_
  refine lv_iload_n hx hb dX3_find_1 rfl (lv_at hl 1 rfl) ?_
  refine va_put (D := g) (ci := 3) (v := .int p0) (ty := .int) (C := RX3) (T := TX3) (N := 7) hx hb hts iX3 tyX3 tyX3_ok nmX3 hown hK hP hD hS 0 rfl rfl 4 (by decide) (hts (.fieldLink RX3 15 "CardsAtYule$Fate" "rule0" "I") (List.mem_cons_of_mem _ (List.mem_append_left _ (List.mem_of_getElem? (i := 0) rfl)))) (fun _ h9 => h9) rfl (by decide +kernel) rfl rfl (Nat.le_of_ble_eq_true rfl) dX3_find_2 (fun H locs hP hD hS => ?_)
  have hP : va_P g vwCl [(fa, .inr (3, [.int fa_begins, .int fa_length, .int fa_cards, .int fa_round, .int p0, .int fa_rule1, .ref fa_yearOf])), (fa_yearOf, .inl (cI, 16, .inl fa_yearOf_c))] H := hP
  have hD : va_D A [(fa, .inr (3, [.int fa_begins, .int fa_length, .int fa_cards, .int fa_round, .int p0, .int fa_rule1, .ref fa_yearOf])), (fa_yearOf, .inl (cI, 16, .inl fa_yearOf_c))] := hD
  refine lv_aload_n hx hb dX3_find_5 rfl (lv_at hl 0 rfl) ?_
  refine lv_iload_n hx hb dX3_find_6 rfl (lv_at hl 2 rfl) ?_
  refine va_put (D := g) (ci := 3) (v := .int p1) (ty := .int) (C := RX3) (T := TX3) (N := 7) hx hb hts iX3 tyX3 tyX3_ok nmX3 hown hK hP hD hS 0 rfl rfl 5 (by decide) (hts (.fieldLink RX3 19 "CardsAtYule$Fate" "rule1" "I") (List.mem_cons_of_mem _ (List.mem_append_left _ (List.mem_of_getElem? (i := 1) rfl)))) (fun _ h9 => h9) rfl (by decide +kernel) rfl rfl (Nat.le_of_ble_eq_true rfl) dX3_find_7 (fun H locs hP hD hS => ?_)
  have hP : va_P g vwCl [(fa, .inr (3, [.int fa_begins, .int fa_length, .int fa_cards, .int fa_round, .int p0, .int p1, .ref fa_yearOf])), (fa_yearOf, .inl (cI, 16, .inl fa_yearOf_c))] H := hP
  have hD : va_D A [(fa, .inr (3, [.int fa_begins, .int fa_length, .int fa_cards, .int fa_round, .int p0, .int p1, .ref fa_yearOf])), (fa_yearOf, .inl (cI, 16, .inl fa_yearOf_c))] := hD
  refine lv_aload_n hx hb dX3_find_10 rfl (lv_at hl 0 rfl) ?_
  refine va_get (D := g) (ci := 3) (v := .ref fa_yearOf) (C := RX3) (T := TX3) (N := 7) hx hb hts iX3 hown hK hP 0 rfl rfl 6 (by decide) (hts (.fieldLink RX3 9 "CardsAtYule$Fate" "yearOf" "[I") (List.mem_cons_of_mem _ (List.mem_append_left _ (List.mem_of_getElem? (i := 2) rfl)))) (fun _ h9 => h9) rfl dX3_find_11 ?_
  refine lv_iconst (v := (-1)) hx hb dX3_find_14 (by decide) ?_
  refine rw_v (wr := [(fa, .inr (3, [.int fa_begins, .int fa_length, .int fa_cards, .int fa_round, .int p0, .int p1, .ref fa_yearOf]))]) (va_runS (As := [.ref fa_yearOf, .int (-1)]) (rest := []) ⟨hx, hb, hml, hown, hts⟩ (q_J7_filli16 l g cI cJ cB cZ cL (-1) fa_yearOf fa_yearOf_c H.size ) (va_cwS 2 hts (goodIn_app (g_3 (List.mem_cons_of_mem _ (List.mem_append_left _ (List.mem_of_getElem? (i := 3) rfl))) (List.mem_cons_of_mem _ (List.mem_append_left _ (List.mem_of_getElem? (i := 4) rfl))) (List.mem_cons_of_mem _ (List.mem_append_left _ (List.mem_of_getElem? (i := 5) rfl))) (by decide +kernel)) (goodIn_sub (fun _ h => List.mem_cons_of_mem _ (List.mem_append_right _ (List.mem_append_left _ h))) good_v_J7_filli16)) rfl rfl rfl (by decide +kernel) ⟨Nat.le_of_ble_eq_true rfl, Nat.le_of_ble_eq_true rfl⟩) (ps_RW (wc := [(fa_yearOf, .inl (cI, 16, .inl fa_yearOf_c))]) hK hP hD [1] (by decide) rfl) rfl rfl hl.1 rfl (lv_room (Nat.le_of_ble_eq_true rfl)) dX3_find_15 ⟨Nat.le_of_ble_eq_true rfl, Nat.le_of_ble_eq_true rfl⟩) hS hA hP hD [1] [0] rfl rfl (by decide) (by decide) (fun u15 H locs hw15 hP hD hS => ?_)
  generalize u15 = n_r0_c_15 at hw15 hP hD
  have hP : va_P g vwCl [(fa, .inr (3, [.int fa_begins, .int fa_length, .int fa_cards, .int fa_round, .int p0, .int p1, .ref fa_yearOf])), (fa_yearOf, .inl (cI, 16, .inl n_r0_c_15))] H := hP
  have hD : va_D A [(fa, .inr (3, [.int fa_begins, .int fa_length, .int fa_cards, .int fa_round, .int p0, .int p1, .ref fa_yearOf])), (fa_yearOf, .inl (cI, 16, .inl n_r0_c_15))] := hD
  refine lv_iload_n hx hb dX3_find_18 rfl (lv_at hl 3 rfl) ?_
  refine lv_istore (lv' := [(4, .int p2), (0, .ref fa), (1, .int p0), (2, .int p1), (3, .int p2)]) hx hb dX3_find_19 hl (by decide) rfl (fun ls hl => ?_)
  refine lv_iconst (v := 0) hx hb dX3_find_21 (by decide) ?_
  refine lv_istore (lv' := [(5, .int 0), (4, .int p2), (0, .ref fa), (1, .int p0), (2, .int p1), (3, .int p2)]) hx hb dX3_find_22 hl (by decide) rfl (fun ls hl => ?_)
  have J24 : ∀ (n24 : Nat) (j24_l4 : Int32) (j24_l5 : Int32) (j24_fa_yearOf_c : Nat → Int32) (H : Heap) (locs : List Loc) (ls : Array Slot), (17 - j24_l5.toInt).toNat < n24 → (ir j24_l4.toInt 0 15) → (ir j24_l5.toInt 0 16) → va_P g vwCl [(fa, .inr (3, [.int fa_begins, .int fa_length, .int fa_cards, .int fa_round, .int p0, .int p1, .ref fa_yearOf])), (fa_yearOf, .inl (cI, 16, .inl j24_fa_yearOf_c))] H → va_D A [(fa, .inr (3, [.int fa_begins, .int fa_length, .int fa_cards, .int fa_round, .int p0, .int p1, .ref fa_yearOf])), (fa_yearOf, .inl (cI, 16, .inl j24_fa_yearOf_c))] → va_S A s.heap H locs → lv_has ls 7 [(0, .ref fa), (4, .int j24_l4), (5, .int j24_l5)] → W p l e (headSpec v_X3_find ({ frames := 3, cells := 0, slots := 0, locals := 68 })).room s m av below meth c H locs 0 0 QQ (F0 m 24 ls []) := by
    intro n24
    induction n24 with
    | zero => exact fun j24_l4 j24_l5 j24_fa_yearOf_c H locs ls hn => absurd hn (Nat.not_lt_zero _)
    | succ n24 ih24 =>
      intro j24_l4 j24_l5 j24_fa_yearOf_c H locs ls hn24 hj24_l4 hj24_l5 hP hD hS hl
      refine lv_iload hx hb dX3_find_24 (lv_at hl 2 rfl) ?_
      refine lv_bipush (v := 16) hx hb dX3_find_26 (by decide) ?_
      have J66 : ∀  (H : Heap) (locs : List Loc) (ls : Array Slot), va_P g vwCl [(fa, .inr (3, [.int fa_begins, .int fa_length, .int fa_cards, .int fa_round, .int p0, .int p1, .ref fa_yearOf])), (fa_yearOf, .inl (cI, 16, .inl j24_fa_yearOf_c))] H → va_D A [(fa, .inr (3, [.int fa_begins, .int fa_length, .int fa_cards, .int fa_round, .int p0, .int p1, .ref fa_yearOf])), (fa_yearOf, .inl (cI, 16, .inl j24_fa_yearOf_c))] → va_S A s.heap H locs → lv_has ls 7 [(0, .ref fa), (4, .int j24_l4), (5, .int j24_l5)] → W p l e (headSpec v_X3_find ({ frames := 3, cells := 0, slots := 0, locals := 68 })).room s m av below meth c H locs 0 0 QQ (F0 m 66 ls []) := by
        intro  H locs ls  hP hD hS hl
        refine lv_aload_n hx hb dX3_find_66 rfl (lv_at hl 0 rfl) ?_
        refine lv_iload hx hb dX3_find_67 (lv_at hl 1 rfl) ?_
        refine va_put (D := g) (ci := 3) (v := .int j24_l4) (ty := .int) (C := RX3) (T := TX3) (N := 7) hx hb hts iX3 tyX3 tyX3_ok nmX3 hown hK hP hD hS 0 rfl rfl 3 (by decide) (hts (.fieldLink RX3 32 "CardsAtYule$Fate" "round" "I") (List.mem_cons_of_mem _ (List.mem_append_left _ (List.mem_of_getElem? (i := 6) rfl)))) (fun _ h9 => h9) rfl (by decide +kernel) rfl rfl (Nat.le_of_ble_eq_true rfl) dX3_find_69 (fun H locs hP hD hS => ?_)
        have hP : va_P g vwCl [(fa, .inr (3, [.int fa_begins, .int fa_length, .int fa_cards, .int j24_l4, .int p0, .int p1, .ref fa_yearOf])), (fa_yearOf, .inl (cI, 16, .inl j24_fa_yearOf_c))] H := hP
        have hD : va_D A [(fa, .inr (3, [.int fa_begins, .int fa_length, .int fa_cards, .int j24_l4, .int p0, .int p1, .ref fa_yearOf])), (fa_yearOf, .inl (cI, 16, .inl j24_fa_yearOf_c))] := hD
        refine lv_aload_n hx hb dX3_find_72 rfl (lv_at hl 0 rfl) ?_
        refine lv_aload_n hx hb dX3_find_73 rfl (lv_at hl 0 rfl) ?_
        refine va_get (D := g) (ci := 3) (v := .ref fa_yearOf) (C := RX3) (T := TX3) (N := 7) hx hb hts iX3 hown hK hP 0 rfl rfl 6 (by decide) (hts (.fieldLink RX3 9 "CardsAtYule$Fate" "yearOf" "[I") (List.mem_cons_of_mem _ (List.mem_append_left _ (List.mem_of_getElem? (i := 2) rfl)))) (fun _ h9 => h9) rfl dX3_find_74 ?_
        refine lv_iload hx hb dX3_find_77 (lv_at hl 1 rfl) ?_
        refine va_iald (D := g) hx hb hK hP 1 0 rfl rfl (vi_rg rfl hj24_l4 (by decide) (by decide)) dX3_find_79 ?_
        refine lv_topi (fun y79 e79 => ?_)
        refine va_put (D := g) (ci := 3) (v := .int y79) (ty := .int) (C := RX3) (T := TX3) (N := 7) hx hb hts iX3 tyX3 tyX3_ok nmX3 hown hK hP hD hS 0 rfl rfl 0 (by decide) (hts (.fieldLink RX3 35 "CardsAtYule$Fate" "begins" "I") (List.mem_cons_of_mem _ (List.mem_append_left _ (List.mem_of_getElem? (i := 7) rfl)))) (fun _ h9 => h9) rfl (by decide +kernel) rfl rfl (Nat.le_of_ble_eq_true rfl) dX3_find_80 (fun H locs hP hD hS => ?_)
        have hP : va_P g vwCl [(fa, .inr (3, [.int y79, .int fa_length, .int fa_cards, .int j24_l4, .int p0, .int p1, .ref fa_yearOf])), (fa_yearOf, .inl (cI, 16, .inl j24_fa_yearOf_c))] H := hP
        have hD : va_D A [(fa, .inr (3, [.int y79, .int fa_length, .int fa_cards, .int j24_l4, .int p0, .int p1, .ref fa_yearOf])), (fa_yearOf, .inl (cI, 16, .inl j24_fa_yearOf_c))] := hD
        refine lv_aload_n hx hb dX3_find_83 rfl (lv_at hl 0 rfl) ?_
        refine lv_iload hx hb dX3_find_84 (lv_at hl 2 rfl) ?_
        refine lv_aload_n hx hb dX3_find_86 rfl (lv_at hl 0 rfl) ?_
        refine va_get (D := g) (ci := 3) (v := .int y79) (C := RX3) (T := TX3) (N := 7) hx hb hts iX3 hown hK hP 0 rfl rfl 0 (by decide) (hts (.fieldLink RX3 35 "CardsAtYule$Fate" "begins" "I") (List.mem_cons_of_mem _ (List.mem_append_left _ (List.mem_of_getElem? (i := 7) rfl)))) (fun _ h9 => h9) rfl dX3_find_87 ?_
        refine lv_isub hx hb dX3_find_90 ?_
        refine lv_topi (fun y90 e90 => ?_)
        refine va_put (D := g) (ci := 3) (v := .int y90) (ty := .int) (C := RX3) (T := TX3) (N := 7) hx hb hts iX3 tyX3 tyX3_ok nmX3 hown hK hP hD hS 0 rfl rfl 1 (by decide) (hts (.fieldLink RX3 38 "CardsAtYule$Fate" "length" "I") (List.mem_cons_of_mem _ (List.mem_append_left _ (List.mem_of_getElem? (i := 8) rfl)))) (fun _ h9 => h9) rfl (by decide +kernel) rfl rfl (Nat.le_of_ble_eq_true rfl) dX3_find_91 (fun H locs hP hD hS => ?_)
        have hP : va_P g vwCl [(fa, .inr (3, [.int y79, .int y90, .int fa_cards, .int j24_l4, .int p0, .int p1, .ref fa_yearOf])), (fa_yearOf, .inl (cI, 16, .inl j24_fa_yearOf_c))] H := hP
        have hD : va_D A [(fa, .inr (3, [.int y79, .int y90, .int fa_cards, .int j24_l4, .int p0, .int p1, .ref fa_yearOf])), (fa_yearOf, .inl (cI, 16, .inl j24_fa_yearOf_c))] := hD
        refine lv_aload_n hx hb dX3_find_94 rfl (lv_at hl 0 rfl) ?_
        refine lv_iconst (v := 0) hx hb dX3_find_95 (by decide) ?_
        refine va_put (D := g) (ci := 3) (v := .int 0) (ty := .int) (C := RX3) (T := TX3) (N := 7) hx hb hts iX3 tyX3 tyX3_ok nmX3 hown hK hP hD hS 0 rfl rfl 2 (by decide) (hts (.fieldLink RX3 41 "CardsAtYule$Fate" "cards" "I") (List.mem_cons_of_mem _ (List.mem_append_left _ (List.mem_of_getElem? (i := 9) rfl)))) (fun _ h9 => h9) rfl (by decide +kernel) rfl rfl (Nat.le_of_ble_eq_true rfl) dX3_find_96 (fun H locs hP hD hS => ?_)
        have hP : va_P g vwCl [(fa, .inr (3, [.int y79, .int y90, .int 0, .int j24_l4, .int p0, .int p1, .ref fa_yearOf])), (fa_yearOf, .inl (cI, 16, .inl j24_fa_yearOf_c))] H := hP
        have hD : va_D A [(fa, .inr (3, [.int y79, .int y90, .int 0, .int j24_l4, .int p0, .int p1, .ref fa_yearOf])), (fa_yearOf, .inl (cI, 16, .inl j24_fa_yearOf_c))] := hD
        refine lv_iconst (v := 0) hx hb dX3_find_99 (by decide) ?_
        refine lv_istore (lv' := [(6, .int 0), (0, .ref fa), (4, .int j24_l4), (5, .int j24_l5)]) hx hb dX3_find_100 hl (by decide) rfl (fun ls hl => ?_)
        have J102 : ∀ (n102 : Nat) (j102_l4 : Int32) (j102_l6 : Int32) (j102_fa_cards : Int32) (H : Heap) (locs : List Loc) (ls : Array Slot), (2147483648 - j102_l6.toInt).toNat < n102 → (ir j102_l4.toInt 0 15) → (ir j102_l6.toInt 0 2147483647) → va_P g vwCl [(fa, .inr (3, [.int y79, .int y90, .int j102_fa_cards, .int j24_l4, .int p0, .int p1, .ref fa_yearOf])), (fa_yearOf, .inl (cI, 16, .inl j24_fa_yearOf_c))] H → va_D A [(fa, .inr (3, [.int y79, .int y90, .int j102_fa_cards, .int j24_l4, .int p0, .int p1, .ref fa_yearOf])), (fa_yearOf, .inl (cI, 16, .inl j24_fa_yearOf_c))] → va_S A s.heap H locs → lv_has ls 7 [(0, .ref fa), (4, .int j102_l4), (6, .int j102_l6)] → W p l e (headSpec v_X3_find ({ frames := 3, cells := 0, slots := 0, locals := 68 })).room s m av below meth c H locs 0 0 QQ (F0 m 102 ls []) := by
          intro n102
          induction n102 with
          | zero => exact fun j102_l4 j102_l6 j102_fa_cards H locs ls hn => absurd hn (Nat.not_lt_zero _)
          | succ n102 ih102 =>
            intro j102_l4 j102_l6 j102_fa_cards H locs ls hn102 hj102_l4 hj102_l6 hP hD hS hl
            refine lv_iload hx hb dX3_find_102 (lv_at hl 2 rfl) ?_
            refine lv_aload_n hx hb dX3_find_104 rfl (lv_at hl 0 rfl) ?_
            refine va_get (D := g) (ci := 3) (v := .int y90) (C := RX3) (T := TX3) (N := 7) hx hb hts iX3 hown hK hP 0 rfl rfl 1 (by decide) (hts (.fieldLink RX3 38 "CardsAtYule$Fate" "length" "I") (List.mem_cons_of_mem _ (List.mem_append_left _ (List.mem_of_getElem? (i := 8) rfl)))) (fun _ h9 => h9) rfl dX3_find_105 ?_
            refine lv_icmp_ge (tgt := 145) hx hb dX3_find_108 (by decide) (fun c108 => ?_) (fun c108 => ?_)
            · have f108 := (show y90.toInt ≤ j102_l6.toInt from z_le rfl rfl c108)
              subst hQ
              have hP9 := hP.sub (ws' := [(fa, .inr (3, [.int y79, .int y90, .int j102_fa_cards, .int j24_l4, .int p0, .int p1, .ref fa_yearOf])), (fa_yearOf, .inl (cI, 16, .inl j24_fa_yearOf_c))]) [0, 1] rfl
              have hD9 := hD.sub (ws' := [(fa, .inr (3, [.int y79, .int y90, .int j102_fa_cards, .int j24_l4, .int p0, .int p1, .ref fa_yearOf])), (fa_yearOf, .inl (cI, 16, .inl j24_fa_yearOf_c))]) [0, 1] (by decide) rfl
              exact W.vret hx hb hr (fun t ht hW => ⟨⟨(y79, y90, j102_fa_cards, j24_l4, p0, p1, j24_fa_yearOf_c), rfl, hj24_l4, ⟨by rw [ht]; exact hP9, va_K.moved hW.alike hK, hD9⟩⟩, hS.F ht⟩) hS.2.2 dX3_find_145
            have f108 := (show j102_l6.toInt < y90.toInt from z_nle rfl rfl c108)
            have r108a : ir j102_l6.toInt 0 2147483646 := ir_lta f108 hj102_l6 (rg_all y90) (by decide)
            have r108b : ir y90.toInt 1 2147483647 := ir_ltb f108 hj102_l6 (rg_all y90) (by decide)
            refine lv_aload_n hx hb dX3_find_111 rfl (lv_at hl 0 rfl) ?_
            refine lv_dup hx hb dX3_find_112 rfl ?_
            refine va_get (D := g) (ci := 3) (v := .int j102_fa_cards) (C := RX3) (T := TX3) (N := 7) hx hb hts iX3 hown hK hP 0 rfl rfl 2 (by decide) (hts (.fieldLink RX3 41 "CardsAtYule$Fate" "cards" "I") (List.mem_cons_of_mem _ (List.mem_append_left _ (List.mem_of_getElem? (i := 9) rfl)))) (fun _ h9 => h9) rfl dX3_find_113 ?_
            refine lv_aload_n hx hb dX3_find_116 rfl (lv_at hl 0 rfl) ?_
            refine lv_iload hx hb dX3_find_117 (lv_at hl 1 rfl) ?_
            refine lv_iconst (v := 3) hx hb dX3_find_119 (by decide) ?_
            refine ro_i (va_runV (As := [.int j102_l4, .int 3]) (rest := [.int j102_fa_cards, .ref fa]) ⟨hx, hb, hml, hown, hts⟩ (q_X3_sentIn l g cI cJ cB cZ cL j102_l4 3 fa y79 y90 j102_fa_cards j24_l4 p0 p1 fa_yearOf H.size hj24_l4) (cwV 2 hts (goodIn_app (g_4 (List.mem_cons_of_mem _ (List.mem_append_left _ (List.mem_of_getElem? (i := 10) rfl))) (List.mem_cons_of_mem _ (List.mem_append_left _ (List.mem_of_getElem? (i := 11) rfl))) (List.mem_cons_of_mem _ (List.mem_append_left _ (List.mem_of_getElem? (i := 12) rfl))) (List.mem_cons_of_mem _ (List.mem_append_left _ (List.mem_of_getElem? (i := 13) rfl))) (by decide +kernel)) (goodIn_sub (fun _ h => List.mem_cons_of_mem _ (List.mem_append_right _ (List.mem_append_right _ (List.mem_append_left _ h)))) good_v_X3_sentIn)) rfl rfl rfl (by decide +kernel) ⟨Nat.le_of_ble_eq_true rfl, Nat.le_of_ble_eq_true rfl⟩) (pv_RO (q := (RX3, TX3, 7)) (ci := 3) (q0 := 0) (wc := [(fa, .inr (3, [.int y79, .int y90, .int j102_fa_cards, .int j24_l4, .int p0, .int p1, .ref fa_yearOf]))]) hK hP [0] rfl rfl rfl) rfl rfl hl.1 rfl (lv_room (Nat.le_of_ble_eq_true rfl)) dX3_find_120 ⟨Nat.le_of_ble_eq_true rfl, Nat.le_of_ble_eq_true rfl⟩) hS hA hP (fun r120 u120 H locs hw120 hP hS => ?_)
            have hw120_0 := hw120
            refine ro_i (va_runS (As := [.int r120]) (rest := [.int j102_fa_cards, .ref fa]) ⟨hx, hb, hml, hown, hts⟩ (q_J6_bitCount_0f7a4 l g cI cJ cB cZ cL r120 H.size ) (va_cwS 1 hts (goodIn_app (g_3 (List.mem_cons_of_mem _ (List.mem_append_left _ (List.mem_of_getElem? (i := 14) rfl))) (List.mem_cons_of_mem _ (List.mem_append_left _ (List.mem_of_getElem? (i := 15) rfl))) (List.mem_cons_of_mem _ (List.mem_append_left _ (List.mem_of_getElem? (i := 16) rfl))) (by decide +kernel)) (goodIn_sub (fun _ h => List.mem_cons_of_mem _ (List.mem_append_right _ (List.mem_append_right _ (List.mem_append_right _ (List.mem_append_left _ h))))) good_v_J6_bitCount_0f7a4)) rfl rfl rfl (by decide +kernel) ⟨Nat.le_of_ble_eq_true rfl, Nat.le_of_ble_eq_true rfl⟩) (ps_RO (wc := []) hK hP [] rfl) rfl rfl hl.1 rfl (lv_room (Nat.le_of_ble_eq_true rfl)) dX3_find_123 ⟨Nat.le_of_ble_eq_true rfl, Nat.le_of_ble_eq_true rfl⟩) hS hA hP (fun r123 u123 H locs hw123 hP hS => ?_)
            have hw123_0 := hw123
            refine lv_iadd hx hb dX3_find_126 ?_
            refine lv_topi (fun y126 e126 => ?_)
            refine va_put (D := g) (ci := 3) (v := .int y126) (ty := .int) (C := RX3) (T := TX3) (N := 7) hx hb hts iX3 tyX3 tyX3_ok nmX3 hown hK hP hD hS 0 rfl rfl 2 (by decide) (hts (.fieldLink RX3 41 "CardsAtYule$Fate" "cards" "I") (List.mem_cons_of_mem _ (List.mem_append_left _ (List.mem_of_getElem? (i := 9) rfl)))) (fun _ h9 => h9) rfl (by decide +kernel) rfl rfl (Nat.le_of_ble_eq_true rfl) dX3_find_127 (fun H locs hP hD hS => ?_)
            have hP : va_P g vwCl [(fa, .inr (3, [.int y79, .int y90, .int y126, .int j24_l4, .int p0, .int p1, .ref fa_yearOf])), (fa_yearOf, .inl (cI, 16, .inl j24_fa_yearOf_c))] H := hP
            have hD : va_D A [(fa, .inr (3, [.int y79, .int y90, .int y126, .int j24_l4, .int p0, .int p1, .ref fa_yearOf])), (fa_yearOf, .inl (cI, 16, .inl j24_fa_yearOf_c))] := hD
            refine lv_aload_n hx hb dX3_find_130 rfl (lv_at hl 0 rfl) ?_
            refine lv_iload hx hb dX3_find_131 (lv_at hl 1 rfl) ?_
            refine lv_iconst (v := 3) hx hb dX3_find_133 (by decide) ?_
            refine ro_i (va_runV (As := [.int j102_l4, .int 3]) (rest := []) ⟨hx, hb, hml, hown, hts⟩ (q_X3_next l g cI cJ cB cZ cL j102_l4 3 fa y79 y90 y126 j24_l4 p0 p1 fa_yearOf H.size hj24_l4) (cwV 2 hts (goodIn_app (g_4 (List.mem_cons_of_mem _ (List.mem_append_left _ (List.mem_of_getElem? (i := 17) rfl))) (List.mem_cons_of_mem _ (List.mem_append_left _ (List.mem_of_getElem? (i := 18) rfl))) (List.mem_cons_of_mem _ (List.mem_append_left _ (List.mem_of_getElem? (i := 19) rfl))) (List.mem_cons_of_mem _ (List.mem_append_left _ (List.mem_of_getElem? (i := 13) rfl))) (by decide +kernel)) (goodIn_sub (fun _ h => List.mem_cons_of_mem _ (List.mem_append_right _ (List.mem_append_right _ (List.mem_append_right _ (List.mem_append_right _ (List.mem_append_left _ h)))))) good_v_X3_next)) rfl rfl rfl (by decide +kernel) ⟨Nat.le_of_ble_eq_true rfl, Nat.le_of_ble_eq_true rfl⟩) (pv_RO (q := (RX3, TX3, 7)) (ci := 3) (q0 := 0) (wc := [(fa, .inr (3, [.int y79, .int y90, .int y126, .int j24_l4, .int p0, .int p1, .ref fa_yearOf]))]) hK hP [0] rfl rfl rfl) rfl rfl hl.1 rfl (lv_room (Nat.le_of_ble_eq_true rfl)) dX3_find_134 ⟨Nat.le_of_ble_eq_true rfl, Nat.le_of_ble_eq_true rfl⟩) hS hA hP (fun r134 u134 H locs hw134 hP hS => ?_)
            have hw134_0 := hw134
            refine lv_istore (lv' := [(4, .int r134), (0, .ref fa), (6, .int j102_l6)]) hx hb dX3_find_137 hl (by decide) rfl (fun ls hl => ?_)
            obtain ⟨y139, e139⟩ : ∃ y : Int32, y = j102_l6 + 1 := ⟨_, rfl⟩
            have q139 : y139.toInt = j102_l6.toInt + 1 := by rw [e139]; exact ad_z rfl rfl r108a (ir_c 1) (by decide) (by decide)
            have r139 : ir y139.toInt 1 2147483647 := ad_r q139 r108a (ir_c 1) (by decide) (by decide)
            refine lv_iinc (v := y139) (lv' := [(6, .int y139), (4, .int r134), (0, .ref fa)]) hx hb dX3_find_139 hl (k := 2) rfl e139.symm (by decide) rfl (fun ls hl => ?_)
            refine lv_goto (tgt := 102) hx hb dX3_find_142 (by decide) ?_
            exact ih102 r134 y139 y126 _ _ _ (by omega) hw134_0 (ir_w r139 (by decide) (by decide)) (hP.sub [0, 1] rfl) (hD.sub [0, 1] (by decide) rfl) hS (lv_sub hl [2, 1, 0] rfl)
        exact J102 _ j24_l4 0 0 _ _ _ (Nat.lt_succ_self _) hj24_l4 (by decide) (hP.sub [0, 1] rfl) (hD.sub [0, 1] (by decide) rfl) hS (lv_sub hl [1, 2, 0] rfl)
      refine lv_icmp_ge (tgt := 66) hx hb dX3_find_28 (by decide) (fun c28 => ?_) (fun c28 => ?_)
      · have f28 := (show 16 ≤ j24_l5.toInt from z_le rfl rfl c28)
        have r28a : ir j24_l5.toInt 16 16 := ir_leb f28 (ir_c 16) hj24_l5 (by decide)
        exact J66  _ _ _  (hP.sub [0, 1] rfl) (hD.sub [0, 1] (by decide) rfl) hS (lv_sub hl [0, 1, 2] rfl)
      have f28 := (show j24_l5.toInt < 16 from z_nle rfl rfl c28)
      have r28a : ir j24_l5.toInt 0 15 := ir_lta f28 hj24_l5 (ir_c 16) (by decide)
      refine lv_aload_n hx hb dX3_find_31 rfl (lv_at hl 0 rfl) ?_
      refine va_get (D := g) (ci := 3) (v := .ref fa_yearOf) (C := RX3) (T := TX3) (N := 7) hx hb hts iX3 hown hK hP 0 rfl rfl 6 (by decide) (hts (.fieldLink RX3 9 "CardsAtYule$Fate" "yearOf" "[I") (List.mem_cons_of_mem _ (List.mem_append_left _ (List.mem_of_getElem? (i := 2) rfl)))) (fun _ h9 => h9) rfl dX3_find_32 ?_
      refine lv_iload hx hb dX3_find_35 (lv_at hl 1 rfl) ?_
      refine va_iald (D := g) hx hb hK hP 1 0 rfl rfl (vi_rg rfl hj24_l4 (by decide) (by decide)) dX3_find_37 ?_
      refine lv_topi (fun y37 e37 => ?_)
      refine lv_iconst (v := (-1)) hx hb dX3_find_38 (by decide) ?_
      refine lv_icmp_ne (tgt := 66) hx hb dX3_find_39 (by decide) (fun c39 => ?_) (fun c39 => ?_)
      · have f39 := (show y37.toInt ≠ (-1) from z_ne rfl rfl c39)
        exact J66  _ _ _  (hP.sub [0, 1] rfl) (hD.sub [0, 1] (by decide) rfl) hS (lv_sub hl [0, 1, 2] rfl)
      have f39 := (show y37.toInt = (-1) from z_eq rfl rfl c39)
      have r39a : ir y37.toInt (-1) (-1) := ir_eqa f39 (rg_all y37) (ir_c (-1)) (by decide) (by decide)
      refine lv_aload_n hx hb dX3_find_42 rfl (lv_at hl 0 rfl) ?_
      refine va_get (D := g) (ci := 3) (v := .ref fa_yearOf) (C := RX3) (T := TX3) (N := 7) hx hb hts iX3 hown hK hP 0 rfl rfl 6 (by decide) (hts (.fieldLink RX3 9 "CardsAtYule$Fate" "yearOf" "[I") (List.mem_cons_of_mem _ (List.mem_append_left _ (List.mem_of_getElem? (i := 2) rfl)))) (fun _ h9 => h9) rfl dX3_find_43 ?_
      refine lv_iload hx hb dX3_find_46 (lv_at hl 1 rfl) ?_
      refine lv_iload hx hb dX3_find_48 (lv_at hl 2 rfl) ?_
      refine va_iast (D := g) hx hb hK hP hD hS 1 0 rfl rfl (vi_rg rfl hj24_l4 (by decide) (by decide)) dX3_find_50 (fun H locs hP hD hS => ?_)
      obtain ⟨g50, e50⟩ : ∃ z, z = upd j24_fa_yearOf_c j24_l4.toNatClampNeg j24_l5 := ⟨_, rfl⟩
      have hP : va_P g vwCl [(fa, .inr (3, [.int fa_begins, .int fa_length, .int fa_cards, .int fa_round, .int p0, .int p1, .ref fa_yearOf])), (fa_yearOf, .inl (cI, 16, .inl (upd j24_fa_yearOf_c j24_l4.toNatClampNeg j24_l5)))] H := hP
      have hD : va_D A [(fa, .inr (3, [.int fa_begins, .int fa_length, .int fa_cards, .int fa_round, .int p0, .int p1, .ref fa_yearOf])), (fa_yearOf, .inl (cI, 16, .inl (upd j24_fa_yearOf_c j24_l4.toNatClampNeg j24_l5)))] := hD
      rw [← e50] at hP hD
      obtain ⟨y51, e51⟩ : ∃ y : Int32, y = j24_l5 + 1 := ⟨_, rfl⟩
      have q51 : y51.toInt = j24_l5.toInt + 1 := by rw [e51]; exact ad_z rfl rfl r28a (ir_c 1) (by decide) (by decide)
      have r51 : ir y51.toInt 1 16 := ad_r q51 r28a (ir_c 1) (by decide) (by decide)
      refine lv_iinc (v := y51) (lv' := [(5, .int y51), (0, .ref fa), (4, .int j24_l4)]) hx hb dX3_find_51 hl (k := 2) rfl e51.symm (by decide) rfl (fun ls hl => ?_)
      refine lv_aload_n hx hb dX3_find_54 rfl (lv_at hl 1 rfl) ?_
      refine lv_iload hx hb dX3_find_55 (lv_at hl 2 rfl) ?_
      refine lv_iconst (v := 3) hx hb dX3_find_57 (by decide) ?_
      refine ro_i (va_runV (As := [.int j24_l4, .int 3]) (rest := []) ⟨hx, hb, hml, hown, hts⟩ (q_X3_next l g cI cJ cB cZ cL j24_l4 3 fa fa_begins fa_length fa_cards fa_round p0 p1 fa_yearOf H.size hv_fa_round) (cwV 2 hts (goodIn_app (g_4 (List.mem_cons_of_mem _ (List.mem_append_left _ (List.mem_of_getElem? (i := 17) rfl))) (List.mem_cons_of_mem _ (List.mem_append_left _ (List.mem_of_getElem? (i := 18) rfl))) (List.mem_cons_of_mem _ (List.mem_append_left _ (List.mem_of_getElem? (i := 19) rfl))) (List.mem_cons_of_mem _ (List.mem_append_left _ (List.mem_of_getElem? (i := 13) rfl))) (by decide +kernel)) (goodIn_sub (fun _ h => List.mem_cons_of_mem _ (List.mem_append_right _ (List.mem_append_right _ (List.mem_append_right _ (List.mem_append_right _ (List.mem_append_left _ h)))))) good_v_X3_next)) rfl rfl rfl (by decide +kernel) ⟨Nat.le_of_ble_eq_true rfl, Nat.le_of_ble_eq_true rfl⟩) (pv_RO (q := (RX3, TX3, 7)) (ci := 3) (q0 := 0) (wc := [(fa, .inr (3, [.int fa_begins, .int fa_length, .int fa_cards, .int fa_round, .int p0, .int p1, .ref fa_yearOf]))]) hK hP [0] rfl rfl rfl) rfl rfl hl.1 rfl (lv_room (Nat.le_of_ble_eq_true rfl)) dX3_find_58 ⟨Nat.le_of_ble_eq_true rfl, Nat.le_of_ble_eq_true rfl⟩) hS hA hP (fun r58 u58 H locs hw58 hP hS => ?_)
      have hw58_0 := hw58
      refine lv_istore (lv' := [(4, .int r58), (5, .int y51), (0, .ref fa)]) hx hb dX3_find_61 hl (by decide) rfl (fun ls hl => ?_)
      refine lv_goto (tgt := 24) hx hb dX3_find_63 (by decide) ?_
      exact ih24 r58 y51 g50 _ _ _ (by omega) hw58_0 (ir_w r51 (by decide) (by decide)) (hP.sub [0, 1] rfl) (hD.sub [0, 1] (by decide) rfl) hS (lv_sub hl [2, 0, 1] rfl)
  exact J24 _ p2 0 n_r0_c_15 _ _ _ (Nat.lt_succ_self _) hv_p2 (by decide) (hP.sub [0, 1] rfl) (hD.sub [0, 1] (by decide) rfl) hS (lv_sub hl [2, 1, 0] rfl)
def v_X3_kind : List Cond := .code yX3_kind cX3_kind 1 (some .int) :: (([.fieldLink RX3 41 "CardsAtYule$Fate" "cards" "I", .fieldLink RX3 38 "CardsAtYule$Fate" "length" "I"] : List Cond) ++ (wsX30 ++ ([] : List Cond)))
theorem good_v_X3_kind : v_X3_kind.all goodWord = true := ga_c (by decide +kernel) (ga_a (by decide +kernel) (ga_a good_wsX30 rfl))
set_option maxHeartbeats 4000000 in
set_option maxRecDepth 100000 in
theorem q_X3_kind (l : Launch) (g : va_G) (cI cJ cB cZ cL : ClassId) (fa : Nat) (fa_begins : Int32) (fa_length : Int32) (fa_cards : Int32) (fa_round : Int32) (fa_rule0 : Int32) (fa_rule1 : Int32) (fa_yearOf : Nat) (sz : Nat) (hv_fa_round : ir fa_round.toInt 0 15) : Met l yX3_kind v_X3_kind ({ frames := 0, cells := 0, slots := 0, locals := 0 }) (va_Pc [.ref fa] (pRO g (tyT cI cJ cB cZ cL) [(fa, .inr (3, [.int fa_begins, .int fa_length, .int fa_cards, .int fa_round, .int fa_rule0, .int fa_rule1, .ref fa_yearOf]))] sz)) (va_Qi (fun (r : Int32) (u : Unit) => (ir r.toInt 0 2)) (fun (_ : Unit) (_ : State) => True) (va_A [] sz)) 0 0 (va_A [] sz) := by
  refine Met.ofW (cc := cX3_kind) (maxL := 1) (ret := (some .int)) (by decide) rfl ?_
  intro p e s m args below meth c s₁ B hml hv
  obtain ⟨rfl, hsz, hP, hK⟩ := hv
  have hx := B.exec
  have hb := B.bytes
  have hr := B.returns
  have hts := atoms_spec (ws := v_X3_kind) B.pre
  have hown : s.vm.findClass RX3 = some m.cls := findClass_of_methodNamed B.named
  have hlocks := B.notSynchronized
  clear B
  subst hsz
  have iX3 : ∀ w ∈ wsX30, w ∈ v_X3_kind := (fun _ h => List.mem_cons_of_mem _ (List.mem_append_right _ (List.mem_append_left _ h)))
  generalize hAe : (va_A [] s.heap.size) = A
  have hA : ∀ q : Nat, s.heap.size ≤ q → A q := fun q h => by rw [← hAe]; exact Or.inr h
  have hS : va_S A s.heap s.heap [] := va_S.rf
  have hl := lv_entry ([.ref fa]) (n := 1) (Nat.le_of_ble_eq_true rfl)
  rw [lg_entry_eq]
  generalize (lg_sl ([.ref fa]) ++ List.replicate (1 - (lg_sl ([.ref fa])).length) Slot.unset).toArray = ls at hl ⊢
  generalize ([.ref fa] : List Value).toArray = av at hts ⊢
  generalize hQ : MQ below _ av s _ _ A = QQ
  have hl : lv_has ls 1 [(0, .ref fa)] := hl
  have hP : va_P g vwCl [(fa, .inr (3, [.int fa_begins, .int fa_length, .int fa_cards, .int fa_round, .int fa_rule0, .int fa_rule1, .ref fa_yearOf]))] s.heap := hP
  refine lv_aload_n hx hb dX3_kind_0 rfl (lv_at hl 0 rfl) ?_
  refine va_get (D := g) (ci := 3) (v := .int fa_cards) (C := RX3) (T := TX3) (N := 7) hx hb hts iX3 hown hK hP 0 rfl rfl 2 (by decide) (hts (.fieldLink RX3 41 "CardsAtYule$Fate" "cards" "I") (List.mem_cons_of_mem _ (List.mem_append_left _ (List.mem_of_getElem? (i := 0) rfl)))) (fun _ h9 => h9) rfl dX3_kind_1 ?_
  refine lv_if_ne (tgt := 9) hx hb dX3_kind_4 (by decide) (fun c4 => ?_) (fun c4 => ?_)
  rotate_left 1
  · have f4 := (show fa_cards.toInt = 0 from z_eq rfl rfl c4)
    have r4a : ir fa_cards.toInt 0 0 := ir_eqa f4 (rg_all fa_cards) (ir_c 0) (by decide) (by decide)
    refine lv_iconst (v := 0) hx hb dX3_kind_7 (by decide) ?_
    subst hQ
    exact W.iret (v := 0) hx hb hr (fun t ht hW => ⟨⟨0, (), rfl, (show ir (0 : Int32).toInt 0 2 by decide), trivial⟩, hS.F ht⟩) hS.2.2 dX3_kind_8
  have f4 := (show fa_cards.toInt ≠ 0 from z_ne rfl rfl c4)
  refine lv_aload_n hx hb dX3_kind_9 rfl (lv_at hl 0 rfl) ?_
  refine va_get (D := g) (ci := 3) (v := .int fa_cards) (C := RX3) (T := TX3) (N := 7) hx hb hts iX3 hown hK hP 0 rfl rfl 2 (by decide) (hts (.fieldLink RX3 41 "CardsAtYule$Fate" "cards" "I") (List.mem_cons_of_mem _ (List.mem_append_left _ (List.mem_of_getElem? (i := 0) rfl)))) (fun _ h9 => h9) rfl dX3_kind_10 ?_
  refine lv_iconst (v := 2) hx hb dX3_kind_13 (by decide) ?_
  refine lv_aload_n hx hb dX3_kind_14 rfl (lv_at hl 0 rfl) ?_
  refine va_get (D := g) (ci := 3) (v := .int fa_length) (C := RX3) (T := TX3) (N := 7) hx hb hts iX3 hown hK hP 0 rfl rfl 1 (by decide) (hts (.fieldLink RX3 38 "CardsAtYule$Fate" "length" "I") (List.mem_cons_of_mem _ (List.mem_append_left _ (List.mem_of_getElem? (i := 1) rfl)))) (fun _ h9 => h9) rfl dX3_kind_15 ?_
  refine lv_imul hx hb dX3_kind_18 ?_
  refine lv_topi (fun y18 e18 => ?_)
  refine lv_icmp_ne (tgt := 26) hx hb dX3_kind_19 (by decide) (fun c19 => ?_) (fun c19 => ?_)
  · have f19 := (show fa_cards.toInt ≠ y18.toInt from z_ne rfl rfl c19)
    refine lv_iconst (v := 2) hx hb dX3_kind_26 (by decide) ?_
    subst hQ
    exact W.iret (v := 2) hx hb hr (fun t ht hW => ⟨⟨2, (), rfl, (show ir (2 : Int32).toInt 0 2 by decide), trivial⟩, hS.F ht⟩) hS.2.2 dX3_kind_27
  have f19 := (show fa_cards.toInt = y18.toInt from z_eq rfl rfl c19)
  refine lv_iconst (v := 1) hx hb dX3_kind_22 (by decide) ?_
  refine lv_goto (tgt := 27) hx hb dX3_kind_23 (by decide) ?_
  subst hQ
  exact W.iret (v := 1) hx hb hr (fun t ht hW => ⟨⟨1, (), rfl, (show ir (1 : Int32).toInt 0 2 by decide), trivial⟩, hS.F ht⟩) hS.2.2 dX3_kind_27
def v_X3_tell : List Cond := .code yX3_tell cX3_tell 2 (some .int) :: (([.methodLink RX3 53 yX3_kind, .instanceMethod yX3_kind, .selects RX3 yX3_kind yX3_kind, .initialized RX3, .fieldLink RX3 35 "CardsAtYule$Fate" "begins" "I", .fieldLink RX3 38 "CardsAtYule$Fate" "length" "I", .fieldLink RX3 41 "CardsAtYule$Fate" "cards" "I"] : List Cond) ++ (v_X3_kind ++ (wsX30 ++ ([] : List Cond))))
theorem good_v_X3_tell : v_X3_tell.all goodWord = true := ga_c (by decide +kernel) (ga_a (by decide +kernel) (ga_a good_v_X3_kind (ga_a good_wsX30 rfl)))
set_option maxHeartbeats 4000000 in
set_option maxRecDepth 100000 in
theorem q_X3_tell (l : Launch) (g : va_G) (cI cJ cB cZ cL : ClassId) (p0 : Int32) (fa : Nat) (fa_begins : Int32) (fa_length : Int32) (fa_cards : Int32) (fa_round : Int32) (fa_rule0 : Int32) (fa_rule1 : Int32) (fa_yearOf : Nat) (sz : Nat) (hv_fa_round : ir fa_round.toInt 0 15) : Met l yX3_tell v_X3_tell ({ frames := 1, cells := 0, slots := 0, locals := 20 }) (va_Pc [.ref fa, .int p0] (pRO g (tyT cI cJ cB cZ cL) [(fa, .inr (3, [.int fa_begins, .int fa_length, .int fa_cards, .int fa_round, .int fa_rule0, .int fa_rule1, .ref fa_yearOf]))] sz)) (va_Qi (fun (r : Int32) (u : Unit) => True) (fun (_ : Unit) (_ : State) => True) (va_A [] sz)) 0 0 (va_A [] sz) := by
  refine Met.ofW (cc := cX3_tell) (maxL := 2) (ret := (some .int)) (by decide) rfl ?_
  intro p e s m args below meth c s₁ B hml hv
  obtain ⟨rfl, hsz, hP, hK⟩ := hv
  have hx := B.exec
  have hb := B.bytes
  have hr := B.returns
  have hts := atoms_spec (ws := v_X3_tell) B.pre
  have hown : s.vm.findClass RX3 = some m.cls := findClass_of_methodNamed B.named
  have hlocks := B.notSynchronized
  clear B
  subst hsz
  have iX3 : ∀ w ∈ wsX30, w ∈ v_X3_tell := (fun _ h => List.mem_cons_of_mem _ (List.mem_append_right _ (List.mem_append_right _ (List.mem_append_left _ h))))
  generalize hAe : (va_A [] s.heap.size) = A
  have hA : ∀ q : Nat, s.heap.size ≤ q → A q := fun q h => by rw [← hAe]; exact Or.inr h
  have hS : va_S A s.heap s.heap [] := va_S.rf
  have hl := lv_entry ([.ref fa, .int p0]) (n := 2) (Nat.le_of_ble_eq_true rfl)
  rw [lg_entry_eq]
  generalize (lg_sl ([.ref fa, .int p0]) ++ List.replicate (2 - (lg_sl ([.ref fa, .int p0])).length) Slot.unset).toArray = ls at hl ⊢
  generalize ([.ref fa, .int p0] : List Value).toArray = av at hts ⊢
  generalize hQ : MQ below _ av s _ _ A = QQ
  have hl : lv_has ls 2 [(0, .ref fa), (1, .int p0)] := hl
  have hP : va_P g vwCl [(fa, .inr (3, [.int fa_begins, .int fa_length, .int fa_cards, .int fa_round, .int fa_rule0, .int fa_rule1, .ref fa_yearOf]))] s.heap := hP
  refine lv_iload_n hx hb dX3_tell_0 rfl (lv_at hl 1 rfl) ?_
  rcases tsw 2 p0 with hz1 | ⟨j1, hj1, ej1⟩
  · refine lv_tableOut (tgt := 43) hx hb dX3_tell_1 hz1 (by decide) ?_
    refine lv_aload_n hx hb dX3_tell_43 rfl (lv_at hl 0 rfl) ?_
    refine ro_i (va_runV (As := []) (rest := []) ⟨hx, hb, hml, hown, hts⟩ (q_X3_kind l g cI cJ cB cZ cL fa fa_begins fa_length fa_cards fa_round fa_rule0 fa_rule1 fa_yearOf s.heap.size hv_fa_round) (cwV 0 hts (goodIn_app (g_4 (List.mem_cons_of_mem _ (List.mem_append_left _ (List.mem_of_getElem? (i := 0) rfl))) (List.mem_cons_of_mem _ (List.mem_append_left _ (List.mem_of_getElem? (i := 1) rfl))) (List.mem_cons_of_mem _ (List.mem_append_left _ (List.mem_of_getElem? (i := 2) rfl))) (List.mem_cons_of_mem _ (List.mem_append_left _ (List.mem_of_getElem? (i := 3) rfl))) (by decide +kernel)) (goodIn_sub (fun _ h => List.mem_cons_of_mem _ (List.mem_append_right _ (List.mem_append_left _ h))) good_v_X3_kind)) rfl rfl rfl (by decide +kernel) ⟨Nat.le_of_ble_eq_true rfl, Nat.le_of_ble_eq_true rfl⟩) (pv_RO (q := (RX3, TX3, 7)) (ci := 3) (q0 := 0) (wc := [(fa, .inr (3, [.int fa_begins, .int fa_length, .int fa_cards, .int fa_round, .int fa_rule0, .int fa_rule1, .ref fa_yearOf]))]) hK hP [0] rfl rfl rfl) rfl rfl hl.1 rfl (lv_room (Nat.le_of_ble_eq_true rfl)) dX3_tell_44 ⟨Nat.le_of_ble_eq_true rfl, Nat.le_of_ble_eq_true rfl⟩) hS hA hP (fun r44 u44 H locs hw44 hP hS => ?_)
    have hw44_0 := hw44
    subst hQ
    exact W.iret (v := r44) hx hb hr (fun t ht hW => ⟨⟨r44, (), rfl, trivial, trivial⟩, hS.F ht⟩) hS.2.2 dX3_tell_47
  · match j1, hj1, ej1 with
    | 0, _, ej1 =>
        have rs28_0 : ir p0.toInt 0 0 := sw_c ej1 (by decide)
        rw [show p0 = 0 from ej1]
        refine lv_tableIn (off := 27) (tgt := 28) hx hb dX3_tell_1 (by decide) (by decide) (by decide) (by decide) ?_
        refine lv_aload_n hx hb dX3_tell_28 rfl (lv_at hl 0 rfl) ?_
        refine va_get (D := g) (ci := 3) (v := .int fa_begins) (C := RX3) (T := TX3) (N := 7) hx hb hts iX3 hown hK hP 0 rfl rfl 0 (by decide) (hts (.fieldLink RX3 35 "CardsAtYule$Fate" "begins" "I") (List.mem_cons_of_mem _ (List.mem_append_left _ (List.mem_of_getElem? (i := 4) rfl)))) (fun _ h9 => h9) rfl dX3_tell_29 ?_
        subst hQ
        exact W.iret (v := fa_begins) hx hb hr (fun t ht hW => ⟨⟨fa_begins, (), rfl, trivial, trivial⟩, hS.F ht⟩) hS.2.2 dX3_tell_32
    | 1, _, ej1 =>
        have rs33_1 : ir p0.toInt 1 1 := sw_c ej1 (by decide)
        rw [show p0 = 1 from ej1]
        refine lv_tableIn (off := 32) (tgt := 33) hx hb dX3_tell_1 (by decide) (by decide) (by decide) (by decide) ?_
        refine lv_aload_n hx hb dX3_tell_33 rfl (lv_at hl 0 rfl) ?_
        refine va_get (D := g) (ci := 3) (v := .int fa_length) (C := RX3) (T := TX3) (N := 7) hx hb hts iX3 hown hK hP 0 rfl rfl 1 (by decide) (hts (.fieldLink RX3 38 "CardsAtYule$Fate" "length" "I") (List.mem_cons_of_mem _ (List.mem_append_left _ (List.mem_of_getElem? (i := 5) rfl)))) (fun _ h9 => h9) rfl dX3_tell_34 ?_
        subst hQ
        exact W.iret (v := fa_length) hx hb hr (fun t ht hW => ⟨⟨fa_length, (), rfl, trivial, trivial⟩, hS.F ht⟩) hS.2.2 dX3_tell_37
    | 2, _, ej1 =>
        have rs38_2 : ir p0.toInt 2 2 := sw_c ej1 (by decide)
        rw [show p0 = 2 from ej1]
        refine lv_tableIn (off := 37) (tgt := 38) hx hb dX3_tell_1 (by decide) (by decide) (by decide) (by decide) ?_
        refine lv_aload_n hx hb dX3_tell_38 rfl (lv_at hl 0 rfl) ?_
        refine va_get (D := g) (ci := 3) (v := .int fa_cards) (C := RX3) (T := TX3) (N := 7) hx hb hts iX3 hown hK hP 0 rfl rfl 2 (by decide) (hts (.fieldLink RX3 41 "CardsAtYule$Fate" "cards" "I") (List.mem_cons_of_mem _ (List.mem_append_left _ (List.mem_of_getElem? (i := 6) rfl)))) (fun _ h9 => h9) rfl dX3_tell_39 ?_
        subst hQ
        exact W.iret (v := fa_cards) hx hb hr (fun t ht hW => ⟨⟨fa_cards, (), rfl, trivial, trivial⟩, hS.F ht⟩) hS.2.2 dX3_tell_42
    | n + 3, h, _ => exact absurd h (by omega)
