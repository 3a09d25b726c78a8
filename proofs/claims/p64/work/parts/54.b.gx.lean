def v_X12_streak : List Cond := .code yX12_streak cX12_streak 7 (some .int) :: (([.fieldLink RX12 107 "CardsAtYuleModel" "thrown" "I", .methodLink RX12 281 yX12_isPair, .instanceMethod yX12_isPair, .selects RX12 yX12_isPair yX12_isPair, .initialized RX12, .methodLink RX12 112 yX12_in, .static yX12_in, .methodLink RX12 346 yX12_goes, .instanceMethod yX12_goes, .selects RX12 yX12_goes yX12_goes, .fieldLink RX12 34 "CardsAtYuleModel" "has" "[I", .methodLink RX12 352 yX12_gotOf, .instanceMethod yX12_gotOf, .selects RX12 yX12_gotOf yX12_gotOf] : List Cond) ++ (v_X12_isPair ++ (v_X12_in ++ (v_X12_goes ++ (v_X12_gotOf ++ (wsX120 ++ ([] : List Cond)))))))
theorem good_v_X12_streak : v_X12_streak.all goodWord = true := ga_c (by decide +kernel) (ga_a (by decide +kernel) (ga_a good_v_X12_isPair (ga_a good_v_X12_in (ga_a good_v_X12_goes (ga_a good_v_X12_gotOf (ga_a good_wsX120 rfl))))))
set_option maxHeartbeats 4000000 in
set_option maxRecDepth 100000 in
theorem q_X12_streak (l : Launch) (g : va_G) (cI cJ cB cZ cL : ClassId) (p0 : Int32) (p1 : Int32) (m : Nat) (m_a : Nat → Nat) (m_thrown : Int32) (m_taped : Int32) (m_at : Int32) (m_token : Int32) (m_place : Int32) (m_value : Int32) (m_word : Int64) (m_bad : Int32) (m_badPlace : Int32) (m_fault : Int32) (m_faultPlace : Int32) (m_willing : Int32) (m_will : Int32) (m_forgot : Int32) (m_isDrawn : Int32) (m_x : Int64) (m_begin : Int32) (m_round : Int32) (m_roundCards : Int32) (m_fate : Int32) (m_any : Int64) (m_bothSend : Int64) (m_meanCards : Int64) (m_bestSum : Int32) (m_fitMany : Int32) (m_fitFirst : Int64) (m_fitSecond : Int64) (m_has_c : Nat → Int32) (m_pair_c : Nat → Int32) (m_states_c : Nat → Int32) (m_person_c : Nat → Int32) (m_ruleNow_c : Nat → Int32) (m_oddsNow_c : Nat → Int32) (m_maySend_c : Nat → Int32) (m_strikes_c : Nat → Int64) (m_lost_c : Nat → Int64) (m_maycome_c : Nat → Int32) (m_gets_c : Nat → Int32) (m_sent_c : Nat → Int32) (m_cameFirst_c : Nat → Int32) (m_sends_c : Nat → Int32) (m_got_c : Nat → Int32) (sz : Nat) (hv_m_taped : ir m_taped.toInt 0 1600) (hv_m_at : ir m_at.toInt 0 1600) (hv_m_will : ir m_will.toInt 0 1) (hv_m_isDrawn : ir m_isDrawn.toInt 0 1) (ha_m_has_c : hasI m_has_c) (ha_m_pair_c : ar m_pair_c 240 0 15) (ha_m_states_c : ar m_states_c 656 0 15) (ha_m_person_c : perI m_person_c) (ha_m_got_c : ar m_got_c 1280 0 1) : Met l yX12_streak v_X12_streak ({ frames := 4, cells := 0, slots := 0, locals := 91 }) (va_Pc [.ref m, .int p0, .int p1] (pRW g (tyT cI cJ cB cZ cL) [(m, .inr (11, mG m_a m_thrown m_taped m_at m_token m_place m_value m_word m_bad m_badPlace m_fault m_faultPlace m_willing m_will m_forgot m_isDrawn m_x m_begin m_round m_roundCards m_fate m_any m_bothSend m_meanCards m_bestSum m_fitMany m_fitFirst m_fitSecond)), ((m_a 17), .inl (cI, 25, .inl m_has_c)), ((m_a 19), .inl (cI, 240, .inl m_pair_c)), ((m_a 37), .inl (cI, 656, .inl m_states_c)), ((m_a 18), .inl (cI, 250, .inl m_person_c)), ((m_a 23), .inl (cI, 2, .inl m_ruleNow_c)), ((m_a 33), .inl (cI, 2, .inl m_oddsNow_c)), ((m_a 24), .inl (cZ, 2, .inl m_maySend_c)), ((m_a 21), .inl (cJ, 5, .inr (.inl m_strikes_c))), ((m_a 20), .inl (cJ, 160, .inr (.inl m_lost_c))), ((m_a 25), .inl (cZ, 2, .inl m_maycome_c)), ((m_a 27), .inl (cZ, 2, .inl m_gets_c)), ((m_a 26), .inl (cI, 2, .inl m_sent_c)), ((m_a 34), .inl (cZ, 2, .inl m_cameFirst_c)), ((m_a 35), .inl (cI, 1280, .inl m_sends_c)), ((m_a 36), .inl (cZ, 1280, .inl m_got_c))] sz)) (va_Qi (fun (r : Int32) (u : Int32 × Int32 × Int64 × (Nat → Int32) × (Nat → Int32) × (Nat → Int32) × (Nat → Int32) × (Nat → Int32) × (Nat → Int32) × (Nat → Int32) × (Nat → Int32) × (Nat → Int32) × (Nat → Int32)) => match u with | (n_m_thrown, n_m_forgot, n_m_x, n_m_states_c, n_m_ruleNow_c, n_m_oddsNow_c, n_m_maySend_c, n_m_maycome_c, n_m_gets_c, n_m_sent_c, n_m_cameFirst_c, n_m_sends_c, n_m_got_c) => (ir n_m_thrown.toInt 0 0) ∧ (ar n_m_states_c 656 0 15) ∧ (ar n_m_got_c 1280 0 1) ∧ (ir r.toInt (-2147483647) 2147483647)) (fun (u : Int32 × Int32 × Int64 × (Nat → Int32) × (Nat → Int32) × (Nat → Int32) × (Nat → Int32) × (Nat → Int32) × (Nat → Int32) × (Nat → Int32) × (Nat → Int32) × (Nat → Int32) × (Nat → Int32)) (t : State) => bRW g (tyT cI cJ cB cZ cL) (va_A [(m, .inr (11, mG m_a m_thrown m_taped m_at m_token m_place m_value m_word m_bad m_badPlace m_fault m_faultPlace m_willing m_will m_forgot m_isDrawn m_x m_begin m_round m_roundCards m_fate m_any m_bothSend m_meanCards m_bestSum m_fitMany m_fitFirst m_fitSecond)), ((m_a 17), .inl (cI, 25, .inl m_has_c)), ((m_a 19), .inl (cI, 240, .inl m_pair_c)), ((m_a 37), .inl (cI, 656, .inl m_states_c)), ((m_a 18), .inl (cI, 250, .inl m_person_c)), ((m_a 23), .inl (cI, 2, .inl m_ruleNow_c)), ((m_a 33), .inl (cI, 2, .inl m_oddsNow_c)), ((m_a 24), .inl (cZ, 2, .inl m_maySend_c)), ((m_a 21), .inl (cJ, 5, .inr (.inl m_strikes_c))), ((m_a 20), .inl (cJ, 160, .inr (.inl m_lost_c))), ((m_a 25), .inl (cZ, 2, .inl m_maycome_c)), ((m_a 27), .inl (cZ, 2, .inl m_gets_c)), ((m_a 26), .inl (cI, 2, .inl m_sent_c)), ((m_a 34), .inl (cZ, 2, .inl m_cameFirst_c)), ((m_a 35), .inl (cI, 1280, .inl m_sends_c)), ((m_a 36), .inl (cZ, 1280, .inl m_got_c))] sz) (match u with | (n_m_thrown, n_m_forgot, n_m_x, n_m_states_c, n_m_ruleNow_c, n_m_oddsNow_c, n_m_maySend_c, n_m_maycome_c, n_m_gets_c, n_m_sent_c, n_m_cameFirst_c, n_m_sends_c, n_m_got_c) => [(m, .inr (11, mG m_a n_m_thrown m_taped m_at m_token m_place m_value m_word m_bad m_badPlace m_fault m_faultPlace m_willing m_will n_m_forgot m_isDrawn n_m_x m_begin m_round m_roundCards m_fate m_any m_bothSend m_meanCards m_bestSum m_fitMany m_fitFirst m_fitSecond)), ((m_a 17), .inl (cI, 25, .inl m_has_c)), ((m_a 19), .inl (cI, 240, .inl m_pair_c)), ((m_a 37), .inl (cI, 656, .inl n_m_states_c)), ((m_a 18), .inl (cI, 250, .inl m_person_c)), ((m_a 23), .inl (cI, 2, .inl n_m_ruleNow_c)), ((m_a 33), .inl (cI, 2, .inl n_m_oddsNow_c)), ((m_a 24), .inl (cZ, 2, .inl n_m_maySend_c)), ((m_a 21), .inl (cJ, 5, .inr (.inl m_strikes_c))), ((m_a 20), .inl (cJ, 160, .inr (.inl m_lost_c))), ((m_a 25), .inl (cZ, 2, .inl n_m_maycome_c)), ((m_a 27), .inl (cZ, 2, .inl n_m_gets_c)), ((m_a 26), .inl (cI, 2, .inl n_m_sent_c)), ((m_a 34), .inl (cZ, 2, .inl n_m_cameFirst_c)), ((m_a 35), .inl (cI, 1280, .inl n_m_sends_c)), ((m_a 36), .inl (cZ, 1280, .inl n_m_got_c))]) t) (va_A [(m, .inr (11, mG m_a m_thrown m_taped m_at m_token m_place m_value m_word m_bad m_badPlace m_fault m_faultPlace m_willing m_will m_forgot m_isDrawn m_x m_begin m_round m_roundCards m_fate m_any m_bothSend m_meanCards m_bestSum m_fitMany m_fitFirst m_fitSecond)), ((m_a 17), .inl (cI, 25, .inl m_has_c)), ((m_a 19), .inl (cI, 240, .inl m_pair_c)), ((m_a 37), .inl (cI, 656, .inl m_states_c)), ((m_a 18), .inl (cI, 250, .inl m_person_c)), ((m_a 23), .inl (cI, 2, .inl m_ruleNow_c)), ((m_a 33), .inl (cI, 2, .inl m_oddsNow_c)), ((m_a 24), .inl (cZ, 2, .inl m_maySend_c)), ((m_a 21), .inl (cJ, 5, .inr (.inl m_strikes_c))), ((m_a 20), .inl (cJ, 160, .inr (.inl m_lost_c))), ((m_a 25), .inl (cZ, 2, .inl m_maycome_c)), ((m_a 27), .inl (cZ, 2, .inl m_gets_c)), ((m_a 26), .inl (cI, 2, .inl m_sent_c)), ((m_a 34), .inl (cZ, 2, .inl m_cameFirst_c)), ((m_a 35), .inl (cI, 1280, .inl m_sends_c)), ((m_a 36), .inl (cZ, 1280, .inl m_got_c))] sz)) 0 0 (va_A [(m, .inr (11, mG m_a m_thrown m_taped m_at m_token m_place m_value m_word m_bad m_badPlace m_fault m_faultPlace m_willing m_will m_forgot m_isDrawn m_x m_begin m_round m_roundCards m_fate m_any m_bothSend m_meanCards m_bestSum m_fitMany m_fitFirst m_fitSecond)), ((m_a 17), .inl (cI, 25, .inl m_has_c)), ((m_a 19), .inl (cI, 240, .inl m_pair_c)), ((m_a 37), .inl (cI, 656, .inl m_states_c)), ((m_a 18), .inl (cI, 250, .inl m_person_c)), ((m_a 23), .inl (cI, 2, .inl m_ruleNow_c)), ((m_a 33), .inl (cI, 2, .inl m_oddsNow_c)), ((m_a 24), .inl (cZ, 2, .inl m_maySend_c)), ((m_a 21), .inl (cJ, 5, .inr (.inl m_strikes_c))), ((m_a 20), .inl (cJ, 160, .inr (.inl m_lost_c))), ((m_a 25), .inl (cZ, 2, .inl m_maycome_c)), ((m_a 27), .inl (cZ, 2, .inl m_gets_c)), ((m_a 26), .inl (cI, 2, .inl m_sent_c)), ((m_a 34), .inl (cZ, 2, .inl m_cameFirst_c)), ((m_a 35), .inl (cI, 1280, .inl m_sends_c)), ((m_a 36), .inl (cZ, 1280, .inl m_got_c))] sz) := by
  refine Met.ofW (cc := cX12_streak) (maxL := 7) (ret := (some .int)) (by decide) rfl ?_
  intro p e s mth args below meth c s₁ B hml hv
  obtain ⟨rfl, hsz, hP, hK, hD0⟩ := hv
  have hx := B.exec
  have hb := B.bytes
  have hr := B.returns
  have hts := atoms_spec (ws := v_X12_streak) B.pre
  have hown : s.vm.findClass RX12 = some mth.cls := findClass_of_methodNamed B.named
  have hlocks := B.notSynchronized
  clear B
  subst hsz
  have iX12 : ∀ w ∈ wsX120, w ∈ v_X12_streak := (fun _ h => List.mem_cons_of_mem _ (List.mem_append_right _ (List.mem_append_right _ (List.mem_append_right _ (List.mem_append_right _ (List.mem_append_right _ (List.mem_append_left _ h)))))))
  have hD := hD0.self (sz := s.heap.size)
  generalize hAe : (va_A [(m, .inr (11, mG m_a m_thrown m_taped m_at m_token m_place m_value m_word m_bad m_badPlace m_fault m_faultPlace m_willing m_will m_forgot m_isDrawn m_x m_begin m_round m_roundCards m_fate m_any m_bothSend m_meanCards m_bestSum m_fitMany m_fitFirst m_fitSecond)), ((m_a 17), .inl (cI, 25, .inl m_has_c)), ((m_a 19), .inl (cI, 240, .inl m_pair_c)), ((m_a 37), .inl (cI, 656, .inl m_states_c)), ((m_a 18), .inl (cI, 250, .inl m_person_c)), ((m_a 23), .inl (cI, 2, .inl m_ruleNow_c)), ((m_a 33), .inl (cI, 2, .inl m_oddsNow_c)), ((m_a 24), .inl (cZ, 2, .inl m_maySend_c)), ((m_a 21), .inl (cJ, 5, .inr (.inl m_strikes_c))), ((m_a 20), .inl (cJ, 160, .inr (.inl m_lost_c))), ((m_a 25), .inl (cZ, 2, .inl m_maycome_c)), ((m_a 27), .inl (cZ, 2, .inl m_gets_c)), ((m_a 26), .inl (cI, 2, .inl m_sent_c)), ((m_a 34), .inl (cZ, 2, .inl m_cameFirst_c)), ((m_a 35), .inl (cI, 1280, .inl m_sends_c)), ((m_a 36), .inl (cZ, 1280, .inl m_got_c))] s.heap.size) = A at hD ⊢
  have hA : ∀ q : Nat, s.heap.size ≤ q → A q := fun q h => by rw [← hAe]; exact Or.inr h
  have hS : va_S A s.heap s.heap [] := va_S.rf
  have hl := lv_entry ([.ref m, .int p0, .int p1]) (n := 7) (Nat.le_of_ble_eq_true rfl)
  rw [lg_entry_eq]
  generalize (lg_sl ([.ref m, .int p0, .int p1]) ++ List.replicate (7 - (lg_sl ([.ref m, .int p0, .int p1])).length) Slot.unset).toArray = ls at hl ⊢
  generalize ([.ref m, .int p0, .int p1] : List Value).toArray = av at hts ⊢
  generalize hQ : MQ below _ av s _ _ A = QQ
  have hl : lv_has ls 7 [(0, .ref m), (1, .int p0), (2, .int p1)] := hl
  have hP : va_P g vwCl [(m, .inr (11, mG m_a m_thrown m_taped m_at m_token m_place m_value m_word m_bad m_badPlace m_fault m_faultPlace m_willing m_will m_forgot m_isDrawn m_x m_begin m_round m_roundCards m_fate m_any m_bothSend m_meanCards m_bestSum m_fitMany m_fitFirst m_fitSecond)), ((m_a 17), .inl (cI, 25, .inl m_has_c)), ((m_a 19), .inl (cI, 240, .inl m_pair_c)), ((m_a 37), .inl (cI, 656, .inl m_states_c)), ((m_a 18), .inl (cI, 250, .inl m_person_c)), ((m_a 23), .inl (cI, 2, .inl m_ruleNow_c)), ((m_a 33), .inl (cI, 2, .inl m_oddsNow_c)), ((m_a 24), .inl (cZ, 2, .inl m_maySend_c)), ((m_a 21), .inl (cJ, 5, .inr (.inl m_strikes_c))), ((m_a 20), .inl (cJ, 160, .inr (.inl m_lost_c))), ((m_a 25), .inl (cZ, 2, .inl m_maycome_c)), ((m_a 27), .inl (cZ, 2, .inl m_gets_c)), ((m_a 26), .inl (cI, 2, .inl m_sent_c)), ((m_a 34), .inl (cZ, 2, .inl m_cameFirst_c)), ((m_a 35), .inl (cI, 1280, .inl m_sends_c)), ((m_a 36), .inl (cZ, 1280, .inl m_got_c))] s.heap := hP
  refine lv_aload_n hx hb dX12_streak_0 rfl (lv_at hl 0 rfl) ?_
  refine lv_iconst (v := 0) hx hb dX12_streak_1 (by decide) ?_
  refine va_put (D := g) (ci := 11) (v := .int 0) (ty := .int) (C := RX12) (T := TX12) (N := 56) hx hb hts iX12 tyX12 tyX12_ok nmX12 hown hK hP hD hS 0 rfl rfl 0 (by decide) (hts (.fieldLink RX12 107 "CardsAtYuleModel" "thrown" "I") (List.mem_cons_of_mem _ (List.mem_append_left _ (List.mem_of_getElem? (i := 0) rfl)))) (fun _ h9 => h9) rfl (by decide +kernel) rfl rfl (Nat.le_of_ble_eq_true rfl) dX12_streak_2 (fun H locs hP hD hS => ?_)
  have hP : va_P g vwCl [(m, .inr (11, mG m_a 0 m_taped m_at m_token m_place m_value m_word m_bad m_badPlace m_fault m_faultPlace m_willing m_will m_forgot m_isDrawn m_x m_begin m_round m_roundCards m_fate m_any m_bothSend m_meanCards m_bestSum m_fitMany m_fitFirst m_fitSecond)), ((m_a 17), .inl (cI, 25, .inl m_has_c)), ((m_a 19), .inl (cI, 240, .inl m_pair_c)), ((m_a 37), .inl (cI, 656, .inl m_states_c)), ((m_a 18), .inl (cI, 250, .inl m_person_c)), ((m_a 23), .inl (cI, 2, .inl m_ruleNow_c)), ((m_a 33), .inl (cI, 2, .inl m_oddsNow_c)), ((m_a 24), .inl (cZ, 2, .inl m_maySend_c)), ((m_a 21), .inl (cJ, 5, .inr (.inl m_strikes_c))), ((m_a 20), .inl (cJ, 160, .inr (.inl m_lost_c))), ((m_a 25), .inl (cZ, 2, .inl m_maycome_c)), ((m_a 27), .inl (cZ, 2, .inl m_gets_c)), ((m_a 26), .inl (cI, 2, .inl m_sent_c)), ((m_a 34), .inl (cZ, 2, .inl m_cameFirst_c)), ((m_a 35), .inl (cI, 1280, .inl m_sends_c)), ((m_a 36), .inl (cZ, 1280, .inl m_got_c))] H := hP
  have hD : va_D A [(m, .inr (11, mG m_a 0 m_taped m_at m_token m_place m_value m_word m_bad m_badPlace m_fault m_faultPlace m_willing m_will m_forgot m_isDrawn m_x m_begin m_round m_roundCards m_fate m_any m_bothSend m_meanCards m_bestSum m_fitMany m_fitFirst m_fitSecond)), ((m_a 17), .inl (cI, 25, .inl m_has_c)), ((m_a 19), .inl (cI, 240, .inl m_pair_c)), ((m_a 37), .inl (cI, 656, .inl m_states_c)), ((m_a 18), .inl (cI, 250, .inl m_person_c)), ((m_a 23), .inl (cI, 2, .inl m_ruleNow_c)), ((m_a 33), .inl (cI, 2, .inl m_oddsNow_c)), ((m_a 24), .inl (cZ, 2, .inl m_maySend_c)), ((m_a 21), .inl (cJ, 5, .inr (.inl m_strikes_c))), ((m_a 20), .inl (cJ, 160, .inr (.inl m_lost_c))), ((m_a 25), .inl (cZ, 2, .inl m_maycome_c)), ((m_a 27), .inl (cZ, 2, .inl m_gets_c)), ((m_a 26), .inl (cI, 2, .inl m_sent_c)), ((m_a 34), .inl (cZ, 2, .inl m_cameFirst_c)), ((m_a 35), .inl (cI, 1280, .inl m_sends_c)), ((m_a 36), .inl (cZ, 1280, .inl m_got_c))] := hD
  refine lv_aload_n hx hb dX12_streak_5 rfl (lv_at hl 0 rfl) ?_
  refine lv_iload_n hx hb dX12_streak_6 rfl (lv_at hl 1 rfl) ?_
  refine ro_i (va_runV (As := [.int p0]) (rest := []) ⟨hx, hb, hml, hown, hts⟩ (q_X12_isPair l g cI cJ cB cZ cL p0 m m_a 0 m_taped m_at m_token m_place m_value m_word m_bad m_badPlace m_fault m_faultPlace m_willing m_will m_forgot m_isDrawn m_x m_begin m_round m_roundCards m_fate m_any m_bothSend m_meanCards m_bestSum m_fitMany m_fitFirst m_fitSecond m_has_c H.size hv_m_taped hv_m_at hv_m_will hv_m_isDrawn ha_m_has_c) (cwV 1 hts (goodIn_app (g_4 (List.mem_cons_of_mem _ (List.mem_append_left _ (List.mem_of_getElem? (i := 1) rfl))) (List.mem_cons_of_mem _ (List.mem_append_left _ (List.mem_of_getElem? (i := 2) rfl))) (List.mem_cons_of_mem _ (List.mem_append_left _ (List.mem_of_getElem? (i := 3) rfl))) (List.mem_cons_of_mem _ (List.mem_append_left _ (List.mem_of_getElem? (i := 4) rfl))) (by decide +kernel)) (goodIn_sub (fun _ h => List.mem_cons_of_mem _ (List.mem_append_right _ (List.mem_append_left _ h))) good_v_X12_isPair)) rfl rfl rfl (by decide +kernel) ⟨Nat.le_of_ble_eq_true rfl, Nat.le_of_ble_eq_true rfl⟩) (pv_RO (q := (RX12, TX12, 56)) (ci := 11) (q0 := 0) (wc := [(m, .inr (11, mG m_a 0 m_taped m_at m_token m_place m_value m_word m_bad m_badPlace m_fault m_faultPlace m_willing m_will m_forgot m_isDrawn m_x m_begin m_round m_roundCards m_fate m_any m_bothSend m_meanCards m_bestSum m_fitMany m_fitFirst m_fitSecond)), ((m_a 17), .inl (cI, 25, .inl m_has_c))]) hK hP [0, 1] rfl rfl rfl) rfl rfl hl.1 rfl (lv_room (Nat.le_of_ble_eq_true rfl)) dX12_streak_7 ⟨Nat.le_of_ble_eq_true rfl, Nat.le_of_ble_eq_true rfl⟩) hS hA hP (fun r7 u7 H locs hw7 hP hS => ?_)
  have hw7_0 := hw7
  rcases hw7_0 with ⟨er7, fc7_0, fc7_1⟩ | er7
  rotate_left 1
  · subst er7
    refine lv_if_eq (tgt := 23) hx hb dX12_streak_10 (by decide) (fun _ => ?_) (fun c => absurd c (by decide))
    refine lv_bipush (v := (-2)) hx hb dX12_streak_23 (by decide) ?_
    subst hQ
    have hP9 := hP.sub (ws' := [(m, .inr (11, mG m_a 0 m_taped m_at m_token m_place m_value m_word m_bad m_badPlace m_fault m_faultPlace m_willing m_will m_forgot m_isDrawn m_x m_begin m_round m_roundCards m_fate m_any m_bothSend m_meanCards m_bestSum m_fitMany m_fitFirst m_fitSecond)), ((m_a 17), .inl (cI, 25, .inl m_has_c)), ((m_a 19), .inl (cI, 240, .inl m_pair_c)), ((m_a 37), .inl (cI, 656, .inl m_states_c)), ((m_a 18), .inl (cI, 250, .inl m_person_c)), ((m_a 23), .inl (cI, 2, .inl m_ruleNow_c)), ((m_a 33), .inl (cI, 2, .inl m_oddsNow_c)), ((m_a 24), .inl (cZ, 2, .inl m_maySend_c)), ((m_a 21), .inl (cJ, 5, .inr (.inl m_strikes_c))), ((m_a 20), .inl (cJ, 160, .inr (.inl m_lost_c))), ((m_a 25), .inl (cZ, 2, .inl m_maycome_c)), ((m_a 27), .inl (cZ, 2, .inl m_gets_c)), ((m_a 26), .inl (cI, 2, .inl m_sent_c)), ((m_a 34), .inl (cZ, 2, .inl m_cameFirst_c)), ((m_a 35), .inl (cI, 1280, .inl m_sends_c)), ((m_a 36), .inl (cZ, 1280, .inl m_got_c))]) [0, 1, 2, 3, 4, 5, 6, 7, 8, 9, 10, 11, 12, 13, 14, 15] rfl
    have hD9 := hD.sub (ws' := [(m, .inr (11, mG m_a 0 m_taped m_at m_token m_place m_value m_word m_bad m_badPlace m_fault m_faultPlace m_willing m_will m_forgot m_isDrawn m_x m_begin m_round m_roundCards m_fate m_any m_bothSend m_meanCards m_bestSum m_fitMany m_fitFirst m_fitSecond)), ((m_a 17), .inl (cI, 25, .inl m_has_c)), ((m_a 19), .inl (cI, 240, .inl m_pair_c)), ((m_a 37), .inl (cI, 656, .inl m_states_c)), ((m_a 18), .inl (cI, 250, .inl m_person_c)), ((m_a 23), .inl (cI, 2, .inl m_ruleNow_c)), ((m_a 33), .inl (cI, 2, .inl m_oddsNow_c)), ((m_a 24), .inl (cZ, 2, .inl m_maySend_c)), ((m_a 21), .inl (cJ, 5, .inr (.inl m_strikes_c))), ((m_a 20), .inl (cJ, 160, .inr (.inl m_lost_c))), ((m_a 25), .inl (cZ, 2, .inl m_maycome_c)), ((m_a 27), .inl (cZ, 2, .inl m_gets_c)), ((m_a 26), .inl (cI, 2, .inl m_sent_c)), ((m_a 34), .inl (cZ, 2, .inl m_cameFirst_c)), ((m_a 35), .inl (cI, 1280, .inl m_sends_c)), ((m_a 36), .inl (cZ, 1280, .inl m_got_c))]) [0, 1, 2, 3, 4, 5, 6, 7, 8, 9, 10, 11, 12, 13, 14, 15] (by decide) rfl
    exact W.iret (v := (-2)) hx hb hr (fun t ht hW => ⟨⟨(-2), (0, m_forgot, m_x, m_states_c, m_ruleNow_c, m_oddsNow_c, m_maySend_c, m_maycome_c, m_gets_c, m_sent_c, m_cameFirst_c, m_sends_c, m_got_c), rfl, ⟨(show ir (0 : Int32).toInt 0 0 by decide), ha_m_states_c, ha_m_got_c, (show ir ((-2) : Int32).toInt (-2147483647) 2147483647 by decide)⟩, ⟨by rw [ht]; exact hP9, va_K.moved hW.alike hK, hD9⟩⟩, hS.F ht⟩) hS.2.2 dX12_streak_25
  subst er7
  have fc7_0 : 0 ≤ p0.toInt := fc7_0
  have r7_0b : ir p0.toInt 0 2147483647 := ir_leb fc7_0 (ir_c 0) (rg_all p0) (by decide)
  have fc7_1 : p0.toInt ≤ 15 := fc7_1
  have r7_1a : ir p0.toInt 0 15 := ir_lea fc7_1 r7_0b (ir_c 15) (by decide)
  refine lv_if_eq (tgt := 23) hx hb dX12_streak_10 (by decide) (fun c => absurd c (by decide)) (fun _ => ?_)
  refine lv_iload_n hx hb dX12_streak_13 rfl (lv_at hl 2 rfl) ?_
  refine lv_i2l (v := p1.toInt64) hx hb dX12_streak_14 rfl ?_
  refine lv_lconst (v := 0) hx hb dX12_streak_15 (by decide) ?_
  refine lv_lconst (v := 1) hx hb dX12_streak_16 (by decide) ?_
  refine ro_i (va_runS (As := [.long p1.toInt64, .long 0, .long 1]) (rest := []) ⟨hx, hb, hml, hown, hts⟩ (q_X12_in l g cI cJ cB cZ cL p1.toInt64 p1.toInt 0 0 1 1 H.size (z_i2l rfl) rfl rfl) (va_cwS 3 hts (goodIn_app (g_3 (List.mem_cons_of_mem _ (List.mem_append_left _ (List.mem_of_getElem? (i := 5) rfl))) (List.mem_cons_of_mem _ (List.mem_append_left _ (List.mem_of_getElem? (i := 6) rfl))) (List.mem_cons_of_mem _ (List.mem_append_left _ (List.mem_of_getElem? (i := 4) rfl))) (by decide +kernel)) (goodIn_sub (fun _ h => List.mem_cons_of_mem _ (List.mem_append_right _ (List.mem_append_right _ (List.mem_append_left _ h)))) good_v_X12_in)) rfl rfl rfl (by decide +kernel) ⟨Nat.le_of_ble_eq_true rfl, Nat.le_of_ble_eq_true rfl⟩) (ps_RO (wc := []) hK hP [] rfl) rfl rfl hl.1 rfl (lv_room (Nat.le_of_ble_eq_true rfl)) dX12_streak_17 ⟨Nat.le_of_ble_eq_true rfl, Nat.le_of_ble_eq_true rfl⟩) hS hA hP (fun r17 u17 H locs hw17 hP hS => ?_)
  have hw17_0 := hw17
  rcases hw17_0 with ⟨er17, fc17_0, fc17_1⟩ | er17
  rotate_left 1
  · subst er17
    refine lv_if_ne (tgt := 26) hx hb dX12_streak_20 (by decide) (fun c => absurd c (by decide)) (fun _ => ?_)
    refine lv_bipush (v := (-2)) hx hb dX12_streak_23 (by decide) ?_
    subst hQ
    have hP9 := hP.sub (ws' := [(m, .inr (11, mG m_a 0 m_taped m_at m_token m_place m_value m_word m_bad m_badPlace m_fault m_faultPlace m_willing m_will m_forgot m_isDrawn m_x m_begin m_round m_roundCards m_fate m_any m_bothSend m_meanCards m_bestSum m_fitMany m_fitFirst m_fitSecond)), ((m_a 17), .inl (cI, 25, .inl m_has_c)), ((m_a 19), .inl (cI, 240, .inl m_pair_c)), ((m_a 37), .inl (cI, 656, .inl m_states_c)), ((m_a 18), .inl (cI, 250, .inl m_person_c)), ((m_a 23), .inl (cI, 2, .inl m_ruleNow_c)), ((m_a 33), .inl (cI, 2, .inl m_oddsNow_c)), ((m_a 24), .inl (cZ, 2, .inl m_maySend_c)), ((m_a 21), .inl (cJ, 5, .inr (.inl m_strikes_c))), ((m_a 20), .inl (cJ, 160, .inr (.inl m_lost_c))), ((m_a 25), .inl (cZ, 2, .inl m_maycome_c)), ((m_a 27), .inl (cZ, 2, .inl m_gets_c)), ((m_a 26), .inl (cI, 2, .inl m_sent_c)), ((m_a 34), .inl (cZ, 2, .inl m_cameFirst_c)), ((m_a 35), .inl (cI, 1280, .inl m_sends_c)), ((m_a 36), .inl (cZ, 1280, .inl m_got_c))]) [0, 1, 2, 3, 4, 5, 6, 7, 8, 9, 10, 11, 12, 13, 14, 15] rfl
    have hD9 := hD.sub (ws' := [(m, .inr (11, mG m_a 0 m_taped m_at m_token m_place m_value m_word m_bad m_badPlace m_fault m_faultPlace m_willing m_will m_forgot m_isDrawn m_x m_begin m_round m_roundCards m_fate m_any m_bothSend m_meanCards m_bestSum m_fitMany m_fitFirst m_fitSecond)), ((m_a 17), .inl (cI, 25, .inl m_has_c)), ((m_a 19), .inl (cI, 240, .inl m_pair_c)), ((m_a 37), .inl (cI, 656, .inl m_states_c)), ((m_a 18), .inl (cI, 250, .inl m_person_c)), ((m_a 23), .inl (cI, 2, .inl m_ruleNow_c)), ((m_a 33), .inl (cI, 2, .inl m_oddsNow_c)), ((m_a 24), .inl (cZ, 2, .inl m_maySend_c)), ((m_a 21), .inl (cJ, 5, .inr (.inl m_strikes_c))), ((m_a 20), .inl (cJ, 160, .inr (.inl m_lost_c))), ((m_a 25), .inl (cZ, 2, .inl m_maycome_c)), ((m_a 27), .inl (cZ, 2, .inl m_gets_c)), ((m_a 26), .inl (cI, 2, .inl m_sent_c)), ((m_a 34), .inl (cZ, 2, .inl m_cameFirst_c)), ((m_a 35), .inl (cI, 1280, .inl m_sends_c)), ((m_a 36), .inl (cZ, 1280, .inl m_got_c))]) [0, 1, 2, 3, 4, 5, 6, 7, 8, 9, 10, 11, 12, 13, 14, 15] (by decide) rfl
    exact W.iret (v := (-2)) hx hb hr (fun t ht hW => ⟨⟨(-2), (0, m_forgot, m_x, m_states_c, m_ruleNow_c, m_oddsNow_c, m_maySend_c, m_maycome_c, m_gets_c, m_sent_c, m_cameFirst_c, m_sends_c, m_got_c), rfl, ⟨(show ir (0 : Int32).toInt 0 0 by decide), ha_m_states_c, ha_m_got_c, (show ir ((-2) : Int32).toInt (-2147483647) 2147483647 by decide)⟩, ⟨by rw [ht]; exact hP9, va_K.moved hW.alike hK, hD9⟩⟩, hS.F ht⟩) hS.2.2 dX12_streak_25
  subst er17
  have fc17_0 : 0 ≤ p1.toInt := fc17_0
  have r17_0b : ir p1.toInt 0 2147483647 := ir_leb fc17_0 (ir_c 0) (rg_all p1) (by decide)
  have fc17_1 : p1.toInt ≤ 1 := fc17_1
  have r17_1a : ir p1.toInt 0 1 := ir_lea fc17_1 r17_0b (ir_c 1) (by decide)
  refine lv_if_ne (tgt := 26) hx hb dX12_streak_20 (by decide) (fun _ => ?_) (fun c => absurd c (by decide))
  refine lv_aload_n hx hb dX12_streak_26 rfl (lv_at hl 0 rfl) ?_
  refine rw_v (wr := []) (va_runV (As := []) (rest := []) ⟨hx, hb, hml, hown, hts⟩ (q_X12_goes l g cI cJ cB cZ cL m m_a 0 m_taped m_at m_token m_place m_value m_word m_bad m_badPlace m_fault m_faultPlace m_willing m_will m_forgot m_isDrawn m_x m_begin m_round m_roundCards m_fate m_any m_bothSend m_meanCards m_bestSum m_fitMany m_fitFirst m_fitSecond m_has_c m_pair_c m_states_c m_person_c m_ruleNow_c m_oddsNow_c m_maySend_c m_strikes_c m_lost_c m_maycome_c m_gets_c m_sent_c m_cameFirst_c m_sends_c m_got_c H.size hv_m_taped hv_m_at hv_m_will hv_m_isDrawn ha_m_has_c ha_m_pair_c ha_m_states_c ha_m_person_c ha_m_got_c) (cwV 0 hts (goodIn_app (g_4 (List.mem_cons_of_mem _ (List.mem_append_left _ (List.mem_of_getElem? (i := 7) rfl))) (List.mem_cons_of_mem _ (List.mem_append_left _ (List.mem_of_getElem? (i := 8) rfl))) (List.mem_cons_of_mem _ (List.mem_append_left _ (List.mem_of_getElem? (i := 9) rfl))) (List.mem_cons_of_mem _ (List.mem_append_left _ (List.mem_of_getElem? (i := 4) rfl))) (by decide +kernel)) (goodIn_sub (fun _ h => List.mem_cons_of_mem _ (List.mem_append_right _ (List.mem_append_right _ (List.mem_append_right _ (List.mem_append_left _ h))))) good_v_X12_goes)) rfl rfl rfl (by decide +kernel) ⟨Nat.le_of_ble_eq_true rfl, Nat.le_of_ble_eq_true rfl⟩) (pv_RW (q := (RX12, TX12, 56)) (ci := 11) (q0 := 0) (wc := [(m, .inr (11, mG m_a 0 m_taped m_at m_token m_place m_value m_word m_bad m_badPlace m_fault m_faultPlace m_willing m_will m_forgot m_isDrawn m_x m_begin m_round m_roundCards m_fate m_any m_bothSend m_meanCards m_bestSum m_fitMany m_fitFirst m_fitSecond)), ((m_a 17), .inl (cI, 25, .inl m_has_c)), ((m_a 19), .inl (cI, 240, .inl m_pair_c)), ((m_a 37), .inl (cI, 656, .inl m_states_c)), ((m_a 18), .inl (cI, 250, .inl m_person_c)), ((m_a 23), .inl (cI, 2, .inl m_ruleNow_c)), ((m_a 33), .inl (cI, 2, .inl m_oddsNow_c)), ((m_a 24), .inl (cZ, 2, .inl m_maySend_c)), ((m_a 21), .inl (cJ, 5, .inr (.inl m_strikes_c))), ((m_a 20), .inl (cJ, 160, .inr (.inl m_lost_c))), ((m_a 25), .inl (cZ, 2, .inl m_maycome_c)), ((m_a 27), .inl (cZ, 2, .inl m_gets_c)), ((m_a 26), .inl (cI, 2, .inl m_sent_c)), ((m_a 34), .inl (cZ, 2, .inl m_cameFirst_c)), ((m_a 35), .inl (cI, 1280, .inl m_sends_c)), ((m_a 36), .inl (cZ, 1280, .inl m_got_c))]) hK hP hD [0, 1, 2, 3, 4, 5, 6, 7, 8, 9, 10, 11, 12, 13, 14, 15] (by decide) rfl rfl rfl) rfl rfl hl.1 rfl (lv_room (Nat.le_of_ble_eq_true rfl)) dX12_streak_27 ⟨Nat.le_of_ble_eq_true rfl, Nat.le_of_ble_eq_true rfl⟩) hS hA hP hD [0, 1, 2, 3, 4, 5, 6, 7, 8, 9, 10, 11, 12, 13, 14, 15] [] rfl rfl (by decide) (by decide) (fun u27 H locs hw27 hP hD hS => ?_)
  obtain ⟨n_m_forgot_27, n_m_x_27, n_m_states_c_27, n_m_ruleNow_c_27, n_m_oddsNow_c_27, n_m_maySend_c_27, n_m_maycome_c_27, n_m_gets_c_27, n_m_sent_c_27, n_m_cameFirst_c_27, n_m_sends_c_27, n_m_got_c_27⟩ := u27
  have hP : va_P g vwCl [(m, .inr (11, mG m_a 0 m_taped m_at m_token m_place m_value m_word m_bad m_badPlace m_fault m_faultPlace m_willing m_will n_m_forgot_27 m_isDrawn n_m_x_27 m_begin m_round m_roundCards m_fate m_any m_bothSend m_meanCards m_bestSum m_fitMany m_fitFirst m_fitSecond)), ((m_a 17), .inl (cI, 25, .inl m_has_c)), ((m_a 19), .inl (cI, 240, .inl m_pair_c)), ((m_a 37), .inl (cI, 656, .inl n_m_states_c_27)), ((m_a 18), .inl (cI, 250, .inl m_person_c)), ((m_a 23), .inl (cI, 2, .inl n_m_ruleNow_c_27)), ((m_a 33), .inl (cI, 2, .inl n_m_oddsNow_c_27)), ((m_a 24), .inl (cZ, 2, .inl n_m_maySend_c_27)), ((m_a 21), .inl (cJ, 5, .inr (.inl m_strikes_c))), ((m_a 20), .inl (cJ, 160, .inr (.inl m_lost_c))), ((m_a 25), .inl (cZ, 2, .inl n_m_maycome_c_27)), ((m_a 27), .inl (cZ, 2, .inl n_m_gets_c_27)), ((m_a 26), .inl (cI, 2, .inl n_m_sent_c_27)), ((m_a 34), .inl (cZ, 2, .inl n_m_cameFirst_c_27)), ((m_a 35), .inl (cI, 1280, .inl n_m_sends_c_27)), ((m_a 36), .inl (cZ, 1280, .inl n_m_got_c_27))] H := hP
  have hD : va_D A [(m, .inr (11, mG m_a 0 m_taped m_at m_token m_place m_value m_word m_bad m_badPlace m_fault m_faultPlace m_willing m_will n_m_forgot_27 m_isDrawn n_m_x_27 m_begin m_round m_roundCards m_fate m_any m_bothSend m_meanCards m_bestSum m_fitMany m_fitFirst m_fitSecond)), ((m_a 17), .inl (cI, 25, .inl m_has_c)), ((m_a 19), .inl (cI, 240, .inl m_pair_c)), ((m_a 37), .inl (cI, 656, .inl n_m_states_c_27)), ((m_a 18), .inl (cI, 250, .inl m_person_c)), ((m_a 23), .inl (cI, 2, .inl n_m_ruleNow_c_27)), ((m_a 33), .inl (cI, 2, .inl n_m_oddsNow_c_27)), ((m_a 24), .inl (cZ, 2, .inl n_m_maySend_c_27)), ((m_a 21), .inl (cJ, 5, .inr (.inl m_strikes_c))), ((m_a 20), .inl (cJ, 160, .inr (.inl m_lost_c))), ((m_a 25), .inl (cZ, 2, .inl n_m_maycome_c_27)), ((m_a 27), .inl (cZ, 2, .inl n_m_gets_c_27)), ((m_a 26), .inl (cI, 2, .inl n_m_sent_c_27)), ((m_a 34), .inl (cZ, 2, .inl n_m_cameFirst_c_27)), ((m_a 35), .inl (cI, 1280, .inl n_m_sends_c_27)), ((m_a 36), .inl (cZ, 1280, .inl n_m_got_c_27))] := hD
  dsimp only at hw27
  obtain ⟨hw27_0, hw27_1⟩ := hw27
  refine lv_iconst (v := 0) hx hb dX12_streak_30 (by decide) ?_
  refine lv_istore_n (lv' := [(3, .int 0), (0, .ref m), (1, .int p0), (2, .int p1)]) hx hb dX12_streak_31 rfl hl (by decide) rfl (fun ls hl => ?_)
  refine lv_iconst (v := (-1)) hx hb dX12_streak_32 (by decide) ?_
  refine lv_istore (lv' := [(4, .int (-1)), (3, .int 0), (0, .ref m), (1, .int p0), (2, .int p1)]) hx hb dX12_streak_33 hl (by decide) rfl (fun ls hl => ?_)
  refine lv_iconst (v := 0) hx hb dX12_streak_35 (by decide) ?_
  refine lv_istore (lv' := [(5, .int 0), (4, .int (-1)), (3, .int 0), (0, .ref m), (1, .int p0), (2, .int p1)]) hx hb dX12_streak_36 hl (by decide) rfl (fun ls hl => ?_)
  refine lv_iconst (v := 0) hx hb dX12_streak_38 (by decide) ?_
  refine lv_istore (lv' := [(6, .int 0), (5, .int 0), (4, .int (-1)), (3, .int 0), (0, .ref m), (1, .int p0), (2, .int p1)]) hx hb dX12_streak_39 hl (by decide) rfl (fun ls hl => ?_)
  have J41 : ∀ (n41 : Nat) (j41_l3 : Int32) (j41_l4 : Int32) (j41_l5 : Int32) (j41_l6 : Int32) (H : Heap) (locs : List Loc) (ls : Array Slot), (41 - j41_l6.toInt).toNat < n41 → (ir j41_l3.toInt 0 2147483647) → (ir j41_l4.toInt (-2147483647) 39) → (ir j41_l6.toInt 0 40) → va_P g vwCl [(m, .inr (11, mG m_a 0 m_taped m_at m_token m_place m_value m_word m_bad m_badPlace m_fault m_faultPlace m_willing m_will n_m_forgot_27 m_isDrawn n_m_x_27 m_begin m_round m_roundCards m_fate m_any m_bothSend m_meanCards m_bestSum m_fitMany m_fitFirst m_fitSecond)), ((m_a 17), .inl (cI, 25, .inl m_has_c)), ((m_a 19), .inl (cI, 240, .inl m_pair_c)), ((m_a 37), .inl (cI, 656, .inl n_m_states_c_27)), ((m_a 18), .inl (cI, 250, .inl m_person_c)), ((m_a 23), .inl (cI, 2, .inl n_m_ruleNow_c_27)), ((m_a 33), .inl (cI, 2, .inl n_m_oddsNow_c_27)), ((m_a 24), .inl (cZ, 2, .inl n_m_maySend_c_27)), ((m_a 21), .inl (cJ, 5, .inr (.inl m_strikes_c))), ((m_a 20), .inl (cJ, 160, .inr (.inl m_lost_c))), ((m_a 25), .inl (cZ, 2, .inl n_m_maycome_c_27)), ((m_a 27), .inl (cZ, 2, .inl n_m_gets_c_27)), ((m_a 26), .inl (cI, 2, .inl n_m_sent_c_27)), ((m_a 34), .inl (cZ, 2, .inl n_m_cameFirst_c_27)), ((m_a 35), .inl (cI, 1280, .inl n_m_sends_c_27)), ((m_a 36), .inl (cZ, 1280, .inl n_m_got_c_27))] H → va_D A [(m, .inr (11, mG m_a 0 m_taped m_at m_token m_place m_value m_word m_bad m_badPlace m_fault m_faultPlace m_willing m_will n_m_forgot_27 m_isDrawn n_m_x_27 m_begin m_round m_roundCards m_fate m_any m_bothSend m_meanCards m_bestSum m_fitMany m_fitFirst m_fitSecond)), ((m_a 17), .inl (cI, 25, .inl m_has_c)), ((m_a 19), .inl (cI, 240, .inl m_pair_c)), ((m_a 37), .inl (cI, 656, .inl n_m_states_c_27)), ((m_a 18), .inl (cI, 250, .inl m_person_c)), ((m_a 23), .inl (cI, 2, .inl n_m_ruleNow_c_27)), ((m_a 33), .inl (cI, 2, .inl n_m_oddsNow_c_27)), ((m_a 24), .inl (cZ, 2, .inl n_m_maySend_c_27)), ((m_a 21), .inl (cJ, 5, .inr (.inl m_strikes_c))), ((m_a 20), .inl (cJ, 160, .inr (.inl m_lost_c))), ((m_a 25), .inl (cZ, 2, .inl n_m_maycome_c_27)), ((m_a 27), .inl (cZ, 2, .inl n_m_gets_c_27)), ((m_a 26), .inl (cI, 2, .inl n_m_sent_c_27)), ((m_a 34), .inl (cZ, 2, .inl n_m_cameFirst_c_27)), ((m_a 35), .inl (cI, 1280, .inl n_m_sends_c_27)), ((m_a 36), .inl (cZ, 1280, .inl n_m_got_c_27))] → va_S A s.heap H locs → lv_has ls 7 [(0, .ref m), (1, .int p0), (2, .int p1), (3, .int j41_l3), (4, .int j41_l4), (5, .int j41_l5), (6, .int j41_l6)] → W p l e (headSpec v_X12_streak ({ frames := 4, cells := 0, slots := 0, locals := 91 })).room s mth av below meth c H locs 0 0 QQ (F0 mth 41 ls []) := by
    intro n41
    induction n41 with
    | zero => exact fun j41_l3 j41_l4 j41_l5 j41_l6 H locs ls hn => absurd hn (Nat.not_lt_zero _)
    | succ n41 ih41 =>
      intro j41_l3 j41_l4 j41_l5 j41_l6 H locs ls hn41 hj41_l3 hj41_l4 hj41_l6 hP hD hS hl
      refine lv_iload hx hb dX12_streak_41 (lv_at hl 6 rfl) ?_
      refine lv_aload_n hx hb dX12_streak_43 rfl (lv_at hl 0 rfl) ?_
      refine va_get (D := g) (ci := 11) (v := .ref (m_a 17)) (C := RX12) (T := TX12) (N := 56) hx hb hts iX12 hown hK hP 0 rfl rfl 17 (by decide) (hts (.fieldLink RX12 34 "CardsAtYuleModel" "has" "[I") (List.mem_cons_of_mem _ (List.mem_append_left _ (List.mem_of_getElem? (i := 10) rfl)))) (fun _ h9 => h9) rfl dX12_streak_44 ?_
      refine lv_iconst (v := 0) hx hb dX12_streak_47 (by decide) ?_
      refine va_iald (D := g) hx hb hK hP 1 0 rfl rfl (vc_in (by decide)) dX12_streak_48 ?_
      refine lv_topi (nm_r (e' := (m_has_c 0)) rfl ?_)
      have r48 : ir (m_has_c 0).toInt 0 40 := hasI_0 ha_m_has_c 0 (by decide)
      refine lv_icmp_ge (tgt := 111) hx hb dX12_streak_49 (by decide) (fun c49 => ?_) (fun c49 => ?_)
      · have f49 := (show (m_has_c 0).toInt ≤ j41_l6.toInt from z_le rfl rfl c49)
        refine lv_iload_n hx hb dX12_streak_111 rfl (lv_at hl 2 rfl) ?_
        refine lv_if_ne (tgt := 119) hx hb dX12_streak_112 (by decide) (fun c112 => ?_) (fun c112 => ?_)
        · have f112 := (show p1.toInt ≠ 0 from z_ne rfl rfl c112)
          have r112a : ir p1.toInt 1 1 := ir_nel f112 r17_1a (by decide) (by decide)
          refine lv_iload hx hb dX12_streak_119 (lv_at hl 4 rfl) ?_
          subst hQ
          have hP9 := hP.sub (ws' := [(m, .inr (11, mG m_a 0 m_taped m_at m_token m_place m_value m_word m_bad m_badPlace m_fault m_faultPlace m_willing m_will n_m_forgot_27 m_isDrawn n_m_x_27 m_begin m_round m_roundCards m_fate m_any m_bothSend m_meanCards m_bestSum m_fitMany m_fitFirst m_fitSecond)), ((m_a 17), .inl (cI, 25, .inl m_has_c)), ((m_a 19), .inl (cI, 240, .inl m_pair_c)), ((m_a 37), .inl (cI, 656, .inl n_m_states_c_27)), ((m_a 18), .inl (cI, 250, .inl m_person_c)), ((m_a 23), .inl (cI, 2, .inl n_m_ruleNow_c_27)), ((m_a 33), .inl (cI, 2, .inl n_m_oddsNow_c_27)), ((m_a 24), .inl (cZ, 2, .inl n_m_maySend_c_27)), ((m_a 21), .inl (cJ, 5, .inr (.inl m_strikes_c))), ((m_a 20), .inl (cJ, 160, .inr (.inl m_lost_c))), ((m_a 25), .inl (cZ, 2, .inl n_m_maycome_c_27)), ((m_a 27), .inl (cZ, 2, .inl n_m_gets_c_27)), ((m_a 26), .inl (cI, 2, .inl n_m_sent_c_27)), ((m_a 34), .inl (cZ, 2, .inl n_m_cameFirst_c_27)), ((m_a 35), .inl (cI, 1280, .inl n_m_sends_c_27)), ((m_a 36), .inl (cZ, 1280, .inl n_m_got_c_27))]) [0, 1, 2, 3, 4, 5, 6, 7, 8, 9, 10, 11, 12, 13, 14, 15] rfl
          have hD9 := hD.sub (ws' := [(m, .inr (11, mG m_a 0 m_taped m_at m_token m_place m_value m_word m_bad m_badPlace m_fault m_faultPlace m_willing m_will n_m_forgot_27 m_isDrawn n_m_x_27 m_begin m_round m_roundCards m_fate m_any m_bothSend m_meanCards m_bestSum m_fitMany m_fitFirst m_fitSecond)), ((m_a 17), .inl (cI, 25, .inl m_has_c)), ((m_a 19), .inl (cI, 240, .inl m_pair_c)), ((m_a 37), .inl (cI, 656, .inl n_m_states_c_27)), ((m_a 18), .inl (cI, 250, .inl m_person_c)), ((m_a 23), .inl (cI, 2, .inl n_m_ruleNow_c_27)), ((m_a 33), .inl (cI, 2, .inl n_m_oddsNow_c_27)), ((m_a 24), .inl (cZ, 2, .inl n_m_maySend_c_27)), ((m_a 21), .inl (cJ, 5, .inr (.inl m_strikes_c))), ((m_a 20), .inl (cJ, 160, .inr (.inl m_lost_c))), ((m_a 25), .inl (cZ, 2, .inl n_m_maycome_c_27)), ((m_a 27), .inl (cZ, 2, .inl n_m_gets_c_27)), ((m_a 26), .inl (cI, 2, .inl n_m_sent_c_27)), ((m_a 34), .inl (cZ, 2, .inl n_m_cameFirst_c_27)), ((m_a 35), .inl (cI, 1280, .inl n_m_sends_c_27)), ((m_a 36), .inl (cZ, 1280, .inl n_m_got_c_27))]) [0, 1, 2, 3, 4, 5, 6, 7, 8, 9, 10, 11, 12, 13, 14, 15] (by decide) rfl
          exact W.iret (v := j41_l4) hx hb hr (fun t ht hW => ⟨⟨j41_l4, (0, n_m_forgot_27, n_m_x_27, n_m_states_c_27, n_m_ruleNow_c_27, n_m_oddsNow_c_27, n_m_maySend_c_27, n_m_maycome_c_27, n_m_gets_c_27, n_m_sent_c_27, n_m_cameFirst_c_27, n_m_sends_c_27, n_m_got_c_27), rfl, ⟨(show ir (0 : Int32).toInt 0 0 by decide), hw27_0, hw27_1, (ir_w hj41_l4 (by decide) (by decide))⟩, ⟨by rw [ht]; exact hP9, va_K.moved hW.alike hK, hD9⟩⟩, hS.F ht⟩) hS.2.2 dX12_streak_121
        have f112 := (show p1.toInt = 0 from z_eq rfl rfl c112)
        have r112a : ir p1.toInt 0 0 := ir_eqa f112 r17_1a (ir_c 0) (by decide) (by decide)
        refine lv_iload_n hx hb dX12_streak_115 rfl (lv_at hl 3 rfl) ?_
        refine lv_goto (tgt := 121) hx hb dX12_streak_116 (by decide) ?_
        subst hQ
        have hP9 := hP.sub (ws' := [(m, .inr (11, mG m_a 0 m_taped m_at m_token m_place m_value m_word m_bad m_badPlace m_fault m_faultPlace m_willing m_will n_m_forgot_27 m_isDrawn n_m_x_27 m_begin m_round m_roundCards m_fate m_any m_bothSend m_meanCards m_bestSum m_fitMany m_fitFirst m_fitSecond)), ((m_a 17), .inl (cI, 25, .inl m_has_c)), ((m_a 19), .inl (cI, 240, .inl m_pair_c)), ((m_a 37), .inl (cI, 656, .inl n_m_states_c_27)), ((m_a 18), .inl (cI, 250, .inl m_person_c)), ((m_a 23), .inl (cI, 2, .inl n_m_ruleNow_c_27)), ((m_a 33), .inl (cI, 2, .inl n_m_oddsNow_c_27)), ((m_a 24), .inl (cZ, 2, .inl n_m_maySend_c_27)), ((m_a 21), .inl (cJ, 5, .inr (.inl m_strikes_c))), ((m_a 20), .inl (cJ, 160, .inr (.inl m_lost_c))), ((m_a 25), .inl (cZ, 2, .inl n_m_maycome_c_27)), ((m_a 27), .inl (cZ, 2, .inl n_m_gets_c_27)), ((m_a 26), .inl (cI, 2, .inl n_m_sent_c_27)), ((m_a 34), .inl (cZ, 2, .inl n_m_cameFirst_c_27)), ((m_a 35), .inl (cI, 1280, .inl n_m_sends_c_27)), ((m_a 36), .inl (cZ, 1280, .inl n_m_got_c_27))]) [0, 1, 2, 3, 4, 5, 6, 7, 8, 9, 10, 11, 12, 13, 14, 15] rfl
        have hD9 := hD.sub (ws' := [(m, .inr (11, mG m_a 0 m_taped m_at m_token m_place m_value m_word m_bad m_badPlace m_fault m_faultPlace m_willing m_will n_m_forgot_27 m_isDrawn n_m_x_27 m_begin m_round m_roundCards m_fate m_any m_bothSend m_meanCards m_bestSum m_fitMany m_fitFirst m_fitSecond)), ((m_a 17), .inl (cI, 25, .inl m_has_c)), ((m_a 19), .inl (cI, 240, .inl m_pair_c)), ((m_a 37), .inl (cI, 656, .inl n_m_states_c_27)), ((m_a 18), .inl (cI, 250, .inl m_person_c)), ((m_a 23), .inl (cI, 2, .inl n_m_ruleNow_c_27)), ((m_a 33), .inl (cI, 2, .inl n_m_oddsNow_c_27)), ((m_a 24), .inl (cZ, 2, .inl n_m_maySend_c_27)), ((m_a 21), .inl (cJ, 5, .inr (.inl m_strikes_c))), ((m_a 20), .inl (cJ, 160, .inr (.inl m_lost_c))), ((m_a 25), .inl (cZ, 2, .inl n_m_maycome_c_27)), ((m_a 27), .inl (cZ, 2, .inl n_m_gets_c_27)), ((m_a 26), .inl (cI, 2, .inl n_m_sent_c_27)), ((m_a 34), .inl (cZ, 2, .inl n_m_cameFirst_c_27)), ((m_a 35), .inl (cI, 1280, .inl n_m_sends_c_27)), ((m_a 36), .inl (cZ, 1280, .inl n_m_got_c_27))]) [0, 1, 2, 3, 4, 5, 6, 7, 8, 9, 10, 11, 12, 13, 14, 15] (by decide) rfl
        exact W.iret (v := j41_l3) hx hb hr (fun t ht hW => ⟨⟨j41_l3, (0, n_m_forgot_27, n_m_x_27, n_m_states_c_27, n_m_ruleNow_c_27, n_m_oddsNow_c_27, n_m_maySend_c_27, n_m_maycome_c_27, n_m_gets_c_27, n_m_sent_c_27, n_m_cameFirst_c_27, n_m_sends_c_27, n_m_got_c_27), rfl, ⟨(show ir (0 : Int32).toInt 0 0 by decide), hw27_0, hw27_1, (ir_w hj41_l3 (by decide) (by decide))⟩, ⟨by rw [ht]; exact hP9, va_K.moved hW.alike hK, hD9⟩⟩, hS.F ht⟩) hS.2.2 dX12_streak_121
      have f49 := (show j41_l6.toInt < (m_has_c 0).toInt from z_nle rfl rfl c49)
      have r49a : ir j41_l6.toInt 0 39 := ir_lta f49 hj41_l6 r48 (by decide)
      have r49b : ir (m_has_c 0).toInt 1 40 := ir_ltb f49 hj41_l6 r48 (by decide)
      refine lv_aload_n hx hb dX12_streak_52 rfl (lv_at hl 0 rfl) ?_
      refine lv_iload_n hx hb dX12_streak_53 rfl (lv_at hl 1 rfl) ?_
      refine lv_iconst (v := 0) hx hb dX12_streak_54 (by decide) ?_
      refine lv_iload hx hb dX12_streak_55 (lv_at hl 6 rfl) ?_
      refine ro_i (va_runV (As := [.int p0, .int 0, .int j41_l6]) (rest := []) ⟨hx, hb, hml, hown, hts⟩ (q_X12_gotOf l g cI cJ cB cZ cL p0 0 j41_l6 m m_a 0 m_taped m_at m_token m_place m_value m_word m_bad m_badPlace m_fault m_faultPlace m_willing m_will n_m_forgot_27 m_isDrawn n_m_x_27 m_begin m_round m_roundCards m_fate m_any m_bothSend m_meanCards m_bestSum m_fitMany m_fitFirst m_fitSecond n_m_got_c_27 H.size r7_1a (by decide) r49a hv_m_taped hv_m_at hv_m_will hv_m_isDrawn hw27_1) (cwV 3 hts (goodIn_app (g_4 (List.mem_cons_of_mem _ (List.mem_append_left _ (List.mem_of_getElem? (i := 11) rfl))) (List.mem_cons_of_mem _ (List.mem_append_left _ (List.mem_of_getElem? (i := 12) rfl))) (List.mem_cons_of_mem _ (List.mem_append_left _ (List.mem_of_getElem? (i := 13) rfl))) (List.mem_cons_of_mem _ (List.mem_append_left _ (List.mem_of_getElem? (i := 4) rfl))) (by decide +kernel)) (goodIn_sub (fun _ h => List.mem_cons_of_mem _ (List.mem_append_right _ (List.mem_append_right _ (List.mem_append_right _ (List.mem_append_right _ (List.mem_append_left _ h)))))) good_v_X12_gotOf)) rfl rfl rfl (by decide +kernel) ⟨Nat.le_of_ble_eq_true rfl, Nat.le_of_ble_eq_true rfl⟩) (pv_RO (q := (RX12, TX12, 56)) (ci := 11) (q0 := 0) (wc := [(m, .inr (11, mG m_a 0 m_taped m_at m_token m_place m_value m_word m_bad m_badPlace m_fault m_faultPlace m_willing m_will n_m_forgot_27 m_isDrawn n_m_x_27 m_begin m_round m_roundCards m_fate m_any m_bothSend m_meanCards m_bestSum m_fitMany m_fitFirst m_fitSecond)), ((m_a 36), .inl (cZ, 1280, .inl n_m_got_c_27))]) hK hP [0, 15] rfl rfl rfl) rfl rfl hl.1 rfl (lv_room (Nat.le_of_ble_eq_true rfl)) dX12_streak_57 ⟨Nat.le_of_ble_eq_true rfl, Nat.le_of_ble_eq_true rfl⟩) hS hA hP (fun r57 u57 H locs hw57 hP hS => ?_)
      have hw57_0 := hw57
      have J82 : ∀ (j82_s0 : Int32) (H : Heap) (locs : List Loc) (ls : Array Slot), va_P g vwCl [(m, .inr (11, mG m_a 0 m_taped m_at m_token m_place m_value m_word m_bad m_badPlace m_fault m_faultPlace m_willing m_will n_m_forgot_27 m_isDrawn n_m_x_27 m_begin m_round m_roundCards m_fate m_any m_bothSend m_meanCards m_bestSum m_fitMany m_fitFirst m_fitSecond)), ((m_a 17), .inl (cI, 25, .inl m_has_c)), ((m_a 19), .inl (cI, 240, .inl m_pair_c)), ((m_a 37), .inl (cI, 656, .inl n_m_states_c_27)), ((m_a 18), .inl (cI, 250, .inl m_person_c)), ((m_a 23), .inl (cI, 2, .inl n_m_ruleNow_c_27)), ((m_a 33), .inl (cI, 2, .inl n_m_oddsNow_c_27)), ((m_a 24), .inl (cZ, 2, .inl n_m_maySend_c_27)), ((m_a 21), .inl (cJ, 5, .inr (.inl m_strikes_c))), ((m_a 20), .inl (cJ, 160, .inr (.inl m_lost_c))), ((m_a 25), .inl (cZ, 2, .inl n_m_maycome_c_27)), ((m_a 27), .inl (cZ, 2, .inl n_m_gets_c_27)), ((m_a 26), .inl (cI, 2, .inl n_m_sent_c_27)), ((m_a 34), .inl (cZ, 2, .inl n_m_cameFirst_c_27)), ((m_a 35), .inl (cI, 1280, .inl n_m_sends_c_27)), ((m_a 36), .inl (cZ, 1280, .inl n_m_got_c_27))] H → va_D A [(m, .inr (11, mG m_a 0 m_taped m_at m_token m_place m_value m_word m_bad m_badPlace m_fault m_faultPlace m_willing m_will n_m_forgot_27 m_isDrawn n_m_x_27 m_begin m_round m_roundCards m_fate m_any m_bothSend m_meanCards m_bestSum m_fitMany m_fitFirst m_fitSecond)), ((m_a 17), .inl (cI, 25, .inl m_has_c)), ((m_a 19), .inl (cI, 240, .inl m_pair_c)), ((m_a 37), .inl (cI, 656, .inl n_m_states_c_27)), ((m_a 18), .inl (cI, 250, .inl m_person_c)), ((m_a 23), .inl (cI, 2, .inl n_m_ruleNow_c_27)), ((m_a 33), .inl (cI, 2, .inl n_m_oddsNow_c_27)), ((m_a 24), .inl (cZ, 2, .inl n_m_maySend_c_27)), ((m_a 21), .inl (cJ, 5, .inr (.inl m_strikes_c))), ((m_a 20), .inl (cJ, 160, .inr (.inl m_lost_c))), ((m_a 25), .inl (cZ, 2, .inl n_m_maycome_c_27)), ((m_a 27), .inl (cZ, 2, .inl n_m_gets_c_27)), ((m_a 26), .inl (cI, 2, .inl n_m_sent_c_27)), ((m_a 34), .inl (cZ, 2, .inl n_m_cameFirst_c_27)), ((m_a 35), .inl (cI, 1280, .inl n_m_sends_c_27)), ((m_a 36), .inl (cZ, 1280, .inl n_m_got_c_27))] → va_S A s.heap H locs → lv_has ls 7 [(0, .ref m), (1, .int p0), (2, .int p1), (3, .int j41_l3), (4, .int j41_l4), (6, .int j41_l6)] → W p l e (headSpec v_X12_streak ({ frames := 4, cells := 0, slots := 0, locals := 91 })).room s mth av below meth c H locs 0 0 QQ (F0 mth 82 ls [.int j82_s0]) := by
        intro j82_s0 H locs ls  hP hD hS hl
        refine lv_istore (lv' := [(5, .int j82_s0), (0, .ref m), (1, .int p0), (2, .int p1), (3, .int j41_l3), (4, .int j41_l4), (6, .int j41_l6)]) hx hb dX12_streak_82 hl (by decide) rfl (fun ls hl => ?_)
        refine lv_iload hx hb dX12_streak_84 (lv_at hl 0 rfl) ?_
        refine lv_iload_n hx hb dX12_streak_86 rfl (lv_at hl 4 rfl) ?_
        have J105 : ∀ (j105_l3 : Int32) (j105_l4 : Int32) (H : Heap) (locs : List Loc) (ls : Array Slot), (ir j105_l3.toInt 0 2147483647) → (ir j105_l4.toInt (-2147483647) 39) → va_P g vwCl [(m, .inr (11, mG m_a 0 m_taped m_at m_token m_place m_value m_word m_bad m_badPlace m_fault m_faultPlace m_willing m_will n_m_forgot_27 m_isDrawn n_m_x_27 m_begin m_round m_roundCards m_fate m_any m_bothSend m_meanCards m_bestSum m_fitMany m_fitFirst m_fitSecond)), ((m_a 17), .inl (cI, 25, .inl m_has_c)), ((m_a 19), .inl (cI, 240, .inl m_pair_c)), ((m_a 37), .inl (cI, 656, .inl n_m_states_c_27)), ((m_a 18), .inl (cI, 250, .inl m_person_c)), ((m_a 23), .inl (cI, 2, .inl n_m_ruleNow_c_27)), ((m_a 33), .inl (cI, 2, .inl n_m_oddsNow_c_27)), ((m_a 24), .inl (cZ, 2, .inl n_m_maySend_c_27)), ((m_a 21), .inl (cJ, 5, .inr (.inl m_strikes_c))), ((m_a 20), .inl (cJ, 160, .inr (.inl m_lost_c))), ((m_a 25), .inl (cZ, 2, .inl n_m_maycome_c_27)), ((m_a 27), .inl (cZ, 2, .inl n_m_gets_c_27)), ((m_a 26), .inl (cI, 2, .inl n_m_sent_c_27)), ((m_a 34), .inl (cZ, 2, .inl n_m_cameFirst_c_27)), ((m_a 35), .inl (cI, 1280, .inl n_m_sends_c_27)), ((m_a 36), .inl (cZ, 1280, .inl n_m_got_c_27))] H → va_D A [(m, .inr (11, mG m_a 0 m_taped m_at m_token m_place m_value m_word m_bad m_badPlace m_fault m_faultPlace m_willing m_will n_m_forgot_27 m_isDrawn n_m_x_27 m_begin m_round m_roundCards m_fate m_any m_bothSend m_meanCards m_bestSum m_fitMany m_fitFirst m_fitSecond)), ((m_a 17), .inl (cI, 25, .inl m_has_c)), ((m_a 19), .inl (cI, 240, .inl m_pair_c)), ((m_a 37), .inl (cI, 656, .inl n_m_states_c_27)), ((m_a 18), .inl (cI, 250, .inl m_person_c)), ((m_a 23), .inl (cI, 2, .inl n_m_ruleNow_c_27)), ((m_a 33), .inl (cI, 2, .inl n_m_oddsNow_c_27)), ((m_a 24), .inl (cZ, 2, .inl n_m_maySend_c_27)), ((m_a 21), .inl (cJ, 5, .inr (.inl m_strikes_c))), ((m_a 20), .inl (cJ, 160, .inr (.inl m_lost_c))), ((m_a 25), .inl (cZ, 2, .inl n_m_maycome_c_27)), ((m_a 27), .inl (cZ, 2, .inl n_m_gets_c_27)), ((m_a 26), .inl (cI, 2, .inl n_m_sent_c_27)), ((m_a 34), .inl (cZ, 2, .inl n_m_cameFirst_c_27)), ((m_a 35), .inl (cI, 1280, .inl n_m_sends_c_27)), ((m_a 36), .inl (cZ, 1280, .inl n_m_got_c_27))] → va_S A s.heap H locs → lv_has ls 7 [(0, .ref m), (1, .int p0), (2, .int p1), (3, .int j105_l3), (4, .int j105_l4), (5, .int j82_s0), (6, .int j41_l6)] → W p l e (headSpec v_X12_streak ({ frames := 4, cells := 0, slots := 0, locals := 91 })).room s mth av below meth c H locs 0 0 QQ (F0 mth 105 ls []) := by
          intro j105_l3 j105_l4 H locs ls hj105_l3 hj105_l4 hP hD hS hl
          obtain ⟨y105, e105⟩ : ∃ y : Int32, y = j41_l6 + 1 := ⟨_, rfl⟩
          have q105 : y105.toInt = j41_l6.toInt + 1 := by rw [e105]; exact ad_z rfl rfl r49a (ir_c 1) (by decide) (by decide)
          have r105 : ir y105.toInt 1 40 := ad_r q105 r49a (ir_c 1) (by decide) (by decide)
          refine lv_iinc (v := y105) (lv' := [(6, .int y105), (0, .ref m), (1, .int p0), (2, .int p1), (3, .int j105_l3), (4, .int j105_l4), (5, .int j82_s0)]) hx hb dX12_streak_105 hl (k := 6) rfl e105.symm (by decide) rfl (fun ls hl => ?_)
          refine lv_goto (tgt := 41) hx hb dX12_streak_108 (by decide) ?_
          exact ih41 j105_l3 j105_l4 j82_s0 y105 _ _ _ (by omega) hj105_l3 hj105_l4 (ir_w r105 (by decide) (by decide)) (hP.sub [0, 1, 2, 3, 4, 5, 6, 7, 8, 9, 10, 11, 12, 13, 14, 15] rfl) (hD.sub [0, 1, 2, 3, 4, 5, 6, 7, 8, 9, 10, 11, 12, 13, 14, 15] (by decide) rfl) hS (lv_sub hl [1, 2, 3, 4, 5, 6, 0] rfl)
        refine lv_icmp_gt (tgt := 93) hx hb dX12_streak_87 (by decide) (fun c87 => ?_) (fun c87 => ?_)
        rotate_left 1
        · have f87 := (show j82_s0.toInt ≤ j41_l3.toInt from z_nlt rfl rfl c87)
          refine lv_goto (tgt := 105) hx hb dX12_streak_90 (by decide) ?_
          exact J105 j41_l3 j41_l4 _ _ _ hj41_l3 hj41_l4 (hP.sub [0, 1, 2, 3, 4, 5, 6, 7, 8, 9, 10, 11, 12, 13, 14, 15] rfl) (hD.sub [0, 1, 2, 3, 4, 5, 6, 7, 8, 9, 10, 11, 12, 13, 14, 15] (by decide) rfl) hS (lv_sub hl [1, 2, 3, 4, 5, 0, 6] rfl)
        have f87 := (show j41_l3.toInt < j82_s0.toInt from z_lt rfl rfl c87)
        have r87a : ir j82_s0.toInt 1 2147483647 := ir_ltb f87 hj41_l3 (rg_all j82_s0) (by decide)
        have r87b : ir j41_l3.toInt 0 2147483646 := ir_lta f87 hj41_l3 (rg_all j82_s0) (by decide)
        refine lv_iload hx hb dX12_streak_93 (lv_at hl 0 rfl) ?_
        refine lv_istore_n (lv' := [(3, .int j82_s0), (5, .int j82_s0), (0, .ref m), (1, .int p0), (2, .int p1), (4, .int j41_l4), (6, .int j41_l6)]) hx hb dX12_streak_95 rfl hl (by decide) rfl (fun ls hl => ?_)
        refine lv_iload hx hb dX12_streak_96 (lv_at hl 6 rfl) ?_
        refine lv_iload hx hb dX12_streak_98 (lv_at hl 1 rfl) ?_
        refine lv_isub hx hb dX12_streak_100 ?_
        refine lv_topi (fun y100 e100 => ?_)
        have q100 : y100.toInt = j41_l6.toInt - j82_s0.toInt := by rw [e100]; exact su_z rfl rfl r49a r87a (by decide) (by decide)
        have r100 : ir y100.toInt (-2147483647) 38 := su_r q100 r49a r87a (by decide) (by decide)
        refine lv_iconst (v := 1) hx hb dX12_streak_101 (by decide) ?_
        refine lv_iadd hx hb dX12_streak_102 ?_
        refine lv_topi (fun y102 e102 => ?_)
        have q102 : y102.toInt = y100.toInt + 1 := by rw [e102]; exact ad_z rfl rfl r100 (ir_c 1) (by decide) (by decide)
        have r102 : ir y102.toInt (-2147483646) 39 := ad_r q102 r100 (ir_c 1) (by decide) (by decide)
        refine lv_istore (lv' := [(4, .int y102), (3, .int j82_s0), (5, .int j82_s0), (0, .ref m), (1, .int p0), (2, .int p1), (6, .int j41_l6)]) hx hb dX12_streak_103 hl (by decide) rfl (fun ls hl => ?_)
        exact J105 j82_s0 y102 _ _ _ (ir_w r87a (by decide) (by decide)) (ir_w r102 (by decide) (by decide)) (hP.sub [0, 1, 2, 3, 4, 5, 6, 7, 8, 9, 10, 11, 12, 13, 14, 15] rfl) (hD.sub [0, 1, 2, 3, 4, 5, 6, 7, 8, 9, 10, 11, 12, 13, 14, 15] (by decide) rfl) hS (lv_sub hl [3, 4, 5, 1, 0, 2, 6] rfl)
      have J81 : ∀  (H : Heap) (locs : List Loc) (ls : Array Slot), va_P g vwCl [(m, .inr (11, mG m_a 0 m_taped m_at m_token m_place m_value m_word m_bad m_badPlace m_fault m_faultPlace m_willing m_will n_m_forgot_27 m_isDrawn n_m_x_27 m_begin m_round m_roundCards m_fate m_any m_bothSend m_meanCards m_bestSum m_fitMany m_fitFirst m_fitSecond)), ((m_a 17), .inl (cI, 25, .inl m_has_c)), ((m_a 19), .inl (cI, 240, .inl m_pair_c)), ((m_a 37), .inl (cI, 656, .inl n_m_states_c_27)), ((m_a 18), .inl (cI, 250, .inl m_person_c)), ((m_a 23), .inl (cI, 2, .inl n_m_ruleNow_c_27)), ((m_a 33), .inl (cI, 2, .inl n_m_oddsNow_c_27)), ((m_a 24), .inl (cZ, 2, .inl n_m_maySend_c_27)), ((m_a 21), .inl (cJ, 5, .inr (.inl m_strikes_c))), ((m_a 20), .inl (cJ, 160, .inr (.inl m_lost_c))), ((m_a 25), .inl (cZ, 2, .inl n_m_maycome_c_27)), ((m_a 27), .inl (cZ, 2, .inl n_m_gets_c_27)), ((m_a 26), .inl (cI, 2, .inl n_m_sent_c_27)), ((m_a 34), .inl (cZ, 2, .inl n_m_cameFirst_c_27)), ((m_a 35), .inl (cI, 1280, .inl n_m_sends_c_27)), ((m_a 36), .inl (cZ, 1280, .inl n_m_got_c_27))] H → va_D A [(m, .inr (11, mG m_a 0 m_taped m_at m_token m_place m_value m_word m_bad m_badPlace m_fault m_faultPlace m_willing m_will n_m_forgot_27 m_isDrawn n_m_x_27 m_begin m_round m_roundCards m_fate m_any m_bothSend m_meanCards m_bestSum m_fitMany m_fitFirst m_fitSecond)), ((m_a 17), .inl (cI, 25, .inl m_has_c)), ((m_a 19), .inl (cI, 240, .inl m_pair_c)), ((m_a 37), .inl (cI, 656, .inl n_m_states_c_27)), ((m_a 18), .inl (cI, 250, .inl m_person_c)), ((m_a 23), .inl (cI, 2, .inl n_m_ruleNow_c_27)), ((m_a 33), .inl (cI, 2, .inl n_m_oddsNow_c_27)), ((m_a 24), .inl (cZ, 2, .inl n_m_maySend_c_27)), ((m_a 21), .inl (cJ, 5, .inr (.inl m_strikes_c))), ((m_a 20), .inl (cJ, 160, .inr (.inl m_lost_c))), ((m_a 25), .inl (cZ, 2, .inl n_m_maycome_c_27)), ((m_a 27), .inl (cZ, 2, .inl n_m_gets_c_27)), ((m_a 26), .inl (cI, 2, .inl n_m_sent_c_27)), ((m_a 34), .inl (cZ, 2, .inl n_m_cameFirst_c_27)), ((m_a 35), .inl (cI, 1280, .inl n_m_sends_c_27)), ((m_a 36), .inl (cZ, 1280, .inl n_m_got_c_27))] → va_S A s.heap H locs → lv_has ls 7 [(0, .ref m), (1, .int p0), (2, .int p1), (3, .int j41_l3), (4, .int j41_l4), (6, .int j41_l6)] → W p l e (headSpec v_X12_streak ({ frames := 4, cells := 0, slots := 0, locals := 91 })).room s mth av below meth c H locs 0 0 QQ (F0 mth 81 ls []) := by
        intro  H locs ls  hP hD hS hl
        refine lv_iconst (v := 0) hx hb dX12_streak_81 (by decide) ?_
        exact J82 0 _ _ _  (hP.sub [0, 1, 2, 3, 4, 5, 6, 7, 8, 9, 10, 11, 12, 13, 14, 15] rfl) (hD.sub [0, 1, 2, 3, 4, 5, 6, 7, 8, 9, 10, 11, 12, 13, 14, 15] (by decide) rfl) hS (lv_sub hl [0, 1, 2, 3, 4, 5] rfl)
      refine lv_if_eq (tgt := 81) hx hb dX12_streak_60 (by decide) (fun c60 => ?_) (fun c60 => ?_)
      · have f60 := (show r57.toInt = 0 from z_eq rfl rfl c60)
        have r60a : ir r57.toInt 0 0 := ir_eqa f60 hw57_0 (ir_c 0) (by decide) (by decide)
        exact J81  _ _ _  (hP.sub [0, 1, 2, 3, 4, 5, 6, 7, 8, 9, 10, 11, 12, 13, 14, 15] rfl) (hD.sub [0, 1, 2, 3, 4, 5, 6, 7, 8, 9, 10, 11, 12, 13, 14, 15] (by decide) rfl) hS (lv_sub hl [0, 1, 2, 3, 4, 6] rfl)
      have f60 := (show r57.toInt ≠ 0 from z_ne rfl rfl c60)
      have r60a : ir r57.toInt 1 1 := ir_nel f60 hw57_0 (by decide) (by decide)
      refine lv_aload_n hx hb dX12_streak_63 rfl (lv_at hl 0 rfl) ?_
      refine lv_iload_n hx hb dX12_streak_64 rfl (lv_at hl 1 rfl) ?_
      refine lv_iconst (v := 1) hx hb dX12_streak_65 (by decide) ?_
      refine lv_iload hx hb dX12_streak_66 (lv_at hl 6 rfl) ?_
      refine ro_i (va_runV (As := [.int p0, .int 1, .int j41_l6]) (rest := []) ⟨hx, hb, hml, hown, hts⟩ (q_X12_gotOf l g cI cJ cB cZ cL p0 1 j41_l6 m m_a 0 m_taped m_at m_token m_place m_value m_word m_bad m_badPlace m_fault m_faultPlace m_willing m_will n_m_forgot_27 m_isDrawn n_m_x_27 m_begin m_round m_roundCards m_fate m_any m_bothSend m_meanCards m_bestSum m_fitMany m_fitFirst m_fitSecond n_m_got_c_27 H.size r7_1a (by decide) r49a hv_m_taped hv_m_at hv_m_will hv_m_isDrawn hw27_1) (cwV 3 hts (goodIn_app (g_4 (List.mem_cons_of_mem _ (List.mem_append_left _ (List.mem_of_getElem? (i := 11) rfl))) (List.mem_cons_of_mem _ (List.mem_append_left _ (List.mem_of_getElem? (i := 12) rfl))) (List.mem_cons_of_mem _ (List.mem_append_left _ (List.mem_of_getElem? (i := 13) rfl))) (List.mem_cons_of_mem _ (List.mem_append_left _ (List.mem_of_getElem? (i := 4) rfl))) (by decide +kernel)) (goodIn_sub (fun _ h => List.mem_cons_of_mem _ (List.mem_append_right _ (List.mem_append_right _ (List.mem_append_right _ (List.mem_append_right _ (List.mem_append_left _ h)))))) good_v_X12_gotOf)) rfl rfl rfl (by decide +kernel) ⟨Nat.le_of_ble_eq_true rfl, Nat.le_of_ble_eq_true rfl⟩) (pv_RO (q := (RX12, TX12, 56)) (ci := 11) (q0 := 0) (wc := [(m, .inr (11, mG m_a 0 m_taped m_at m_token m_place m_value m_word m_bad m_badPlace m_fault m_faultPlace m_willing m_will n_m_forgot_27 m_isDrawn n_m_x_27 m_begin m_round m_roundCards m_fate m_any m_bothSend m_meanCards m_bestSum m_fitMany m_fitFirst m_fitSecond)), ((m_a 36), .inl (cZ, 1280, .inl n_m_got_c_27))]) hK hP [0, 15] rfl rfl rfl) rfl rfl hl.1 rfl (lv_room (Nat.le_of_ble_eq_true rfl)) dX12_streak_68 ⟨Nat.le_of_ble_eq_true rfl, Nat.le_of_ble_eq_true rfl⟩) hS hA hP (fun r68 u68 H locs hw68 hP hS => ?_)
      have hw68_0 := hw68
      refine lv_if_eq (tgt := 81) hx hb dX12_streak_71 (by decide) (fun c71 => ?_) (fun c71 => ?_)
      · have f71 := (show r68.toInt = 0 from z_eq rfl rfl c71)
        have r71a : ir r68.toInt 0 0 := ir_eqa f71 hw68_0 (ir_c 0) (by decide) (by decide)
        exact J81  _ _ _  (hP.sub [0, 1, 2, 3, 4, 5, 6, 7, 8, 9, 10, 11, 12, 13, 14, 15] rfl) (hD.sub [0, 1, 2, 3, 4, 5, 6, 7, 8, 9, 10, 11, 12, 13, 14, 15] (by decide) rfl) hS (lv_sub hl [0, 1, 2, 3, 4, 6] rfl)
      have f71 := (show r68.toInt ≠ 0 from z_ne rfl rfl c71)
      have r71a : ir r68.toInt 1 1 := ir_nel f71 hw68_0 (by decide) (by decide)
      refine lv_iload hx hb dX12_streak_74 (lv_at hl 5 rfl) ?_
      refine lv_iconst (v := 1) hx hb dX12_streak_76 (by decide) ?_
      refine lv_iadd hx hb dX12_streak_77 ?_
      refine lv_topi (fun y77 e77 => ?_)
      refine lv_goto (tgt := 82) hx hb dX12_streak_78 (by decide) ?_
      exact J82 y77 _ _ _  (hP.sub [0, 1, 2, 3, 4, 5, 6, 7, 8, 9, 10, 11, 12, 13, 14, 15] rfl) (hD.sub [0, 1, 2, 3, 4, 5, 6, 7, 8, 9, 10, 11, 12, 13, 14, 15] (by decide) rfl) hS (lv_sub hl [0, 1, 2, 3, 4, 6] rfl)
  exact J41 _ 0 (-1) 0 0 _ _ _ (Nat.lt_succ_self _) (by decide) (by decide) (by decide) (hP.sub [0, 1, 2, 3, 4, 5, 6, 7, 8, 9, 10, 11, 12, 13, 14, 15] rfl) (hD.sub [0, 1, 2, 3, 4, 5, 6, 7, 8, 9, 10, 11, 12, 13, 14, 15] (by decide) rfl) hS (lv_sub hl [4, 5, 6, 3, 2, 1, 0] rfl)
def v_X12_bitsOf : List Cond := .code yX12_bitsOf cX12_bitsOf 5 (some .int) :: (([] : List Cond) ++ ([] : List Cond))
theorem good_v_X12_bitsOf : v_X12_bitsOf.all goodWord = true := ga_c (by decide +kernel) (ga_a (by decide +kernel) rfl)
set_option maxHeartbeats 4000000 in
set_option maxRecDepth 100000 in
theorem q_X12_bitsOf (l : Launch) (g : va_G) (cI cJ cB cZ cL : ClassId) (p0 : Int64) (sz : Nat)  : Met l yX12_bitsOf v_X12_bitsOf ({ frames := 0, cells := 0, slots := 0, locals := 0 }) (va_Pc [.long p0] (pRO g (tyT cI cJ cB cZ cL) [] sz)) (va_Qi (fun (r : Int32) (u : Unit) => True) (fun (_ : Unit) (_ : State) => True) (va_A [] sz)) 0 0 (va_A [] sz) := by
  refine Met.ofW (cc := cX12_bitsOf) (maxL := 5) (ret := (some .int)) (by decide) rfl ?_
  intro p e s mth args below meth c s₁ B hml hv
  obtain ⟨rfl, hsz, hP, hK⟩ := hv
  have hx := B.exec
  have hb := B.bytes
  have hr := B.returns
  have hts := atoms_spec (ws := v_X12_bitsOf) B.pre
  have hown : s.vm.findClass RX12 = some mth.cls := findClass_of_methodNamed B.named
  have hlocks := B.notSynchronized
  clear B
  subst hsz
  generalize hAe : (va_A [] s.heap.size) = A
  have hA : ∀ q : Nat, s.heap.size ≤ q → A q := fun q h => by rw [← hAe]; exact Or.inr h
  have hS : va_S A s.heap s.heap [] := va_S.rf
  have hl := lv_entry ([.long p0]) (n := 5) (Nat.le_of_ble_eq_true rfl)
  rw [lg_entry_eq]
  generalize (lg_sl ([.long p0]) ++ List.replicate (5 - (lg_sl ([.long p0])).length) Slot.unset).toArray = ls at hl ⊢
  generalize ([.long p0] : List Value).toArray = av at hts ⊢
  generalize hQ : MQ below _ av s _ _ A = QQ
  have hl : lv_has ls 5 [(0, .long p0)] := hl
  have hP : va_P g vwCl [] s.heap := hP
  refine lv_iconst (v := 0) hx hb dX12_bitsOf_0 (by decide) ?_
  refine lv_istore_n (lv' := [(2, .int 0), (0, .long p0)]) hx hb dX12_bitsOf_1 rfl hl (by decide) rfl (fun ls hl => ?_)
  refine lv_lload_n hx hb dX12_bitsOf_2 rfl (lv_at hl 1 rfl) ?_
  refine lv_lstore_n (lv' := [(3, .long p0), (2, .int 0), (0, .long p0)]) hx hb dX12_bitsOf_3 rfl hl (by decide) rfl (fun ls hl => ?_)
  have J4 : ∀ (n4 : Nat) (j4_l2 : Int32) (j4_l3 : Int64) (H : Heap) (locs : List Loc) (ls : Array Slot), j4_l3.toUInt64.toNat < n4 → va_P g vwCl [] H → va_S A s.heap H locs → lv_has ls 5 [(2, .int j4_l2), (3, .long j4_l3)] → W p l e (headSpec v_X12_bitsOf ({ frames := 0, cells := 0, slots := 0, locals := 0 })).room s mth av below meth c H locs 0 0 QQ (F0 mth 4 ls []) := by
    intro n4
    induction n4 with
    | zero => exact fun j4_l2 j4_l3 H locs ls hn => absurd hn (Nat.not_lt_zero _)
    | succ n4 ih4 =>
      intro j4_l2 j4_l3 H locs ls hn4  hP hS hl
      refine lv_lload_n hx hb dX12_bitsOf_4 rfl (lv_at hl 1 rfl) ?_
      refine lv_lconst (v := 0) hx hb dX12_bitsOf_5 (by decide) ?_
      refine W.lcmp hx hb dX12_bitsOf_6 ?_
      refine lv_if_eq (tgt := 22) hx hb dX12_bitsOf_7 (by decide) (fun c7 => ?_) (fun c7 => ?_)
      · have f7 := (show j4_l3.toInt = 0 from y_eq rfl rfl c7)
        have r7a : ir j4_l3.toInt 0 0 := ir_eqa f7 (rl_all j4_l3) (ir_c 0) (by decide) (by decide)
        refine lv_iload_n hx hb dX12_bitsOf_22 rfl (lv_at hl 0 rfl) ?_
        subst hQ
        exact W.iret (v := j4_l2) hx hb hr (fun t ht hW => ⟨⟨j4_l2, (), rfl, trivial, trivial⟩, hS.F ht⟩) hS.2.2 dX12_bitsOf_23
      have f7 := (show j4_l3.toInt ≠ 0 from y_ne rfl rfl c7)
      obtain ⟨y10, e10⟩ : ∃ y : Int32, y = j4_l2 + 1 := ⟨_, rfl⟩
      refine lv_iinc (v := y10) (lv' := [(2, .int y10), (3, .long j4_l3)]) hx hb dX12_bitsOf_10 hl (k := 0) rfl e10.symm (by decide) rfl (fun ls hl => ?_)
      refine lv_lload_n hx hb dX12_bitsOf_13 rfl (lv_at hl 1 rfl) ?_
      refine lv_lload_n hx hb dX12_bitsOf_14 rfl (lv_at hl 1 rfl) ?_
      refine lv_lconst (v := 1) hx hb dX12_bitsOf_15 (by decide) ?_
      refine lv_lsub hx hb dX12_bitsOf_16 ?_
      refine lv_topl (fun y16 e16 => ?_)
      refine lv_land hx hb dX12_bitsOf_17 ?_
      refine lv_topl (fun y17 e17 => ?_)
      refine lv_lstore_n (lv' := [(3, .long y17), (2, .int y10)]) hx hb dX12_bitsOf_18 rfl hl (by decide) rfl (fun ls hl => ?_)
      refine lv_goto (tgt := 4) hx hb dX12_bitsOf_19 (by decide) ?_
      exact ih4 y10 y17 _ _ _ (by have h9 := sl_dec e17 e16 (nz_l f7); omega)  (hP.sub [] rfl) hS (lv_sub hl [1, 0] rfl)
  exact J4 _ 0 p0 _ _ _ (Nat.lt_succ_self _)  (hP.sub [] rfl) hS (lv_sub hl [1, 0] rfl)
def v_X12_withBit : List Cond := .code yX12_withBit cX12_withBit 4 (some .long) :: (([.constantLong RX12 151 (-1)] : List Cond) ++ ([] : List Cond))
theorem good_v_X12_withBit : v_X12_withBit.all goodWord = true := ga_c (by decide +kernel) (ga_a (by decide +kernel) rfl)
set_option maxHeartbeats 4000000 in
set_option maxRecDepth 100000 in
theorem q_X12_withBit (l : Launch) (g : va_G) (cI cJ cB cZ cL : ClassId) (p0 : Int64) (p1 : Int32) (p2 : Int32) (sz : Nat)  : Met l yX12_withBit v_X12_withBit ({ frames := 0, cells := 0, slots := 0, locals := 0 }) (va_Pc [.long p0, .int p1, .int p2] (pRO g (tyT cI cJ cB cZ cL) [] sz)) (va_Ql (fun (r : Int64) (u : Unit) => True) (fun (_ : Unit) (_ : State) => True) (va_A [] sz)) 0 0 (va_A [] sz) := by
  refine Met.ofW (cc := cX12_withBit) (maxL := 4) (ret := (some .long)) (by decide) rfl ?_
  intro p e s mth args below meth c s₁ B hml hv
  obtain ⟨rfl, hsz, hP, hK⟩ := hv
  have hx := B.exec
  have hb := B.bytes
  have hr := B.returns
  have hts := atoms_spec (ws := v_X12_withBit) B.pre
  have hown : s.vm.findClass RX12 = some mth.cls := findClass_of_methodNamed B.named
  have hlocks := B.notSynchronized
  clear B
  subst hsz
  generalize hAe : (va_A [] s.heap.size) = A
  have hA : ∀ q : Nat, s.heap.size ≤ q → A q := fun q h => by rw [← hAe]; exact Or.inr h
  have hS : va_S A s.heap s.heap [] := va_S.rf
  have hl := lv_entry ([.long p0, .int p1, .int p2]) (n := 4) (Nat.le_of_ble_eq_true rfl)
  rw [lg_entry_eq]
  generalize (lg_sl ([.long p0, .int p1, .int p2]) ++ List.replicate (4 - (lg_sl ([.long p0, .int p1, .int p2])).length) Slot.unset).toArray = ls at hl ⊢
  generalize ([.long p0, .int p1, .int p2] : List Value).toArray = av at hts ⊢
  generalize hQ : MQ below _ av s _ _ A = QQ
  have hl : lv_has ls 4 [(0, .long p0), (2, .int p1), (3, .int p2)] := hl
  have hP : va_P g vwCl [] s.heap := hP
  refine lv_iload_n hx hb dX12_withBit_0 rfl (lv_at hl 2 rfl) ?_
  refine lv_iconst (v := 1) hx hb dX12_withBit_1 (by decide) ?_
  refine lv_icmp_ne (tgt := 13) hx hb dX12_withBit_2 (by decide) (fun c2 => ?_) (fun c2 => ?_)
  rotate_left 1
  · have f2 := (show p2.toInt = 1 from z_eq rfl rfl c2)
    have r2a : ir p2.toInt 1 1 := ir_eqa f2 (rg_all p2) (ir_c 1) (by decide) (by decide)
    refine lv_lload_n hx hb dX12_withBit_5 rfl (lv_at hl 0 rfl) ?_
    refine lv_lconst (v := 1) hx hb dX12_withBit_6 (by decide) ?_
    refine lv_iload_n hx hb dX12_withBit_7 rfl (lv_at hl 1 rfl) ?_
    refine lv_lshl (v := (1 <<< (p1.toInt64 &&& 63))) hx hb dX12_withBit_8 rfl ?_
    refine lv_topl (fun y8 e8 => ?_)
    refine lv_lor hx hb dX12_withBit_9 ?_
    refine lv_topl (fun y9 e9 => ?_)
    refine lv_goto (tgt := 22) hx hb dX12_withBit_10 (by decide) ?_
    subst hQ
    exact W.lret (v := y9) hx hb hr (fun t ht hW => ⟨⟨y9, (), rfl, trivial, trivial⟩, hS.F ht⟩) hS.2.2 dX12_withBit_22
  have f2 := (show p2.toInt ≠ 1 from z_ne rfl rfl c2)
  refine lv_lload_n hx hb dX12_withBit_13 rfl (lv_at hl 0 rfl) ?_
  refine lv_lconst (v := 1) hx hb dX12_withBit_14 (by decide) ?_
  refine lv_iload_n hx hb dX12_withBit_15 rfl (lv_at hl 1 rfl) ?_
  refine lv_lshl (v := (1 <<< (p1.toInt64 &&& 63))) hx hb dX12_withBit_16 rfl ?_
  refine lv_topl (fun y16 e16 => ?_)
  refine lv_ldc2 (v := (-1)) hx hb hown (hts (.constantLong RX12 151 (-1)) (List.mem_cons_of_mem _ (List.mem_append_left _ (List.mem_of_getElem? (i := 0) rfl)))) dX12_withBit_17 ?_
  refine lv_lxor hx hb dX12_withBit_20 ?_
  refine lv_topl (fun y20 e20 => ?_)
  refine lv_land hx hb dX12_withBit_21 ?_
  refine lv_topl (fun y21 e21 => ?_)
  subst hQ
  exact W.lret (v := y21) hx hb hr (fun t ht hW => ⟨⟨y21, (), rfl, trivial, trivial⟩, hS.F ht⟩) hS.2.2 dX12_withBit_22
def v_X12_train : List Cond := .code yX12_train cX12_train 5 (some .int) :: (([.fieldLink RX12 107 "CardsAtYuleModel" "thrown" "I", .methodLink RX12 276 yX12_isPerson, .instanceMethod yX12_isPerson, .selects RX12 yX12_isPerson yX12_isPerson, .initialized RX12, .constantLong RX12 284 (2), .methodLink RX12 112 yX12_in, .static yX12_in, .constantLong RX12 538 (50), .methodLink RX12 273 yX12_has0, .instanceMethod yX12_has0, .selects RX12 yX12_has0 yX12_has0, .fieldLink RX12 37 "CardsAtYuleModel" "person" "[I", .constantLong RX12 286 (15)] : List Cond) ++ (v_X12_isPerson ++ (v_X12_in ++ (v_X12_has0 ++ (wsX120 ++ ([] : List Cond))))))
theorem good_v_X12_train : v_X12_train.all goodWord = true := ga_c (by decide +kernel) (ga_a (by decide +kernel) (ga_a good_v_X12_isPerson (ga_a good_v_X12_in (ga_a good_v_X12_has0 (ga_a good_wsX120 rfl)))))
set_option maxHeartbeats 4000000 in
set_option maxRecDepth 100000 in
theorem q_X12_train (l : Launch) (g : va_G) (cI cJ cB cZ cL : ClassId) (p0 : Int32) (p1 : Int32) (p2 : Int32) (m : Nat) (m_a : Nat → Nat) (m_thrown : Int32) (m_taped : Int32) (m_at : Int32) (m_token : Int32) (m_place : Int32) (m_value : Int32) (m_word : Int64) (m_bad : Int32) (m_badPlace : Int32) (m_fault : Int32) (m_faultPlace : Int32) (m_willing : Int32) (m_will : Int32) (m_forgot : Int32) (m_isDrawn : Int32) (m_x : Int64) (m_begin : Int32) (m_round : Int32) (m_roundCards : Int32) (m_fate : Int32) (m_any : Int64) (m_bothSend : Int64) (m_meanCards : Int64) (m_bestSum : Int32) (m_fitMany : Int32) (m_fitFirst : Int64) (m_fitSecond : Int64) (m_has_c : Nat → Int32) (m_person_c : Nat → Int32) (sz : Nat) (hv_m_taped : ir m_taped.toInt 0 1600) (hv_m_at : ir m_at.toInt 0 1600) (hv_m_will : ir m_will.toInt 0 1) (hv_m_isDrawn : ir m_isDrawn.toInt 0 1) (ha_m_has_c : hasI m_has_c) (ha_m_person_c : perI m_person_c) : Met l yX12_train v_X12_train ({ frames := 2, cells := 0, slots := 0, locals := 46 }) (va_Pc [.ref m, .int p0, .int p1, .int p2] (pRW g (tyT cI cJ cB cZ cL) [(m, .inr (11, mG m_a m_thrown m_taped m_at m_token m_place m_value m_word m_bad m_badPlace m_fault m_faultPlace m_willing m_will m_forgot m_isDrawn m_x m_begin m_round m_roundCards m_fate m_any m_bothSend m_meanCards m_bestSum m_fitMany m_fitFirst m_fitSecond)), ((m_a 17), .inl (cI, 25, .inl m_has_c)), ((m_a 18), .inl (cI, 250, .inl m_person_c))] sz)) (va_Qi (fun (r : Int32) (u : Int32 × (Nat → Int32)) => match u with | (n_m_thrown, n_m_person_c) => (ir n_m_thrown.toInt 0 0) ∧ (perI n_m_person_c)) (fun (u : Int32 × (Nat → Int32)) (t : State) => bRW g (tyT cI cJ cB cZ cL) (va_A [(m, .inr (11, mG m_a m_thrown m_taped m_at m_token m_place m_value m_word m_bad m_badPlace m_fault m_faultPlace m_willing m_will m_forgot m_isDrawn m_x m_begin m_round m_roundCards m_fate m_any m_bothSend m_meanCards m_bestSum m_fitMany m_fitFirst m_fitSecond)), ((m_a 17), .inl (cI, 25, .inl m_has_c)), ((m_a 18), .inl (cI, 250, .inl m_person_c))] sz) (match u with | (n_m_thrown, n_m_person_c) => [(m, .inr (11, mG m_a n_m_thrown m_taped m_at m_token m_place m_value m_word m_bad m_badPlace m_fault m_faultPlace m_willing m_will m_forgot m_isDrawn m_x m_begin m_round m_roundCards m_fate m_any m_bothSend m_meanCards m_bestSum m_fitMany m_fitFirst m_fitSecond)), ((m_a 17), .inl (cI, 25, .inl m_has_c)), ((m_a 18), .inl (cI, 250, .inl n_m_person_c))]) t) (va_A [(m, .inr (11, mG m_a m_thrown m_taped m_at m_token m_place m_value m_word m_bad m_badPlace m_fault m_faultPlace m_willing m_will m_forgot m_isDrawn m_x m_begin m_round m_roundCards m_fate m_any m_bothSend m_meanCards m_bestSum m_fitMany m_fitFirst m_fitSecond)), ((m_a 17), .inl (cI, 25, .inl m_has_c)), ((m_a 18), .inl (cI, 250, .inl m_person_c))] sz)) 0 0 (va_A [(m, .inr (11, mG m_a m_thrown m_taped m_at m_token m_place m_value m_word m_bad m_badPlace m_fault m_faultPlace m_willing m_will m_forgot m_isDrawn m_x m_begin m_round m_roundCards m_fate m_any m_bothSend m_meanCards m_bestSum m_fitMany m_fitFirst m_fitSecond)), ((m_a 17), .inl (cI, 25, .inl m_has_c)), ((m_a 18), .inl (cI, 250, .inl m_person_c))] sz) := by
  refine Met.ofW (cc := cX12_train) (maxL := 5) (ret := (some .int)) (by decide) rfl ?_
  intro p e s mth args below meth c s₁ B hml hv
  obtain ⟨rfl, hsz, hP, hK, hD0⟩ := hv
  have hx := B.exec
  have hb := B.bytes
  have hr := B.returns
  have hts := atoms_spec (ws := v_X12_train) B.pre
  have hown : s.vm.findClass RX12 = some mth.cls := findClass_of_methodNamed B.named
  have hlocks := B.notSynchronized
  clear B
  subst hsz
  have iX12 : ∀ w ∈ wsX120, w ∈ v_X12_train := (fun _ h => List.mem_cons_of_mem _ (List.mem_append_right _ (List.mem_append_right _ (List.mem_append_right _ (List.mem_append_right _ (List.mem_append_left _ h))))))
  have hD := hD0.self (sz := s.heap.size)
  generalize hAe : (va_A [(m, .inr (11, mG m_a m_thrown m_taped m_at m_token m_place m_value m_word m_bad m_badPlace m_fault m_faultPlace m_willing m_will m_forgot m_isDrawn m_x m_begin m_round m_roundCards m_fate m_any m_bothSend m_meanCards m_bestSum m_fitMany m_fitFirst m_fitSecond)), ((m_a 17), .inl (cI, 25, .inl m_has_c)), ((m_a 18), .inl (cI, 250, .inl m_person_c))] s.heap.size) = A at hD ⊢
  have hA : ∀ q : Nat, s.heap.size ≤ q → A q := fun q h => by rw [← hAe]; exact Or.inr h
  have hS : va_S A s.heap s.heap [] := va_S.rf
  have hl := lv_entry ([.ref m, .int p0, .int p1, .int p2]) (n := 5) (Nat.le_of_ble_eq_true rfl)
  rw [lg_entry_eq]
  generalize (lg_sl ([.ref m, .int p0, .int p1, .int p2]) ++ List.replicate (5 - (lg_sl ([.ref m, .int p0, .int p1, .int p2])).length) Slot.unset).toArray = ls at hl ⊢
  generalize ([.ref m, .int p0, .int p1, .int p2] : List Value).toArray = av at hts ⊢
  generalize hQ : MQ below _ av s _ _ A = QQ
  have hl : lv_has ls 5 [(0, .ref m), (1, .int p0), (2, .int p1), (3, .int p2)] := hl
  have hP : va_P g vwCl [(m, .inr (11, mG m_a m_thrown m_taped m_at m_token m_place m_value m_word m_bad m_badPlace m_fault m_faultPlace m_willing m_will m_forgot m_isDrawn m_x m_begin m_round m_roundCards m_fate m_any m_bothSend m_meanCards m_bestSum m_fitMany m_fitFirst m_fitSecond)), ((m_a 17), .inl (cI, 25, .inl m_has_c)), ((m_a 18), .inl (cI, 250, .inl m_person_c))] s.heap := hP
  refine lv_aload_n hx hb dX12_train_0 rfl (lv_at hl 0 rfl) ?_
  refine lv_iconst (v := 0) hx hb dX12_train_1 (by decide) ?_
  refine va_put (D := g) (ci := 11) (v := .int 0) (ty := .int) (C := RX12) (T := TX12) (N := 56) hx hb hts iX12 tyX12 tyX12_ok nmX12 hown hK hP hD hS 0 rfl rfl 0 (by decide) (hts (.fieldLink RX12 107 "CardsAtYuleModel" "thrown" "I") (List.mem_cons_of_mem _ (List.mem_append_left _ (List.mem_of_getElem? (i := 0) rfl)))) (fun _ h9 => h9) rfl (by decide +kernel) rfl rfl (Nat.le_of_ble_eq_true rfl) dX12_train_2 (fun H locs hP hD hS => ?_)
  have hP : va_P g vwCl [(m, .inr (11, mG m_a 0 m_taped m_at m_token m_place m_value m_word m_bad m_badPlace m_fault m_faultPlace m_willing m_will m_forgot m_isDrawn m_x m_begin m_round m_roundCards m_fate m_any m_bothSend m_meanCards m_bestSum m_fitMany m_fitFirst m_fitSecond)), ((m_a 17), .inl (cI, 25, .inl m_has_c)), ((m_a 18), .inl (cI, 250, .inl m_person_c))] H := hP
  have hD : va_D A [(m, .inr (11, mG m_a 0 m_taped m_at m_token m_place m_value m_word m_bad m_badPlace m_fault m_faultPlace m_willing m_will m_forgot m_isDrawn m_x m_begin m_round m_roundCards m_fate m_any m_bothSend m_meanCards m_bestSum m_fitMany m_fitFirst m_fitSecond)), ((m_a 17), .inl (cI, 25, .inl m_has_c)), ((m_a 18), .inl (cI, 250, .inl m_person_c))] := hD
  refine lv_aload_n hx hb dX12_train_5 rfl (lv_at hl 0 rfl) ?_
  refine lv_iload_n hx hb dX12_train_6 rfl (lv_at hl 1 rfl) ?_
  refine ro_i (va_runV (As := [.int p0]) (rest := []) ⟨hx, hb, hml, hown, hts⟩ (q_X12_isPerson l g cI cJ cB cZ cL p0 m m_a 0 m_taped m_at m_token m_place m_value m_word m_bad m_badPlace m_fault m_faultPlace m_willing m_will m_forgot m_isDrawn m_x m_begin m_round m_roundCards m_fate m_any m_bothSend m_meanCards m_bestSum m_fitMany m_fitFirst m_fitSecond m_has_c H.size hv_m_taped hv_m_at hv_m_will hv_m_isDrawn ha_m_has_c) (cwV 1 hts (goodIn_app (g_4 (List.mem_cons_of_mem _ (List.mem_append_left _ (List.mem_of_getElem? (i := 1) rfl))) (List.mem_cons_of_mem _ (List.mem_append_left _ (List.mem_of_getElem? (i := 2) rfl))) (List.mem_cons_of_mem _ (List.mem_append_left _ (List.mem_of_getElem? (i := 3) rfl))) (List.mem_cons_of_mem _ (List.mem_append_left _ (List.mem_of_getElem? (i := 4) rfl))) (by decide +kernel)) (goodIn_sub (fun _ h => List.mem_cons_of_mem _ (List.mem_append_right _ (List.mem_append_left _ h))) good_v_X12_isPerson)) rfl rfl rfl (by decide +kernel) ⟨Nat.le_of_ble_eq_true rfl, Nat.le_of_ble_eq_true rfl⟩) (pv_RO (q := (RX12, TX12, 56)) (ci := 11) (q0 := 0) (wc := [(m, .inr (11, mG m_a 0 m_taped m_at m_token m_place m_value m_word m_bad m_badPlace m_fault m_faultPlace m_willing m_will m_forgot m_isDrawn m_x m_begin m_round m_roundCards m_fate m_any m_bothSend m_meanCards m_bestSum m_fitMany m_fitFirst m_fitSecond)), ((m_a 17), .inl (cI, 25, .inl m_has_c))]) hK hP [0, 1] rfl rfl rfl) rfl rfl hl.1 rfl (lv_room (Nat.le_of_ble_eq_true rfl)) dX12_train_7 ⟨Nat.le_of_ble_eq_true rfl, Nat.le_of_ble_eq_true rfl⟩) hS hA hP (fun r7 u7 H locs hw7 hP hS => ?_)
  have hw7_0 := hw7
  rcases hw7_0 with ⟨er7, fc7_0, fc7_1⟩ | er7
  rotate_left 1
  · subst er7
    refine lv_if_eq (tgt := 56) hx hb dX12_train_10 (by decide) (fun _ => ?_) (fun c => absurd c (by decide))
    refine lv_bipush (v := (-2)) hx hb dX12_train_56 (by decide) ?_
    subst hQ
    have hP9 := hP.sub (ws' := [(m, .inr (11, mG m_a 0 m_taped m_at m_token m_place m_value m_word m_bad m_badPlace m_fault m_faultPlace m_willing m_will m_forgot m_isDrawn m_x m_begin m_round m_roundCards m_fate m_any m_bothSend m_meanCards m_bestSum m_fitMany m_fitFirst m_fitSecond)), ((m_a 17), .inl (cI, 25, .inl m_has_c)), ((m_a 18), .inl (cI, 250, .inl m_person_c))]) [0, 1, 2] rfl
    have hD9 := hD.sub (ws' := [(m, .inr (11, mG m_a 0 m_taped m_at m_token m_place m_value m_word m_bad m_badPlace m_fault m_faultPlace m_willing m_will m_forgot m_isDrawn m_x m_begin m_round m_roundCards m_fate m_any m_bothSend m_meanCards m_bestSum m_fitMany m_fitFirst m_fitSecond)), ((m_a 17), .inl (cI, 25, .inl m_has_c)), ((m_a 18), .inl (cI, 250, .inl m_person_c))]) [0, 1, 2] (by decide) rfl
    exact W.iret (v := (-2)) hx hb hr (fun t ht hW => ⟨⟨(-2), (0, m_person_c), rfl, ⟨(show ir (0 : Int32).toInt 0 0 by decide), ha_m_person_c⟩, ⟨by rw [ht]; exact hP9, va_K.moved hW.alike hK, hD9⟩⟩, hS.F ht⟩) hS.2.2 dX12_train_58
  subst er7
  have fc7_0 : 0 ≤ p0.toInt := fc7_0
  have r7_0b : ir p0.toInt 0 2147483647 := ir_leb fc7_0 (ir_c 0) (rg_all p0) (by decide)
  have fc7_1 : p0.toInt ≤ 9 := fc7_1
  have r7_1a : ir p0.toInt 0 9 := ir_lea fc7_1 r7_0b (ir_c 9) (by decide)
  refine lv_if_eq (tgt := 56) hx hb dX12_train_10 (by decide) (fun c => absurd c (by decide)) (fun _ => ?_)
  refine lv_iload_n hx hb dX12_train_13 rfl (lv_at hl 2 rfl) ?_
  refine lv_i2l (v := p1.toInt64) hx hb dX12_train_14 rfl ?_
  refine lv_lconst (v := 0) hx hb dX12_train_15 (by decide) ?_
  refine lv_ldc2 (v := 2) hx hb hown (hts (.constantLong RX12 284 (2)) (List.mem_cons_of_mem _ (List.mem_append_left _ (List.mem_of_getElem? (i := 5) rfl)))) dX12_train_16 ?_
  refine ro_i (va_runS (As := [.long p1.toInt64, .long 0, .long 2]) (rest := []) ⟨hx, hb, hml, hown, hts⟩ (q_X12_in l g cI cJ cB cZ cL p1.toInt64 p1.toInt 0 0 2 2 H.size (z_i2l rfl) rfl rfl) (va_cwS 3 hts (goodIn_app (g_3 (List.mem_cons_of_mem _ (List.mem_append_left _ (List.mem_of_getElem? (i := 6) rfl))) (List.mem_cons_of_mem _ (List.mem_append_left _ (List.mem_of_getElem? (i := 7) rfl))) (List.mem_cons_of_mem _ (List.mem_append_left _ (List.mem_of_getElem? (i := 4) rfl))) (by decide +kernel)) (goodIn_sub (fun _ h => List.mem_cons_of_mem _ (List.mem_append_right _ (List.mem_append_right _ (List.mem_append_left _ h)))) good_v_X12_in)) rfl rfl rfl (by decide +kernel) ⟨Nat.le_of_ble_eq_true rfl, Nat.le_of_ble_eq_true rfl⟩) (ps_RO (wc := []) hK hP [] rfl) rfl rfl hl.1 rfl (lv_room (Nat.le_of_ble_eq_true rfl)) dX12_train_19 ⟨Nat.le_of_ble_eq_true rfl, Nat.le_of_ble_eq_true rfl⟩) hS hA hP (fun r19 u19 H locs hw19 hP hS => ?_)
  have hw19_0 := hw19
  rcases hw19_0 with ⟨er19, fc19_0, fc19_1⟩ | er19
  rotate_left 1
  · subst er19
    refine lv_if_eq (tgt := 56) hx hb dX12_train_22 (by decide) (fun _ => ?_) (fun c => absurd c (by decide))
    refine lv_bipush (v := (-2)) hx hb dX12_train_56 (by decide) ?_
    subst hQ
    have hP9 := hP.sub (ws' := [(m, .inr (11, mG m_a 0 m_taped m_at m_token m_place m_value m_word m_bad m_badPlace m_fault m_faultPlace m_willing m_will m_forgot m_isDrawn m_x m_begin m_round m_roundCards m_fate m_any m_bothSend m_meanCards m_bestSum m_fitMany m_fitFirst m_fitSecond)), ((m_a 17), .inl (cI, 25, .inl m_has_c)), ((m_a 18), .inl (cI, 250, .inl m_person_c))]) [0, 1, 2] rfl
    have hD9 := hD.sub (ws' := [(m, .inr (11, mG m_a 0 m_taped m_at m_token m_place m_value m_word m_bad m_badPlace m_fault m_faultPlace m_willing m_will m_forgot m_isDrawn m_x m_begin m_round m_roundCards m_fate m_any m_bothSend m_meanCards m_bestSum m_fitMany m_fitFirst m_fitSecond)), ((m_a 17), .inl (cI, 25, .inl m_has_c)), ((m_a 18), .inl (cI, 250, .inl m_person_c))]) [0, 1, 2] (by decide) rfl
    exact W.iret (v := (-2)) hx hb hr (fun t ht hW => ⟨⟨(-2), (0, m_person_c), rfl, ⟨(show ir (0 : Int32).toInt 0 0 by decide), ha_m_person_c⟩, ⟨by rw [ht]; exact hP9, va_K.moved hW.alike hK, hD9⟩⟩, hS.F ht⟩) hS.2.2 dX12_train_58
  subst er19
  have fc19_0 : 0 ≤ p1.toInt := fc19_0
  have r19_0b : ir p1.toInt 0 2147483647 := ir_leb fc19_0 (ir_c 0) (rg_all p1) (by decide)
  have fc19_1 : p1.toInt ≤ 2 := fc19_1
  have r19_1a : ir p1.toInt 0 2 := ir_lea fc19_1 r19_0b (ir_c 2) (by decide)
  refine lv_if_eq (tgt := 56) hx hb dX12_train_22 (by decide) (fun c => absurd c (by decide)) (fun _ => ?_)
  refine lv_iload_n hx hb dX12_train_25 rfl (lv_at hl 3 rfl) ?_
  refine lv_i2l (v := p2.toInt64) hx hb dX12_train_26 rfl ?_
  refine lv_lconst (v := 0) hx hb dX12_train_27 (by decide) ?_
  refine lv_iload_n hx hb dX12_train_28 rfl (lv_at hl 2 rfl) ?_
  refine lv_if_ne (tgt := 38) hx hb dX12_train_29 (by decide) (fun c29 => ?_) (fun c29 => ?_)
  rotate_left 1
  · have f29 := (show p1.toInt = 0 from z_eq rfl rfl c29)
    have r29a : ir p1.toInt 0 0 := ir_eqa f29 r19_1a (ir_c 0) (by decide) (by decide)
    refine lv_ldc2 (v := 15) hx hb hown (hts (.constantLong RX12 286 (15)) (List.mem_cons_of_mem _ (List.mem_append_left _ (List.mem_of_getElem? (i := 13) rfl)))) dX12_train_32 ?_
    refine lv_goto (tgt := 50) hx hb dX12_train_35 (by decide) ?_
    refine ro_i (va_runS (As := [.long p2.toInt64, .long 0, .long 15]) (rest := []) ⟨hx, hb, hml, hown, hts⟩ (q_X12_in l g cI cJ cB cZ cL p2.toInt64 p2.toInt 0 0 15 15 H.size (z_i2l rfl) rfl rfl) (va_cwS 3 hts (goodIn_app (g_3 (List.mem_cons_of_mem _ (List.mem_append_left _ (List.mem_of_getElem? (i := 6) rfl))) (List.mem_cons_of_mem _ (List.mem_append_left _ (List.mem_of_getElem? (i := 7) rfl))) (List.mem_cons_of_mem _ (List.mem_append_left _ (List.mem_of_getElem? (i := 4) rfl))) (by decide +kernel)) (goodIn_sub (fun _ h => List.mem_cons_of_mem _ (List.mem_append_right _ (List.mem_append_right _ (List.mem_append_left _ h)))) good_v_X12_in)) rfl rfl rfl (by decide +kernel) ⟨Nat.le_of_ble_eq_true rfl, Nat.le_of_ble_eq_true rfl⟩) (ps_RO (wc := []) hK hP [] rfl) rfl rfl hl.1 rfl (lv_room (Nat.le_of_ble_eq_true rfl)) dX12_train_50 ⟨Nat.le_of_ble_eq_true rfl, Nat.le_of_ble_eq_true rfl⟩) hS hA hP (fun r50 u50 H locs hw50 hP hS => ?_)
    have hw50_0 := hw50
    rcases hw50_0 with ⟨er50, fc50_0, fc50_1⟩ | er50
    rotate_left 1
    · subst er50
      refine lv_if_ne (tgt := 59) hx hb dX12_train_53 (by decide) (fun c => absurd c (by decide)) (fun _ => ?_)
      refine lv_bipush (v := (-2)) hx hb dX12_train_56 (by decide) ?_
      subst hQ
      have hP9 := hP.sub (ws' := [(m, .inr (11, mG m_a 0 m_taped m_at m_token m_place m_value m_word m_bad m_badPlace m_fault m_faultPlace m_willing m_will m_forgot m_isDrawn m_x m_begin m_round m_roundCards m_fate m_any m_bothSend m_meanCards m_bestSum m_fitMany m_fitFirst m_fitSecond)), ((m_a 17), .inl (cI, 25, .inl m_has_c)), ((m_a 18), .inl (cI, 250, .inl m_person_c))]) [0, 1, 2] rfl
      have hD9 := hD.sub (ws' := [(m, .inr (11, mG m_a 0 m_taped m_at m_token m_place m_value m_word m_bad m_badPlace m_fault m_faultPlace m_willing m_will m_forgot m_isDrawn m_x m_begin m_round m_roundCards m_fate m_any m_bothSend m_meanCards m_bestSum m_fitMany m_fitFirst m_fitSecond)), ((m_a 17), .inl (cI, 25, .inl m_has_c)), ((m_a 18), .inl (cI, 250, .inl m_person_c))]) [0, 1, 2] (by decide) rfl
      exact W.iret (v := (-2)) hx hb hr (fun t ht hW => ⟨⟨(-2), (0, m_person_c), rfl, ⟨(show ir (0 : Int32).toInt 0 0 by decide), ha_m_person_c⟩, ⟨by rw [ht]; exact hP9, va_K.moved hW.alike hK, hD9⟩⟩, hS.F ht⟩) hS.2.2 dX12_train_58
    subst er50
    have fc50_0 : 0 ≤ p2.toInt := fc50_0
    have r50_0b : ir p2.toInt 0 2147483647 := ir_leb fc50_0 (ir_c 0) (rg_all p2) (by decide)
    have fc50_1 : p2.toInt ≤ 15 := fc50_1
    have r50_1a : ir p2.toInt 0 15 := ir_lea fc50_1 r50_0b (ir_c 15) (by decide)
    refine lv_if_ne (tgt := 59) hx hb dX12_train_53 (by decide) (fun _ => ?_) (fun c => absurd c (by decide))
    refine lv_aload_n hx hb dX12_train_59 rfl (lv_at hl 0 rfl) ?_
    refine lv_iload_n hx hb dX12_train_60 rfl (lv_at hl 1 rfl) ?_
    refine lv_iload_n hx hb dX12_train_61 rfl (lv_at hl 2 rfl) ?_
    refine ro_i (va_runV (As := [.int p0, .int p1]) (rest := []) ⟨hx, hb, hml, hown, hts⟩ (q_X12_has0 l g cI cJ cB cZ cL p0 p1 m m_a 0 m_taped m_at m_token m_place m_value m_word m_bad m_badPlace m_fault m_faultPlace m_willing m_will m_forgot m_isDrawn m_x m_begin m_round m_roundCards m_fate m_any m_bothSend m_meanCards m_bestSum m_fitMany m_fitFirst m_fitSecond m_person_c H.size (ir_w r7_1a (by decide) (by decide)) (ir_w r29a (by decide) (by decide)) hv_m_taped hv_m_at hv_m_will hv_m_isDrawn ha_m_person_c) (cwV 2 hts (goodIn_app (g_4 (List.mem_cons_of_mem _ (List.mem_append_left _ (List.mem_of_getElem? (i := 9) rfl))) (List.mem_cons_of_mem _ (List.mem_append_left _ (List.mem_of_getElem? (i := 10) rfl))) (List.mem_cons_of_mem _ (List.mem_append_left _ (List.mem_of_getElem? (i := 11) rfl))) (List.mem_cons_of_mem _ (List.mem_append_left _ (List.mem_of_getElem? (i := 4) rfl))) (by decide +kernel)) (goodIn_sub (fun _ h => List.mem_cons_of_mem _ (List.mem_append_right _ (List.mem_append_right _ (List.mem_append_right _ (List.mem_append_left _ h))))) good_v_X12_has0)) rfl rfl rfl (by decide +kernel) ⟨Nat.le_of_ble_eq_true rfl, Nat.le_of_ble_eq_true rfl⟩) (pv_RO (q := (RX12, TX12, 56)) (ci := 11) (q0 := 0) (wc := [(m, .inr (11, mG m_a 0 m_taped m_at m_token m_place m_value m_word m_bad m_badPlace m_fault m_faultPlace m_willing m_will m_forgot m_isDrawn m_x m_begin m_round m_roundCards m_fate m_any m_bothSend m_meanCards m_bestSum m_fitMany m_fitFirst m_fitSecond)), ((m_a 18), .inl (cI, 250, .inl m_person_c))]) hK hP [0, 2] rfl rfl rfl) rfl rfl hl.1 rfl (lv_room (Nat.le_of_ble_eq_true rfl)) dX12_train_62 ⟨Nat.le_of_ble_eq_true rfl, Nat.le_of_ble_eq_true rfl⟩) hS hA hP (fun r62 u62 H locs hw62 hP hS => ?_)
    refine lv_istore (lv' := [(4, .int r62), (0, .ref m), (1, .int p0), (2, .int p1), (3, .int p2)]) hx hb dX12_train_65 hl (by decide) rfl (fun ls hl => ?_)
    refine lv_aload_n hx hb dX12_train_67 rfl (lv_at hl 1 rfl) ?_
    refine va_get (D := g) (ci := 11) (v := .ref (m_a 18)) (C := RX12) (T := TX12) (N := 56) hx hb hts iX12 hown hK hP 0 rfl rfl 18 (by decide) (hts (.fieldLink RX12 37 "CardsAtYuleModel" "person" "[I") (List.mem_cons_of_mem _ (List.mem_append_left _ (List.mem_of_getElem? (i := 12) rfl)))) (fun _ h9 => h9) rfl dX12_train_68 ?_
    refine lv_iconst (v := 5) hx hb dX12_train_71 (by decide) ?_
    refine lv_iload_n hx hb dX12_train_72 rfl (lv_at hl 2 rfl) ?_
    refine lv_imul hx hb dX12_train_73 ?_
    refine lv_topi (fun y73 e73 => ?_)
    have q73 : y73.toInt = 5 * p0.toInt := by rw [e73]; exact mu_z rfl rfl (ir_c 5) r7_1a (by decide) (by decide) (by decide)
    have r73 : ir y73.toInt 0 45 := mu_r q73 (ir_c 5) r7_1a (by decide) (by decide) (by decide) (by decide)
    refine lv_iload_n hx hb dX12_train_74 rfl (lv_at hl 3 rfl) ?_
    refine lv_iadd hx hb dX12_train_75 ?_
    refine lv_topi (fun y75 e75 => ?_)
    have q75 : y75.toInt = y73.toInt + p1.toInt := by rw [e75]; exact ad_z rfl rfl r73 r29a (by decide) (by decide)
    have r75 : ir y75.toInt 0 45 := ad_r q75 r73 r29a (by decide) (by decide)
    refine lv_iload_n hx hb dX12_train_76 rfl (lv_at hl 4 rfl) ?_
    refine va_iast (D := g) hx hb hK hP hD hS 2 0 rfl rfl (vi_rg rfl r75 (by decide) (by decide)) dX12_train_77 (fun H locs hP hD hS => ?_)
    obtain ⟨g77, e77⟩ : ∃ z, z = upd m_person_c y75.toNatClampNeg p2 := ⟨_, rfl⟩
    have hP : va_P g vwCl [(m, .inr (11, mG m_a 0 m_taped m_at m_token m_place m_value m_word m_bad m_badPlace m_fault m_faultPlace m_willing m_will m_forgot m_isDrawn m_x m_begin m_round m_roundCards m_fate m_any m_bothSend m_meanCards m_bestSum m_fitMany m_fitFirst m_fitSecond)), ((m_a 17), .inl (cI, 25, .inl m_has_c)), ((m_a 18), .inl (cI, 250, .inl (upd m_person_c y75.toNatClampNeg p2)))] H := hP
    have hD : va_D A [(m, .inr (11, mG m_a 0 m_taped m_at m_token m_place m_value m_word m_bad m_badPlace m_fault m_faultPlace m_willing m_will m_forgot m_isDrawn m_x m_begin m_round m_roundCards m_fate m_any m_bothSend m_meanCards m_bestSum m_fitMany m_fitFirst m_fitSecond)), ((m_a 17), .inl (cI, 25, .inl m_has_c)), ((m_a 18), .inl (cI, 250, .inl (upd m_person_c y75.toNatClampNeg p2)))] := hD
    rw [← e77] at hP hD
    have a77 : perI g77 := by rw [e77]; exact perI_0v ha_m_person_c (by have c0 := cl_t (x := y75) rfl (by omega); omega) r50_1a
    refine lv_iload hx hb dX12_train_78 (lv_at hl 0 rfl) ?_
    subst hQ
    have hP9 := hP.sub (ws' := [(m, .inr (11, mG m_a 0 m_taped m_at m_token m_place m_value m_word m_bad m_badPlace m_fault m_faultPlace m_willing m_will m_forgot m_isDrawn m_x m_begin m_round m_roundCards m_fate m_any m_bothSend m_meanCards m_bestSum m_fitMany m_fitFirst m_fitSecond)), ((m_a 17), .inl (cI, 25, .inl m_has_c)), ((m_a 18), .inl (cI, 250, .inl g77))]) [0, 1, 2] rfl
    have hD9 := hD.sub (ws' := [(m, .inr (11, mG m_a 0 m_taped m_at m_token m_place m_value m_word m_bad m_badPlace m_fault m_faultPlace m_willing m_will m_forgot m_isDrawn m_x m_begin m_round m_roundCards m_fate m_any m_bothSend m_meanCards m_bestSum m_fitMany m_fitFirst m_fitSecond)), ((m_a 17), .inl (cI, 25, .inl m_has_c)), ((m_a 18), .inl (cI, 250, .inl g77))]) [0, 1, 2] (by decide) rfl
    exact W.iret (v := r62) hx hb hr (fun t ht hW => ⟨⟨r62, (0, g77), rfl, ⟨(show ir (0 : Int32).toInt 0 0 by decide), a77⟩, ⟨by rw [ht]; exact hP9, va_K.moved hW.alike hK, hD9⟩⟩, hS.F ht⟩) hS.2.2 dX12_train_80
  have f29 := (show p1.toInt ≠ 0 from z_ne rfl rfl c29)
  have r29a : ir p1.toInt 1 2 := ir_nel f29 r19_1a (by decide) (by decide)
  refine lv_iload_n hx hb dX12_train_38 rfl (lv_at hl 2 rfl) ?_
  refine lv_iconst (v := 1) hx hb dX12_train_39 (by decide) ?_
  refine lv_icmp_ne (tgt := 47) hx hb dX12_train_40 (by decide) (fun c40 => ?_) (fun c40 => ?_)
  · have f40 := (show p1.toInt ≠ 1 from z_ne rfl rfl c40)
    have r40a : ir p1.toInt 2 2 := ir_nel f40 r29a (by decide) (by decide)
    refine lv_ldc2 (v := 50) hx hb hown (hts (.constantLong RX12 538 (50)) (List.mem_cons_of_mem _ (List.mem_append_left _ (List.mem_of_getElem? (i := 8) rfl)))) dX12_train_47 ?_
    refine ro_i (va_runS (As := [.long p2.toInt64, .long 0, .long 50]) (rest := []) ⟨hx, hb, hml, hown, hts⟩ (q_X12_in l g cI cJ cB cZ cL p2.toInt64 p2.toInt 0 0 50 50 H.size (z_i2l rfl) rfl rfl) (va_cwS 3 hts (goodIn_app (g_3 (List.mem_cons_of_mem _ (List.mem_append_left _ (List.mem_of_getElem? (i := 6) rfl))) (List.mem_cons_of_mem _ (List.mem_append_left _ (List.mem_of_getElem? (i := 7) rfl))) (List.mem_cons_of_mem _ (List.mem_append_left _ (List.mem_of_getElem? (i := 4) rfl))) (by decide +kernel)) (goodIn_sub (fun _ h => List.mem_cons_of_mem _ (List.mem_append_right _ (List.mem_append_right _ (List.mem_append_left _ h)))) good_v_X12_in)) rfl rfl rfl (by decide +kernel) ⟨Nat.le_of_ble_eq_true rfl, Nat.le_of_ble_eq_true rfl⟩) (ps_RO (wc := []) hK hP [] rfl) rfl rfl hl.1 rfl (lv_room (Nat.le_of_ble_eq_true rfl)) dX12_train_50 ⟨Nat.le_of_ble_eq_true rfl, Nat.le_of_ble_eq_true rfl⟩) hS hA hP (fun r50 u50 H locs hw50 hP hS => ?_)
    have hw50_0 := hw50
    rcases hw50_0 with ⟨er50, fc50_0, fc50_1⟩ | er50
    rotate_left 1
    · subst er50
      refine lv_if_ne (tgt := 59) hx hb dX12_train_53 (by decide) (fun c => absurd c (by decide)) (fun _ => ?_)
      refine lv_bipush (v := (-2)) hx hb dX12_train_56 (by decide) ?_
      subst hQ
      have hP9 := hP.sub (ws' := [(m, .inr (11, mG m_a 0 m_taped m_at m_token m_place m_value m_word m_bad m_badPlace m_fault m_faultPlace m_willing m_will m_forgot m_isDrawn m_x m_begin m_round m_roundCards m_fate m_any m_bothSend m_meanCards m_bestSum m_fitMany m_fitFirst m_fitSecond)), ((m_a 17), .inl (cI, 25, .inl m_has_c)), ((m_a 18), .inl (cI, 250, .inl m_person_c))]) [0, 1, 2] rfl
      have hD9 := hD.sub (ws' := [(m, .inr (11, mG m_a 0 m_taped m_at m_token m_place m_value m_word m_bad m_badPlace m_fault m_faultPlace m_willing m_will m_forgot m_isDrawn m_x m_begin m_round m_roundCards m_fate m_any m_bothSend m_meanCards m_bestSum m_fitMany m_fitFirst m_fitSecond)), ((m_a 17), .inl (cI, 25, .inl m_has_c)), ((m_a 18), .inl (cI, 250, .inl m_person_c))]) [0, 1, 2] (by decide) rfl
      exact W.iret (v := (-2)) hx hb hr (fun t ht hW => ⟨⟨(-2), (0, m_person_c), rfl, ⟨(show ir (0 : Int32).toInt 0 0 by decide), ha_m_person_c⟩, ⟨by rw [ht]; exact hP9, va_K.moved hW.alike hK, hD9⟩⟩, hS.F ht⟩) hS.2.2 dX12_train_58
    subst er50
    have fc50_0 : 0 ≤ p2.toInt := fc50_0
    have r50_0b : ir p2.toInt 0 2147483647 := ir_leb fc50_0 (ir_c 0) (rg_all p2) (by decide)
    have fc50_1 : p2.toInt ≤ 50 := fc50_1
    have r50_1a : ir p2.toInt 0 50 := ir_lea fc50_1 r50_0b (ir_c 50) (by decide)
    refine lv_if_ne (tgt := 59) hx hb dX12_train_53 (by decide) (fun _ => ?_) (fun c => absurd c (by decide))
    refine lv_aload_n hx hb dX12_train_59 rfl (lv_at hl 0 rfl) ?_
    refine lv_iload_n hx hb dX12_train_60 rfl (lv_at hl 1 rfl) ?_
    refine lv_iload_n hx hb dX12_train_61 rfl (lv_at hl 2 rfl) ?_
    refine ro_i (va_runV (As := [.int p0, .int p1]) (rest := []) ⟨hx, hb, hml, hown, hts⟩ (q_X12_has0 l g cI cJ cB cZ cL p0 p1 m m_a 0 m_taped m_at m_token m_place m_value m_word m_bad m_badPlace m_fault m_faultPlace m_willing m_will m_forgot m_isDrawn m_x m_begin m_round m_roundCards m_fate m_any m_bothSend m_meanCards m_bestSum m_fitMany m_fitFirst m_fitSecond m_person_c H.size (ir_w r7_1a (by decide) (by decide)) (ir_w r40a (by decide) (by decide)) hv_m_taped hv_m_at hv_m_will hv_m_isDrawn ha_m_person_c) (cwV 2 hts (goodIn_app (g_4 (List.mem_cons_of_mem _ (List.mem_append_left _ (List.mem_of_getElem? (i := 9) rfl))) (List.mem_cons_of_mem _ (List.mem_append_left _ (List.mem_of_getElem? (i := 10) rfl))) (List.mem_cons_of_mem _ (List.mem_append_left _ (List.mem_of_getElem? (i := 11) rfl))) (List.mem_cons_of_mem _ (List.mem_append_left _ (List.mem_of_getElem? (i := 4) rfl))) (by decide +kernel)) (goodIn_sub (fun _ h => List.mem_cons_of_mem _ (List.mem_append_right _ (List.mem_append_right _ (List.mem_append_right _ (List.mem_append_left _ h))))) good_v_X12_has0)) rfl rfl rfl (by decide +kernel) ⟨Nat.le_of_ble_eq_true rfl, Nat.le_of_ble_eq_true rfl⟩) (pv_RO (q := (RX12, TX12, 56)) (ci := 11) (q0 := 0) (wc := [(m, .inr (11, mG m_a 0 m_taped m_at m_token m_place m_value m_word m_bad m_badPlace m_fault m_faultPlace m_willing m_will m_forgot m_isDrawn m_x m_begin m_round m_roundCards m_fate m_any m_bothSend m_meanCards m_bestSum m_fitMany m_fitFirst m_fitSecond)), ((m_a 18), .inl (cI, 250, .inl m_person_c))]) hK hP [0, 2] rfl rfl rfl) rfl rfl hl.1 rfl (lv_room (Nat.le_of_ble_eq_true rfl)) dX12_train_62 ⟨Nat.le_of_ble_eq_true rfl, Nat.le_of_ble_eq_true rfl⟩) hS hA hP (fun r62 u62 H locs hw62 hP hS => ?_)
    refine lv_istore (lv' := [(4, .int r62), (0, .ref m), (1, .int p0), (2, .int p1), (3, .int p2)]) hx hb dX12_train_65 hl (by decide) rfl (fun ls hl => ?_)
    refine lv_aload_n hx hb dX12_train_67 rfl (lv_at hl 1 rfl) ?_
    refine va_get (D := g) (ci := 11) (v := .ref (m_a 18)) (C := RX12) (T := TX12) (N := 56) hx hb hts iX12 hown hK hP 0 rfl rfl 18 (by decide) (hts (.fieldLink RX12 37 "CardsAtYuleModel" "person" "[I") (List.mem_cons_of_mem _ (List.mem_append_left _ (List.mem_of_getElem? (i := 12) rfl)))) (fun _ h9 => h9) rfl dX12_train_68 ?_
    refine lv_iconst (v := 5) hx hb dX12_train_71 (by decide) ?_
    refine lv_iload_n hx hb dX12_train_72 rfl (lv_at hl 2 rfl) ?_
    refine lv_imul hx hb dX12_train_73 ?_
    refine lv_topi (fun y73 e73 => ?_)
    have q73 : y73.toInt = 5 * p0.toInt := by rw [e73]; exact mu_z rfl rfl (ir_c 5) r7_1a (by decide) (by decide) (by decide)
    have r73 : ir y73.toInt 0 45 := mu_r q73 (ir_c 5) r7_1a (by decide) (by decide) (by decide) (by decide)
    refine lv_iload_n hx hb dX12_train_74 rfl (lv_at hl 3 rfl) ?_
    refine lv_iadd hx hb dX12_train_75 ?_
    refine lv_topi (fun y75 e75 => ?_)
    have q75 : y75.toInt = y73.toInt + p1.toInt := by rw [e75]; exact ad_z rfl rfl r73 r40a (by decide) (by decide)
    have r75 : ir y75.toInt 2 47 := ad_r q75 r73 r40a (by decide) (by decide)
    refine lv_iload_n hx hb dX12_train_76 rfl (lv_at hl 4 rfl) ?_
    refine va_iast (D := g) hx hb hK hP hD hS 2 0 rfl rfl (vi_rg rfl r75 (by decide) (by decide)) dX12_train_77 (fun H locs hP hD hS => ?_)
    obtain ⟨g77, e77⟩ : ∃ z, z = upd m_person_c y75.toNatClampNeg p2 := ⟨_, rfl⟩
    have hP : va_P g vwCl [(m, .inr (11, mG m_a 0 m_taped m_at m_token m_place m_value m_word m_bad m_badPlace m_fault m_faultPlace m_willing m_will m_forgot m_isDrawn m_x m_begin m_round m_roundCards m_fate m_any m_bothSend m_meanCards m_bestSum m_fitMany m_fitFirst m_fitSecond)), ((m_a 17), .inl (cI, 25, .inl m_has_c)), ((m_a 18), .inl (cI, 250, .inl (upd m_person_c y75.toNatClampNeg p2)))] H := hP
    have hD : va_D A [(m, .inr (11, mG m_a 0 m_taped m_at m_token m_place m_value m_word m_bad m_badPlace m_fault m_faultPlace m_willing m_will m_forgot m_isDrawn m_x m_begin m_round m_roundCards m_fate m_any m_bothSend m_meanCards m_bestSum m_fitMany m_fitFirst m_fitSecond)), ((m_a 17), .inl (cI, 25, .inl m_has_c)), ((m_a 18), .inl (cI, 250, .inl (upd m_person_c y75.toNatClampNeg p2)))] := hD
    rw [← e77] at hP hD
    have a77 : perI g77 := by rw [e77]; exact perI_n ha_m_person_c (by have c0 := cl_t (x := y75) rfl (by omega); omega)
    refine lv_iload hx hb dX12_train_78 (lv_at hl 0 rfl) ?_
    subst hQ
    have hP9 := hP.sub (ws' := [(m, .inr (11, mG m_a 0 m_taped m_at m_token m_place m_value m_word m_bad m_badPlace m_fault m_faultPlace m_willing m_will m_forgot m_isDrawn m_x m_begin m_round m_roundCards m_fate m_any m_bothSend m_meanCards m_bestSum m_fitMany m_fitFirst m_fitSecond)), ((m_a 17), .inl (cI, 25, .inl m_has_c)), ((m_a 18), .inl (cI, 250, .inl g77))]) [0, 1, 2] rfl
    have hD9 := hD.sub (ws' := [(m, .inr (11, mG m_a 0 m_taped m_at m_token m_place m_value m_word m_bad m_badPlace m_fault m_faultPlace m_willing m_will m_forgot m_isDrawn m_x m_begin m_round m_roundCards m_fate m_any m_bothSend m_meanCards m_bestSum m_fitMany m_fitFirst m_fitSecond)), ((m_a 17), .inl (cI, 25, .inl m_has_c)), ((m_a 18), .inl (cI, 250, .inl g77))]) [0, 1, 2] (by decide) rfl
    exact W.iret (v := r62) hx hb hr (fun t ht hW => ⟨⟨r62, (0, g77), rfl, ⟨(show ir (0 : Int32).toInt 0 0 by decide), a77⟩, ⟨by rw [ht]; exact hP9, va_K.moved hW.alike hK, hD9⟩⟩, hS.F ht⟩) hS.2.2 dX12_train_80
  have f40 := (show p1.toInt = 1 from z_eq rfl rfl c40)
  have r40a : ir p1.toInt 1 1 := ir_eqa f40 r29a (ir_c 1) (by decide) (by decide)
  refine lv_lconst (v := 1) hx hb dX12_train_43 (by decide) ?_
  refine lv_goto (tgt := 50) hx hb dX12_train_44 (by decide) ?_
  refine ro_i (va_runS (As := [.long p2.toInt64, .long 0, .long 1]) (rest := []) ⟨hx, hb, hml, hown, hts⟩ (q_X12_in l g cI cJ cB cZ cL p2.toInt64 p2.toInt 0 0 1 1 H.size (z_i2l rfl) rfl rfl) (va_cwS 3 hts (goodIn_app (g_3 (List.mem_cons_of_mem _ (List.mem_append_left _ (List.mem_of_getElem? (i := 6) rfl))) (List.mem_cons_of_mem _ (List.mem_append_left _ (List.mem_of_getElem? (i := 7) rfl))) (List.mem_cons_of_mem _ (List.mem_append_left _ (List.mem_of_getElem? (i := 4) rfl))) (by decide +kernel)) (goodIn_sub (fun _ h => List.mem_cons_of_mem _ (List.mem_append_right _ (List.mem_append_right _ (List.mem_append_left _ h)))) good_v_X12_in)) rfl rfl rfl (by decide +kernel) ⟨Nat.le_of_ble_eq_true rfl, Nat.le_of_ble_eq_true rfl⟩) (ps_RO (wc := []) hK hP [] rfl) rfl rfl hl.1 rfl (lv_room (Nat.le_of_ble_eq_true rfl)) dX12_train_50 ⟨Nat.le_of_ble_eq_true rfl, Nat.le_of_ble_eq_true rfl⟩) hS hA hP (fun r50 u50 H locs hw50 hP hS => ?_)
  have hw50_0 := hw50
  rcases hw50_0 with ⟨er50, fc50_0, fc50_1⟩ | er50
  rotate_left 1
  · subst er50
    refine lv_if_ne (tgt := 59) hx hb dX12_train_53 (by decide) (fun c => absurd c (by decide)) (fun _ => ?_)
    refine lv_bipush (v := (-2)) hx hb dX12_train_56 (by decide) ?_
    subst hQ
    have hP9 := hP.sub (ws' := [(m, .inr (11, mG m_a 0 m_taped m_at m_token m_place m_value m_word m_bad m_badPlace m_fault m_faultPlace m_willing m_will m_forgot m_isDrawn m_x m_begin m_round m_roundCards m_fate m_any m_bothSend m_meanCards m_bestSum m_fitMany m_fitFirst m_fitSecond)), ((m_a 17), .inl (cI, 25, .inl m_has_c)), ((m_a 18), .inl (cI, 250, .inl m_person_c))]) [0, 1, 2] rfl
    have hD9 := hD.sub (ws' := [(m, .inr (11, mG m_a 0 m_taped m_at m_token m_place m_value m_word m_bad m_badPlace m_fault m_faultPlace m_willing m_will m_forgot m_isDrawn m_x m_begin m_round m_roundCards m_fate m_any m_bothSend m_meanCards m_bestSum m_fitMany m_fitFirst m_fitSecond)), ((m_a 17), .inl (cI, 25, .inl m_has_c)), ((m_a 18), .inl (cI, 250, .inl m_person_c))]) [0, 1, 2] (by decide) rfl
    exact W.iret (v := (-2)) hx hb hr (fun t ht hW => ⟨⟨(-2), (0, m_person_c), rfl, ⟨(show ir (0 : Int32).toInt 0 0 by decide), ha_m_person_c⟩, ⟨by rw [ht]; exact hP9, va_K.moved hW.alike hK, hD9⟩⟩, hS.F ht⟩) hS.2.2 dX12_train_58
  subst er50
  have fc50_0 : 0 ≤ p2.toInt := fc50_0
  have r50_0b : ir p2.toInt 0 2147483647 := ir_leb fc50_0 (ir_c 0) (rg_all p2) (by decide)
  have fc50_1 : p2.toInt ≤ 1 := fc50_1
  have r50_1a : ir p2.toInt 0 1 := ir_lea fc50_1 r50_0b (ir_c 1) (by decide)
  refine lv_if_ne (tgt := 59) hx hb dX12_train_53 (by decide) (fun _ => ?_) (fun c => absurd c (by decide))
  refine lv_aload_n hx hb dX12_train_59 rfl (lv_at hl 0 rfl) ?_
  refine lv_iload_n hx hb dX12_train_60 rfl (lv_at hl 1 rfl) ?_
  refine lv_iload_n hx hb dX12_train_61 rfl (lv_at hl 2 rfl) ?_
  refine ro_i (va_runV (As := [.int p0, .int p1]) (rest := []) ⟨hx, hb, hml, hown, hts⟩ (q_X12_has0 l g cI cJ cB cZ cL p0 p1 m m_a 0 m_taped m_at m_token m_place m_value m_word m_bad m_badPlace m_fault m_faultPlace m_willing m_will m_forgot m_isDrawn m_x m_begin m_round m_roundCards m_fate m_any m_bothSend m_meanCards m_bestSum m_fitMany m_fitFirst m_fitSecond m_person_c H.size (ir_w r7_1a (by decide) (by decide)) (ir_w r40a (by decide) (by decide)) hv_m_taped hv_m_at hv_m_will hv_m_isDrawn ha_m_person_c) (cwV 2 hts (goodIn_app (g_4 (List.mem_cons_of_mem _ (List.mem_append_left _ (List.mem_of_getElem? (i := 9) rfl))) (List.mem_cons_of_mem _ (List.mem_append_left _ (List.mem_of_getElem? (i := 10) rfl))) (List.mem_cons_of_mem _ (List.mem_append_left _ (List.mem_of_getElem? (i := 11) rfl))) (List.mem_cons_of_mem _ (List.mem_append_left _ (List.mem_of_getElem? (i := 4) rfl))) (by decide +kernel)) (goodIn_sub (fun _ h => List.mem_cons_of_mem _ (List.mem_append_right _ (List.mem_append_right _ (List.mem_append_right _ (List.mem_append_left _ h))))) good_v_X12_has0)) rfl rfl rfl (by decide +kernel) ⟨Nat.le_of_ble_eq_true rfl, Nat.le_of_ble_eq_true rfl⟩) (pv_RO (q := (RX12, TX12, 56)) (ci := 11) (q0 := 0) (wc := [(m, .inr (11, mG m_a 0 m_taped m_at m_token m_place m_value m_word m_bad m_badPlace m_fault m_faultPlace m_willing m_will m_forgot m_isDrawn m_x m_begin m_round m_roundCards m_fate m_any m_bothSend m_meanCards m_bestSum m_fitMany m_fitFirst m_fitSecond)), ((m_a 18), .inl (cI, 250, .inl m_person_c))]) hK hP [0, 2] rfl rfl rfl) rfl rfl hl.1 rfl (lv_room (Nat.le_of_ble_eq_true rfl)) dX12_train_62 ⟨Nat.le_of_ble_eq_true rfl, Nat.le_of_ble_eq_true rfl⟩) hS hA hP (fun r62 u62 H locs hw62 hP hS => ?_)
  refine lv_istore (lv' := [(4, .int r62), (0, .ref m), (1, .int p0), (2, .int p1), (3, .int p2)]) hx hb dX12_train_65 hl (by decide) rfl (fun ls hl => ?_)
  refine lv_aload_n hx hb dX12_train_67 rfl (lv_at hl 1 rfl) ?_
  refine va_get (D := g) (ci := 11) (v := .ref (m_a 18)) (C := RX12) (T := TX12) (N := 56) hx hb hts iX12 hown hK hP 0 rfl rfl 18 (by decide) (hts (.fieldLink RX12 37 "CardsAtYuleModel" "person" "[I") (List.mem_cons_of_mem _ (List.mem_append_left _ (List.mem_of_getElem? (i := 12) rfl)))) (fun _ h9 => h9) rfl dX12_train_68 ?_
  refine lv_iconst (v := 5) hx hb dX12_train_71 (by decide) ?_
  refine lv_iload_n hx hb dX12_train_72 rfl (lv_at hl 2 rfl) ?_
  refine lv_imul hx hb dX12_train_73 ?_
  refine lv_topi (fun y73 e73 => ?_)
  have q73 : y73.toInt = 5 * p0.toInt := by rw [e73]; exact mu_z rfl rfl (ir_c 5) r7_1a (by decide) (by decide) (by decide)
  have r73 : ir y73.toInt 0 45 := mu_r q73 (ir_c 5) r7_1a (by decide) (by decide) (by decide) (by decide)
  refine lv_iload_n hx hb dX12_train_74 rfl (lv_at hl 3 rfl) ?_
  refine lv_iadd hx hb dX12_train_75 ?_
  refine lv_topi (fun y75 e75 => ?_)
  have q75 : y75.toInt = y73.toInt + p1.toInt := by rw [e75]; exact ad_z rfl rfl r73 r40a (by decide) (by decide)
  have r75 : ir y75.toInt 1 46 := ad_r q75 r73 r40a (by decide) (by decide)
  refine lv_iload_n hx hb dX12_train_76 rfl (lv_at hl 4 rfl) ?_
  refine va_iast (D := g) hx hb hK hP hD hS 2 0 rfl rfl (vi_rg rfl r75 (by decide) (by decide)) dX12_train_77 (fun H locs hP hD hS => ?_)
  obtain ⟨g77, e77⟩ : ∃ z, z = upd m_person_c y75.toNatClampNeg p2 := ⟨_, rfl⟩
  have hP : va_P g vwCl [(m, .inr (11, mG m_a 0 m_taped m_at m_token m_place m_value m_word m_bad m_badPlace m_fault m_faultPlace m_willing m_will m_forgot m_isDrawn m_x m_begin m_round m_roundCards m_fate m_any m_bothSend m_meanCards m_bestSum m_fitMany m_fitFirst m_fitSecond)), ((m_a 17), .inl (cI, 25, .inl m_has_c)), ((m_a 18), .inl (cI, 250, .inl (upd m_person_c y75.toNatClampNeg p2)))] H := hP
  have hD : va_D A [(m, .inr (11, mG m_a 0 m_taped m_at m_token m_place m_value m_word m_bad m_badPlace m_fault m_faultPlace m_willing m_will m_forgot m_isDrawn m_x m_begin m_round m_roundCards m_fate m_any m_bothSend m_meanCards m_bestSum m_fitMany m_fitFirst m_fitSecond)), ((m_a 17), .inl (cI, 25, .inl m_has_c)), ((m_a 18), .inl (cI, 250, .inl (upd m_person_c y75.toNatClampNeg p2)))] := hD
  rw [← e77] at hP hD
  have a77 : perI g77 := by rw [e77]; exact perI_u ha_m_person_c r50_1a
  refine lv_iload hx hb dX12_train_78 (lv_at hl 0 rfl) ?_
  subst hQ
  have hP9 := hP.sub (ws' := [(m, .inr (11, mG m_a 0 m_taped m_at m_token m_place m_value m_word m_bad m_badPlace m_fault m_faultPlace m_willing m_will m_forgot m_isDrawn m_x m_begin m_round m_roundCards m_fate m_any m_bothSend m_meanCards m_bestSum m_fitMany m_fitFirst m_fitSecond)), ((m_a 17), .inl (cI, 25, .inl m_has_c)), ((m_a 18), .inl (cI, 250, .inl g77))]) [0, 1, 2] rfl
  have hD9 := hD.sub (ws' := [(m, .inr (11, mG m_a 0 m_taped m_at m_token m_place m_value m_word m_bad m_badPlace m_fault m_faultPlace m_willing m_will m_forgot m_isDrawn m_x m_begin m_round m_roundCards m_fate m_any m_bothSend m_meanCards m_bestSum m_fitMany m_fitFirst m_fitSecond)), ((m_a 17), .inl (cI, 25, .inl m_has_c)), ((m_a 18), .inl (cI, 250, .inl g77))]) [0, 1, 2] (by decide) rfl
  exact W.iret (v := r62) hx hb hr (fun t ht hW => ⟨⟨r62, (0, g77), rfl, ⟨(show ir (0 : Int32).toInt 0 0 by decide), a77⟩, ⟨by rw [ht]; exact hP9, va_K.moved hW.alike hK, hD9⟩⟩, hS.F ht⟩) hS.2.2 dX12_train_80
def v_X12_begin : List Cond := .code yX12_begin cX12_begin 4 (some .int) :: (([.fieldLink RX12 107 "CardsAtYuleModel" "thrown" "I", .methodLink RX12 281 yX12_isPair, .instanceMethod yX12_isPair, .selects RX12 yX12_isPair yX12_isPair, .initialized RX12, .constantLong RX12 286 (15), .methodLink RX12 112 yX12_in, .static yX12_in, .fieldLink RX12 40 "CardsAtYuleModel" "pair" "[I"] : List Cond) ++ (v_X12_isPair ++ (v_X12_in ++ (wsX120 ++ ([] : List Cond)))))
theorem good_v_X12_begin : v_X12_begin.all goodWord = true := ga_c (by decide +kernel) (ga_a (by decide +kernel) (ga_a good_v_X12_isPair (ga_a good_v_X12_in (ga_a good_wsX120 rfl))))
set_option maxHeartbeats 4000000 in
set_option maxRecDepth 100000 in
theorem q_X12_begin (l : Launch) (g : va_G) (cI cJ cB cZ cL : ClassId) (p0 : Int32) (p1 : Int32) (m : Nat) (m_a : Nat → Nat) (m_thrown : Int32) (m_taped : Int32) (m_at : Int32) (m_token : Int32) (m_place : Int32) (m_value : Int32) (m_word : Int64) (m_bad : Int32) (m_badPlace : Int32) (m_fault : Int32) (m_faultPlace : Int32) (m_willing : Int32) (m_will : Int32) (m_forgot : Int32) (m_isDrawn : Int32) (m_x : Int64) (m_begin : Int32) (m_round : Int32) (m_roundCards : Int32) (m_fate : Int32) (m_any : Int64) (m_bothSend : Int64) (m_meanCards : Int64) (m_bestSum : Int32) (m_fitMany : Int32) (m_fitFirst : Int64) (m_fitSecond : Int64) (m_has_c : Nat → Int32) (m_pair_c : Nat → Int32) (sz : Nat) (hv_m_taped : ir m_taped.toInt 0 1600) (hv_m_at : ir m_at.toInt 0 1600) (hv_m_will : ir m_will.toInt 0 1) (hv_m_isDrawn : ir m_isDrawn.toInt 0 1) (ha_m_has_c : hasI m_has_c) (ha_m_pair_c : ar m_pair_c 240 0 15) : Met l yX12_begin v_X12_begin ({ frames := 2, cells := 0, slots := 0, locals := 46 }) (va_Pc [.ref m, .int p0, .int p1] (pRW g (tyT cI cJ cB cZ cL) [(m, .inr (11, mG m_a m_thrown m_taped m_at m_token m_place m_value m_word m_bad m_badPlace m_fault m_faultPlace m_willing m_will m_forgot m_isDrawn m_x m_begin m_round m_roundCards m_fate m_any m_bothSend m_meanCards m_bestSum m_fitMany m_fitFirst m_fitSecond)), ((m_a 17), .inl (cI, 25, .inl m_has_c)), ((m_a 19), .inl (cI, 240, .inl m_pair_c))] sz)) (va_Qi (fun (r : Int32) (u : Int32 × (Nat → Int32)) => match u with | (n_m_thrown, n_m_pair_c) => (ir n_m_thrown.toInt 0 0) ∧ (ar n_m_pair_c 240 0 15) ∧ (ir r.toInt (-2) 15)) (fun (u : Int32 × (Nat → Int32)) (t : State) => bRW g (tyT cI cJ cB cZ cL) (va_A [(m, .inr (11, mG m_a m_thrown m_taped m_at m_token m_place m_value m_word m_bad m_badPlace m_fault m_faultPlace m_willing m_will m_forgot m_isDrawn m_x m_begin m_round m_roundCards m_fate m_any m_bothSend m_meanCards m_bestSum m_fitMany m_fitFirst m_fitSecond)), ((m_a 17), .inl (cI, 25, .inl m_has_c)), ((m_a 19), .inl (cI, 240, .inl m_pair_c))] sz) (match u with | (n_m_thrown, n_m_pair_c) => [(m, .inr (11, mG m_a n_m_thrown m_taped m_at m_token m_place m_value m_word m_bad m_badPlace m_fault m_faultPlace m_willing m_will m_forgot m_isDrawn m_x m_begin m_round m_roundCards m_fate m_any m_bothSend m_meanCards m_bestSum m_fitMany m_fitFirst m_fitSecond)), ((m_a 17), .inl (cI, 25, .inl m_has_c)), ((m_a 19), .inl (cI, 240, .inl n_m_pair_c))]) t) (va_A [(m, .inr (11, mG m_a m_thrown m_taped m_at m_token m_place m_value m_word m_bad m_badPlace m_fault m_faultPlace m_willing m_will m_forgot m_isDrawn m_x m_begin m_round m_roundCards m_fate m_any m_bothSend m_meanCards m_bestSum m_fitMany m_fitFirst m_fitSecond)), ((m_a 17), .inl (cI, 25, .inl m_has_c)), ((m_a 19), .inl (cI, 240, .inl m_pair_c))] sz)) 0 0 (va_A [(m, .inr (11, mG m_a m_thrown m_taped m_at m_token m_place m_value m_word m_bad m_badPlace m_fault m_faultPlace m_willing m_will m_forgot m_isDrawn m_x m_begin m_round m_roundCards m_fate m_any m_bothSend m_meanCards m_bestSum m_fitMany m_fitFirst m_fitSecond)), ((m_a 17), .inl (cI, 25, .inl m_has_c)), ((m_a 19), .inl (cI, 240, .inl m_pair_c))] sz) := by
  refine Met.ofW (cc := cX12_begin) (maxL := 4) (ret := (some .int)) (by decide) rfl ?_
  intro p e s mth args below meth c s₁ B hml hv
  obtain ⟨rfl, hsz, hP, hK, hD0⟩ := hv
  have hx := B.exec
  have hb := B.bytes
  have hr := B.returns
  have hts := atoms_spec (ws := v_X12_begin) B.pre
  have hown : s.vm.findClass RX12 = some mth.cls := findClass_of_methodNamed B.named
  have hlocks := B.notSynchronized
  clear B
  subst hsz
  have iX12 : ∀ w ∈ wsX120, w ∈ v_X12_begin := (fun _ h => List.mem_cons_of_mem _ (List.mem_append_right _ (List.mem_append_right _ (List.mem_append_right _ (List.mem_append_left _ h)))))
  have hD := hD0.self (sz := s.heap.size)
  generalize hAe : (va_A [(m, .inr (11, mG m_a m_thrown m_taped m_at m_token m_place m_value m_word m_bad m_badPlace m_fault m_faultPlace m_willing m_will m_forgot m_isDrawn m_x m_begin m_round m_roundCards m_fate m_any m_bothSend m_meanCards m_bestSum m_fitMany m_fitFirst m_fitSecond)), ((m_a 17), .inl (cI, 25, .inl m_has_c)), ((m_a 19), .inl (cI, 240, .inl m_pair_c))] s.heap.size) = A at hD ⊢
  have hA : ∀ q : Nat, s.heap.size ≤ q → A q := fun q h => by rw [← hAe]; exact Or.inr h
  have hS : va_S A s.heap s.heap [] := va_S.rf
  have hl := lv_entry ([.ref m, .int p0, .int p1]) (n := 4) (Nat.le_of_ble_eq_true rfl)
  rw [lg_entry_eq]
  generalize (lg_sl ([.ref m, .int p0, .int p1]) ++ List.replicate (4 - (lg_sl ([.ref m, .int p0, .int p1])).length) Slot.unset).toArray = ls at hl ⊢
  generalize ([.ref m, .int p0, .int p1] : List Value).toArray = av at hts ⊢
  generalize hQ : MQ below _ av s _ _ A = QQ
  have hl : lv_has ls 4 [(0, .ref m), (1, .int p0), (2, .int p1)] := hl
  have hP : va_P g vwCl [(m, .inr (11, mG m_a m_thrown m_taped m_at m_token m_place m_value m_word m_bad m_badPlace m_fault m_faultPlace m_willing m_will m_forgot m_isDrawn m_x m_begin m_round m_roundCards m_fate m_any m_bothSend m_meanCards m_bestSum m_fitMany m_fitFirst m_fitSecond)), ((m_a 17), .inl (cI, 25, .inl m_has_c)), ((m_a 19), .inl (cI, 240, .inl m_pair_c))] s.heap := hP
  refine lv_aload_n hx hb dX12_begin_0 rfl (lv_at hl 0 rfl) ?_
  refine lv_iconst (v := 0) hx hb dX12_begin_1 (by decide) ?_
  refine va_put (D := g) (ci := 11) (v := .int 0) (ty := .int) (C := RX12) (T := TX12) (N := 56) hx hb hts iX12 tyX12 tyX12_ok nmX12 hown hK hP hD hS 0 rfl rfl 0 (by decide) (hts (.fieldLink RX12 107 "CardsAtYuleModel" "thrown" "I") (List.mem_cons_of_mem _ (List.mem_append_left _ (List.mem_of_getElem? (i := 0) rfl)))) (fun _ h9 => h9) rfl (by decide +kernel) rfl rfl (Nat.le_of_ble_eq_true rfl) dX12_begin_2 (fun H locs hP hD hS => ?_)
  have hP : va_P g vwCl [(m, .inr (11, mG m_a 0 m_taped m_at m_token m_place m_value m_word m_bad m_badPlace m_fault m_faultPlace m_willing m_will m_forgot m_isDrawn m_x m_begin m_round m_roundCards m_fate m_any m_bothSend m_meanCards m_bestSum m_fitMany m_fitFirst m_fitSecond)), ((m_a 17), .inl (cI, 25, .inl m_has_c)), ((m_a 19), .inl (cI, 240, .inl m_pair_c))] H := hP
  have hD : va_D A [(m, .inr (11, mG m_a 0 m_taped m_at m_token m_place m_value m_word m_bad m_badPlace m_fault m_faultPlace m_willing m_will m_forgot m_isDrawn m_x m_begin m_round m_roundCards m_fate m_any m_bothSend m_meanCards m_bestSum m_fitMany m_fitFirst m_fitSecond)), ((m_a 17), .inl (cI, 25, .inl m_has_c)), ((m_a 19), .inl (cI, 240, .inl m_pair_c))] := hD
  refine lv_aload_n hx hb dX12_begin_5 rfl (lv_at hl 0 rfl) ?_
  refine lv_iload_n hx hb dX12_begin_6 rfl (lv_at hl 1 rfl) ?_
  refine ro_i (va_runV (As := [.int p0]) (rest := []) ⟨hx, hb, hml, hown, hts⟩ (q_X12_isPair l g cI cJ cB cZ cL p0 m m_a 0 m_taped m_at m_token m_place m_value m_word m_bad m_badPlace m_fault m_faultPlace m_willing m_will m_forgot m_isDrawn m_x m_begin m_round m_roundCards m_fate m_any m_bothSend m_meanCards m_bestSum m_fitMany m_fitFirst m_fitSecond m_has_c H.size hv_m_taped hv_m_at hv_m_will hv_m_isDrawn ha_m_has_c) (cwV 1 hts (goodIn_app (g_4 (List.mem_cons_of_mem _ (List.mem_append_left _ (List.mem_of_getElem? (i := 1) rfl))) (List.mem_cons_of_mem _ (List.mem_append_left _ (List.mem_of_getElem? (i := 2) rfl))) (List.mem_cons_of_mem _ (List.mem_append_left _ (List.mem_of_getElem? (i := 3) rfl))) (List.mem_cons_of_mem _ (List.mem_append_left _ (List.mem_of_getElem? (i := 4) rfl))) (by decide +kernel)) (goodIn_sub (fun _ h => List.mem_cons_of_mem _ (List.mem_append_right _ (List.mem_append_left _ h))) good_v_X12_isPair)) rfl rfl rfl (by decide +kernel) ⟨Nat.le_of_ble_eq_true rfl, Nat.le_of_ble_eq_true rfl⟩) (pv_RO (q := (RX12, TX12, 56)) (ci := 11) (q0 := 0) (wc := [(m, .inr (11, mG m_a 0 m_taped m_at m_token m_place m_value m_word m_bad m_badPlace m_fault m_faultPlace m_willing m_will m_forgot m_isDrawn m_x m_begin m_round m_roundCards m_fate m_any m_bothSend m_meanCards m_bestSum m_fitMany m_fitFirst m_fitSecond)), ((m_a 17), .inl (cI, 25, .inl m_has_c))]) hK hP [0, 1] rfl rfl rfl) rfl rfl hl.1 rfl (lv_room (Nat.le_of_ble_eq_true rfl)) dX12_begin_7 ⟨Nat.le_of_ble_eq_true rfl, Nat.le_of_ble_eq_true rfl⟩) hS hA hP (fun r7 u7 H locs hw7 hP hS => ?_)
  have hw7_0 := hw7
  rcases hw7_0 with ⟨er7, fc7_0, fc7_1⟩ | er7
  rotate_left 1
  · subst er7
    refine lv_if_eq (tgt := 25) hx hb dX12_begin_10 (by decide) (fun _ => ?_) (fun c => absurd c (by decide))
    refine lv_bipush (v := (-2)) hx hb dX12_begin_25 (by decide) ?_
    subst hQ
    have hP9 := hP.sub (ws' := [(m, .inr (11, mG m_a 0 m_taped m_at m_token m_place m_value m_word m_bad m_badPlace m_fault m_faultPlace m_willing m_will m_forgot m_isDrawn m_x m_begin m_round m_roundCards m_fate m_any m_bothSend m_meanCards m_bestSum m_fitMany m_fitFirst m_fitSecond)), ((m_a 17), .inl (cI, 25, .inl m_has_c)), ((m_a 19), .inl (cI, 240, .inl m_pair_c))]) [0, 1, 2] rfl
    have hD9 := hD.sub (ws' := [(m, .inr (11, mG m_a 0 m_taped m_at m_token m_place m_value m_word m_bad m_badPlace m_fault m_faultPlace m_willing m_will m_forgot m_isDrawn m_x m_begin m_round m_roundCards m_fate m_any m_bothSend m_meanCards m_bestSum m_fitMany m_fitFirst m_fitSecond)), ((m_a 17), .inl (cI, 25, .inl m_has_c)), ((m_a 19), .inl (cI, 240, .inl m_pair_c))]) [0, 1, 2] (by decide) rfl
    exact W.iret (v := (-2)) hx hb hr (fun t ht hW => ⟨⟨(-2), (0, m_pair_c), rfl, ⟨(show ir (0 : Int32).toInt 0 0 by decide), ha_m_pair_c, (show ir ((-2) : Int32).toInt (-2) 15 by decide)⟩, ⟨by rw [ht]; exact hP9, va_K.moved hW.alike hK, hD9⟩⟩, hS.F ht⟩) hS.2.2 dX12_begin_27
  subst er7
  have fc7_0 : 0 ≤ p0.toInt := fc7_0
  have r7_0b : ir p0.toInt 0 2147483647 := ir_leb fc7_0 (ir_c 0) (rg_all p0) (by decide)
  have fc7_1 : p0.toInt ≤ 15 := fc7_1
  have r7_1a : ir p0.toInt 0 15 := ir_lea fc7_1 r7_0b (ir_c 15) (by decide)
  refine lv_if_eq (tgt := 25) hx hb dX12_begin_10 (by decide) (fun c => absurd c (by decide)) (fun _ => ?_)
  refine lv_iload_n hx hb dX12_begin_13 rfl (lv_at hl 2 rfl) ?_
  refine lv_i2l (v := p1.toInt64) hx hb dX12_begin_14 rfl ?_
  refine lv_lconst (v := 0) hx hb dX12_begin_15 (by decide) ?_
  refine lv_ldc2 (v := 15) hx hb hown (hts (.constantLong RX12 286 (15)) (List.mem_cons_of_mem _ (List.mem_append_left _ (List.mem_of_getElem? (i := 5) rfl)))) dX12_begin_16 ?_
  refine ro_i (va_runS (As := [.long p1.toInt64, .long 0, .long 15]) (rest := []) ⟨hx, hb, hml, hown, hts⟩ (q_X12_in l g cI cJ cB cZ cL p1.toInt64 p1.toInt 0 0 15 15 H.size (z_i2l rfl) rfl rfl) (va_cwS 3 hts (goodIn_app (g_3 (List.mem_cons_of_mem _ (List.mem_append_left _ (List.mem_of_getElem? (i := 6) rfl))) (List.mem_cons_of_mem _ (List.mem_append_left _ (List.mem_of_getElem? (i := 7) rfl))) (List.mem_cons_of_mem _ (List.mem_append_left _ (List.mem_of_getElem? (i := 4) rfl))) (by decide +kernel)) (goodIn_sub (fun _ h => List.mem_cons_of_mem _ (List.mem_append_right _ (List.mem_append_right _ (List.mem_append_left _ h)))) good_v_X12_in)) rfl rfl rfl (by decide +kernel) ⟨Nat.le_of_ble_eq_true rfl, Nat.le_of_ble_eq_true rfl⟩) (ps_RO (wc := []) hK hP [] rfl) rfl rfl hl.1 rfl (lv_room (Nat.le_of_ble_eq_true rfl)) dX12_begin_19 ⟨Nat.le_of_ble_eq_true rfl, Nat.le_of_ble_eq_true rfl⟩) hS hA hP (fun r19 u19 H locs hw19 hP hS => ?_)
  have hw19_0 := hw19
  rcases hw19_0 with ⟨er19, fc19_0, fc19_1⟩ | er19
  rotate_left 1
  · subst er19
    refine lv_if_ne (tgt := 28) hx hb dX12_begin_22 (by decide) (fun c => absurd c (by decide)) (fun _ => ?_)
    refine lv_bipush (v := (-2)) hx hb dX12_begin_25 (by decide) ?_
    subst hQ
    have hP9 := hP.sub (ws' := [(m, .inr (11, mG m_a 0 m_taped m_at m_token m_place m_value m_word m_bad m_badPlace m_fault m_faultPlace m_willing m_will m_forgot m_isDrawn m_x m_begin m_round m_roundCards m_fate m_any m_bothSend m_meanCards m_bestSum m_fitMany m_fitFirst m_fitSecond)), ((m_a 17), .inl (cI, 25, .inl m_has_c)), ((m_a 19), .inl (cI, 240, .inl m_pair_c))]) [0, 1, 2] rfl
    have hD9 := hD.sub (ws' := [(m, .inr (11, mG m_a 0 m_taped m_at m_token m_place m_value m_word m_bad m_badPlace m_fault m_faultPlace m_willing m_will m_forgot m_isDrawn m_x m_begin m_round m_roundCards m_fate m_any m_bothSend m_meanCards m_bestSum m_fitMany m_fitFirst m_fitSecond)), ((m_a 17), .inl (cI, 25, .inl m_has_c)), ((m_a 19), .inl (cI, 240, .inl m_pair_c))]) [0, 1, 2] (by decide) rfl
    exact W.iret (v := (-2)) hx hb hr (fun t ht hW => ⟨⟨(-2), (0, m_pair_c), rfl, ⟨(show ir (0 : Int32).toInt 0 0 by decide), ha_m_pair_c, (show ir ((-2) : Int32).toInt (-2) 15 by decide)⟩, ⟨by rw [ht]; exact hP9, va_K.moved hW.alike hK, hD9⟩⟩, hS.F ht⟩) hS.2.2 dX12_begin_27
  subst er19
  have fc19_0 : 0 ≤ p1.toInt := fc19_0
  have r19_0b : ir p1.toInt 0 2147483647 := ir_leb fc19_0 (ir_c 0) (rg_all p1) (by decide)
  have fc19_1 : p1.toInt ≤ 15 := fc19_1
  have r19_1a : ir p1.toInt 0 15 := ir_lea fc19_1 r19_0b (ir_c 15) (by decide)
  refine lv_if_ne (tgt := 28) hx hb dX12_begin_22 (by decide) (fun _ => ?_) (fun c => absurd c (by decide))
  refine lv_aload_n hx hb dX12_begin_28 rfl (lv_at hl 0 rfl) ?_
  refine va_get (D := g) (ci := 11) (v := .ref (m_a 19)) (C := RX12) (T := TX12) (N := 56) hx hb hts iX12 hown hK hP 0 rfl rfl 19 (by decide) (hts (.fieldLink RX12 40 "CardsAtYuleModel" "pair" "[I") (List.mem_cons_of_mem _ (List.mem_append_left _ (List.mem_of_getElem? (i := 8) rfl)))) (fun _ h9 => h9) rfl dX12_begin_29 ?_
  refine lv_iconst (v := 3) hx hb dX12_begin_32 (by decide) ?_
  refine lv_iload_n hx hb dX12_begin_33 rfl (lv_at hl 1 rfl) ?_
  refine lv_imul hx hb dX12_begin_34 ?_
  refine lv_topi (fun y34 e34 => ?_)
  have q34 : y34.toInt = 3 * p0.toInt := by rw [e34]; exact mu_z rfl rfl (ir_c 3) r7_1a (by decide) (by decide) (by decide)
  have r34 : ir y34.toInt 0 45 := mu_r q34 (ir_c 3) r7_1a (by decide) (by decide) (by decide) (by decide)
  refine lv_iconst (v := 2) hx hb dX12_begin_35 (by decide) ?_
  refine lv_iadd hx hb dX12_begin_36 ?_
  refine lv_topi (fun y36 e36 => ?_)
  have q36 : y36.toInt = y34.toInt + 2 := by rw [e36]; exact ad_z rfl rfl r34 (ir_c 2) (by decide) (by decide)
  have r36 : ir y36.toInt 2 47 := ad_r q36 r34 (ir_c 2) (by decide) (by decide)
  refine va_iald (D := g) hx hb hK hP 2 0 rfl rfl (vi_rg rfl r36 (by decide) (by decide)) dX12_begin_37 ?_
  refine lv_topi (fun y37 e37 => ?_)
  have r37 : ir y37.toInt 0 15 := by rw [e37]; exact ha_m_pair_c _ (vi_cl (vi_rg rfl r36 (by decide) (by decide)))
  refine lv_istore_n (lv' := [(3, .int y37), (0, .ref m), (1, .int p0), (2, .int p1)]) hx hb dX12_begin_38 rfl hl (by decide) rfl (fun ls hl => ?_)
  refine lv_aload_n hx hb dX12_begin_39 rfl (lv_at hl 1 rfl) ?_
  refine va_get (D := g) (ci := 11) (v := .ref (m_a 19)) (C := RX12) (T := TX12) (N := 56) hx hb hts iX12 hown hK hP 0 rfl rfl 19 (by decide) (hts (.fieldLink RX12 40 "CardsAtYuleModel" "pair" "[I") (List.mem_cons_of_mem _ (List.mem_append_left _ (List.mem_of_getElem? (i := 8) rfl)))) (fun _ h9 => h9) rfl dX12_begin_40 ?_
  refine lv_iconst (v := 3) hx hb dX12_begin_43 (by decide) ?_
  refine lv_iload_n hx hb dX12_begin_44 rfl (lv_at hl 2 rfl) ?_
  refine lv_imul hx hb dX12_begin_45 ?_
  refine lv_topi (fun y45 e45 => ?_)
  have q45 : y45.toInt = 3 * p0.toInt := by rw [e45]; exact mu_z rfl rfl (ir_c 3) r7_1a (by decide) (by decide) (by decide)
  have r45 : ir y45.toInt 0 45 := mu_r q45 (ir_c 3) r7_1a (by decide) (by decide) (by decide) (by decide)
  refine lv_iconst (v := 2) hx hb dX12_begin_46 (by decide) ?_
  refine lv_iadd hx hb dX12_begin_47 ?_
  refine lv_topi (fun y47 e47 => ?_)
  have q47 : y47.toInt = y45.toInt + 2 := by rw [e47]; exact ad_z rfl rfl r45 (ir_c 2) (by decide) (by decide)
  have r47 : ir y47.toInt 2 47 := ad_r q47 r45 (ir_c 2) (by decide) (by decide)
  refine lv_iload_n hx hb dX12_begin_48 rfl (lv_at hl 3 rfl) ?_
  refine va_iast (D := g) hx hb hK hP hD hS 2 0 rfl rfl (vi_rg rfl r47 (by decide) (by decide)) dX12_begin_49 (fun H locs hP hD hS => ?_)
  obtain ⟨g49, e49⟩ : ∃ z, z = upd m_pair_c y47.toNatClampNeg p1 := ⟨_, rfl⟩
  have hP : va_P g vwCl [(m, .inr (11, mG m_a 0 m_taped m_at m_token m_place m_value m_word m_bad m_badPlace m_fault m_faultPlace m_willing m_will m_forgot m_isDrawn m_x m_begin m_round m_roundCards m_fate m_any m_bothSend m_meanCards m_bestSum m_fitMany m_fitFirst m_fitSecond)), ((m_a 17), .inl (cI, 25, .inl m_has_c)), ((m_a 19), .inl (cI, 240, .inl (upd m_pair_c y47.toNatClampNeg p1)))] H := hP
  have hD : va_D A [(m, .inr (11, mG m_a 0 m_taped m_at m_token m_place m_value m_word m_bad m_badPlace m_fault m_faultPlace m_willing m_will m_forgot m_isDrawn m_x m_begin m_round m_roundCards m_fate m_any m_bothSend m_meanCards m_bestSum m_fitMany m_fitFirst m_fitSecond)), ((m_a 17), .inl (cI, 25, .inl m_has_c)), ((m_a 19), .inl (cI, 240, .inl (upd m_pair_c y47.toNatClampNeg p1)))] := hD
  rw [← e49] at hP hD
  have a49 : ar g49 240 0 15 := by rw [e49]; exact ar_u ha_m_pair_c r19_1a
  refine lv_iload_n hx hb dX12_begin_50 rfl (lv_at hl 0 rfl) ?_
  subst hQ
  have hP9 := hP.sub (ws' := [(m, .inr (11, mG m_a 0 m_taped m_at m_token m_place m_value m_word m_bad m_badPlace m_fault m_faultPlace m_willing m_will m_forgot m_isDrawn m_x m_begin m_round m_roundCards m_fate m_any m_bothSend m_meanCards m_bestSum m_fitMany m_fitFirst m_fitSecond)), ((m_a 17), .inl (cI, 25, .inl m_has_c)), ((m_a 19), .inl (cI, 240, .inl g49))]) [0, 1, 2] rfl
  have hD9 := hD.sub (ws' := [(m, .inr (11, mG m_a 0 m_taped m_at m_token m_place m_value m_word m_bad m_badPlace m_fault m_faultPlace m_willing m_will m_forgot m_isDrawn m_x m_begin m_round m_roundCards m_fate m_any m_bothSend m_meanCards m_bestSum m_fitMany m_fitFirst m_fitSecond)), ((m_a 17), .inl (cI, 25, .inl m_has_c)), ((m_a 19), .inl (cI, 240, .inl g49))]) [0, 1, 2] (by decide) rfl
  exact W.iret (v := y37) hx hb hr (fun t ht hW => ⟨⟨y37, (0, g49), rfl, ⟨(show ir (0 : Int32).toInt 0 0 by decide), a49, (ir_w r37 (by decide) (by decide))⟩, ⟨by rw [ht]; exact hP9, va_K.moved hW.alike hK, hD9⟩⟩, hS.F ht⟩) hS.2.2 dX12_begin_51
def v_X12_lose : List Cond := .code yX12_lose cX12_lose 6 (some .int) :: (([.fieldLink RX12 107 "CardsAtYuleModel" "thrown" "I", .methodLink RX12 281 yX12_isPair, .instanceMethod yX12_isPair, .selects RX12 yX12_isPair yX12_isPair, .initialized RX12, .methodLink RX12 340 yX12_isSide, .static yX12_isSide, .methodLink RX12 343 yX12_isYear, .instanceMethod yX12_isYear, .selects RX12 yX12_isYear yX12_isYear, .methodLink RX12 112 yX12_in, .static yX12_in, .fieldLink RX12 43 "CardsAtYuleModel" "lost" "[J", .methodLink RX12 540 yX12_withBit, .static yX12_withBit] : List Cond) ++ (v_X12_isPair ++ (v_X12_isSide ++ (v_X12_isYear ++ (v_X12_in ++ (v_X12_withBit ++ (wsX120 ++ ([] : List Cond))))))))
theorem good_v_X12_lose : v_X12_lose.all goodWord = true := ga_c (by decide +kernel) (ga_a (by decide +kernel) (ga_a good_v_X12_isPair (ga_a good_v_X12_isSide (ga_a good_v_X12_isYear (ga_a good_v_X12_in (ga_a good_v_X12_withBit (ga_a good_wsX120 rfl)))))))
set_option maxHeartbeats 4000000 in
set_option maxRecDepth 100000 in
theorem q_X12_lose (l : Launch) (g : va_G) (cI cJ cB cZ cL : ClassId) (p0 : Int32) (p1 : Int32) (p2 : Int32) (p3 : Int32) (m : Nat) (m_a : Nat → Nat) (m_thrown : Int32) (m_taped : Int32) (m_at : Int32) (m_token : Int32) (m_place : Int32) (m_value : Int32) (m_word : Int64) (m_bad : Int32) (m_badPlace : Int32) (m_fault : Int32) (m_faultPlace : Int32) (m_willing : Int32) (m_will : Int32) (m_forgot : Int32) (m_isDrawn : Int32) (m_x : Int64) (m_begin : Int32) (m_round : Int32) (m_roundCards : Int32) (m_fate : Int32) (m_any : Int64) (m_bothSend : Int64) (m_meanCards : Int64) (m_bestSum : Int32) (m_fitMany : Int32) (m_fitFirst : Int64) (m_fitSecond : Int64) (m_has_c : Nat → Int32) (m_lost_c : Nat → Int64) (sz : Nat) (hv_m_taped : ir m_taped.toInt 0 1600) (hv_m_at : ir m_at.toInt 0 1600) (hv_m_will : ir m_will.toInt 0 1) (hv_m_isDrawn : ir m_isDrawn.toInt 0 1) (ha_m_has_c : hasI m_has_c) : Met l yX12_lose v_X12_lose ({ frames := 2, cells := 0, slots := 0, locals := 47 }) (va_Pc [.ref m, .int p0, .int p1, .int p2, .int p3] (pRW g (tyT cI cJ cB cZ cL) [(m, .inr (11, mG m_a m_thrown m_taped m_at m_token m_place m_value m_word m_bad m_badPlace m_fault m_faultPlace m_willing m_will m_forgot m_isDrawn m_x m_begin m_round m_roundCards m_fate m_any m_bothSend m_meanCards m_bestSum m_fitMany m_fitFirst m_fitSecond)), ((m_a 17), .inl (cI, 25, .inl m_has_c)), ((m_a 20), .inl (cJ, 160, .inr (.inl m_lost_c)))] sz)) (va_Qi (fun (r : Int32) (u : Int32 × (Nat → Int64)) => match u with | (n_m_thrown, n_m_lost_c) => (ir n_m_thrown.toInt 0 0) ∧ (ir r.toInt (-2) 1)) (fun (u : Int32 × (Nat → Int64)) (t : State) => bRW g (tyT cI cJ cB cZ cL) (va_A [(m, .inr (11, mG m_a m_thrown m_taped m_at m_token m_place m_value m_word m_bad m_badPlace m_fault m_faultPlace m_willing m_will m_forgot m_isDrawn m_x m_begin m_round m_roundCards m_fate m_any m_bothSend m_meanCards m_bestSum m_fitMany m_fitFirst m_fitSecond)), ((m_a 17), .inl (cI, 25, .inl m_has_c)), ((m_a 20), .inl (cJ, 160, .inr (.inl m_lost_c)))] sz) (match u with | (n_m_thrown, n_m_lost_c) => [(m, .inr (11, mG m_a n_m_thrown m_taped m_at m_token m_place m_value m_word m_bad m_badPlace m_fault m_faultPlace m_willing m_will m_forgot m_isDrawn m_x m_begin m_round m_roundCards m_fate m_any m_bothSend m_meanCards m_bestSum m_fitMany m_fitFirst m_fitSecond)), ((m_a 17), .inl (cI, 25, .inl m_has_c)), ((m_a 20), .inl (cJ, 160, .inr (.inl n_m_lost_c)))]) t) (va_A [(m, .inr (11, mG m_a m_thrown m_taped m_at m_token m_place m_value m_word m_bad m_badPlace m_fault m_faultPlace m_willing m_will m_forgot m_isDrawn m_x m_begin m_round m_roundCards m_fate m_any m_bothSend m_meanCards m_bestSum m_fitMany m_fitFirst m_fitSecond)), ((m_a 17), .inl (cI, 25, .inl m_has_c)), ((m_a 20), .inl (cJ, 160, .inr (.inl m_lost_c)))] sz)) 0 0 (va_A [(m, .inr (11, mG m_a m_thrown m_taped m_at m_token m_place m_value m_word m_bad m_badPlace m_fault m_faultPlace m_willing m_will m_forgot m_isDrawn m_x m_begin m_round m_roundCards m_fate m_any m_bothSend m_meanCards m_bestSum m_fitMany m_fitFirst m_fitSecond)), ((m_a 17), .inl (cI, 25, .inl m_has_c)), ((m_a 20), .inl (cJ, 160, .inr (.inl m_lost_c)))] sz) := by
  refine Met.ofW (cc := cX12_lose) (maxL := 6) (ret := (some .int)) (by decide) rfl ?_
  intro p e s mth args below meth c s₁ B hml hv
  obtain ⟨rfl, hsz, hP, hK, hD0⟩ := hv
  have hx := B.exec
  have hb := B.bytes
  have hr := B.returns
  have hts := atoms_spec (ws := v_X12_lose) B.pre
  have hown : s.vm.findClass RX12 = some mth.cls := findClass_of_methodNamed B.named
  have hlocks := B.notSynchronized
  clear B
  subst hsz
  have iX12 : ∀ w ∈ wsX120, w ∈ v_X12_lose := (fun _ h => List.mem_cons_of_mem _ (List.mem_append_right _ (List.mem_append_right _ (List.mem_append_right _ (List.mem_append_right _ (List.mem_append_right _ (List.mem_append_right _ (List.mem_append_left _ h))))))))
  have hD := hD0.self (sz := s.heap.size)
  generalize hAe : (va_A [(m, .inr (11, mG m_a m_thrown m_taped m_at m_token m_place m_value m_word m_bad m_badPlace m_fault m_faultPlace m_willing m_will m_forgot m_isDrawn m_x m_begin m_round m_roundCards m_fate m_any m_bothSend m_meanCards m_bestSum m_fitMany m_fitFirst m_fitSecond)), ((m_a 17), .inl (cI, 25, .inl m_has_c)), ((m_a 20), .inl (cJ, 160, .inr (.inl m_lost_c)))] s.heap.size) = A at hD ⊢
  have hA : ∀ q : Nat, s.heap.size ≤ q → A q := fun q h => by rw [← hAe]; exact Or.inr h
  have hS : va_S A s.heap s.heap [] := va_S.rf
  have hl := lv_entry ([.ref m, .int p0, .int p1, .int p2, .int p3]) (n := 6) (Nat.le_of_ble_eq_true rfl)
  rw [lg_entry_eq]
  generalize (lg_sl ([.ref m, .int p0, .int p1, .int p2, .int p3]) ++ List.replicate (6 - (lg_sl ([.ref m, .int p0, .int p1, .int p2, .int p3])).length) Slot.unset).toArray = ls at hl ⊢
  generalize ([.ref m, .int p0, .int p1, .int p2, .int p3] : List Value).toArray = av at hts ⊢
  generalize hQ : MQ below _ av s _ _ A = QQ
  have hl : lv_has ls 6 [(0, .ref m), (1, .int p0), (2, .int p1), (3, .int p2), (4, .int p3)] := hl
  have hP : va_P g vwCl [(m, .inr (11, mG m_a m_thrown m_taped m_at m_token m_place m_value m_word m_bad m_badPlace m_fault m_faultPlace m_willing m_will m_forgot m_isDrawn m_x m_begin m_round m_roundCards m_fate m_any m_bothSend m_meanCards m_bestSum m_fitMany m_fitFirst m_fitSecond)), ((m_a 17), .inl (cI, 25, .inl m_has_c)), ((m_a 20), .inl (cJ, 160, .inr (.inl m_lost_c)))] s.heap := hP
  refine lv_aload_n hx hb dX12_lose_0 rfl (lv_at hl 0 rfl) ?_
  refine lv_iconst (v := 0) hx hb dX12_lose_1 (by decide) ?_
  refine va_put (D := g) (ci := 11) (v := .int 0) (ty := .int) (C := RX12) (T := TX12) (N := 56) hx hb hts iX12 tyX12 tyX12_ok nmX12 hown hK hP hD hS 0 rfl rfl 0 (by decide) (hts (.fieldLink RX12 107 "CardsAtYuleModel" "thrown" "I") (List.mem_cons_of_mem _ (List.mem_append_left _ (List.mem_of_getElem? (i := 0) rfl)))) (fun _ h9 => h9) rfl (by decide +kernel) rfl rfl (Nat.le_of_ble_eq_true rfl) dX12_lose_2 (fun H locs hP hD hS => ?_)
  have hP : va_P g vwCl [(m, .inr (11, mG m_a 0 m_taped m_at m_token m_place m_value m_word m_bad m_badPlace m_fault m_faultPlace m_willing m_will m_forgot m_isDrawn m_x m_begin m_round m_roundCards m_fate m_any m_bothSend m_meanCards m_bestSum m_fitMany m_fitFirst m_fitSecond)), ((m_a 17), .inl (cI, 25, .inl m_has_c)), ((m_a 20), .inl (cJ, 160, .inr (.inl m_lost_c)))] H := hP
  have hD : va_D A [(m, .inr (11, mG m_a 0 m_taped m_at m_token m_place m_value m_word m_bad m_badPlace m_fault m_faultPlace m_willing m_will m_forgot m_isDrawn m_x m_begin m_round m_roundCards m_fate m_any m_bothSend m_meanCards m_bestSum m_fitMany m_fitFirst m_fitSecond)), ((m_a 17), .inl (cI, 25, .inl m_has_c)), ((m_a 20), .inl (cJ, 160, .inr (.inl m_lost_c)))] := hD
  refine lv_aload_n hx hb dX12_lose_5 rfl (lv_at hl 0 rfl) ?_
  refine lv_iload_n hx hb dX12_lose_6 rfl (lv_at hl 1 rfl) ?_
  refine ro_i (va_runV (As := [.int p0]) (rest := []) ⟨hx, hb, hml, hown, hts⟩ (q_X12_isPair l g cI cJ cB cZ cL p0 m m_a 0 m_taped m_at m_token m_place m_value m_word m_bad m_badPlace m_fault m_faultPlace m_willing m_will m_forgot m_isDrawn m_x m_begin m_round m_roundCards m_fate m_any m_bothSend m_meanCards m_bestSum m_fitMany m_fitFirst m_fitSecond m_has_c H.size hv_m_taped hv_m_at hv_m_will hv_m_isDrawn ha_m_has_c) (cwV 1 hts (goodIn_app (g_4 (List.mem_cons_of_mem _ (List.mem_append_left _ (List.mem_of_getElem? (i := 1) rfl))) (List.mem_cons_of_mem _ (List.mem_append_left _ (List.mem_of_getElem? (i := 2) rfl))) (List.mem_cons_of_mem _ (List.mem_append_left _ (List.mem_of_getElem? (i := 3) rfl))) (List.mem_cons_of_mem _ (List.mem_append_left _ (List.mem_of_getElem? (i := 4) rfl))) (by decide +kernel)) (goodIn_sub (fun _ h => List.mem_cons_of_mem _ (List.mem_append_right _ (List.mem_append_left _ h))) good_v_X12_isPair)) rfl rfl rfl (by decide +kernel) ⟨Nat.le_of_ble_eq_true rfl, Nat.le_of_ble_eq_true rfl⟩) (pv_RO (q := (RX12, TX12, 56)) (ci := 11) (q0 := 0) (wc := [(m, .inr (11, mG m_a 0 m_taped m_at m_token m_place m_value m_word m_bad m_badPlace m_fault m_faultPlace m_willing m_will m_forgot m_isDrawn m_x m_begin m_round m_roundCards m_fate m_any m_bothSend m_meanCards m_bestSum m_fitMany m_fitFirst m_fitSecond)), ((m_a 17), .inl (cI, 25, .inl m_has_c))]) hK hP [0, 1] rfl rfl rfl) rfl rfl hl.1 rfl (lv_room (Nat.le_of_ble_eq_true rfl)) dX12_lose_7 ⟨Nat.le_of_ble_eq_true rfl, Nat.le_of_ble_eq_true rfl⟩) hS hA hP (fun r7 u7 H locs hw7 hP hS => ?_)
  have hw7_0 := hw7
  rcases hw7_0 with ⟨er7, fc7_0, fc7_1⟩ | er7
  rotate_left 1
  · subst er7
    refine lv_if_eq (tgt := 40) hx hb dX12_lose_10 (by decide) (fun _ => ?_) (fun c => absurd c (by decide))
    refine lv_bipush (v := (-2)) hx hb dX12_lose_40 (by decide) ?_
    subst hQ
    have hP9 := hP.sub (ws' := [(m, .inr (11, mG m_a 0 m_taped m_at m_token m_place m_value m_word m_bad m_badPlace m_fault m_faultPlace m_willing m_will m_forgot m_isDrawn m_x m_begin m_round m_roundCards m_fate m_any m_bothSend m_meanCards m_bestSum m_fitMany m_fitFirst m_fitSecond)), ((m_a 17), .inl (cI, 25, .inl m_has_c)), ((m_a 20), .inl (cJ, 160, .inr (.inl m_lost_c)))]) [0, 1, 2] rfl
    have hD9 := hD.sub (ws' := [(m, .inr (11, mG m_a 0 m_taped m_at m_token m_place m_value m_word m_bad m_badPlace m_fault m_faultPlace m_willing m_will m_forgot m_isDrawn m_x m_begin m_round m_roundCards m_fate m_any m_bothSend m_meanCards m_bestSum m_fitMany m_fitFirst m_fitSecond)), ((m_a 17), .inl (cI, 25, .inl m_has_c)), ((m_a 20), .inl (cJ, 160, .inr (.inl m_lost_c)))]) [0, 1, 2] (by decide) rfl
    exact W.iret (v := (-2)) hx hb hr (fun t ht hW => ⟨⟨(-2), (0, m_lost_c), rfl, ⟨(show ir (0 : Int32).toInt 0 0 by decide), (show ir ((-2) : Int32).toInt (-2) 1 by decide)⟩, ⟨by rw [ht]; exact hP9, va_K.moved hW.alike hK, hD9⟩⟩, hS.F ht⟩) hS.2.2 dX12_lose_42
  subst er7
  have fc7_0 : 0 ≤ p0.toInt := fc7_0
  have r7_0b : ir p0.toInt 0 2147483647 := ir_leb fc7_0 (ir_c 0) (rg_all p0) (by decide)
  have fc7_1 : p0.toInt ≤ 15 := fc7_1
  have r7_1a : ir p0.toInt 0 15 := ir_lea fc7_1 r7_0b (ir_c 15) (by decide)
  refine lv_if_eq (tgt := 40) hx hb dX12_lose_10 (by decide) (fun c => absurd c (by decide)) (fun _ => ?_)
  refine lv_iload_n hx hb dX12_lose_13 rfl (lv_at hl 2 rfl) ?_
  refine ro_i (va_runS (As := [.int p1]) (rest := []) ⟨hx, hb, hml, hown, hts⟩ (q_X12_isSide l g cI cJ cB cZ cL p1 H.size ) (va_cwS 1 hts (goodIn_app (g_3 (List.mem_cons_of_mem _ (List.mem_append_left _ (List.mem_of_getElem? (i := 5) rfl))) (List.mem_cons_of_mem _ (List.mem_append_left _ (List.mem_of_getElem? (i := 6) rfl))) (List.mem_cons_of_mem _ (List.mem_append_left _ (List.mem_of_getElem? (i := 4) rfl))) (by decide +kernel)) (goodIn_sub (fun _ h => List.mem_cons_of_mem _ (List.mem_append_right _ (List.mem_append_right _ (List.mem_append_left _ h)))) good_v_X12_isSide)) rfl rfl rfl (by decide +kernel) ⟨Nat.le_of_ble_eq_true rfl, Nat.le_of_ble_eq_true rfl⟩) (ps_RO (wc := []) hK hP [] rfl) rfl rfl hl.1 rfl (lv_room (Nat.le_of_ble_eq_true rfl)) dX12_lose_14 ⟨Nat.le_of_ble_eq_true rfl, Nat.le_of_ble_eq_true rfl⟩) hS hA hP (fun r14 u14 H locs hw14 hP hS => ?_)
  have hw14_0 := hw14
  rcases hw14_0 with ⟨er14, fc14_0, fc14_1⟩ | er14
  rotate_left 1
  · subst er14
    refine lv_if_eq (tgt := 40) hx hb dX12_lose_17 (by decide) (fun _ => ?_) (fun c => absurd c (by decide))
    refine lv_bipush (v := (-2)) hx hb dX12_lose_40 (by decide) ?_
    subst hQ
    have hP9 := hP.sub (ws' := [(m, .inr (11, mG m_a 0 m_taped m_at m_token m_place m_value m_word m_bad m_badPlace m_fault m_faultPlace m_willing m_will m_forgot m_isDrawn m_x m_begin m_round m_roundCards m_fate m_any m_bothSend m_meanCards m_bestSum m_fitMany m_fitFirst m_fitSecond)), ((m_a 17), .inl (cI, 25, .inl m_has_c)), ((m_a 20), .inl (cJ, 160, .inr (.inl m_lost_c)))]) [0, 1, 2] rfl
    have hD9 := hD.sub (ws' := [(m, .inr (11, mG m_a 0 m_taped m_at m_token m_place m_value m_word m_bad m_badPlace m_fault m_faultPlace m_willing m_will m_forgot m_isDrawn m_x m_begin m_round m_roundCards m_fate m_any m_bothSend m_meanCards m_bestSum m_fitMany m_fitFirst m_fitSecond)), ((m_a 17), .inl (cI, 25, .inl m_has_c)), ((m_a 20), .inl (cJ, 160, .inr (.inl m_lost_c)))]) [0, 1, 2] (by decide) rfl
    exact W.iret (v := (-2)) hx hb hr (fun t ht hW => ⟨⟨(-2), (0, m_lost_c), rfl, ⟨(show ir (0 : Int32).toInt 0 0 by decide), (show ir ((-2) : Int32).toInt (-2) 1 by decide)⟩, ⟨by rw [ht]; exact hP9, va_K.moved hW.alike hK, hD9⟩⟩, hS.F ht⟩) hS.2.2 dX12_lose_42
  subst er14
  have fc14_0 : 0 ≤ p1.toInt := fc14_0
  have r14_0b : ir p1.toInt 0 2147483647 := ir_leb fc14_0 (ir_c 0) (rg_all p1) (by decide)
  have fc14_1 : p1.toInt ≤ 1 := fc14_1
  have r14_1a : ir p1.toInt 0 1 := ir_lea fc14_1 r14_0b (ir_c 1) (by decide)
  refine lv_if_eq (tgt := 40) hx hb dX12_lose_17 (by decide) (fun c => absurd c (by decide)) (fun _ => ?_)
  refine lv_aload_n hx hb dX12_lose_20 rfl (lv_at hl 0 rfl) ?_
  refine lv_iload_n hx hb dX12_lose_21 rfl (lv_at hl 3 rfl) ?_
  refine lv_i2l (v := p2.toInt64) hx hb dX12_lose_22 rfl ?_
  refine ro_i (va_runV (As := [.long p2.toInt64]) (rest := []) ⟨hx, hb, hml, hown, hts⟩ (q_X12_isYear l g cI cJ cB cZ cL p2.toInt64 p2.toInt m m_a 0 m_taped m_at m_token m_place m_value m_word m_bad m_badPlace m_fault m_faultPlace m_willing m_will m_forgot m_isDrawn m_x m_begin m_round m_roundCards m_fate m_any m_bothSend m_meanCards m_bestSum m_fitMany m_fitFirst m_fitSecond m_has_c H.size (z_i2l rfl) hv_m_taped hv_m_at hv_m_will hv_m_isDrawn ha_m_has_c) (cwV 1 hts (goodIn_app (g_4 (List.mem_cons_of_mem _ (List.mem_append_left _ (List.mem_of_getElem? (i := 7) rfl))) (List.mem_cons_of_mem _ (List.mem_append_left _ (List.mem_of_getElem? (i := 8) rfl))) (List.mem_cons_of_mem _ (List.mem_append_left _ (List.mem_of_getElem? (i := 9) rfl))) (List.mem_cons_of_mem _ (List.mem_append_left _ (List.mem_of_getElem? (i := 4) rfl))) (by decide +kernel)) (goodIn_sub (fun _ h => List.mem_cons_of_mem _ (List.mem_append_right _ (List.mem_append_right _ (List.mem_append_right _ (List.mem_append_left _ h))))) good_v_X12_isYear)) rfl rfl rfl (by decide +kernel) ⟨Nat.le_of_ble_eq_true rfl, Nat.le_of_ble_eq_true rfl⟩) (pv_RO (q := (RX12, TX12, 56)) (ci := 11) (q0 := 0) (wc := [(m, .inr (11, mG m_a 0 m_taped m_at m_token m_place m_value m_word m_bad m_badPlace m_fault m_faultPlace m_willing m_will m_forgot m_isDrawn m_x m_begin m_round m_roundCards m_fate m_any m_bothSend m_meanCards m_bestSum m_fitMany m_fitFirst m_fitSecond)), ((m_a 17), .inl (cI, 25, .inl m_has_c))]) hK hP [0, 1] rfl rfl rfl) rfl rfl hl.1 rfl (lv_room (Nat.le_of_ble_eq_true rfl)) dX12_lose_23 ⟨Nat.le_of_ble_eq_true rfl, Nat.le_of_ble_eq_true rfl⟩) hS hA hP (fun r23 u23 H locs hw23 hP hS => ?_)
  have hw23_0 := hw23
  rcases hw23_0 with ⟨er23, fc23_0, fc23_1⟩ | er23
  rotate_left 1
  · subst er23
    refine lv_if_eq (tgt := 40) hx hb dX12_lose_26 (by decide) (fun _ => ?_) (fun c => absurd c (by decide))
    refine lv_bipush (v := (-2)) hx hb dX12_lose_40 (by decide) ?_
    subst hQ
    have hP9 := hP.sub (ws' := [(m, .inr (11, mG m_a 0 m_taped m_at m_token m_place m_value m_word m_bad m_badPlace m_fault m_faultPlace m_willing m_will m_forgot m_isDrawn m_x m_begin m_round m_roundCards m_fate m_any m_bothSend m_meanCards m_bestSum m_fitMany m_fitFirst m_fitSecond)), ((m_a 17), .inl (cI, 25, .inl m_has_c)), ((m_a 20), .inl (cJ, 160, .inr (.inl m_lost_c)))]) [0, 1, 2] rfl
    have hD9 := hD.sub (ws' := [(m, .inr (11, mG m_a 0 m_taped m_at m_token m_place m_value m_word m_bad m_badPlace m_fault m_faultPlace m_willing m_will m_forgot m_isDrawn m_x m_begin m_round m_roundCards m_fate m_any m_bothSend m_meanCards m_bestSum m_fitMany m_fitFirst m_fitSecond)), ((m_a 17), .inl (cI, 25, .inl m_has_c)), ((m_a 20), .inl (cJ, 160, .inr (.inl m_lost_c)))]) [0, 1, 2] (by decide) rfl
    exact W.iret (v := (-2)) hx hb hr (fun t ht hW => ⟨⟨(-2), (0, m_lost_c), rfl, ⟨(show ir (0 : Int32).toInt 0 0 by decide), (show ir ((-2) : Int32).toInt (-2) 1 by decide)⟩, ⟨by rw [ht]; exact hP9, va_K.moved hW.alike hK, hD9⟩⟩, hS.F ht⟩) hS.2.2 dX12_lose_42
  subst er23
  have fc23_0 : 0 ≤ p2.toInt := fc23_0
  have r23_0b : ir p2.toInt 0 2147483647 := ir_leb fc23_0 (ir_c 0) (rg_all p2) (by decide)
  have fc23_1 : p2.toInt ≤ 39 := fc23_1
  have r23_1a : ir p2.toInt 0 39 := ir_lea fc23_1 r23_0b (ir_c 39) (by decide)
  refine lv_if_eq (tgt := 40) hx hb dX12_lose_26 (by decide) (fun c => absurd c (by decide)) (fun _ => ?_)
  refine lv_iload hx hb dX12_lose_29 (lv_at hl 4 rfl) ?_
  refine lv_i2l (v := p3.toInt64) hx hb dX12_lose_31 rfl ?_
  refine lv_lconst (v := 0) hx hb dX12_lose_32 (by decide) ?_
  refine lv_lconst (v := 1) hx hb dX12_lose_33 (by decide) ?_
  refine ro_i (va_runS (As := [.long p3.toInt64, .long 0, .long 1]) (rest := []) ⟨hx, hb, hml, hown, hts⟩ (q_X12_in l g cI cJ cB cZ cL p3.toInt64 p3.toInt 0 0 1 1 H.size (z_i2l rfl) rfl rfl) (va_cwS 3 hts (goodIn_app (g_3 (List.mem_cons_of_mem _ (List.mem_append_left _ (List.mem_of_getElem? (i := 10) rfl))) (List.mem_cons_of_mem _ (List.mem_append_left _ (List.mem_of_getElem? (i := 11) rfl))) (List.mem_cons_of_mem _ (List.mem_append_left _ (List.mem_of_getElem? (i := 4) rfl))) (by decide +kernel)) (goodIn_sub (fun _ h => List.mem_cons_of_mem _ (List.mem_append_right _ (List.mem_append_right _ (List.mem_append_right _ (List.mem_append_right _ (List.mem_append_left _ h)))))) good_v_X12_in)) rfl rfl rfl (by decide +kernel) ⟨Nat.le_of_ble_eq_true rfl, Nat.le_of_ble_eq_true rfl⟩) (ps_RO (wc := []) hK hP [] rfl) rfl rfl hl.1 rfl (lv_room (Nat.le_of_ble_eq_true rfl)) dX12_lose_34 ⟨Nat.le_of_ble_eq_true rfl, Nat.le_of_ble_eq_true rfl⟩) hS hA hP (fun r34 u34 H locs hw34 hP hS => ?_)
  have hw34_0 := hw34
  rcases hw34_0 with ⟨er34, fc34_0, fc34_1⟩ | er34
  rotate_left 1
  · subst er34
    refine lv_if_ne (tgt := 43) hx hb dX12_lose_37 (by decide) (fun c => absurd c (by decide)) (fun _ => ?_)
    refine lv_bipush (v := (-2)) hx hb dX12_lose_40 (by decide) ?_
    subst hQ
    have hP9 := hP.sub (ws' := [(m, .inr (11, mG m_a 0 m_taped m_at m_token m_place m_value m_word m_bad m_badPlace m_fault m_faultPlace m_willing m_will m_forgot m_isDrawn m_x m_begin m_round m_roundCards m_fate m_any m_bothSend m_meanCards m_bestSum m_fitMany m_fitFirst m_fitSecond)), ((m_a 17), .inl (cI, 25, .inl m_has_c)), ((m_a 20), .inl (cJ, 160, .inr (.inl m_lost_c)))]) [0, 1, 2] rfl
    have hD9 := hD.sub (ws' := [(m, .inr (11, mG m_a 0 m_taped m_at m_token m_place m_value m_word m_bad m_badPlace m_fault m_faultPlace m_willing m_will m_forgot m_isDrawn m_x m_begin m_round m_roundCards m_fate m_any m_bothSend m_meanCards m_bestSum m_fitMany m_fitFirst m_fitSecond)), ((m_a 17), .inl (cI, 25, .inl m_has_c)), ((m_a 20), .inl (cJ, 160, .inr (.inl m_lost_c)))]) [0, 1, 2] (by decide) rfl
    exact W.iret (v := (-2)) hx hb hr (fun t ht hW => ⟨⟨(-2), (0, m_lost_c), rfl, ⟨(show ir (0 : Int32).toInt 0 0 by decide), (show ir ((-2) : Int32).toInt (-2) 1 by decide)⟩, ⟨by rw [ht]; exact hP9, va_K.moved hW.alike hK, hD9⟩⟩, hS.F ht⟩) hS.2.2 dX12_lose_42
  subst er34
  have fc34_0 : 0 ≤ p3.toInt := fc34_0
  have r34_0b : ir p3.toInt 0 2147483647 := ir_leb fc34_0 (ir_c 0) (rg_all p3) (by decide)
  have fc34_1 : p3.toInt ≤ 1 := fc34_1
  have r34_1a : ir p3.toInt 0 1 := ir_lea fc34_1 r34_0b (ir_c 1) (by decide)
  refine lv_if_ne (tgt := 43) hx hb dX12_lose_37 (by decide) (fun _ => ?_) (fun c => absurd c (by decide))
  refine lv_aload_n hx hb dX12_lose_43 rfl (lv_at hl 0 rfl) ?_
  refine va_get (D := g) (ci := 11) (v := .ref (m_a 20)) (C := RX12) (T := TX12) (N := 56) hx hb hts iX12 hown hK hP 0 rfl rfl 20 (by decide) (hts (.fieldLink RX12 43 "CardsAtYuleModel" "lost" "[J") (List.mem_cons_of_mem _ (List.mem_append_left _ (List.mem_of_getElem? (i := 12) rfl)))) (fun _ h9 => h9) rfl dX12_lose_44 ?_
  refine lv_iconst (v := 2) hx hb dX12_lose_47 (by decide) ?_
  refine lv_iload_n hx hb dX12_lose_48 rfl (lv_at hl 1 rfl) ?_
  refine lv_imul hx hb dX12_lose_49 ?_
  refine lv_topi (fun y49 e49 => ?_)
  have q49 : y49.toInt = 2 * p0.toInt := by rw [e49]; exact mu_z rfl rfl (ir_c 2) r7_1a (by decide) (by decide) (by decide)
  have r49 : ir y49.toInt 0 30 := mu_r q49 (ir_c 2) r7_1a (by decide) (by decide) (by decide) (by decide)
  refine lv_iload_n hx hb dX12_lose_50 rfl (lv_at hl 2 rfl) ?_
  refine lv_iadd hx hb dX12_lose_51 ?_
  refine lv_topi (fun y51 e51 => ?_)
  have q51 : y51.toInt = y49.toInt + p1.toInt := by rw [e51]; exact ad_z rfl rfl r49 r14_1a (by decide) (by decide)
  have r51 : ir y51.toInt 0 31 := ad_r q51 r49 r14_1a (by decide) (by decide)
  refine va_lald (D := g) hx hb hK hP 2 1 rfl rfl (vi_rg rfl r51 (by decide) (by decide)) dX12_lose_52 ?_
  refine lv_topl (fun y52 e52 => ?_)
  refine lv_iload_n hx hb dX12_lose_53 rfl (lv_at hl 3 rfl) ?_
  refine lv_lshr (v := (y52 >>> (p2.toInt64 &&& 63))) hx hb dX12_lose_54 rfl ?_
  refine lv_topl (fun y54 e54 => ?_)
  refine lv_lconst (v := 1) hx hb dX12_lose_55 (by decide) ?_
  refine lv_land hx hb dX12_lose_56 ?_
  refine lv_topl (fun y56 e56 => ?_)
  have r56 : ir y56.toInt 0 1 := by rw [e56]; exact lan_y (by decide)
  refine lv_l2i (v := y56.toInt32) hx hb dX12_lose_57 rfl ?_
  refine lv_topi (fun y57 e57 => ?_)
  have q57 : y57.toInt = y56.toInt := by rw [e57]; exact li_z rfl r56 (by decide) (by decide)
  have r57 : ir y57.toInt 0 1 := q57 ▸ r56
  refine lv_istore (lv' := [(5, .int y57), (0, .ref m), (1, .int p0), (2, .int p1), (3, .int p2), (4, .int p3)]) hx hb dX12_lose_58 hl (by decide) rfl (fun ls hl => ?_)
  refine lv_aload_n hx hb dX12_lose_60 rfl (lv_at hl 1 rfl) ?_
  refine va_get (D := g) (ci := 11) (v := .ref (m_a 20)) (C := RX12) (T := TX12) (N := 56) hx hb hts iX12 hown hK hP 0 rfl rfl 20 (by decide) (hts (.fieldLink RX12 43 "CardsAtYuleModel" "lost" "[J") (List.mem_cons_of_mem _ (List.mem_append_left _ (List.mem_of_getElem? (i := 12) rfl)))) (fun _ h9 => h9) rfl dX12_lose_61 ?_
  refine lv_iconst (v := 2) hx hb dX12_lose_64 (by decide) ?_
  refine lv_iload_n hx hb dX12_lose_65 rfl (lv_at hl 2 rfl) ?_
  refine lv_imul hx hb dX12_lose_66 ?_
  refine lv_topi (fun y66 e66 => ?_)
  have q66 : y66.toInt = 2 * p0.toInt := by rw [e66]; exact mu_z rfl rfl (ir_c 2) r7_1a (by decide) (by decide) (by decide)
  have r66 : ir y66.toInt 0 30 := mu_r q66 (ir_c 2) r7_1a (by decide) (by decide) (by decide) (by decide)
  refine lv_iload_n hx hb dX12_lose_67 rfl (lv_at hl 3 rfl) ?_
  refine lv_iadd hx hb dX12_lose_68 ?_
  refine lv_topi (fun y68 e68 => ?_)
  have q68 : y68.toInt = y66.toInt + p1.toInt := by rw [e68]; exact ad_z rfl rfl r66 r14_1a (by decide) (by decide)
  have r68 : ir y68.toInt 0 31 := ad_r q68 r66 r14_1a (by decide) (by decide)
  refine lv_aload_n hx hb dX12_lose_69 rfl (lv_at hl 1 rfl) ?_
  refine va_get (D := g) (ci := 11) (v := .ref (m_a 20)) (C := RX12) (T := TX12) (N := 56) hx hb hts iX12 hown hK hP 0 rfl rfl 20 (by decide) (hts (.fieldLink RX12 43 "CardsAtYuleModel" "lost" "[J") (List.mem_cons_of_mem _ (List.mem_append_left _ (List.mem_of_getElem? (i := 12) rfl)))) (fun _ h9 => h9) rfl dX12_lose_70 ?_
  refine lv_iconst (v := 2) hx hb dX12_lose_73 (by decide) ?_
  refine lv_iload_n hx hb dX12_lose_74 rfl (lv_at hl 2 rfl) ?_
  refine lv_imul hx hb dX12_lose_75 ?_
  refine lv_topi (fun y75 e75 => ?_)
  have q75 : y75.toInt = 2 * p0.toInt := by rw [e75]; exact mu_z rfl rfl (ir_c 2) r7_1a (by decide) (by decide) (by decide)
  have r75 : ir y75.toInt 0 30 := mu_r q75 (ir_c 2) r7_1a (by decide) (by decide) (by decide) (by decide)
  refine lv_iload_n hx hb dX12_lose_76 rfl (lv_at hl 3 rfl) ?_
  refine lv_iadd hx hb dX12_lose_77 ?_
  refine lv_topi (fun y77 e77 => ?_)
  have q77 : y77.toInt = y75.toInt + p1.toInt := by rw [e77]; exact ad_z rfl rfl r75 r14_1a (by decide) (by decide)
  have r77 : ir y77.toInt 0 31 := ad_r q77 r75 r14_1a (by decide) (by decide)
  refine va_lald (D := g) hx hb hK hP 2 1 rfl rfl (vi_rg rfl r77 (by decide) (by decide)) dX12_lose_78 ?_
  refine lv_topl (fun y78 e78 => ?_)
  refine lv_iload_n hx hb dX12_lose_79 rfl (lv_at hl 4 rfl) ?_
  refine lv_iload hx hb dX12_lose_80 (lv_at hl 5 rfl) ?_
  refine ro_l (va_runS (As := [.long y78, .int p2, .int p3]) (rest := [.int y68, .ref (m_a 20)]) ⟨hx, hb, hml, hown, hts⟩ (q_X12_withBit l g cI cJ cB cZ cL y78 p2 p3 H.size ) (va_cwS 3 hts (goodIn_app (g_3 (List.mem_cons_of_mem _ (List.mem_append_left _ (List.mem_of_getElem? (i := 13) rfl))) (List.mem_cons_of_mem _ (List.mem_append_left _ (List.mem_of_getElem? (i := 14) rfl))) (List.mem_cons_of_mem _ (List.mem_append_left _ (List.mem_of_getElem? (i := 4) rfl))) (by decide +kernel)) (goodIn_sub (fun _ h => List.mem_cons_of_mem _ (List.mem_append_right _ (List.mem_append_right _ (List.mem_append_right _ (List.mem_append_right _ (List.mem_append_right _ (List.mem_append_left _ h))))))) good_v_X12_withBit)) rfl rfl rfl (by decide +kernel) ⟨Nat.le_of_ble_eq_true rfl, Nat.le_of_ble_eq_true rfl⟩) (ps_RO (wc := []) hK hP [] rfl) rfl rfl hl.1 rfl (lv_room (Nat.le_of_ble_eq_true rfl)) dX12_lose_82 ⟨Nat.le_of_ble_eq_true rfl, Nat.le_of_ble_eq_true rfl⟩) hS hA hP (fun r82 u82 H locs hw82 hP hS => ?_)
  refine va_last (D := g) hx hb hK hP hD hS 2 1 rfl rfl (vi_rg rfl r68 (by decide) (by decide)) dX12_lose_85 (fun H locs hP hD hS => ?_)
  obtain ⟨g85, e85⟩ : ∃ z, z = vp_updL m_lost_c y68.toNatClampNeg r82 := ⟨_, rfl⟩
  have hP : va_P g vwCl [(m, .inr (11, mG m_a 0 m_taped m_at m_token m_place m_value m_word m_bad m_badPlace m_fault m_faultPlace m_willing m_will m_forgot m_isDrawn m_x m_begin m_round m_roundCards m_fate m_any m_bothSend m_meanCards m_bestSum m_fitMany m_fitFirst m_fitSecond)), ((m_a 17), .inl (cI, 25, .inl m_has_c)), ((m_a 20), .inl (cJ, 160, .inr (.inl (vp_updL m_lost_c y68.toNatClampNeg r82))))] H := hP
  have hD : va_D A [(m, .inr (11, mG m_a 0 m_taped m_at m_token m_place m_value m_word m_bad m_badPlace m_fault m_faultPlace m_willing m_will m_forgot m_isDrawn m_x m_begin m_round m_roundCards m_fate m_any m_bothSend m_meanCards m_bestSum m_fitMany m_fitFirst m_fitSecond)), ((m_a 17), .inl (cI, 25, .inl m_has_c)), ((m_a 20), .inl (cJ, 160, .inr (.inl (vp_updL m_lost_c y68.toNatClampNeg r82))))] := hD
  rw [← e85] at hP hD
  refine lv_iload hx hb dX12_lose_86 (lv_at hl 0 rfl) ?_
  subst hQ
  have hP9 := hP.sub (ws' := [(m, .inr (11, mG m_a 0 m_taped m_at m_token m_place m_value m_word m_bad m_badPlace m_fault m_faultPlace m_willing m_will m_forgot m_isDrawn m_x m_begin m_round m_roundCards m_fate m_any m_bothSend m_meanCards m_bestSum m_fitMany m_fitFirst m_fitSecond)), ((m_a 17), .inl (cI, 25, .inl m_has_c)), ((m_a 20), .inl (cJ, 160, .inr (.inl g85)))]) [0, 1, 2] rfl
  have hD9 := hD.sub (ws' := [(m, .inr (11, mG m_a 0 m_taped m_at m_token m_place m_value m_word m_bad m_badPlace m_fault m_faultPlace m_willing m_will m_forgot m_isDrawn m_x m_begin m_round m_roundCards m_fate m_any m_bothSend m_meanCards m_bestSum m_fitMany m_fitFirst m_fitSecond)), ((m_a 17), .inl (cI, 25, .inl m_has_c)), ((m_a 20), .inl (cJ, 160, .inr (.inl g85)))]) [0, 1, 2] (by decide) rfl
  exact W.iret (v := y57) hx hb hr (fun t ht hW => ⟨⟨y57, (0, g85), rfl, ⟨(show ir (0 : Int32).toInt 0 0 by decide), (ir_w r57 (by decide) (by decide))⟩, ⟨by rw [ht]; exact hP9, va_K.moved hW.alike hK, hD9⟩⟩, hS.F ht⟩) hS.2.2 dX12_lose_88
def v_X12_calls : List Cond := .code yX12_calls cX12_calls 4 (some .int) :: (([.fieldLink RX12 107 "CardsAtYuleModel" "thrown" "I", .methodLink RX12 343 yX12_isYear, .instanceMethod yX12_isYear, .selects RX12 yX12_isYear yX12_isYear, .initialized RX12, .methodLink RX12 112 yX12_in, .static yX12_in, .fieldLink RX12 46 "CardsAtYuleModel" "strikes" "[J", .methodLink RX12 540 yX12_withBit, .static yX12_withBit] : List Cond) ++ (v_X12_isYear ++ (v_X12_in ++ (v_X12_withBit ++ (wsX120 ++ ([] : List Cond))))))
theorem good_v_X12_calls : v_X12_calls.all goodWord = true := ga_c (by decide +kernel) (ga_a (by decide +kernel) (ga_a good_v_X12_isYear (ga_a good_v_X12_in (ga_a good_v_X12_withBit (ga_a good_wsX120 rfl)))))
set_option maxHeartbeats 4000000 in
set_option maxRecDepth 100000 in
theorem q_X12_calls (l : Launch) (g : va_G) (cI cJ cB cZ cL : ClassId) (p0 : Int32) (p1 : Int32) (m : Nat) (m_a : Nat → Nat) (m_thrown : Int32) (m_taped : Int32) (m_at : Int32) (m_token : Int32) (m_place : Int32) (m_value : Int32) (m_word : Int64) (m_bad : Int32) (m_badPlace : Int32) (m_fault : Int32) (m_faultPlace : Int32) (m_willing : Int32) (m_will : Int32) (m_forgot : Int32) (m_isDrawn : Int32) (m_x : Int64) (m_begin : Int32) (m_round : Int32) (m_roundCards : Int32) (m_fate : Int32) (m_any : Int64) (m_bothSend : Int64) (m_meanCards : Int64) (m_bestSum : Int32) (m_fitMany : Int32) (m_fitFirst : Int64) (m_fitSecond : Int64) (m_has_c : Nat → Int32) (m_strikes_c : Nat → Int64) (sz : Nat) (hv_m_taped : ir m_taped.toInt 0 1600) (hv_m_at : ir m_at.toInt 0 1600) (hv_m_will : ir m_will.toInt 0 1) (hv_m_isDrawn : ir m_isDrawn.toInt 0 1) (ha_m_has_c : hasI m_has_c) : Met l yX12_calls v_X12_calls ({ frames := 2, cells := 0, slots := 0, locals := 47 }) (va_Pc [.ref m, .int p0, .int p1] (pRW g (tyT cI cJ cB cZ cL) [(m, .inr (11, mG m_a m_thrown m_taped m_at m_token m_place m_value m_word m_bad m_badPlace m_fault m_faultPlace m_willing m_will m_forgot m_isDrawn m_x m_begin m_round m_roundCards m_fate m_any m_bothSend m_meanCards m_bestSum m_fitMany m_fitFirst m_fitSecond)), ((m_a 17), .inl (cI, 25, .inl m_has_c)), ((m_a 21), .inl (cJ, 5, .inr (.inl m_strikes_c)))] sz)) (va_Qi (fun (r : Int32) (u : Int32 × (Nat → Int64)) => match u with | (n_m_thrown, n_m_strikes_c) => (ir n_m_thrown.toInt 0 0) ∧ (ir r.toInt (-2) 1)) (fun (u : Int32 × (Nat → Int64)) (t : State) => bRW g (tyT cI cJ cB cZ cL) (va_A [(m, .inr (11, mG m_a m_thrown m_taped m_at m_token m_place m_value m_word m_bad m_badPlace m_fault m_faultPlace m_willing m_will m_forgot m_isDrawn m_x m_begin m_round m_roundCards m_fate m_any m_bothSend m_meanCards m_bestSum m_fitMany m_fitFirst m_fitSecond)), ((m_a 17), .inl (cI, 25, .inl m_has_c)), ((m_a 21), .inl (cJ, 5, .inr (.inl m_strikes_c)))] sz) (match u with | (n_m_thrown, n_m_strikes_c) => [(m, .inr (11, mG m_a n_m_thrown m_taped m_at m_token m_place m_value m_word m_bad m_badPlace m_fault m_faultPlace m_willing m_will m_forgot m_isDrawn m_x m_begin m_round m_roundCards m_fate m_any m_bothSend m_meanCards m_bestSum m_fitMany m_fitFirst m_fitSecond)), ((m_a 17), .inl (cI, 25, .inl m_has_c)), ((m_a 21), .inl (cJ, 5, .inr (.inl n_m_strikes_c)))]) t) (va_A [(m, .inr (11, mG m_a m_thrown m_taped m_at m_token m_place m_value m_word m_bad m_badPlace m_fault m_faultPlace m_willing m_will m_forgot m_isDrawn m_x m_begin m_round m_roundCards m_fate m_any m_bothSend m_meanCards m_bestSum m_fitMany m_fitFirst m_fitSecond)), ((m_a 17), .inl (cI, 25, .inl m_has_c)), ((m_a 21), .inl (cJ, 5, .inr (.inl m_strikes_c)))] sz)) 0 0 (va_A [(m, .inr (11, mG m_a m_thrown m_taped m_at m_token m_place m_value m_word m_bad m_badPlace m_fault m_faultPlace m_willing m_will m_forgot m_isDrawn m_x m_begin m_round m_roundCards m_fate m_any m_bothSend m_meanCards m_bestSum m_fitMany m_fitFirst m_fitSecond)), ((m_a 17), .inl (cI, 25, .inl m_has_c)), ((m_a 21), .inl (cJ, 5, .inr (.inl m_strikes_c)))] sz) := by
  refine Met.ofW (cc := cX12_calls) (maxL := 4) (ret := (some .int)) (by decide) rfl ?_
  intro p e s mth args below meth c s₁ B hml hv
  obtain ⟨rfl, hsz, hP, hK, hD0⟩ := hv
  have hx := B.exec
  have hb := B.bytes
  have hr := B.returns
  have hts := atoms_spec (ws := v_X12_calls) B.pre
  have hown : s.vm.findClass RX12 = some mth.cls := findClass_of_methodNamed B.named
  have hlocks := B.notSynchronized
  clear B
  subst hsz
  have iX12 : ∀ w ∈ wsX120, w ∈ v_X12_calls := (fun _ h => List.mem_cons_of_mem _ (List.mem_append_right _ (List.mem_append_right _ (List.mem_append_right _ (List.mem_append_right _ (List.mem_append_left _ h))))))
  have hD := hD0.self (sz := s.heap.size)
  generalize hAe : (va_A [(m, .inr (11, mG m_a m_thrown m_taped m_at m_token m_place m_value m_word m_bad m_badPlace m_fault m_faultPlace m_willing m_will m_forgot m_isDrawn m_x m_begin m_round m_roundCards m_fate m_any m_bothSend m_meanCards m_bestSum m_fitMany m_fitFirst m_fitSecond)), ((m_a 17), .inl (cI, 25, .inl m_has_c)), ((m_a 21), .inl (cJ, 5, .inr (.inl m_strikes_c)))] s.heap.size) = A at hD ⊢
  have hA : ∀ q : Nat, s.heap.size ≤ q → A q := fun q h => by rw [← hAe]; exact Or.inr h
  have hS : va_S A s.heap s.heap [] := va_S.rf
  have hl := lv_entry ([.ref m, .int p0, .int p1]) (n := 4) (Nat.le_of_ble_eq_true rfl)
  rw [lg_entry_eq]
  generalize (lg_sl ([.ref m, .int p0, .int p1]) ++ List.replicate (4 - (lg_sl ([.ref m, .int p0, .int p1])).length) Slot.unset).toArray = ls at hl ⊢
  generalize ([.ref m, .int p0, .int p1] : List Value).toArray = av at hts ⊢
  generalize hQ : MQ below _ av s _ _ A = QQ
  have hl : lv_has ls 4 [(0, .ref m), (1, .int p0), (2, .int p1)] := hl
  have hP : va_P g vwCl [(m, .inr (11, mG m_a m_thrown m_taped m_at m_token m_place m_value m_word m_bad m_badPlace m_fault m_faultPlace m_willing m_will m_forgot m_isDrawn m_x m_begin m_round m_roundCards m_fate m_any m_bothSend m_meanCards m_bestSum m_fitMany m_fitFirst m_fitSecond)), ((m_a 17), .inl (cI, 25, .inl m_has_c)), ((m_a 21), .inl (cJ, 5, .inr (.inl m_strikes_c)))] s.heap := hP
  refine lv_aload_n hx hb dX12_calls_0 rfl (lv_at hl 0 rfl) ?_
  refine lv_iconst (v := 0) hx hb dX12_calls_1 (by decide) ?_
  refine va_put (D := g) (ci := 11) (v := .int 0) (ty := .int) (C := RX12) (T := TX12) (N := 56) hx hb hts iX12 tyX12 tyX12_ok nmX12 hown hK hP hD hS 0 rfl rfl 0 (by decide) (hts (.fieldLink RX12 107 "CardsAtYuleModel" "thrown" "I") (List.mem_cons_of_mem _ (List.mem_append_left _ (List.mem_of_getElem? (i := 0) rfl)))) (fun _ h9 => h9) rfl (by decide +kernel) rfl rfl (Nat.le_of_ble_eq_true rfl) dX12_calls_2 (fun H locs hP hD hS => ?_)
  have hP : va_P g vwCl [(m, .inr (11, mG m_a 0 m_taped m_at m_token m_place m_value m_word m_bad m_badPlace m_fault m_faultPlace m_willing m_will m_forgot m_isDrawn m_x m_begin m_round m_roundCards m_fate m_any m_bothSend m_meanCards m_bestSum m_fitMany m_fitFirst m_fitSecond)), ((m_a 17), .inl (cI, 25, .inl m_has_c)), ((m_a 21), .inl (cJ, 5, .inr (.inl m_strikes_c)))] H := hP
  have hD : va_D A [(m, .inr (11, mG m_a 0 m_taped m_at m_token m_place m_value m_word m_bad m_badPlace m_fault m_faultPlace m_willing m_will m_forgot m_isDrawn m_x m_begin m_round m_roundCards m_fate m_any m_bothSend m_meanCards m_bestSum m_fitMany m_fitFirst m_fitSecond)), ((m_a 17), .inl (cI, 25, .inl m_has_c)), ((m_a 21), .inl (cJ, 5, .inr (.inl m_strikes_c)))] := hD
  refine lv_aload_n hx hb dX12_calls_5 rfl (lv_at hl 0 rfl) ?_
  refine lv_iload_n hx hb dX12_calls_6 rfl (lv_at hl 1 rfl) ?_
  refine lv_i2l (v := p0.toInt64) hx hb dX12_calls_7 rfl ?_
  refine ro_i (va_runV (As := [.long p0.toInt64]) (rest := []) ⟨hx, hb, hml, hown, hts⟩ (q_X12_isYear l g cI cJ cB cZ cL p0.toInt64 p0.toInt m m_a 0 m_taped m_at m_token m_place m_value m_word m_bad m_badPlace m_fault m_faultPlace m_willing m_will m_forgot m_isDrawn m_x m_begin m_round m_roundCards m_fate m_any m_bothSend m_meanCards m_bestSum m_fitMany m_fitFirst m_fitSecond m_has_c H.size (z_i2l rfl) hv_m_taped hv_m_at hv_m_will hv_m_isDrawn ha_m_has_c) (cwV 1 hts (goodIn_app (g_4 (List.mem_cons_of_mem _ (List.mem_append_left _ (List.mem_of_getElem? (i := 1) rfl))) (List.mem_cons_of_mem _ (List.mem_append_left _ (List.mem_of_getElem? (i := 2) rfl))) (List.mem_cons_of_mem _ (List.mem_append_left _ (List.mem_of_getElem? (i := 3) rfl))) (List.mem_cons_of_mem _ (List.mem_append_left _ (List.mem_of_getElem? (i := 4) rfl))) (by decide +kernel)) (goodIn_sub (fun _ h => List.mem_cons_of_mem _ (List.mem_append_right _ (List.mem_append_left _ h))) good_v_X12_isYear)) rfl rfl rfl (by decide +kernel) ⟨Nat.le_of_ble_eq_true rfl, Nat.le_of_ble_eq_true rfl⟩) (pv_RO (q := (RX12, TX12, 56)) (ci := 11) (q0 := 0) (wc := [(m, .inr (11, mG m_a 0 m_taped m_at m_token m_place m_value m_word m_bad m_badPlace m_fault m_faultPlace m_willing m_will m_forgot m_isDrawn m_x m_begin m_round m_roundCards m_fate m_any m_bothSend m_meanCards m_bestSum m_fitMany m_fitFirst m_fitSecond)), ((m_a 17), .inl (cI, 25, .inl m_has_c))]) hK hP [0, 1] rfl rfl rfl) rfl rfl hl.1 rfl (lv_room (Nat.le_of_ble_eq_true rfl)) dX12_calls_8 ⟨Nat.le_of_ble_eq_true rfl, Nat.le_of_ble_eq_true rfl⟩) hS hA hP (fun r8 u8 H locs hw8 hP hS => ?_)
  have hw8_0 := hw8
  rcases hw8_0 with ⟨er8, fc8_0, fc8_1⟩ | er8
  rotate_left 1
  · subst er8
    refine lv_if_eq (tgt := 24) hx hb dX12_calls_11 (by decide) (fun _ => ?_) (fun c => absurd c (by decide))
    refine lv_bipush (v := (-2)) hx hb dX12_calls_24 (by decide) ?_
    subst hQ
    have hP9 := hP.sub (ws' := [(m, .inr (11, mG m_a 0 m_taped m_at m_token m_place m_value m_word m_bad m_badPlace m_fault m_faultPlace m_willing m_will m_forgot m_isDrawn m_x m_begin m_round m_roundCards m_fate m_any m_bothSend m_meanCards m_bestSum m_fitMany m_fitFirst m_fitSecond)), ((m_a 17), .inl (cI, 25, .inl m_has_c)), ((m_a 21), .inl (cJ, 5, .inr (.inl m_strikes_c)))]) [0, 1, 2] rfl
    have hD9 := hD.sub (ws' := [(m, .inr (11, mG m_a 0 m_taped m_at m_token m_place m_value m_word m_bad m_badPlace m_fault m_faultPlace m_willing m_will m_forgot m_isDrawn m_x m_begin m_round m_roundCards m_fate m_any m_bothSend m_meanCards m_bestSum m_fitMany m_fitFirst m_fitSecond)), ((m_a 17), .inl (cI, 25, .inl m_has_c)), ((m_a 21), .inl (cJ, 5, .inr (.inl m_strikes_c)))]) [0, 1, 2] (by decide) rfl
    exact W.iret (v := (-2)) hx hb hr (fun t ht hW => ⟨⟨(-2), (0, m_strikes_c), rfl, ⟨(show ir (0 : Int32).toInt 0 0 by decide), (show ir ((-2) : Int32).toInt (-2) 1 by decide)⟩, ⟨by rw [ht]; exact hP9, va_K.moved hW.alike hK, hD9⟩⟩, hS.F ht⟩) hS.2.2 dX12_calls_26
  subst er8
  have fc8_0 : 0 ≤ p0.toInt := fc8_0
  have r8_0b : ir p0.toInt 0 2147483647 := ir_leb fc8_0 (ir_c 0) (rg_all p0) (by decide)
  have fc8_1 : p0.toInt ≤ 39 := fc8_1
  have r8_1a : ir p0.toInt 0 39 := ir_lea fc8_1 r8_0b (ir_c 39) (by decide)
  refine lv_if_eq (tgt := 24) hx hb dX12_calls_11 (by decide) (fun c => absurd c (by decide)) (fun _ => ?_)
  refine lv_iload_n hx hb dX12_calls_14 rfl (lv_at hl 2 rfl) ?_
  refine lv_i2l (v := p1.toInt64) hx hb dX12_calls_15 rfl ?_
  refine lv_lconst (v := 0) hx hb dX12_calls_16 (by decide) ?_
  refine lv_lconst (v := 1) hx hb dX12_calls_17 (by decide) ?_
  refine ro_i (va_runS (As := [.long p1.toInt64, .long 0, .long 1]) (rest := []) ⟨hx, hb, hml, hown, hts⟩ (q_X12_in l g cI cJ cB cZ cL p1.toInt64 p1.toInt 0 0 1 1 H.size (z_i2l rfl) rfl rfl) (va_cwS 3 hts (goodIn_app (g_3 (List.mem_cons_of_mem _ (List.mem_append_left _ (List.mem_of_getElem? (i := 5) rfl))) (List.mem_cons_of_mem _ (List.mem_append_left _ (List.mem_of_getElem? (i := 6) rfl))) (List.mem_cons_of_mem _ (List.mem_append_left _ (List.mem_of_getElem? (i := 4) rfl))) (by decide +kernel)) (goodIn_sub (fun _ h => List.mem_cons_of_mem _ (List.mem_append_right _ (List.mem_append_right _ (List.mem_append_left _ h)))) good_v_X12_in)) rfl rfl rfl (by decide +kernel) ⟨Nat.le_of_ble_eq_true rfl, Nat.le_of_ble_eq_true rfl⟩) (ps_RO (wc := []) hK hP [] rfl) rfl rfl hl.1 rfl (lv_room (Nat.le_of_ble_eq_true rfl)) dX12_calls_18 ⟨Nat.le_of_ble_eq_true rfl, Nat.le_of_ble_eq_true rfl⟩) hS hA hP (fun r18 u18 H locs hw18 hP hS => ?_)
  have hw18_0 := hw18
  rcases hw18_0 with ⟨er18, fc18_0, fc18_1⟩ | er18
  rotate_left 1
  · subst er18
    refine lv_if_ne (tgt := 27) hx hb dX12_calls_21 (by decide) (fun c => absurd c (by decide)) (fun _ => ?_)
    refine lv_bipush (v := (-2)) hx hb dX12_calls_24 (by decide) ?_
    subst hQ
    have hP9 := hP.sub (ws' := [(m, .inr (11, mG m_a 0 m_taped m_at m_token m_place m_value m_word m_bad m_badPlace m_fault m_faultPlace m_willing m_will m_forgot m_isDrawn m_x m_begin m_round m_roundCards m_fate m_any m_bothSend m_meanCards m_bestSum m_fitMany m_fitFirst m_fitSecond)), ((m_a 17), .inl (cI, 25, .inl m_has_c)), ((m_a 21), .inl (cJ, 5, .inr (.inl m_strikes_c)))]) [0, 1, 2] rfl
    have hD9 := hD.sub (ws' := [(m, .inr (11, mG m_a 0 m_taped m_at m_token m_place m_value m_word m_bad m_badPlace m_fault m_faultPlace m_willing m_will m_forgot m_isDrawn m_x m_begin m_round m_roundCards m_fate m_any m_bothSend m_meanCards m_bestSum m_fitMany m_fitFirst m_fitSecond)), ((m_a 17), .inl (cI, 25, .inl m_has_c)), ((m_a 21), .inl (cJ, 5, .inr (.inl m_strikes_c)))]) [0, 1, 2] (by decide) rfl
    exact W.iret (v := (-2)) hx hb hr (fun t ht hW => ⟨⟨(-2), (0, m_strikes_c), rfl, ⟨(show ir (0 : Int32).toInt 0 0 by decide), (show ir ((-2) : Int32).toInt (-2) 1 by decide)⟩, ⟨by rw [ht]; exact hP9, va_K.moved hW.alike hK, hD9⟩⟩, hS.F ht⟩) hS.2.2 dX12_calls_26
  subst er18
  have fc18_0 : 0 ≤ p1.toInt := fc18_0
  have r18_0b : ir p1.toInt 0 2147483647 := ir_leb fc18_0 (ir_c 0) (rg_all p1) (by decide)
  have fc18_1 : p1.toInt ≤ 1 := fc18_1
  have r18_1a : ir p1.toInt 0 1 := ir_lea fc18_1 r18_0b (ir_c 1) (by decide)
  refine lv_if_ne (tgt := 27) hx hb dX12_calls_21 (by decide) (fun _ => ?_) (fun c => absurd c (by decide))
  refine lv_aload_n hx hb dX12_calls_27 rfl (lv_at hl 0 rfl) ?_
  refine va_get (D := g) (ci := 11) (v := .ref (m_a 21)) (C := RX12) (T := TX12) (N := 56) hx hb hts iX12 hown hK hP 0 rfl rfl 21 (by decide) (hts (.fieldLink RX12 46 "CardsAtYuleModel" "strikes" "[J") (List.mem_cons_of_mem _ (List.mem_append_left _ (List.mem_of_getElem? (i := 7) rfl)))) (fun _ h9 => h9) rfl dX12_calls_28 ?_
  refine lv_iconst (v := 0) hx hb dX12_calls_31 (by decide) ?_
  refine va_lald (D := g) hx hb hK hP 2 1 rfl rfl (vc_in (by decide)) dX12_calls_32 ?_
  refine lv_topl (nm_r (e' := (m_strikes_c 0)) rfl ?_)
  refine lv_iload_n hx hb dX12_calls_33 rfl (lv_at hl 1 rfl) ?_
  refine lv_lshr (v := ((m_strikes_c 0) >>> (p0.toInt64 &&& 63))) hx hb dX12_calls_34 rfl ?_
  refine lv_topl (fun y34 e34 => ?_)
  refine lv_lconst (v := 1) hx hb dX12_calls_35 (by decide) ?_
  refine lv_land hx hb dX12_calls_36 ?_
  refine lv_topl (fun y36 e36 => ?_)
  have r36 : ir y36.toInt 0 1 := by rw [e36]; exact lan_y (by decide)
  refine lv_l2i (v := y36.toInt32) hx hb dX12_calls_37 rfl ?_
  refine lv_topi (fun y37 e37 => ?_)
  have q37 : y37.toInt = y36.toInt := by rw [e37]; exact li_z rfl r36 (by decide) (by decide)
  have r37 : ir y37.toInt 0 1 := q37 ▸ r36
  refine lv_istore_n (lv' := [(3, .int y37), (0, .ref m), (1, .int p0), (2, .int p1)]) hx hb dX12_calls_38 rfl hl (by decide) rfl (fun ls hl => ?_)
  refine lv_aload_n hx hb dX12_calls_39 rfl (lv_at hl 1 rfl) ?_
  refine va_get (D := g) (ci := 11) (v := .ref (m_a 21)) (C := RX12) (T := TX12) (N := 56) hx hb hts iX12 hown hK hP 0 rfl rfl 21 (by decide) (hts (.fieldLink RX12 46 "CardsAtYuleModel" "strikes" "[J") (List.mem_cons_of_mem _ (List.mem_append_left _ (List.mem_of_getElem? (i := 7) rfl)))) (fun _ h9 => h9) rfl dX12_calls_40 ?_
  refine lv_iconst (v := 0) hx hb dX12_calls_43 (by decide) ?_
  refine lv_aload_n hx hb dX12_calls_44 rfl (lv_at hl 1 rfl) ?_
  refine va_get (D := g) (ci := 11) (v := .ref (m_a 21)) (C := RX12) (T := TX12) (N := 56) hx hb hts iX12 hown hK hP 0 rfl rfl 21 (by decide) (hts (.fieldLink RX12 46 "CardsAtYuleModel" "strikes" "[J") (List.mem_cons_of_mem _ (List.mem_append_left _ (List.mem_of_getElem? (i := 7) rfl)))) (fun _ h9 => h9) rfl dX12_calls_45 ?_
  refine lv_iconst (v := 0) hx hb dX12_calls_48 (by decide) ?_
  refine va_lald (D := g) hx hb hK hP 2 1 rfl rfl (vc_in (by decide)) dX12_calls_49 ?_
  refine lv_topl (nm_r (e' := (m_strikes_c 0)) rfl ?_)
  refine lv_iload_n hx hb dX12_calls_50 rfl (lv_at hl 2 rfl) ?_
  refine lv_iload_n hx hb dX12_calls_51 rfl (lv_at hl 3 rfl) ?_
  refine ro_l (va_runS (As := [.long (m_strikes_c 0), .int p0, .int p1]) (rest := [.int 0, .ref (m_a 21)]) ⟨hx, hb, hml, hown, hts⟩ (q_X12_withBit l g cI cJ cB cZ cL (m_strikes_c 0) p0 p1 H.size ) (va_cwS 3 hts (goodIn_app (g_3 (List.mem_cons_of_mem _ (List.mem_append_left _ (List.mem_of_getElem? (i := 8) rfl))) (List.mem_cons_of_mem _ (List.mem_append_left _ (List.mem_of_getElem? (i := 9) rfl))) (List.mem_cons_of_mem _ (List.mem_append_left _ (List.mem_of_getElem? (i := 4) rfl))) (by decide +kernel)) (goodIn_sub (fun _ h => List.mem_cons_of_mem _ (List.mem_append_right _ (List.mem_append_right _ (List.mem_append_right _ (List.mem_append_left _ h))))) good_v_X12_withBit)) rfl rfl rfl (by decide +kernel) ⟨Nat.le_of_ble_eq_true rfl, Nat.le_of_ble_eq_true rfl⟩) (ps_RO (wc := []) hK hP [] rfl) rfl rfl hl.1 rfl (lv_room (Nat.le_of_ble_eq_true rfl)) dX12_calls_52 ⟨Nat.le_of_ble_eq_true rfl, Nat.le_of_ble_eq_true rfl⟩) hS hA hP (fun r52 u52 H locs hw52 hP hS => ?_)
  refine va_last (D := g) hx hb hK hP hD hS 2 1 rfl rfl (vc_in (by decide)) dX12_calls_55 (fun H locs hP hD hS => ?_)
  obtain ⟨g55, e55⟩ : ∃ z, z = vp_updL m_strikes_c 0 r52 := ⟨_, rfl⟩
  have hP : va_P g vwCl [(m, .inr (11, mG m_a 0 m_taped m_at m_token m_place m_value m_word m_bad m_badPlace m_fault m_faultPlace m_willing m_will m_forgot m_isDrawn m_x m_begin m_round m_roundCards m_fate m_any m_bothSend m_meanCards m_bestSum m_fitMany m_fitFirst m_fitSecond)), ((m_a 17), .inl (cI, 25, .inl m_has_c)), ((m_a 21), .inl (cJ, 5, .inr (.inl (vp_updL m_strikes_c 0 r52))))] H := hP
  have hD : va_D A [(m, .inr (11, mG m_a 0 m_taped m_at m_token m_place m_value m_word m_bad m_badPlace m_fault m_faultPlace m_willing m_will m_forgot m_isDrawn m_x m_begin m_round m_roundCards m_fate m_any m_bothSend m_meanCards m_bestSum m_fitMany m_fitFirst m_fitSecond)), ((m_a 17), .inl (cI, 25, .inl m_has_c)), ((m_a 21), .inl (cJ, 5, .inr (.inl (vp_updL m_strikes_c 0 r52))))] := hD
  rw [← e55] at hP hD
  refine lv_iload_n hx hb dX12_calls_56 rfl (lv_at hl 0 rfl) ?_
  subst hQ
  have hP9 := hP.sub (ws' := [(m, .inr (11, mG m_a 0 m_taped m_at m_token m_place m_value m_word m_bad m_badPlace m_fault m_faultPlace m_willing m_will m_forgot m_isDrawn m_x m_begin m_round m_roundCards m_fate m_any m_bothSend m_meanCards m_bestSum m_fitMany m_fitFirst m_fitSecond)), ((m_a 17), .inl (cI, 25, .inl m_has_c)), ((m_a 21), .inl (cJ, 5, .inr (.inl g55)))]) [0, 1, 2] rfl
  have hD9 := hD.sub (ws' := [(m, .inr (11, mG m_a 0 m_taped m_at m_token m_place m_value m_word m_bad m_badPlace m_fault m_faultPlace m_willing m_will m_forgot m_isDrawn m_x m_begin m_round m_roundCards m_fate m_any m_bothSend m_meanCards m_bestSum m_fitMany m_fitFirst m_fitSecond)), ((m_a 17), .inl (cI, 25, .inl m_has_c)), ((m_a 21), .inl (cJ, 5, .inr (.inl g55)))]) [0, 1, 2] (by decide) rfl
  exact W.iret (v := y37) hx hb hr (fun t ht hW => ⟨⟨y37, (0, g55), rfl, ⟨(show ir (0 : Int32).toInt 0 0 by decide), (ir_w r37 (by decide) (by decide))⟩, ⟨by rw [ht]; exact hP9, va_K.moved hW.alike hK, hD9⟩⟩, hS.F ht⟩) hS.2.2 dX12_calls_57
def v_X12_count : List Cond := .code yX12_count cX12_count 4 (some .int) :: (([.fieldLink RX12 107 "CardsAtYuleModel" "thrown" "I", .fieldLink RX12 34 "CardsAtYuleModel" "has" "[I", .fieldLink RX12 46 "CardsAtYuleModel" "strikes" "[J", .methodLink RX12 544 yX12_bitsOf, .static yX12_bitsOf, .initialized RX12, .fieldLink RX12 43 "CardsAtYuleModel" "lost" "[J", .fieldLink RX12 31 "CardsAtYuleModel" "lines" "[I", .fieldLink RX12 124 "CardsAtYuleModel" "taped" "I", .fieldLink RX12 7 "CardsAtYuleModel" "width" "[I"] : List Cond) ++ (v_X12_bitsOf ++ (wsX120 ++ ([] : List Cond))))
theorem good_v_X12_count : v_X12_count.all goodWord = true := ga_c (by decide +kernel) (ga_a (by decide +kernel) (ga_a good_v_X12_bitsOf (ga_a good_wsX120 rfl)))
set_option maxHeartbeats 4000000 in
set_option maxRecDepth 100000 in
theorem q_X12_count (l : Launch) (g : va_G) (cI cJ cB cZ cL : ClassId) (p0 : Int32) (m : Nat) (m_a : Nat → Nat) (m_thrown : Int32) (m_taped : Int32) (m_at : Int32) (m_token : Int32) (m_place : Int32) (m_value : Int32) (m_word : Int64) (m_bad : Int32) (m_badPlace : Int32) (m_fault : Int32) (m_faultPlace : Int32) (m_willing : Int32) (m_will : Int32) (m_forgot : Int32) (m_isDrawn : Int32) (m_x : Int64) (m_begin : Int32) (m_round : Int32) (m_roundCards : Int32) (m_fate : Int32) (m_any : Int64) (m_bothSend : Int64) (m_meanCards : Int64) (m_bestSum : Int32) (m_fitMany : Int32) (m_fitFirst : Int64) (m_fitSecond : Int64) (m_has_c : Nat → Int32) (m_strikes_c : Nat → Int64) (m_lines_c : Nat → Int32) (m_width_c : Nat → Int32) (m_lost_c : Nat → Int64) (sz : Nat) (hv_m_taped : ir m_taped.toInt 0 1600) (hv_m_at : ir m_at.toInt 0 1600) (hv_m_will : ir m_will.toInt 0 1) (hv_m_isDrawn : ir m_isDrawn.toInt 0 1) (ha_m_has_c : hasI m_has_c) : Met l yX12_count v_X12_count ({ frames := 1, cells := 0, slots := 0, locals := 24 }) (va_Pc [.ref m, .int p0] (pRW g (tyT cI cJ cB cZ cL) [(m, .inr (11, mG m_a m_thrown m_taped m_at m_token m_place m_value m_word m_bad m_badPlace m_fault m_faultPlace m_willing m_will m_forgot m_isDrawn m_x m_begin m_round m_roundCards m_fate m_any m_bothSend m_meanCards m_bestSum m_fitMany m_fitFirst m_fitSecond)), ((m_a 17), .inl (cI, 25, .inl m_has_c)), ((m_a 21), .inl (cJ, 5, .inr (.inl m_strikes_c))), ((m_a 16), .inl (cI, 5, .inl m_lines_c)), ((m_a 1), .inl (cI, 4, .inl m_width_c)), ((m_a 20), .inl (cJ, 160, .inr (.inl m_lost_c)))] sz)) (va_Qi (fun (r : Int32) (u : Int32) => match u with | n_m_thrown => (ir n_m_thrown.toInt 0 0)) (fun (u : Int32) (t : State) => bRW g (tyT cI cJ cB cZ cL) (va_A [(m, .inr (11, mG m_a m_thrown m_taped m_at m_token m_place m_value m_word m_bad m_badPlace m_fault m_faultPlace m_willing m_will m_forgot m_isDrawn m_x m_begin m_round m_roundCards m_fate m_any m_bothSend m_meanCards m_bestSum m_fitMany m_fitFirst m_fitSecond)), ((m_a 17), .inl (cI, 25, .inl m_has_c)), ((m_a 21), .inl (cJ, 5, .inr (.inl m_strikes_c))), ((m_a 16), .inl (cI, 5, .inl m_lines_c)), ((m_a 1), .inl (cI, 4, .inl m_width_c)), ((m_a 20), .inl (cJ, 160, .inr (.inl m_lost_c)))] sz) (match u with | n_m_thrown => [(m, .inr (11, mG m_a n_m_thrown m_taped m_at m_token m_place m_value m_word m_bad m_badPlace m_fault m_faultPlace m_willing m_will m_forgot m_isDrawn m_x m_begin m_round m_roundCards m_fate m_any m_bothSend m_meanCards m_bestSum m_fitMany m_fitFirst m_fitSecond)), ((m_a 17), .inl (cI, 25, .inl m_has_c)), ((m_a 21), .inl (cJ, 5, .inr (.inl m_strikes_c))), ((m_a 16), .inl (cI, 5, .inl m_lines_c)), ((m_a 1), .inl (cI, 4, .inl m_width_c)), ((m_a 20), .inl (cJ, 160, .inr (.inl m_lost_c)))]) t) (va_A [(m, .inr (11, mG m_a m_thrown m_taped m_at m_token m_place m_value m_word m_bad m_badPlace m_fault m_faultPlace m_willing m_will m_forgot m_isDrawn m_x m_begin m_round m_roundCards m_fate m_any m_bothSend m_meanCards m_bestSum m_fitMany m_fitFirst m_fitSecond)), ((m_a 17), .inl (cI, 25, .inl m_has_c)), ((m_a 21), .inl (cJ, 5, .inr (.inl m_strikes_c))), ((m_a 16), .inl (cI, 5, .inl m_lines_c)), ((m_a 1), .inl (cI, 4, .inl m_width_c)), ((m_a 20), .inl (cJ, 160, .inr (.inl m_lost_c)))] sz)) 0 0 (va_A [(m, .inr (11, mG m_a m_thrown m_taped m_at m_token m_place m_value m_word m_bad m_badPlace m_fault m_faultPlace m_willing m_will m_forgot m_isDrawn m_x m_begin m_round m_roundCards m_fate m_any m_bothSend m_meanCards m_bestSum m_fitMany m_fitFirst m_fitSecond)), ((m_a 17), .inl (cI, 25, .inl m_has_c)), ((m_a 21), .inl (cJ, 5, .inr (.inl m_strikes_c))), ((m_a 16), .inl (cI, 5, .inl m_lines_c)), ((m_a 1), .inl (cI, 4, .inl m_width_c)), ((m_a 20), .inl (cJ, 160, .inr (.inl m_lost_c)))] sz) := by
  refine Met.ofW (cc := cX12_count) (maxL := 4) (ret := (some .int)) (by decide) rfl ?_
  intro p e s mth args below meth c s₁ B hml hv
  obtain ⟨rfl, hsz, hP, hK, hD0⟩ := hv
  have hx := B.exec
  have hb := B.bytes
  have hr := B.returns
  have hts := atoms_spec (ws := v_X12_count) B.pre
  have hown : s.vm.findClass RX12 = some mth.cls := findClass_of_methodNamed B.named
  have hlocks := B.notSynchronized
  clear B
  subst hsz
  have iX12 : ∀ w ∈ wsX120, w ∈ v_X12_count := (fun _ h => List.mem_cons_of_mem _ (List.mem_append_right _ (List.mem_append_right _ (List.mem_append_left _ h))))
  have hD := hD0.self (sz := s.heap.size)
  generalize hAe : (va_A [(m, .inr (11, mG m_a m_thrown m_taped m_at m_token m_place m_value m_word m_bad m_badPlace m_fault m_faultPlace m_willing m_will m_forgot m_isDrawn m_x m_begin m_round m_roundCards m_fate m_any m_bothSend m_meanCards m_bestSum m_fitMany m_fitFirst m_fitSecond)), ((m_a 17), .inl (cI, 25, .inl m_has_c)), ((m_a 21), .inl (cJ, 5, .inr (.inl m_strikes_c))), ((m_a 16), .inl (cI, 5, .inl m_lines_c)), ((m_a 1), .inl (cI, 4, .inl m_width_c)), ((m_a 20), .inl (cJ, 160, .inr (.inl m_lost_c)))] s.heap.size) = A at hD ⊢
  have hA : ∀ q : Nat, s.heap.size ≤ q → A q := fun q h => by rw [← hAe]; exact Or.inr h
  have hS : va_S A s.heap s.heap [] := va_S.rf
  have hl := lv_entry ([.ref m, .int p0]) (n := 4) (Nat.le_of_ble_eq_true rfl)
  rw [lg_entry_eq]
  generalize (lg_sl ([.ref m, .int p0]) ++ List.replicate (4 - (lg_sl ([.ref m, .int p0])).length) Slot.unset).toArray = ls at hl ⊢
  generalize ([.ref m, .int p0] : List Value).toArray = av at hts ⊢
  generalize hQ : MQ below _ av s _ _ A = QQ
  have hl : lv_has ls 4 [(0, .ref m), (1, .int p0)] := hl
  have hP : va_P g vwCl [(m, .inr (11, mG m_a m_thrown m_taped m_at m_token m_place m_value m_word m_bad m_badPlace m_fault m_faultPlace m_willing m_will m_forgot m_isDrawn m_x m_begin m_round m_roundCards m_fate m_any m_bothSend m_meanCards m_bestSum m_fitMany m_fitFirst m_fitSecond)), ((m_a 17), .inl (cI, 25, .inl m_has_c)), ((m_a 21), .inl (cJ, 5, .inr (.inl m_strikes_c))), ((m_a 16), .inl (cI, 5, .inl m_lines_c)), ((m_a 1), .inl (cI, 4, .inl m_width_c)), ((m_a 20), .inl (cJ, 160, .inr (.inl m_lost_c)))] s.heap := hP
  refine lv_aload_n hx hb dX12_count_0 rfl (lv_at hl 0 rfl) ?_
  refine lv_iconst (v := 0) hx hb dX12_count_1 (by decide) ?_
  refine va_put (D := g) (ci := 11) (v := .int 0) (ty := .int) (C := RX12) (T := TX12) (N := 56) hx hb hts iX12 tyX12 tyX12_ok nmX12 hown hK hP hD hS 0 rfl rfl 0 (by decide) (hts (.fieldLink RX12 107 "CardsAtYuleModel" "thrown" "I") (List.mem_cons_of_mem _ (List.mem_append_left _ (List.mem_of_getElem? (i := 0) rfl)))) (fun _ h9 => h9) rfl (by decide +kernel) rfl rfl (Nat.le_of_ble_eq_true rfl) dX12_count_2 (fun H locs hP hD hS => ?_)
  have hP : va_P g vwCl [(m, .inr (11, mG m_a 0 m_taped m_at m_token m_place m_value m_word m_bad m_badPlace m_fault m_faultPlace m_willing m_will m_forgot m_isDrawn m_x m_begin m_round m_roundCards m_fate m_any m_bothSend m_meanCards m_bestSum m_fitMany m_fitFirst m_fitSecond)), ((m_a 17), .inl (cI, 25, .inl m_has_c)), ((m_a 21), .inl (cJ, 5, .inr (.inl m_strikes_c))), ((m_a 16), .inl (cI, 5, .inl m_lines_c)), ((m_a 1), .inl (cI, 4, .inl m_width_c)), ((m_a 20), .inl (cJ, 160, .inr (.inl m_lost_c)))] H := hP
  have hD : va_D A [(m, .inr (11, mG m_a 0 m_taped m_at m_token m_place m_value m_word m_bad m_badPlace m_fault m_faultPlace m_willing m_will m_forgot m_isDrawn m_x m_begin m_round m_roundCards m_fate m_any m_bothSend m_meanCards m_bestSum m_fitMany m_fitFirst m_fitSecond)), ((m_a 17), .inl (cI, 25, .inl m_has_c)), ((m_a 21), .inl (cJ, 5, .inr (.inl m_strikes_c))), ((m_a 16), .inl (cI, 5, .inl m_lines_c)), ((m_a 1), .inl (cI, 4, .inl m_width_c)), ((m_a 20), .inl (cJ, 160, .inr (.inl m_lost_c)))] := hD
  refine lv_iconst (v := 0) hx hb dX12_count_5 (by decide) ?_
  refine lv_istore_n (lv' := [(2, .int 0), (0, .ref m), (1, .int p0)]) hx hb dX12_count_6 rfl hl (by decide) rfl (fun ls hl => ?_)
  refine lv_iload_n hx hb dX12_count_7 rfl (lv_at hl 2 rfl) ?_
  rcases tsw 9 p0 with hz8 | ⟨j8, hj8, ej8⟩
  · refine lv_tableOut (tgt := 188) hx hb dX12_count_8 hz8 (by decide) ?_
    refine lv_iconst (v := (-1)) hx hb dX12_count_188 (by decide) ?_
    subst hQ
    have hP9 := hP.sub (ws' := [(m, .inr (11, mG m_a 0 m_taped m_at m_token m_place m_value m_word m_bad m_badPlace m_fault m_faultPlace m_willing m_will m_forgot m_isDrawn m_x m_begin m_round m_roundCards m_fate m_any m_bothSend m_meanCards m_bestSum m_fitMany m_fitFirst m_fitSecond)), ((m_a 17), .inl (cI, 25, .inl m_has_c)), ((m_a 21), .inl (cJ, 5, .inr (.inl m_strikes_c))), ((m_a 16), .inl (cI, 5, .inl m_lines_c)), ((m_a 1), .inl (cI, 4, .inl m_width_c)), ((m_a 20), .inl (cJ, 160, .inr (.inl m_lost_c)))]) [0, 1, 2, 3, 4, 5] rfl
    have hD9 := hD.sub (ws' := [(m, .inr (11, mG m_a 0 m_taped m_at m_token m_place m_value m_word m_bad m_badPlace m_fault m_faultPlace m_willing m_will m_forgot m_isDrawn m_x m_begin m_round m_roundCards m_fate m_any m_bothSend m_meanCards m_bestSum m_fitMany m_fitFirst m_fitSecond)), ((m_a 17), .inl (cI, 25, .inl m_has_c)), ((m_a 21), .inl (cJ, 5, .inr (.inl m_strikes_c))), ((m_a 16), .inl (cI, 5, .inl m_lines_c)), ((m_a 1), .inl (cI, 4, .inl m_width_c)), ((m_a 20), .inl (cJ, 160, .inr (.inl m_lost_c)))]) [0, 1, 2, 3, 4, 5] (by decide) rfl
    exact W.iret (v := (-1)) hx hb hr (fun t ht hW => ⟨⟨(-1), 0, rfl, (show ir (0 : Int32).toInt 0 0 by decide), ⟨by rw [ht]; exact hP9, va_K.moved hW.alike hK, hD9⟩⟩, hS.F ht⟩) hS.2.2 dX12_count_189
  · match j8, hj8, ej8 with
    | 0, _, ej8 =>
        have rs64_0 : ir p0.toInt 0 0 := sw_c ej8 (by decide)
        rw [show p0 = 0 from ej8]
        refine lv_tableIn (off := 56) (tgt := 64) hx hb dX12_count_8 (by decide) (by decide) (by decide) (by decide) ?_
        refine lv_aload_n hx hb dX12_count_64 rfl (lv_at hl 1 rfl) ?_
        refine va_get (D := g) (ci := 11) (v := .ref (m_a 17)) (C := RX12) (T := TX12) (N := 56) hx hb hts iX12 hown hK hP 0 rfl rfl 17 (by decide) (hts (.fieldLink RX12 34 "CardsAtYuleModel" "has" "[I") (List.mem_cons_of_mem _ (List.mem_append_left _ (List.mem_of_getElem? (i := 1) rfl)))) (fun _ h9 => h9) rfl dX12_count_65 ?_
        refine lv_iconst (v := 3) hx hb dX12_count_68 (by decide) ?_
        refine va_iald (D := g) hx hb hK hP 1 0 rfl rfl (vc_in (by decide)) dX12_count_69 ?_
        refine lv_topi (nm_r (e' := (m_has_c 3)) rfl ?_)
        have r69 : ir (m_has_c 3).toInt 0 10 := hasI_3 ha_m_has_c 0 (by decide)
        subst hQ
        have hP9 := hP.sub (ws' := [(m, .inr (11, mG m_a 0 m_taped m_at m_token m_place m_value m_word m_bad m_badPlace m_fault m_faultPlace m_willing m_will m_forgot m_isDrawn m_x m_begin m_round m_roundCards m_fate m_any m_bothSend m_meanCards m_bestSum m_fitMany m_fitFirst m_fitSecond)), ((m_a 17), .inl (cI, 25, .inl m_has_c)), ((m_a 21), .inl (cJ, 5, .inr (.inl m_strikes_c))), ((m_a 16), .inl (cI, 5, .inl m_lines_c)), ((m_a 1), .inl (cI, 4, .inl m_width_c)), ((m_a 20), .inl (cJ, 160, .inr (.inl m_lost_c)))]) [0, 1, 2, 3, 4, 5] rfl
        have hD9 := hD.sub (ws' := [(m, .inr (11, mG m_a 0 m_taped m_at m_token m_place m_value m_word m_bad m_badPlace m_fault m_faultPlace m_willing m_will m_forgot m_isDrawn m_x m_begin m_round m_roundCards m_fate m_any m_bothSend m_meanCards m_bestSum m_fitMany m_fitFirst m_fitSecond)), ((m_a 17), .inl (cI, 25, .inl m_has_c)), ((m_a 21), .inl (cJ, 5, .inr (.inl m_strikes_c))), ((m_a 16), .inl (cI, 5, .inl m_lines_c)), ((m_a 1), .inl (cI, 4, .inl m_width_c)), ((m_a 20), .inl (cJ, 160, .inr (.inl m_lost_c)))]) [0, 1, 2, 3, 4, 5] (by decide) rfl
        exact W.iret (v := (m_has_c 3)) hx hb hr (fun t ht hW => ⟨⟨(m_has_c 3), 0, rfl, (show ir (0 : Int32).toInt 0 0 by decide), ⟨by rw [ht]; exact hP9, va_K.moved hW.alike hK, hD9⟩⟩, hS.F ht⟩) hS.2.2 dX12_count_70
    | 1, _, ej8 =>
        have rs71_1 : ir p0.toInt 1 1 := sw_c ej8 (by decide)
        rw [show p0 = 1 from ej8]
        refine lv_tableIn (off := 63) (tgt := 71) hx hb dX12_count_8 (by decide) (by decide) (by decide) (by decide) ?_
        refine lv_aload_n hx hb dX12_count_71 rfl (lv_at hl 1 rfl) ?_
        refine va_get (D := g) (ci := 11) (v := .ref (m_a 17)) (C := RX12) (T := TX12) (N := 56) hx hb hts iX12 hown hK hP 0 rfl rfl 17 (by decide) (hts (.fieldLink RX12 34 "CardsAtYuleModel" "has" "[I") (List.mem_cons_of_mem _ (List.mem_append_left _ (List.mem_of_getElem? (i := 1) rfl)))) (fun _ h9 => h9) rfl dX12_count_72 ?_
        refine lv_iconst (v := 4) hx hb dX12_count_75 (by decide) ?_
        refine va_iald (D := g) hx hb hK hP 1 0 rfl rfl (vc_in (by decide)) dX12_count_76 ?_
        refine lv_topi (nm_r (e' := (m_has_c 4)) rfl ?_)
        have r76 : ir (m_has_c 4).toInt 0 16 := hasI_4 ha_m_has_c 0 (by decide)
        subst hQ
        have hP9 := hP.sub (ws' := [(m, .inr (11, mG m_a 0 m_taped m_at m_token m_place m_value m_word m_bad m_badPlace m_fault m_faultPlace m_willing m_will m_forgot m_isDrawn m_x m_begin m_round m_roundCards m_fate m_any m_bothSend m_meanCards m_bestSum m_fitMany m_fitFirst m_fitSecond)), ((m_a 17), .inl (cI, 25, .inl m_has_c)), ((m_a 21), .inl (cJ, 5, .inr (.inl m_strikes_c))), ((m_a 16), .inl (cI, 5, .inl m_lines_c)), ((m_a 1), .inl (cI, 4, .inl m_width_c)), ((m_a 20), .inl (cJ, 160, .inr (.inl m_lost_c)))]) [0, 1, 2, 3, 4, 5] rfl
        have hD9 := hD.sub (ws' := [(m, .inr (11, mG m_a 0 m_taped m_at m_token m_place m_value m_word m_bad m_badPlace m_fault m_faultPlace m_willing m_will m_forgot m_isDrawn m_x m_begin m_round m_roundCards m_fate m_any m_bothSend m_meanCards m_bestSum m_fitMany m_fitFirst m_fitSecond)), ((m_a 17), .inl (cI, 25, .inl m_has_c)), ((m_a 21), .inl (cJ, 5, .inr (.inl m_strikes_c))), ((m_a 16), .inl (cI, 5, .inl m_lines_c)), ((m_a 1), .inl (cI, 4, .inl m_width_c)), ((m_a 20), .inl (cJ, 160, .inr (.inl m_lost_c)))]) [0, 1, 2, 3, 4, 5] (by decide) rfl
        exact W.iret (v := (m_has_c 4)) hx hb hr (fun t ht hW => ⟨⟨(m_has_c 4), 0, rfl, (show ir (0 : Int32).toInt 0 0 by decide), ⟨by rw [ht]; exact hP9, va_K.moved hW.alike hK, hD9⟩⟩, hS.F ht⟩) hS.2.2 dX12_count_77
    | 2, _, ej8 =>
        have rs78_2 : ir p0.toInt 2 2 := sw_c ej8 (by decide)
        rw [show p0 = 2 from ej8]
        refine lv_tableIn (off := 70) (tgt := 78) hx hb dX12_count_8 (by decide) (by decide) (by decide) (by decide) ?_
        refine lv_aload_n hx hb dX12_count_78 rfl (lv_at hl 1 rfl) ?_
        refine va_get (D := g) (ci := 11) (v := .ref (m_a 17)) (C := RX12) (T := TX12) (N := 56) hx hb hts iX12 hown hK hP 0 rfl rfl 17 (by decide) (hts (.fieldLink RX12 34 "CardsAtYuleModel" "has" "[I") (List.mem_cons_of_mem _ (List.mem_append_left _ (List.mem_of_getElem? (i := 1) rfl)))) (fun _ h9 => h9) rfl dX12_count_79 ?_
        refine lv_iconst (v := 0) hx hb dX12_count_82 (by decide) ?_
        refine va_iald (D := g) hx hb hK hP 1 0 rfl rfl (vc_in (by decide)) dX12_count_83 ?_
        refine lv_topi (nm_r (e' := (m_has_c 0)) rfl ?_)
        have r83 : ir (m_has_c 0).toInt 0 40 := hasI_0 ha_m_has_c 0 (by decide)
        subst hQ
        have hP9 := hP.sub (ws' := [(m, .inr (11, mG m_a 0 m_taped m_at m_token m_place m_value m_word m_bad m_badPlace m_fault m_faultPlace m_willing m_will m_forgot m_isDrawn m_x m_begin m_round m_roundCards m_fate m_any m_bothSend m_meanCards m_bestSum m_fitMany m_fitFirst m_fitSecond)), ((m_a 17), .inl (cI, 25, .inl m_has_c)), ((m_a 21), .inl (cJ, 5, .inr (.inl m_strikes_c))), ((m_a 16), .inl (cI, 5, .inl m_lines_c)), ((m_a 1), .inl (cI, 4, .inl m_width_c)), ((m_a 20), .inl (cJ, 160, .inr (.inl m_lost_c)))]) [0, 1, 2, 3, 4, 5] rfl
        have hD9 := hD.sub (ws' := [(m, .inr (11, mG m_a 0 m_taped m_at m_token m_place m_value m_word m_bad m_badPlace m_fault m_faultPlace m_willing m_will m_forgot m_isDrawn m_x m_begin m_round m_roundCards m_fate m_any m_bothSend m_meanCards m_bestSum m_fitMany m_fitFirst m_fitSecond)), ((m_a 17), .inl (cI, 25, .inl m_has_c)), ((m_a 21), .inl (cJ, 5, .inr (.inl m_strikes_c))), ((m_a 16), .inl (cI, 5, .inl m_lines_c)), ((m_a 1), .inl (cI, 4, .inl m_width_c)), ((m_a 20), .inl (cJ, 160, .inr (.inl m_lost_c)))]) [0, 1, 2, 3, 4, 5] (by decide) rfl
        exact W.iret (v := (m_has_c 0)) hx hb hr (fun t ht hW => ⟨⟨(m_has_c 0), 0, rfl, (show ir (0 : Int32).toInt 0 0 by decide), ⟨by rw [ht]; exact hP9, va_K.moved hW.alike hK, hD9⟩⟩, hS.F ht⟩) hS.2.2 dX12_count_84
    | 3, _, ej8 =>
        have rs85_3 : ir p0.toInt 3 3 := sw_c ej8 (by decide)
        rw [show p0 = 3 from ej8]
        refine lv_tableIn (off := 77) (tgt := 85) hx hb dX12_count_8 (by decide) (by decide) (by decide) (by decide) ?_
        refine lv_aload_n hx hb dX12_count_85 rfl (lv_at hl 1 rfl) ?_
        refine va_get (D := g) (ci := 11) (v := .ref (m_a 17)) (C := RX12) (T := TX12) (N := 56) hx hb hts iX12 hown hK hP 0 rfl rfl 17 (by decide) (hts (.fieldLink RX12 34 "CardsAtYuleModel" "has" "[I") (List.mem_cons_of_mem _ (List.mem_append_left _ (List.mem_of_getElem? (i := 1) rfl)))) (fun _ h9 => h9) rfl dX12_count_86 ?_
        refine lv_iconst (v := 1) hx hb dX12_count_89 (by decide) ?_
        refine va_iald (D := g) hx hb hK hP 1 0 rfl rfl (vc_in (by decide)) dX12_count_90 ?_
        refine lv_topi (nm_r (e' := (m_has_c 1)) rfl ?_)
        subst hQ
        have hP9 := hP.sub (ws' := [(m, .inr (11, mG m_a 0 m_taped m_at m_token m_place m_value m_word m_bad m_badPlace m_fault m_faultPlace m_willing m_will m_forgot m_isDrawn m_x m_begin m_round m_roundCards m_fate m_any m_bothSend m_meanCards m_bestSum m_fitMany m_fitFirst m_fitSecond)), ((m_a 17), .inl (cI, 25, .inl m_has_c)), ((m_a 21), .inl (cJ, 5, .inr (.inl m_strikes_c))), ((m_a 16), .inl (cI, 5, .inl m_lines_c)), ((m_a 1), .inl (cI, 4, .inl m_width_c)), ((m_a 20), .inl (cJ, 160, .inr (.inl m_lost_c)))]) [0, 1, 2, 3, 4, 5] rfl
        have hD9 := hD.sub (ws' := [(m, .inr (11, mG m_a 0 m_taped m_at m_token m_place m_value m_word m_bad m_badPlace m_fault m_faultPlace m_willing m_will m_forgot m_isDrawn m_x m_begin m_round m_roundCards m_fate m_any m_bothSend m_meanCards m_bestSum m_fitMany m_fitFirst m_fitSecond)), ((m_a 17), .inl (cI, 25, .inl m_has_c)), ((m_a 21), .inl (cJ, 5, .inr (.inl m_strikes_c))), ((m_a 16), .inl (cI, 5, .inl m_lines_c)), ((m_a 1), .inl (cI, 4, .inl m_width_c)), ((m_a 20), .inl (cJ, 160, .inr (.inl m_lost_c)))]) [0, 1, 2, 3, 4, 5] (by decide) rfl
        exact W.iret (v := (m_has_c 1)) hx hb hr (fun t ht hW => ⟨⟨(m_has_c 1), 0, rfl, (show ir (0 : Int32).toInt 0 0 by decide), ⟨by rw [ht]; exact hP9, va_K.moved hW.alike hK, hD9⟩⟩, hS.F ht⟩) hS.2.2 dX12_count_91
    | 4, _, ej8 =>
        have rs92_4 : ir p0.toInt 4 4 := sw_c ej8 (by decide)
        rw [show p0 = 4 from ej8]
        refine lv_tableIn (off := 84) (tgt := 92) hx hb dX12_count_8 (by decide) (by decide) (by decide) (by decide) ?_
        refine lv_aload_n hx hb dX12_count_92 rfl (lv_at hl 1 rfl) ?_
        refine va_get (D := g) (ci := 11) (v := .ref (m_a 17)) (C := RX12) (T := TX12) (N := 56) hx hb hts iX12 hown hK hP 0 rfl rfl 17 (by decide) (hts (.fieldLink RX12 34 "CardsAtYuleModel" "has" "[I") (List.mem_cons_of_mem _ (List.mem_append_left _ (List.mem_of_getElem? (i := 1) rfl)))) (fun _ h9 => h9) rfl dX12_count_93 ?_
        refine lv_iconst (v := 2) hx hb dX12_count_96 (by decide) ?_
        refine va_iald (D := g) hx hb hK hP 1 0 rfl rfl (vc_in (by decide)) dX12_count_97 ?_
        refine lv_topi (nm_r (e' := (m_has_c 2)) rfl ?_)
        subst hQ
        have hP9 := hP.sub (ws' := [(m, .inr (11, mG m_a 0 m_taped m_at m_token m_place m_value m_word m_bad m_badPlace m_fault m_faultPlace m_willing m_will m_forgot m_isDrawn m_x m_begin m_round m_roundCards m_fate m_any m_bothSend m_meanCards m_bestSum m_fitMany m_fitFirst m_fitSecond)), ((m_a 17), .inl (cI, 25, .inl m_has_c)), ((m_a 21), .inl (cJ, 5, .inr (.inl m_strikes_c))), ((m_a 16), .inl (cI, 5, .inl m_lines_c)), ((m_a 1), .inl (cI, 4, .inl m_width_c)), ((m_a 20), .inl (cJ, 160, .inr (.inl m_lost_c)))]) [0, 1, 2, 3, 4, 5] rfl
        have hD9 := hD.sub (ws' := [(m, .inr (11, mG m_a 0 m_taped m_at m_token m_place m_value m_word m_bad m_badPlace m_fault m_faultPlace m_willing m_will m_forgot m_isDrawn m_x m_begin m_round m_roundCards m_fate m_any m_bothSend m_meanCards m_bestSum m_fitMany m_fitFirst m_fitSecond)), ((m_a 17), .inl (cI, 25, .inl m_has_c)), ((m_a 21), .inl (cJ, 5, .inr (.inl m_strikes_c))), ((m_a 16), .inl (cI, 5, .inl m_lines_c)), ((m_a 1), .inl (cI, 4, .inl m_width_c)), ((m_a 20), .inl (cJ, 160, .inr (.inl m_lost_c)))]) [0, 1, 2, 3, 4, 5] (by decide) rfl
        exact W.iret (v := (m_has_c 2)) hx hb hr (fun t ht hW => ⟨⟨(m_has_c 2), 0, rfl, (show ir (0 : Int32).toInt 0 0 by decide), ⟨by rw [ht]; exact hP9, va_K.moved hW.alike hK, hD9⟩⟩, hS.F ht⟩) hS.2.2 dX12_count_98
    | 5, _, ej8 =>
        have rs99_5 : ir p0.toInt 5 5 := sw_c ej8 (by decide)
        rw [show p0 = 5 from ej8]
        refine lv_tableIn (off := 91) (tgt := 99) hx hb dX12_count_8 (by decide) (by decide) (by decide) (by decide) ?_
        refine lv_aload_n hx hb dX12_count_99 rfl (lv_at hl 1 rfl) ?_
        refine va_get (D := g) (ci := 11) (v := .ref (m_a 21)) (C := RX12) (T := TX12) (N := 56) hx hb hts iX12 hown hK hP 0 rfl rfl 21 (by decide) (hts (.fieldLink RX12 46 "CardsAtYuleModel" "strikes" "[J") (List.mem_cons_of_mem _ (List.mem_append_left _ (List.mem_of_getElem? (i := 2) rfl)))) (fun _ h9 => h9) rfl dX12_count_100 ?_
        refine lv_iconst (v := 0) hx hb dX12_count_103 (by decide) ?_
        refine va_lald (D := g) hx hb hK hP 2 1 rfl rfl (vc_in (by decide)) dX12_count_104 ?_
        refine lv_topl (nm_r (e' := (m_strikes_c 0)) rfl ?_)
        refine ro_i (va_runS (As := [.long (m_strikes_c 0)]) (rest := []) ⟨hx, hb, hml, hown, hts⟩ (q_X12_bitsOf l g cI cJ cB cZ cL (m_strikes_c 0) H.size ) (va_cwS 1 hts (goodIn_app (g_3 (List.mem_cons_of_mem _ (List.mem_append_left _ (List.mem_of_getElem? (i := 3) rfl))) (List.mem_cons_of_mem _ (List.mem_append_left _ (List.mem_of_getElem? (i := 4) rfl))) (List.mem_cons_of_mem _ (List.mem_append_left _ (List.mem_of_getElem? (i := 5) rfl))) (by decide +kernel)) (goodIn_sub (fun _ h => List.mem_cons_of_mem _ (List.mem_append_right _ (List.mem_append_left _ h))) good_v_X12_bitsOf)) rfl rfl rfl (by decide +kernel) ⟨Nat.le_of_ble_eq_true rfl, Nat.le_of_ble_eq_true rfl⟩) (ps_RO (wc := []) hK hP [] rfl) rfl rfl hl.1 rfl (lv_room (Nat.le_of_ble_eq_true rfl)) dX12_count_105 ⟨Nat.le_of_ble_eq_true rfl, Nat.le_of_ble_eq_true rfl⟩) hS hA hP (fun r105 u105 H locs hw105 hP hS => ?_)
        subst hQ
        have hP9 := hP.sub (ws' := [(m, .inr (11, mG m_a 0 m_taped m_at m_token m_place m_value m_word m_bad m_badPlace m_fault m_faultPlace m_willing m_will m_forgot m_isDrawn m_x m_begin m_round m_roundCards m_fate m_any m_bothSend m_meanCards m_bestSum m_fitMany m_fitFirst m_fitSecond)), ((m_a 17), .inl (cI, 25, .inl m_has_c)), ((m_a 21), .inl (cJ, 5, .inr (.inl m_strikes_c))), ((m_a 16), .inl (cI, 5, .inl m_lines_c)), ((m_a 1), .inl (cI, 4, .inl m_width_c)), ((m_a 20), .inl (cJ, 160, .inr (.inl m_lost_c)))]) [0, 1, 2, 3, 4, 5] rfl
        have hD9 := hD.sub (ws' := [(m, .inr (11, mG m_a 0 m_taped m_at m_token m_place m_value m_word m_bad m_badPlace m_fault m_faultPlace m_willing m_will m_forgot m_isDrawn m_x m_begin m_round m_roundCards m_fate m_any m_bothSend m_meanCards m_bestSum m_fitMany m_fitFirst m_fitSecond)), ((m_a 17), .inl (cI, 25, .inl m_has_c)), ((m_a 21), .inl (cJ, 5, .inr (.inl m_strikes_c))), ((m_a 16), .inl (cI, 5, .inl m_lines_c)), ((m_a 1), .inl (cI, 4, .inl m_width_c)), ((m_a 20), .inl (cJ, 160, .inr (.inl m_lost_c)))]) [0, 1, 2, 3, 4, 5] (by decide) rfl
        exact W.iret (v := r105) hx hb hr (fun t ht hW => ⟨⟨r105, 0, rfl, (show ir (0 : Int32).toInt 0 0 by decide), ⟨by rw [ht]; exact hP9, va_K.moved hW.alike hK, hD9⟩⟩, hS.F ht⟩) hS.2.2 dX12_count_108
    | 6, _, ej8 =>
        have rs109_6 : ir p0.toInt 6 6 := sw_c ej8 (by decide)
        rw [show p0 = 6 from ej8]
        refine lv_tableIn (off := 101) (tgt := 109) hx hb dX12_count_8 (by decide) (by decide) (by decide) (by decide) ?_
        refine lv_iconst (v := 0) hx hb dX12_count_109 (by decide) ?_
        refine lv_istore_n (lv' := [(3, .int 0), (2, .int 0), (0, .ref m), (1, .int p0)]) hx hb dX12_count_110 rfl hl (by decide) rfl (fun ls hl => ?_)
        have J111 : ∀ (n111 : Nat) (j111_l2 : Int32) (j111_l3 : Int32) (H : Heap) (locs : List Loc) (ls : Array Slot), (33 - j111_l3.toInt).toNat < n111 → (ir j111_l3.toInt 0 32) → va_P g vwCl [(m, .inr (11, mG m_a 0 m_taped m_at m_token m_place m_value m_word m_bad m_badPlace m_fault m_faultPlace m_willing m_will m_forgot m_isDrawn m_x m_begin m_round m_roundCards m_fate m_any m_bothSend m_meanCards m_bestSum m_fitMany m_fitFirst m_fitSecond)), ((m_a 17), .inl (cI, 25, .inl m_has_c)), ((m_a 21), .inl (cJ, 5, .inr (.inl m_strikes_c))), ((m_a 16), .inl (cI, 5, .inl m_lines_c)), ((m_a 1), .inl (cI, 4, .inl m_width_c)), ((m_a 20), .inl (cJ, 160, .inr (.inl m_lost_c)))] H → va_D A [(m, .inr (11, mG m_a 0 m_taped m_at m_token m_place m_value m_word m_bad m_badPlace m_fault m_faultPlace m_willing m_will m_forgot m_isDrawn m_x m_begin m_round m_roundCards m_fate m_any m_bothSend m_meanCards m_bestSum m_fitMany m_fitFirst m_fitSecond)), ((m_a 17), .inl (cI, 25, .inl m_has_c)), ((m_a 21), .inl (cJ, 5, .inr (.inl m_strikes_c))), ((m_a 16), .inl (cI, 5, .inl m_lines_c)), ((m_a 1), .inl (cI, 4, .inl m_width_c)), ((m_a 20), .inl (cJ, 160, .inr (.inl m_lost_c)))] → va_S A s.heap H locs → lv_has ls 4 [(0, .ref m), (2, .int j111_l2), (3, .int j111_l3)] → W p l e (headSpec v_X12_count ({ frames := 1, cells := 0, slots := 0, locals := 24 })).room s mth av below meth c H locs 0 0 QQ (F0 mth 111 ls []) := by
          intro n111
          induction n111 with
          | zero => exact fun j111_l2 j111_l3 H locs ls hn => absurd hn (Nat.not_lt_zero _)
          | succ n111 ih111 =>
            intro j111_l2 j111_l3 H locs ls hn111 hj111_l3 hP hD hS hl
            refine lv_iload_n hx hb dX12_count_111 rfl (lv_at hl 2 rfl) ?_
            refine lv_iconst (v := 2) hx hb dX12_count_112 (by decide) ?_
            refine lv_aload_n hx hb dX12_count_113 rfl (lv_at hl 0 rfl) ?_
            refine va_get (D := g) (ci := 11) (v := .ref (m_a 17)) (C := RX12) (T := TX12) (N := 56) hx hb hts iX12 hown hK hP 0 rfl rfl 17 (by decide) (hts (.fieldLink RX12 34 "CardsAtYuleModel" "has" "[I") (List.mem_cons_of_mem _ (List.mem_append_left _ (List.mem_of_getElem? (i := 1) rfl)))) (fun _ h9 => h9) rfl dX12_count_114 ?_
            refine lv_iconst (v := 4) hx hb dX12_count_117 (by decide) ?_
            refine va_iald (D := g) hx hb hK hP 1 0 rfl rfl (vc_in (by decide)) dX12_count_118 ?_
            refine lv_topi (nm_r (e' := (m_has_c 4)) rfl ?_)
            have r118 : ir (m_has_c 4).toInt 0 16 := hasI_4 ha_m_has_c 0 (by decide)
            refine lv_imul hx hb dX12_count_119 ?_
            refine lv_topi (fun y119 e119 => ?_)
            have q119 : y119.toInt = 2 * (m_has_c 4).toInt := by rw [e119]; exact mu_z rfl rfl (ir_c 2) r118 (by decide) (by decide) (by decide)
            have r119 : ir y119.toInt 0 32 := mu_r q119 (ir_c 2) r118 (by decide) (by decide) (by decide) (by decide)
            refine lv_icmp_ge (tgt := 141) hx hb dX12_count_120 (by decide) (fun c120 => ?_) (fun c120 => ?_)
            · have f120 := (show y119.toInt ≤ j111_l3.toInt from z_le rfl rfl c120)
              refine lv_iload_n hx hb dX12_count_141 rfl (lv_at hl 1 rfl) ?_
              subst hQ
              have hP9 := hP.sub (ws' := [(m, .inr (11, mG m_a 0 m_taped m_at m_token m_place m_value m_word m_bad m_badPlace m_fault m_faultPlace m_willing m_will m_forgot m_isDrawn m_x m_begin m_round m_roundCards m_fate m_any m_bothSend m_meanCards m_bestSum m_fitMany m_fitFirst m_fitSecond)), ((m_a 17), .inl (cI, 25, .inl m_has_c)), ((m_a 21), .inl (cJ, 5, .inr (.inl m_strikes_c))), ((m_a 16), .inl (cI, 5, .inl m_lines_c)), ((m_a 1), .inl (cI, 4, .inl m_width_c)), ((m_a 20), .inl (cJ, 160, .inr (.inl m_lost_c)))]) [0, 1, 2, 3, 4, 5] rfl
              have hD9 := hD.sub (ws' := [(m, .inr (11, mG m_a 0 m_taped m_at m_token m_place m_value m_word m_bad m_badPlace m_fault m_faultPlace m_willing m_will m_forgot m_isDrawn m_x m_begin m_round m_roundCards m_fate m_any m_bothSend m_meanCards m_bestSum m_fitMany m_fitFirst m_fitSecond)), ((m_a 17), .inl (cI, 25, .inl m_has_c)), ((m_a 21), .inl (cJ, 5, .inr (.inl m_strikes_c))), ((m_a 16), .inl (cI, 5, .inl m_lines_c)), ((m_a 1), .inl (cI, 4, .inl m_width_c)), ((m_a 20), .inl (cJ, 160, .inr (.inl m_lost_c)))]) [0, 1, 2, 3, 4, 5] (by decide) rfl
              exact W.iret (v := j111_l2) hx hb hr (fun t ht hW => ⟨⟨j111_l2, 0, rfl, (show ir (0 : Int32).toInt 0 0 by decide), ⟨by rw [ht]; exact hP9, va_K.moved hW.alike hK, hD9⟩⟩, hS.F ht⟩) hS.2.2 dX12_count_142
            have f120 := (show j111_l3.toInt < y119.toInt from z_nle rfl rfl c120)
            have r120a : ir j111_l3.toInt 0 31 := ir_lta f120 hj111_l3 r119 (by decide)
            have r120b : ir y119.toInt 1 32 := ir_ltb f120 hj111_l3 r119 (by decide)
            refine lv_iload_n hx hb dX12_count_123 rfl (lv_at hl 1 rfl) ?_
            refine lv_aload_n hx hb dX12_count_124 rfl (lv_at hl 0 rfl) ?_
            refine va_get (D := g) (ci := 11) (v := .ref (m_a 20)) (C := RX12) (T := TX12) (N := 56) hx hb hts iX12 hown hK hP 0 rfl rfl 20 (by decide) (hts (.fieldLink RX12 43 "CardsAtYuleModel" "lost" "[J") (List.mem_cons_of_mem _ (List.mem_append_left _ (List.mem_of_getElem? (i := 6) rfl)))) (fun _ h9 => h9) rfl dX12_count_125 ?_
            refine lv_iload_n hx hb dX12_count_128 rfl (lv_at hl 2 rfl) ?_
            refine va_lald (D := g) hx hb hK hP 5 1 rfl rfl (vi_rg rfl r120a (by decide) (by decide)) dX12_count_129 ?_
            refine lv_topl (fun y129 e129 => ?_)
            refine ro_i (va_runS (As := [.long y129]) (rest := [.int j111_l2]) ⟨hx, hb, hml, hown, hts⟩ (q_X12_bitsOf l g cI cJ cB cZ cL y129 H.size ) (va_cwS 1 hts (goodIn_app (g_3 (List.mem_cons_of_mem _ (List.mem_append_left _ (List.mem_of_getElem? (i := 3) rfl))) (List.mem_cons_of_mem _ (List.mem_append_left _ (List.mem_of_getElem? (i := 4) rfl))) (List.mem_cons_of_mem _ (List.mem_append_left _ (List.mem_of_getElem? (i := 5) rfl))) (by decide +kernel)) (goodIn_sub (fun _ h => List.mem_cons_of_mem _ (List.mem_append_right _ (List.mem_append_left _ h))) good_v_X12_bitsOf)) rfl rfl rfl (by decide +kernel) ⟨Nat.le_of_ble_eq_true rfl, Nat.le_of_ble_eq_true rfl⟩) (ps_RO (wc := []) hK hP [] rfl) rfl rfl hl.1 rfl (lv_room (Nat.le_of_ble_eq_true rfl)) dX12_count_130 ⟨Nat.le_of_ble_eq_true rfl, Nat.le_of_ble_eq_true rfl⟩) hS hA hP (fun r130 u130 H locs hw130 hP hS => ?_)
            refine lv_iadd hx hb dX12_count_133 ?_
            refine lv_topi (fun y133 e133 => ?_)
            refine lv_istore_n (lv' := [(2, .int y133), (0, .ref m), (3, .int j111_l3)]) hx hb dX12_count_134 rfl hl (by decide) rfl (fun ls hl => ?_)
            obtain ⟨y135, e135⟩ : ∃ y : Int32, y = j111_l3 + 1 := ⟨_, rfl⟩
            have q135 : y135.toInt = j111_l3.toInt + 1 := by rw [e135]; exact ad_z rfl rfl r120a (ir_c 1) (by decide) (by decide)
            have r135 : ir y135.toInt 1 32 := ad_r q135 r120a (ir_c 1) (by decide) (by decide)
            refine lv_iinc (v := y135) (lv' := [(3, .int y135), (2, .int y133), (0, .ref m)]) hx hb dX12_count_135 hl (k := 2) rfl e135.symm (by decide) rfl (fun ls hl => ?_)
            refine lv_goto (tgt := 111) hx hb dX12_count_138 (by decide) ?_
            exact ih111 y133 y135 _ _ _ (by omega) (ir_w r135 (by decide) (by decide)) (hP.sub [0, 1, 2, 3, 4, 5] rfl) (hD.sub [0, 1, 2, 3, 4, 5] (by decide) rfl) hS (lv_sub hl [2, 1, 0] rfl)
        exact J111 _ 0 0 _ _ _ (Nat.lt_succ_self _) (by decide) (hP.sub [0, 1, 2, 3, 4, 5] rfl) (hD.sub [0, 1, 2, 3, 4, 5] (by decide) rfl) hS (lv_sub hl [2, 1, 0] rfl)
    | 7, _, ej8 =>
        have rs143_7 : ir p0.toInt 7 7 := sw_c ej8 (by decide)
        rw [show p0 = 7 from ej8]
        refine lv_tableIn (off := 135) (tgt := 143) hx hb dX12_count_8 (by decide) (by decide) (by decide) (by decide) ?_
        refine lv_aload_n hx hb dX12_count_143 rfl (lv_at hl 1 rfl) ?_
        refine va_get (D := g) (ci := 11) (v := .ref (m_a 16)) (C := RX12) (T := TX12) (N := 56) hx hb hts iX12 hown hK hP 0 rfl rfl 16 (by decide) (hts (.fieldLink RX12 31 "CardsAtYuleModel" "lines" "[I") (List.mem_cons_of_mem _ (List.mem_append_left _ (List.mem_of_getElem? (i := 7) rfl)))) (fun _ h9 => h9) rfl dX12_count_144 ?_
        refine lv_iconst (v := 0) hx hb dX12_count_147 (by decide) ?_
        refine va_iald (D := g) hx hb hK hP 3 0 rfl rfl (vc_in (by decide)) dX12_count_148 ?_
        refine lv_topi (nm_r (e' := (m_lines_c 0)) rfl ?_)
        subst hQ
        have hP9 := hP.sub (ws' := [(m, .inr (11, mG m_a 0 m_taped m_at m_token m_place m_value m_word m_bad m_badPlace m_fault m_faultPlace m_willing m_will m_forgot m_isDrawn m_x m_begin m_round m_roundCards m_fate m_any m_bothSend m_meanCards m_bestSum m_fitMany m_fitFirst m_fitSecond)), ((m_a 17), .inl (cI, 25, .inl m_has_c)), ((m_a 21), .inl (cJ, 5, .inr (.inl m_strikes_c))), ((m_a 16), .inl (cI, 5, .inl m_lines_c)), ((m_a 1), .inl (cI, 4, .inl m_width_c)), ((m_a 20), .inl (cJ, 160, .inr (.inl m_lost_c)))]) [0, 1, 2, 3, 4, 5] rfl
        have hD9 := hD.sub (ws' := [(m, .inr (11, mG m_a 0 m_taped m_at m_token m_place m_value m_word m_bad m_badPlace m_fault m_faultPlace m_willing m_will m_forgot m_isDrawn m_x m_begin m_round m_roundCards m_fate m_any m_bothSend m_meanCards m_bestSum m_fitMany m_fitFirst m_fitSecond)), ((m_a 17), .inl (cI, 25, .inl m_has_c)), ((m_a 21), .inl (cJ, 5, .inr (.inl m_strikes_c))), ((m_a 16), .inl (cI, 5, .inl m_lines_c)), ((m_a 1), .inl (cI, 4, .inl m_width_c)), ((m_a 20), .inl (cJ, 160, .inr (.inl m_lost_c)))]) [0, 1, 2, 3, 4, 5] (by decide) rfl
        exact W.iret (v := (m_lines_c 0)) hx hb hr (fun t ht hW => ⟨⟨(m_lines_c 0), 0, rfl, (show ir (0 : Int32).toInt 0 0 by decide), ⟨by rw [ht]; exact hP9, va_K.moved hW.alike hK, hD9⟩⟩, hS.F ht⟩) hS.2.2 dX12_count_149
    | 8, _, ej8 =>
        have rs150_8 : ir p0.toInt 8 8 := sw_c ej8 (by decide)
        rw [show p0 = 8 from ej8]
        refine lv_tableIn (off := 142) (tgt := 150) hx hb dX12_count_8 (by decide) (by decide) (by decide) (by decide) ?_
        refine lv_aload_n hx hb dX12_count_150 rfl (lv_at hl 1 rfl) ?_
        refine va_get (D := g) (ci := 11) (v := .int m_taped) (C := RX12) (T := TX12) (N := 56) hx hb hts iX12 hown hK hP 0 rfl rfl 6 (by decide) (hts (.fieldLink RX12 124 "CardsAtYuleModel" "taped" "I") (List.mem_cons_of_mem _ (List.mem_append_left _ (List.mem_of_getElem? (i := 8) rfl)))) (fun _ h9 => h9) rfl dX12_count_151 ?_
        subst hQ
        have hP9 := hP.sub (ws' := [(m, .inr (11, mG m_a 0 m_taped m_at m_token m_place m_value m_word m_bad m_badPlace m_fault m_faultPlace m_willing m_will m_forgot m_isDrawn m_x m_begin m_round m_roundCards m_fate m_any m_bothSend m_meanCards m_bestSum m_fitMany m_fitFirst m_fitSecond)), ((m_a 17), .inl (cI, 25, .inl m_has_c)), ((m_a 21), .inl (cJ, 5, .inr (.inl m_strikes_c))), ((m_a 16), .inl (cI, 5, .inl m_lines_c)), ((m_a 1), .inl (cI, 4, .inl m_width_c)), ((m_a 20), .inl (cJ, 160, .inr (.inl m_lost_c)))]) [0, 1, 2, 3, 4, 5] rfl
        have hD9 := hD.sub (ws' := [(m, .inr (11, mG m_a 0 m_taped m_at m_token m_place m_value m_word m_bad m_badPlace m_fault m_faultPlace m_willing m_will m_forgot m_isDrawn m_x m_begin m_round m_roundCards m_fate m_any m_bothSend m_meanCards m_bestSum m_fitMany m_fitFirst m_fitSecond)), ((m_a 17), .inl (cI, 25, .inl m_has_c)), ((m_a 21), .inl (cJ, 5, .inr (.inl m_strikes_c))), ((m_a 16), .inl (cI, 5, .inl m_lines_c)), ((m_a 1), .inl (cI, 4, .inl m_width_c)), ((m_a 20), .inl (cJ, 160, .inr (.inl m_lost_c)))]) [0, 1, 2, 3, 4, 5] (by decide) rfl
        exact W.iret (v := m_taped) hx hb hr (fun t ht hW => ⟨⟨m_taped, 0, rfl, (show ir (0 : Int32).toInt 0 0 by decide), ⟨by rw [ht]; exact hP9, va_K.moved hW.alike hK, hD9⟩⟩, hS.F ht⟩) hS.2.2 dX12_count_154
    | 9, _, ej8 =>
        have rs155_9 : ir p0.toInt 9 9 := sw_c ej8 (by decide)
        rw [show p0 = 9 from ej8]
        refine lv_tableIn (off := 147) (tgt := 155) hx hb dX12_count_8 (by decide) (by decide) (by decide) (by decide) ?_
        refine lv_iconst (v := 0) hx hb dX12_count_155 (by decide) ?_
        refine lv_istore_n (lv' := [(3, .int 0), (2, .int 0), (0, .ref m), (1, .int p0)]) hx hb dX12_count_156 rfl hl (by decide) rfl (fun ls hl => ?_)
        have J157 : ∀ (n157 : Nat) (j157_l2 : Int32) (j157_l3 : Int32) (H : Heap) (locs : List Loc) (ls : Array Slot), (5 - j157_l3.toInt).toNat < n157 → (ir j157_l3.toInt 0 4) → va_P g vwCl [(m, .inr (11, mG m_a 0 m_taped m_at m_token m_place m_value m_word m_bad m_badPlace m_fault m_faultPlace m_willing m_will m_forgot m_isDrawn m_x m_begin m_round m_roundCards m_fate m_any m_bothSend m_meanCards m_bestSum m_fitMany m_fitFirst m_fitSecond)), ((m_a 17), .inl (cI, 25, .inl m_has_c)), ((m_a 21), .inl (cJ, 5, .inr (.inl m_strikes_c))), ((m_a 16), .inl (cI, 5, .inl m_lines_c)), ((m_a 1), .inl (cI, 4, .inl m_width_c)), ((m_a 20), .inl (cJ, 160, .inr (.inl m_lost_c)))] H → va_D A [(m, .inr (11, mG m_a 0 m_taped m_at m_token m_place m_value m_word m_bad m_badPlace m_fault m_faultPlace m_willing m_will m_forgot m_isDrawn m_x m_begin m_round m_roundCards m_fate m_any m_bothSend m_meanCards m_bestSum m_fitMany m_fitFirst m_fitSecond)), ((m_a 17), .inl (cI, 25, .inl m_has_c)), ((m_a 21), .inl (cJ, 5, .inr (.inl m_strikes_c))), ((m_a 16), .inl (cI, 5, .inl m_lines_c)), ((m_a 1), .inl (cI, 4, .inl m_width_c)), ((m_a 20), .inl (cJ, 160, .inr (.inl m_lost_c)))] → va_S A s.heap H locs → lv_has ls 4 [(0, .ref m), (2, .int j157_l2), (3, .int j157_l3)] → W p l e (headSpec v_X12_count ({ frames := 1, cells := 0, slots := 0, locals := 24 })).room s mth av below meth c H locs 0 0 QQ (F0 mth 157 ls []) := by
          intro n157
          induction n157 with
          | zero => exact fun j157_l2 j157_l3 H locs ls hn => absurd hn (Nat.not_lt_zero _)
          | succ n157 ih157 =>
            intro j157_l2 j157_l3 H locs ls hn157 hj157_l3 hP hD hS hl
            refine lv_iload_n hx hb dX12_count_157 rfl (lv_at hl 2 rfl) ?_
            refine lv_iconst (v := 4) hx hb dX12_count_158 (by decide) ?_
            refine lv_icmp_ge (tgt := 186) hx hb dX12_count_159 (by decide) (fun c159 => ?_) (fun c159 => ?_)
            · have f159 := (show 4 ≤ j157_l3.toInt from z_le rfl rfl c159)
              have r159a : ir j157_l3.toInt 4 4 := ir_leb f159 (ir_c 4) hj157_l3 (by decide)
              refine lv_iload_n hx hb dX12_count_186 rfl (lv_at hl 1 rfl) ?_
              subst hQ
              have hP9 := hP.sub (ws' := [(m, .inr (11, mG m_a 0 m_taped m_at m_token m_place m_value m_word m_bad m_badPlace m_fault m_faultPlace m_willing m_will m_forgot m_isDrawn m_x m_begin m_round m_roundCards m_fate m_any m_bothSend m_meanCards m_bestSum m_fitMany m_fitFirst m_fitSecond)), ((m_a 17), .inl (cI, 25, .inl m_has_c)), ((m_a 21), .inl (cJ, 5, .inr (.inl m_strikes_c))), ((m_a 16), .inl (cI, 5, .inl m_lines_c)), ((m_a 1), .inl (cI, 4, .inl m_width_c)), ((m_a 20), .inl (cJ, 160, .inr (.inl m_lost_c)))]) [0, 1, 2, 3, 4, 5] rfl
              have hD9 := hD.sub (ws' := [(m, .inr (11, mG m_a 0 m_taped m_at m_token m_place m_value m_word m_bad m_badPlace m_fault m_faultPlace m_willing m_will m_forgot m_isDrawn m_x m_begin m_round m_roundCards m_fate m_any m_bothSend m_meanCards m_bestSum m_fitMany m_fitFirst m_fitSecond)), ((m_a 17), .inl (cI, 25, .inl m_has_c)), ((m_a 21), .inl (cJ, 5, .inr (.inl m_strikes_c))), ((m_a 16), .inl (cI, 5, .inl m_lines_c)), ((m_a 1), .inl (cI, 4, .inl m_width_c)), ((m_a 20), .inl (cJ, 160, .inr (.inl m_lost_c)))]) [0, 1, 2, 3, 4, 5] (by decide) rfl
              exact W.iret (v := j157_l2) hx hb hr (fun t ht hW => ⟨⟨j157_l2, 0, rfl, (show ir (0 : Int32).toInt 0 0 by decide), ⟨by rw [ht]; exact hP9, va_K.moved hW.alike hK, hD9⟩⟩, hS.F ht⟩) hS.2.2 dX12_count_187
            have f159 := (show j157_l3.toInt < 4 from z_nle rfl rfl c159)
            have r159a : ir j157_l3.toInt 0 3 := ir_lta f159 hj157_l3 (ir_c 4) (by decide)
            refine lv_iload_n hx hb dX12_count_162 rfl (lv_at hl 1 rfl) ?_
            refine lv_aload_n hx hb dX12_count_163 rfl (lv_at hl 0 rfl) ?_
            refine va_get (D := g) (ci := 11) (v := .ref (m_a 1)) (C := RX12) (T := TX12) (N := 56) hx hb hts iX12 hown hK hP 0 rfl rfl 1 (by decide) (hts (.fieldLink RX12 7 "CardsAtYuleModel" "width" "[I") (List.mem_cons_of_mem _ (List.mem_append_left _ (List.mem_of_getElem? (i := 9) rfl)))) (fun _ h9 => h9) rfl dX12_count_164 ?_
            refine lv_iload_n hx hb dX12_count_167 rfl (lv_at hl 2 rfl) ?_
            refine va_iald (D := g) hx hb hK hP 4 0 rfl rfl (vi_rg rfl r159a (by decide) (by decide)) dX12_count_168 ?_
            refine lv_topi (fun y168 e168 => ?_)
            refine lv_iconst (v := (-1)) hx hb dX12_count_169 (by decide) ?_
            have J178 : ∀ (j178_s0 : Int32) (H : Heap) (locs : List Loc) (ls : Array Slot), (ir j178_s0.toInt 0 1) → va_P g vwCl [(m, .inr (11, mG m_a 0 m_taped m_at m_token m_place m_value m_word m_bad m_badPlace m_fault m_faultPlace m_willing m_will m_forgot m_isDrawn m_x m_begin m_round m_roundCards m_fate m_any m_bothSend m_meanCards m_bestSum m_fitMany m_fitFirst m_fitSecond)), ((m_a 17), .inl (cI, 25, .inl m_has_c)), ((m_a 21), .inl (cJ, 5, .inr (.inl m_strikes_c))), ((m_a 16), .inl (cI, 5, .inl m_lines_c)), ((m_a 1), .inl (cI, 4, .inl m_width_c)), ((m_a 20), .inl (cJ, 160, .inr (.inl m_lost_c)))] H → va_D A [(m, .inr (11, mG m_a 0 m_taped m_at m_token m_place m_value m_word m_bad m_badPlace m_fault m_faultPlace m_willing m_will m_forgot m_isDrawn m_x m_begin m_round m_roundCards m_fate m_any m_bothSend m_meanCards m_bestSum m_fitMany m_fitFirst m_fitSecond)), ((m_a 17), .inl (cI, 25, .inl m_has_c)), ((m_a 21), .inl (cJ, 5, .inr (.inl m_strikes_c))), ((m_a 16), .inl (cI, 5, .inl m_lines_c)), ((m_a 1), .inl (cI, 4, .inl m_width_c)), ((m_a 20), .inl (cJ, 160, .inr (.inl m_lost_c)))] → va_S A s.heap H locs → lv_has ls 4 [(0, .ref m), (3, .int j157_l3)] → W p l e (headSpec v_X12_count ({ frames := 1, cells := 0, slots := 0, locals := 24 })).room s mth av below meth c H locs 0 0 QQ (F0 mth 178 ls [.int j178_s0, .int j157_l2]) := by
              intro j178_s0 H locs ls hj178_s0 hP hD hS hl
              refine lv_iadd hx hb dX12_count_178 ?_
              refine lv_topi (fun y178 e178 => ?_)
              refine lv_istore_n (lv' := [(2, .int y178), (0, .ref m), (3, .int j157_l3)]) hx hb dX12_count_179 rfl hl (by decide) rfl (fun ls hl => ?_)
              obtain ⟨y180, e180⟩ : ∃ y : Int32, y = j157_l3 + 1 := ⟨_, rfl⟩
              have q180 : y180.toInt = j157_l3.toInt + 1 := by rw [e180]; exact ad_z rfl rfl r159a (ir_c 1) (by decide) (by decide)
              have r180 : ir y180.toInt 1 4 := ad_r q180 r159a (ir_c 1) (by decide) (by decide)
              refine lv_iinc (v := y180) (lv' := [(3, .int y180), (2, .int y178), (0, .ref m)]) hx hb dX12_count_180 hl (k := 2) rfl e180.symm (by decide) rfl (fun ls hl => ?_)
              refine lv_goto (tgt := 157) hx hb dX12_count_183 (by decide) ?_
              exact ih157 y178 y180 _ _ _ (by omega) (ir_w r180 (by decide) (by decide)) (hP.sub [0, 1, 2, 3, 4, 5] rfl) (hD.sub [0, 1, 2, 3, 4, 5] (by decide) rfl) hS (lv_sub hl [2, 1, 0] rfl)
            refine lv_icmp_ne (tgt := 177) hx hb dX12_count_170 (by decide) (fun c170 => ?_) (fun c170 => ?_)
            · have f170 := (show y168.toInt ≠ (-1) from z_ne rfl rfl c170)
              refine lv_iconst (v := 1) hx hb dX12_count_177 (by decide) ?_
              exact J178 1 _ _ _ (by decide) (hP.sub [0, 1, 2, 3, 4, 5] rfl) (hD.sub [0, 1, 2, 3, 4, 5] (by decide) rfl) hS (lv_sub hl [0, 2] rfl)
            have f170 := (show y168.toInt = (-1) from z_eq rfl rfl c170)
            have r170a : ir y168.toInt (-1) (-1) := ir_eqa f170 (rg_all y168) (ir_c (-1)) (by decide) (by decide)
            refine lv_iconst (v := 0) hx hb dX12_count_173 (by decide) ?_
            refine lv_goto (tgt := 178) hx hb dX12_count_174 (by decide) ?_
            exact J178 0 _ _ _ (by decide) (hP.sub [0, 1, 2, 3, 4, 5] rfl) (hD.sub [0, 1, 2, 3, 4, 5] (by decide) rfl) hS (lv_sub hl [0, 2] rfl)
        exact J157 _ 0 0 _ _ _ (Nat.lt_succ_self _) (by decide) (hP.sub [0, 1, 2, 3, 4, 5] rfl) (hD.sub [0, 1, 2, 3, 4, 5] (by decide) rfl) hS (lv_sub hl [2, 1, 0] rfl)
    | n + 10, h, _ => exact absurd h (by omega)
def v_X12_keep : List Cond := .code yX12_keep cX12_keep 2 (some .int) :: (([.fieldLink RX12 107 "CardsAtYuleModel" "thrown" "I", .constantLong RX12 284 (2), .methodLink RX12 112 yX12_in, .static yX12_in, .initialized RX12, .methodLink RX12 263 yX12_copyLand, .instanceMethod yX12_copyLand, .selects RX12 yX12_copyLand yX12_copyLand, .fieldLink RX12 49 "CardsAtYuleModel" "isKept" "[Z"] : List Cond) ++ (v_X12_in ++ (v_X12_copyLand ++ (wsX120 ++ ([] : List Cond)))))
theorem good_v_X12_keep : v_X12_keep.all goodWord = true := ga_c (by decide +kernel) (ga_a (by decide +kernel) (ga_a good_v_X12_in (ga_a good_v_X12_copyLand (ga_a good_wsX120 rfl))))
set_option maxHeartbeats 4000000 in
set_option maxRecDepth 100000 in
theorem q_X12_keep (l : Launch) (g : va_G) (cI cJ cB cZ cL : ClassId) (p0 : Int32) (m : Nat) (m_a : Nat → Nat) (m_thrown : Int32) (m_taped : Int32) (m_at : Int32) (m_token : Int32) (m_place : Int32) (m_value : Int32) (m_word : Int64) (m_bad : Int32) (m_badPlace : Int32) (m_fault : Int32) (m_faultPlace : Int32) (m_willing : Int32) (m_will : Int32) (m_forgot : Int32) (m_isDrawn : Int32) (m_x : Int64) (m_begin : Int32) (m_round : Int32) (m_roundCards : Int32) (m_fate : Int32) (m_any : Int64) (m_bothSend : Int64) (m_meanCards : Int64) (m_bestSum : Int32) (m_fitMany : Int32) (m_fitFirst : Int64) (m_fitSecond : Int64) (m_lines_c : Nat → Int32) (m_has_c : Nat → Int32) (m_person_c : Nat → Int32) (m_pair_c : Nat → Int32) (m_lost_c : Nat → Int64) (m_strikes_c : Nat → Int64) (m_isKept_c : Nat → Int32) (sz : Nat) (hv_m_taped : ir m_taped.toInt 0 1600) (hv_m_at : ir m_at.toInt 0 1600) (hv_m_will : ir m_will.toInt 0 1) (hv_m_isDrawn : ir m_isDrawn.toInt 0 1) (ha_m_has_c : hasI m_has_c) (ha_m_person_c : perI m_person_c) (ha_m_pair_c : ar m_pair_c 240 0 15) (ha_m_isKept_c : ar m_isKept_c 3 0 1) : Met l yX12_keep v_X12_keep ({ frames := 2, cells := 0, slots := 0, locals := 47 }) (va_Pc [.ref m, .int p0] (pRW g (tyT cI cJ cB cZ cL) [(m, .inr (11, mG m_a m_thrown m_taped m_at m_token m_place m_value m_word m_bad m_badPlace m_fault m_faultPlace m_willing m_will m_forgot m_isDrawn m_x m_begin m_round m_roundCards m_fate m_any m_bothSend m_meanCards m_bestSum m_fitMany m_fitFirst m_fitSecond)), ((m_a 16), .inl (cI, 5, .inl m_lines_c)), ((m_a 17), .inl (cI, 25, .inl m_has_c)), ((m_a 18), .inl (cI, 250, .inl m_person_c)), ((m_a 19), .inl (cI, 240, .inl m_pair_c)), ((m_a 20), .inl (cJ, 160, .inr (.inl m_lost_c))), ((m_a 21), .inl (cJ, 5, .inr (.inl m_strikes_c))), ((m_a 22), .inl (cZ, 3, .inl m_isKept_c))] sz)) (va_Qi (fun (r : Int32) (u : Int32 × (Nat → Int32) × (Nat → Int32) × (Nat → Int32) × (Nat → Int32) × (Nat → Int64) × (Nat → Int64) × (Nat → Int32)) => match u with | (n_m_thrown, n_m_lines_c, n_m_has_c, n_m_person_c, n_m_pair_c, n_m_lost_c, n_m_strikes_c, n_m_isKept_c) => (ir n_m_thrown.toInt 0 0) ∧ (hasI n_m_has_c) ∧ (perI n_m_person_c) ∧ (ar n_m_pair_c 240 0 15) ∧ (ar n_m_isKept_c 3 0 1) ∧ (ir r.toInt (-2) 0)) (fun (u : Int32 × (Nat → Int32) × (Nat → Int32) × (Nat → Int32) × (Nat → Int32) × (Nat → Int64) × (Nat → Int64) × (Nat → Int32)) (t : State) => bRW g (tyT cI cJ cB cZ cL) (va_A [(m, .inr (11, mG m_a m_thrown m_taped m_at m_token m_place m_value m_word m_bad m_badPlace m_fault m_faultPlace m_willing m_will m_forgot m_isDrawn m_x m_begin m_round m_roundCards m_fate m_any m_bothSend m_meanCards m_bestSum m_fitMany m_fitFirst m_fitSecond)), ((m_a 16), .inl (cI, 5, .inl m_lines_c)), ((m_a 17), .inl (cI, 25, .inl m_has_c)), ((m_a 18), .inl (cI, 250, .inl m_person_c)), ((m_a 19), .inl (cI, 240, .inl m_pair_c)), ((m_a 20), .inl (cJ, 160, .inr (.inl m_lost_c))), ((m_a 21), .inl (cJ, 5, .inr (.inl m_strikes_c))), ((m_a 22), .inl (cZ, 3, .inl m_isKept_c))] sz) (match u with | (n_m_thrown, n_m_lines_c, n_m_has_c, n_m_person_c, n_m_pair_c, n_m_lost_c, n_m_strikes_c, n_m_isKept_c) => [(m, .inr (11, mG m_a n_m_thrown m_taped m_at m_token m_place m_value m_word m_bad m_badPlace m_fault m_faultPlace m_willing m_will m_forgot m_isDrawn m_x m_begin m_round m_roundCards m_fate m_any m_bothSend m_meanCards m_bestSum m_fitMany m_fitFirst m_fitSecond)), ((m_a 16), .inl (cI, 5, .inl n_m_lines_c)), ((m_a 17), .inl (cI, 25, .inl n_m_has_c)), ((m_a 18), .inl (cI, 250, .inl n_m_person_c)), ((m_a 19), .inl (cI, 240, .inl n_m_pair_c)), ((m_a 20), .inl (cJ, 160, .inr (.inl n_m_lost_c))), ((m_a 21), .inl (cJ, 5, .inr (.inl n_m_strikes_c))), ((m_a 22), .inl (cZ, 3, .inl n_m_isKept_c))]) t) (va_A [(m, .inr (11, mG m_a m_thrown m_taped m_at m_token m_place m_value m_word m_bad m_badPlace m_fault m_faultPlace m_willing m_will m_forgot m_isDrawn m_x m_begin m_round m_roundCards m_fate m_any m_bothSend m_meanCards m_bestSum m_fitMany m_fitFirst m_fitSecond)), ((m_a 16), .inl (cI, 5, .inl m_lines_c)), ((m_a 17), .inl (cI, 25, .inl m_has_c)), ((m_a 18), .inl (cI, 250, .inl m_person_c)), ((m_a 19), .inl (cI, 240, .inl m_pair_c)), ((m_a 20), .inl (cJ, 160, .inr (.inl m_lost_c))), ((m_a 21), .inl (cJ, 5, .inr (.inl m_strikes_c))), ((m_a 22), .inl (cZ, 3, .inl m_isKept_c))] sz)) 0 0 (va_A [(m, .inr (11, mG m_a m_thrown m_taped m_at m_token m_place m_value m_word m_bad m_badPlace m_fault m_faultPlace m_willing m_will m_forgot m_isDrawn m_x m_begin m_round m_roundCards m_fate m_any m_bothSend m_meanCards m_bestSum m_fitMany m_fitFirst m_fitSecond)), ((m_a 16), .inl (cI, 5, .inl m_lines_c)), ((m_a 17), .inl (cI, 25, .inl m_has_c)), ((m_a 18), .inl (cI, 250, .inl m_person_c)), ((m_a 19), .inl (cI, 240, .inl m_pair_c)), ((m_a 20), .inl (cJ, 160, .inr (.inl m_lost_c))), ((m_a 21), .inl (cJ, 5, .inr (.inl m_strikes_c))), ((m_a 22), .inl (cZ, 3, .inl m_isKept_c))] sz) := by
  refine Met.ofW (cc := cX12_keep) (maxL := 2) (ret := (some .int)) (by decide) rfl ?_
  intro p e s mth args below meth c s₁ B hml hv
  obtain ⟨rfl, hsz, hP, hK, hD0⟩ := hv
  have hx := B.exec
  have hb := B.bytes
  have hr := B.returns
  have hts := atoms_spec (ws := v_X12_keep) B.pre
  have hown : s.vm.findClass RX12 = some mth.cls := findClass_of_methodNamed B.named
  have hlocks := B.notSynchronized
  clear B
  subst hsz
  have iX12 : ∀ w ∈ wsX120, w ∈ v_X12_keep := (fun _ h => List.mem_cons_of_mem _ (List.mem_append_right _ (List.mem_append_right _ (List.mem_append_right _ (List.mem_append_left _ h)))))
  have hD := hD0.self (sz := s.heap.size)
  generalize hAe : (va_A [(m, .inr (11, mG m_a m_thrown m_taped m_at m_token m_place m_value m_word m_bad m_badPlace m_fault m_faultPlace m_willing m_will m_forgot m_isDrawn m_x m_begin m_round m_roundCards m_fate m_any m_bothSend m_meanCards m_bestSum m_fitMany m_fitFirst m_fitSecond)), ((m_a 16), .inl (cI, 5, .inl m_lines_c)), ((m_a 17), .inl (cI, 25, .inl m_has_c)), ((m_a 18), .inl (cI, 250, .inl m_person_c)), ((m_a 19), .inl (cI, 240, .inl m_pair_c)), ((m_a 20), .inl (cJ, 160, .inr (.inl m_lost_c))), ((m_a 21), .inl (cJ, 5, .inr (.inl m_strikes_c))), ((m_a 22), .inl (cZ, 3, .inl m_isKept_c))] s.heap.size) = A at hD ⊢
  have hA : ∀ q : Nat, s.heap.size ≤ q → A q := fun q h => by rw [← hAe]; exact Or.inr h
  have hS : va_S A s.heap s.heap [] := va_S.rf
  have hl := lv_entry ([.ref m, .int p0]) (n := 2) (Nat.le_of_ble_eq_true rfl)
  rw [lg_entry_eq]
  generalize (lg_sl ([.ref m, .int p0]) ++ List.replicate (2 - (lg_sl ([.ref m, .int p0])).length) Slot.unset).toArray = ls at hl ⊢
  generalize ([.ref m, .int p0] : List Value).toArray = av at hts ⊢
  generalize hQ : MQ below _ av s _ _ A = QQ
  have hl : lv_has ls 2 [(0, .ref m), (1, .int p0)] := hl
  have hP : va_P g vwCl [(m, .inr (11, mG m_a m_thrown m_taped m_at m_token m_place m_value m_word m_bad m_badPlace m_fault m_faultPlace m_willing m_will m_forgot m_isDrawn m_x m_begin m_round m_roundCards m_fate m_any m_bothSend m_meanCards m_bestSum m_fitMany m_fitFirst m_fitSecond)), ((m_a 16), .inl (cI, 5, .inl m_lines_c)), ((m_a 17), .inl (cI, 25, .inl m_has_c)), ((m_a 18), .inl (cI, 250, .inl m_person_c)), ((m_a 19), .inl (cI, 240, .inl m_pair_c)), ((m_a 20), .inl (cJ, 160, .inr (.inl m_lost_c))), ((m_a 21), .inl (cJ, 5, .inr (.inl m_strikes_c))), ((m_a 22), .inl (cZ, 3, .inl m_isKept_c))] s.heap := hP
  refine lv_aload_n hx hb dX12_keep_0 rfl (lv_at hl 0 rfl) ?_
  refine lv_iconst (v := 0) hx hb dX12_keep_1 (by decide) ?_
  refine va_put (D := g) (ci := 11) (v := .int 0) (ty := .int) (C := RX12) (T := TX12) (N := 56) hx hb hts iX12 tyX12 tyX12_ok nmX12 hown hK hP hD hS 0 rfl rfl 0 (by decide) (hts (.fieldLink RX12 107 "CardsAtYuleModel" "thrown" "I") (List.mem_cons_of_mem _ (List.mem_append_left _ (List.mem_of_getElem? (i := 0) rfl)))) (fun _ h9 => h9) rfl (by decide +kernel) rfl rfl (Nat.le_of_ble_eq_true rfl) dX12_keep_2 (fun H locs hP hD hS => ?_)
  have hP : va_P g vwCl [(m, .inr (11, mG m_a 0 m_taped m_at m_token m_place m_value m_word m_bad m_badPlace m_fault m_faultPlace m_willing m_will m_forgot m_isDrawn m_x m_begin m_round m_roundCards m_fate m_any m_bothSend m_meanCards m_bestSum m_fitMany m_fitFirst m_fitSecond)), ((m_a 16), .inl (cI, 5, .inl m_lines_c)), ((m_a 17), .inl (cI, 25, .inl m_has_c)), ((m_a 18), .inl (cI, 250, .inl m_person_c)), ((m_a 19), .inl (cI, 240, .inl m_pair_c)), ((m_a 20), .inl (cJ, 160, .inr (.inl m_lost_c))), ((m_a 21), .inl (cJ, 5, .inr (.inl m_strikes_c))), ((m_a 22), .inl (cZ, 3, .inl m_isKept_c))] H := hP
  have hD : va_D A [(m, .inr (11, mG m_a 0 m_taped m_at m_token m_place m_value m_word m_bad m_badPlace m_fault m_faultPlace m_willing m_will m_forgot m_isDrawn m_x m_begin m_round m_roundCards m_fate m_any m_bothSend m_meanCards m_bestSum m_fitMany m_fitFirst m_fitSecond)), ((m_a 16), .inl (cI, 5, .inl m_lines_c)), ((m_a 17), .inl (cI, 25, .inl m_has_c)), ((m_a 18), .inl (cI, 250, .inl m_person_c)), ((m_a 19), .inl (cI, 240, .inl m_pair_c)), ((m_a 20), .inl (cJ, 160, .inr (.inl m_lost_c))), ((m_a 21), .inl (cJ, 5, .inr (.inl m_strikes_c))), ((m_a 22), .inl (cZ, 3, .inl m_isKept_c))] := hD
  refine lv_iload_n hx hb dX12_keep_5 rfl (lv_at hl 1 rfl) ?_
  refine lv_i2l (v := p0.toInt64) hx hb dX12_keep_6 rfl ?_
  refine lv_lconst (v := 0) hx hb dX12_keep_7 (by decide) ?_
  refine lv_ldc2 (v := 2) hx hb hown (hts (.constantLong RX12 284 (2)) (List.mem_cons_of_mem _ (List.mem_append_left _ (List.mem_of_getElem? (i := 1) rfl)))) dX12_keep_8 ?_
  refine ro_i (va_runS (As := [.long p0.toInt64, .long 0, .long 2]) (rest := []) ⟨hx, hb, hml, hown, hts⟩ (q_X12_in l g cI cJ cB cZ cL p0.toInt64 p0.toInt 0 0 2 2 H.size (z_i2l rfl) rfl rfl) (va_cwS 3 hts (goodIn_app (g_3 (List.mem_cons_of_mem _ (List.mem_append_left _ (List.mem_of_getElem? (i := 2) rfl))) (List.mem_cons_of_mem _ (List.mem_append_left _ (List.mem_of_getElem? (i := 3) rfl))) (List.mem_cons_of_mem _ (List.mem_append_left _ (List.mem_of_getElem? (i := 4) rfl))) (by decide +kernel)) (goodIn_sub (fun _ h => List.mem_cons_of_mem _ (List.mem_append_right _ (List.mem_append_left _ h))) good_v_X12_in)) rfl rfl rfl (by decide +kernel) ⟨Nat.le_of_ble_eq_true rfl, Nat.le_of_ble_eq_true rfl⟩) (ps_RO (wc := []) hK hP [] rfl) rfl rfl hl.1 rfl (lv_room (Nat.le_of_ble_eq_true rfl)) dX12_keep_11 ⟨Nat.le_of_ble_eq_true rfl, Nat.le_of_ble_eq_true rfl⟩) hS hA hP (fun r11 u11 H locs hw11 hP hS => ?_)
  have hw11_0 := hw11
  rcases hw11_0 with ⟨er11, fc11_0, fc11_1⟩ | er11
  rotate_left 1
  · subst er11
    refine lv_if_ne (tgt := 20) hx hb dX12_keep_14 (by decide) (fun c => absurd c (by decide)) (fun _ => ?_)
    refine lv_bipush (v := (-2)) hx hb dX12_keep_17 (by decide) ?_
    subst hQ
    have hP9 := hP.sub (ws' := [(m, .inr (11, mG m_a 0 m_taped m_at m_token m_place m_value m_word m_bad m_badPlace m_fault m_faultPlace m_willing m_will m_forgot m_isDrawn m_x m_begin m_round m_roundCards m_fate m_any m_bothSend m_meanCards m_bestSum m_fitMany m_fitFirst m_fitSecond)), ((m_a 16), .inl (cI, 5, .inl m_lines_c)), ((m_a 17), .inl (cI, 25, .inl m_has_c)), ((m_a 18), .inl (cI, 250, .inl m_person_c)), ((m_a 19), .inl (cI, 240, .inl m_pair_c)), ((m_a 20), .inl (cJ, 160, .inr (.inl m_lost_c))), ((m_a 21), .inl (cJ, 5, .inr (.inl m_strikes_c))), ((m_a 22), .inl (cZ, 3, .inl m_isKept_c))]) [0, 1, 2, 3, 4, 5, 6, 7] rfl
    have hD9 := hD.sub (ws' := [(m, .inr (11, mG m_a 0 m_taped m_at m_token m_place m_value m_word m_bad m_badPlace m_fault m_faultPlace m_willing m_will m_forgot m_isDrawn m_x m_begin m_round m_roundCards m_fate m_any m_bothSend m_meanCards m_bestSum m_fitMany m_fitFirst m_fitSecond)), ((m_a 16), .inl (cI, 5, .inl m_lines_c)), ((m_a 17), .inl (cI, 25, .inl m_has_c)), ((m_a 18), .inl (cI, 250, .inl m_person_c)), ((m_a 19), .inl (cI, 240, .inl m_pair_c)), ((m_a 20), .inl (cJ, 160, .inr (.inl m_lost_c))), ((m_a 21), .inl (cJ, 5, .inr (.inl m_strikes_c))), ((m_a 22), .inl (cZ, 3, .inl m_isKept_c))]) [0, 1, 2, 3, 4, 5, 6, 7] (by decide) rfl
    exact W.iret (v := (-2)) hx hb hr (fun t ht hW => ⟨⟨(-2), (0, m_lines_c, m_has_c, m_person_c, m_pair_c, m_lost_c, m_strikes_c, m_isKept_c), rfl, ⟨(show ir (0 : Int32).toInt 0 0 by decide), ha_m_has_c, ha_m_person_c, ha_m_pair_c, ha_m_isKept_c, (show ir ((-2) : Int32).toInt (-2) 0 by decide)⟩, ⟨by rw [ht]; exact hP9, va_K.moved hW.alike hK, hD9⟩⟩, hS.F ht⟩) hS.2.2 dX12_keep_19
  subst er11
  have fc11_0 : 0 ≤ p0.toInt := fc11_0
  have r11_0b : ir p0.toInt 0 2147483647 := ir_leb fc11_0 (ir_c 0) (rg_all p0) (by decide)
  have fc11_1 : p0.toInt ≤ 2 := fc11_1
  have r11_1a : ir p0.toInt 0 2 := ir_lea fc11_1 r11_0b (ir_c 2) (by decide)
  refine lv_if_ne (tgt := 20) hx hb dX12_keep_14 (by decide) (fun _ => ?_) (fun c => absurd c (by decide))
  refine lv_aload_n hx hb dX12_keep_20 rfl (lv_at hl 0 rfl) ?_
  refine lv_iconst (v := 0) hx hb dX12_keep_21 (by decide) ?_
  refine lv_iconst (v := 1) hx hb dX12_keep_22 (by decide) ?_
  refine lv_iload_n hx hb dX12_keep_23 rfl (lv_at hl 1 rfl) ?_
  refine lv_iadd hx hb dX12_keep_24 ?_
  refine lv_topi (fun y24 e24 => ?_)
  have q24 : y24.toInt = 1 + p0.toInt := by rw [e24]; exact ad_z rfl rfl (ir_c 1) r11_1a (by decide) (by decide)
  have r24 : ir y24.toInt 1 3 := ad_r q24 (ir_c 1) r11_1a (by decide) (by decide)
  refine rw_v (wr := [((m_a 22), .inl (cZ, 3, .inl m_isKept_c))]) (va_runV (As := [.int 0, .int y24]) (rest := []) ⟨hx, hb, hml, hown, hts⟩ (q_X12_copyLand l g cI cJ cB cZ cL 0 y24 m m_a 0 m_taped m_at m_token m_place m_value m_word m_bad m_badPlace m_fault m_faultPlace m_willing m_will m_forgot m_isDrawn m_x m_begin m_round m_roundCards m_fate m_any m_bothSend m_meanCards m_bestSum m_fitMany m_fitFirst m_fitSecond m_lines_c m_has_c m_person_c m_pair_c m_lost_c m_strikes_c H.size (by decide) (ir_w r24 (by decide) (by decide)) hv_m_taped hv_m_at hv_m_will hv_m_isDrawn ha_m_has_c ha_m_person_c ha_m_pair_c) (cwV 2 hts (goodIn_app (g_4 (List.mem_cons_of_mem _ (List.mem_append_left _ (List.mem_of_getElem? (i := 5) rfl))) (List.mem_cons_of_mem _ (List.mem_append_left _ (List.mem_of_getElem? (i := 6) rfl))) (List.mem_cons_of_mem _ (List.mem_append_left _ (List.mem_of_getElem? (i := 7) rfl))) (List.mem_cons_of_mem _ (List.mem_append_left _ (List.mem_of_getElem? (i := 4) rfl))) (by decide +kernel)) (goodIn_sub (fun _ h => List.mem_cons_of_mem _ (List.mem_append_right _ (List.mem_append_right _ (List.mem_append_left _ h)))) good_v_X12_copyLand)) rfl rfl rfl (by decide +kernel) ⟨Nat.le_of_ble_eq_true rfl, Nat.le_of_ble_eq_true rfl⟩) (pv_RW (q := (RX12, TX12, 56)) (ci := 11) (q0 := 0) (wc := [(m, .inr (11, mG m_a 0 m_taped m_at m_token m_place m_value m_word m_bad m_badPlace m_fault m_faultPlace m_willing m_will m_forgot m_isDrawn m_x m_begin m_round m_roundCards m_fate m_any m_bothSend m_meanCards m_bestSum m_fitMany m_fitFirst m_fitSecond)), ((m_a 16), .inl (cI, 5, .inl m_lines_c)), ((m_a 17), .inl (cI, 25, .inl m_has_c)), ((m_a 18), .inl (cI, 250, .inl m_person_c)), ((m_a 19), .inl (cI, 240, .inl m_pair_c)), ((m_a 20), .inl (cJ, 160, .inr (.inl m_lost_c))), ((m_a 21), .inl (cJ, 5, .inr (.inl m_strikes_c)))]) hK hP hD [0, 1, 2, 3, 4, 5, 6] (by decide) rfl rfl rfl) rfl rfl hl.1 rfl (lv_room (Nat.le_of_ble_eq_true rfl)) dX12_keep_25 ⟨Nat.le_of_ble_eq_true rfl, Nat.le_of_ble_eq_true rfl⟩) hS hA hP hD [0, 1, 2, 3, 4, 5, 6] [7] rfl rfl (by decide) (by decide) (fun u25 H locs hw25 hP hD hS => ?_)
  obtain ⟨n_m_lines_c_25, n_m_has_c_25, n_m_person_c_25, n_m_pair_c_25, n_m_lost_c_25, n_m_strikes_c_25⟩ := u25
  have hP : va_P g vwCl [((m_a 22), .inl (cZ, 3, .inl m_isKept_c)), (m, .inr (11, mG m_a 0 m_taped m_at m_token m_place m_value m_word m_bad m_badPlace m_fault m_faultPlace m_willing m_will m_forgot m_isDrawn m_x m_begin m_round m_roundCards m_fate m_any m_bothSend m_meanCards m_bestSum m_fitMany m_fitFirst m_fitSecond)), ((m_a 16), .inl (cI, 5, .inl n_m_lines_c_25)), ((m_a 17), .inl (cI, 25, .inl n_m_has_c_25)), ((m_a 18), .inl (cI, 250, .inl n_m_person_c_25)), ((m_a 19), .inl (cI, 240, .inl n_m_pair_c_25)), ((m_a 20), .inl (cJ, 160, .inr (.inl n_m_lost_c_25))), ((m_a 21), .inl (cJ, 5, .inr (.inl n_m_strikes_c_25)))] H := hP
  have hD : va_D A [((m_a 22), .inl (cZ, 3, .inl m_isKept_c)), (m, .inr (11, mG m_a 0 m_taped m_at m_token m_place m_value m_word m_bad m_badPlace m_fault m_faultPlace m_willing m_will m_forgot m_isDrawn m_x m_begin m_round m_roundCards m_fate m_any m_bothSend m_meanCards m_bestSum m_fitMany m_fitFirst m_fitSecond)), ((m_a 16), .inl (cI, 5, .inl n_m_lines_c_25)), ((m_a 17), .inl (cI, 25, .inl n_m_has_c_25)), ((m_a 18), .inl (cI, 250, .inl n_m_person_c_25)), ((m_a 19), .inl (cI, 240, .inl n_m_pair_c_25)), ((m_a 20), .inl (cJ, 160, .inr (.inl n_m_lost_c_25))), ((m_a 21), .inl (cJ, 5, .inr (.inl n_m_strikes_c_25)))] := hD
  dsimp only at hw25
  obtain ⟨hw25_0, hw25_1, hw25_2⟩ := hw25
  refine lv_aload_n hx hb dX12_keep_28 rfl (lv_at hl 0 rfl) ?_
  refine va_get (D := g) (ci := 11) (v := .ref (m_a 22)) (C := RX12) (T := TX12) (N := 56) hx hb hts iX12 hown hK hP 1 rfl rfl 22 (by decide) (hts (.fieldLink RX12 49 "CardsAtYuleModel" "isKept" "[Z") (List.mem_cons_of_mem _ (List.mem_append_left _ (List.mem_of_getElem? (i := 8) rfl)))) (fun _ h9 => h9) rfl dX12_keep_29 ?_
  refine lv_iload_n hx hb dX12_keep_32 rfl (lv_at hl 1 rfl) ?_
  refine lv_iconst (v := 1) hx hb dX12_keep_33 (by decide) ?_
  refine va_zast (D := g) hx hb hK hP hD hS 0 3 rfl rfl (vi_rg rfl r11_1a (by decide) (by decide)) dX12_keep_34 (fun H locs hP hD hS => ?_)
  obtain ⟨g34, e34⟩ : ∃ z, z = upd m_isKept_c p0.toNatClampNeg (vp_nar .boolean (1 : Int32)) := ⟨_, rfl⟩
  have hP : va_P g vwCl [((m_a 22), .inl (cZ, 3, .inl (upd m_isKept_c p0.toNatClampNeg (vp_nar .boolean (1 : Int32))))), (m, .inr (11, mG m_a 0 m_taped m_at m_token m_place m_value m_word m_bad m_badPlace m_fault m_faultPlace m_willing m_will m_forgot m_isDrawn m_x m_begin m_round m_roundCards m_fate m_any m_bothSend m_meanCards m_bestSum m_fitMany m_fitFirst m_fitSecond)), ((m_a 16), .inl (cI, 5, .inl n_m_lines_c_25)), ((m_a 17), .inl (cI, 25, .inl n_m_has_c_25)), ((m_a 18), .inl (cI, 250, .inl n_m_person_c_25)), ((m_a 19), .inl (cI, 240, .inl n_m_pair_c_25)), ((m_a 20), .inl (cJ, 160, .inr (.inl n_m_lost_c_25))), ((m_a 21), .inl (cJ, 5, .inr (.inl n_m_strikes_c_25)))] H := hP
  have hD : va_D A [((m_a 22), .inl (cZ, 3, .inl (upd m_isKept_c p0.toNatClampNeg (vp_nar .boolean (1 : Int32))))), (m, .inr (11, mG m_a 0 m_taped m_at m_token m_place m_value m_word m_bad m_badPlace m_fault m_faultPlace m_willing m_will m_forgot m_isDrawn m_x m_begin m_round m_roundCards m_fate m_any m_bothSend m_meanCards m_bestSum m_fitMany m_fitFirst m_fitSecond)), ((m_a 16), .inl (cI, 5, .inl n_m_lines_c_25)), ((m_a 17), .inl (cI, 25, .inl n_m_has_c_25)), ((m_a 18), .inl (cI, 250, .inl n_m_person_c_25)), ((m_a 19), .inl (cI, 240, .inl n_m_pair_c_25)), ((m_a 20), .inl (cJ, 160, .inr (.inl n_m_lost_c_25))), ((m_a 21), .inl (cJ, 5, .inr (.inl n_m_strikes_c_25)))] := hD
  rw [← e34] at hP hD
  have a34 : ar g34 3 0 1 := by rw [e34]; exact ar_u ha_m_isKept_c (bo_r _)
  refine lv_iconst (v := 0) hx hb dX12_keep_35 (by decide) ?_
  subst hQ
  have hP9 := hP.sub (ws' := [(m, .inr (11, mG m_a 0 m_taped m_at m_token m_place m_value m_word m_bad m_badPlace m_fault m_faultPlace m_willing m_will m_forgot m_isDrawn m_x m_begin m_round m_roundCards m_fate m_any m_bothSend m_meanCards m_bestSum m_fitMany m_fitFirst m_fitSecond)), ((m_a 16), .inl (cI, 5, .inl n_m_lines_c_25)), ((m_a 17), .inl (cI, 25, .inl n_m_has_c_25)), ((m_a 18), .inl (cI, 250, .inl n_m_person_c_25)), ((m_a 19), .inl (cI, 240, .inl n_m_pair_c_25)), ((m_a 20), .inl (cJ, 160, .inr (.inl n_m_lost_c_25))), ((m_a 21), .inl (cJ, 5, .inr (.inl n_m_strikes_c_25))), ((m_a 22), .inl (cZ, 3, .inl g34))]) [1, 2, 3, 4, 5, 6, 7, 0] rfl
  have hD9 := hD.sub (ws' := [(m, .inr (11, mG m_a 0 m_taped m_at m_token m_place m_value m_word m_bad m_badPlace m_fault m_faultPlace m_willing m_will m_forgot m_isDrawn m_x m_begin m_round m_roundCards m_fate m_any m_bothSend m_meanCards m_bestSum m_fitMany m_fitFirst m_fitSecond)), ((m_a 16), .inl (cI, 5, .inl n_m_lines_c_25)), ((m_a 17), .inl (cI, 25, .inl n_m_has_c_25)), ((m_a 18), .inl (cI, 250, .inl n_m_person_c_25)), ((m_a 19), .inl (cI, 240, .inl n_m_pair_c_25)), ((m_a 20), .inl (cJ, 160, .inr (.inl n_m_lost_c_25))), ((m_a 21), .inl (cJ, 5, .inr (.inl n_m_strikes_c_25))), ((m_a 22), .inl (cZ, 3, .inl g34))]) [1, 2, 3, 4, 5, 6, 7, 0] (by decide) rfl
  exact W.iret (v := 0) hx hb hr (fun t ht hW => ⟨⟨0, (0, n_m_lines_c_25, n_m_has_c_25, n_m_person_c_25, n_m_pair_c_25, n_m_lost_c_25, n_m_strikes_c_25, g34), rfl, ⟨(show ir (0 : Int32).toInt 0 0 by decide), hw25_0, hw25_1, hw25_2, a34, (show ir (0 : Int32).toInt (-2) 0 by decide)⟩, ⟨by rw [ht]; exact hP9, va_K.moved hW.alike hK, hD9⟩⟩, hS.F ht⟩) hS.2.2 dX12_keep_36
def v_X12_on : List Cond := .code yX12_on cX12_on 2 (some .int) :: (([.fieldLink RX12 107 "CardsAtYuleModel" "thrown" "I", .constantLong RX12 284 (2), .methodLink RX12 112 yX12_in, .static yX12_in, .initialized RX12, .fieldLink RX12 49 "CardsAtYuleModel" "isKept" "[Z", .methodLink RX12 263 yX12_copyLand, .instanceMethod yX12_copyLand, .selects RX12 yX12_copyLand yX12_copyLand] : List Cond) ++ (v_X12_in ++ (v_X12_copyLand ++ (wsX120 ++ ([] : List Cond)))))
theorem good_v_X12_on : v_X12_on.all goodWord = true := ga_c (by decide +kernel) (ga_a (by decide +kernel) (ga_a good_v_X12_in (ga_a good_v_X12_copyLand (ga_a good_wsX120 rfl))))
set_option maxHeartbeats 4000000 in
set_option maxRecDepth 100000 in
theorem q_X12_on (l : Launch) (g : va_G) (cI cJ cB cZ cL : ClassId) (p0 : Int32) (m : Nat) (m_a : Nat → Nat) (m_thrown : Int32) (m_taped : Int32) (m_at : Int32) (m_token : Int32) (m_place : Int32) (m_value : Int32) (m_word : Int64) (m_bad : Int32) (m_badPlace : Int32) (m_fault : Int32) (m_faultPlace : Int32) (m_willing : Int32) (m_will : Int32) (m_forgot : Int32) (m_isDrawn : Int32) (m_x : Int64) (m_begin : Int32) (m_round : Int32) (m_roundCards : Int32) (m_fate : Int32) (m_any : Int64) (m_bothSend : Int64) (m_meanCards : Int64) (m_bestSum : Int32) (m_fitMany : Int32) (m_fitFirst : Int64) (m_fitSecond : Int64) (m_isKept_c : Nat → Int32) (m_lines_c : Nat → Int32) (m_has_c : Nat → Int32) (m_person_c : Nat → Int32) (m_pair_c : Nat → Int32) (m_lost_c : Nat → Int64) (m_strikes_c : Nat → Int64) (sz : Nat) (hv_m_taped : ir m_taped.toInt 0 1600) (hv_m_at : ir m_at.toInt 0 1600) (hv_m_will : ir m_will.toInt 0 1) (hv_m_isDrawn : ir m_isDrawn.toInt 0 1) (ha_m_isKept_c : ar m_isKept_c 3 0 1) (ha_m_has_c : hasI m_has_c) (ha_m_person_c : perI m_person_c) (ha_m_pair_c : ar m_pair_c 240 0 15) : Met l yX12_on v_X12_on ({ frames := 2, cells := 0, slots := 0, locals := 47 }) (va_Pc [.ref m, .int p0] (pRW g (tyT cI cJ cB cZ cL) [(m, .inr (11, mG m_a m_thrown m_taped m_at m_token m_place m_value m_word m_bad m_badPlace m_fault m_faultPlace m_willing m_will m_forgot m_isDrawn m_x m_begin m_round m_roundCards m_fate m_any m_bothSend m_meanCards m_bestSum m_fitMany m_fitFirst m_fitSecond)), ((m_a 22), .inl (cZ, 3, .inl m_isKept_c)), ((m_a 16), .inl (cI, 5, .inl m_lines_c)), ((m_a 17), .inl (cI, 25, .inl m_has_c)), ((m_a 18), .inl (cI, 250, .inl m_person_c)), ((m_a 19), .inl (cI, 240, .inl m_pair_c)), ((m_a 20), .inl (cJ, 160, .inr (.inl m_lost_c))), ((m_a 21), .inl (cJ, 5, .inr (.inl m_strikes_c)))] sz)) (va_Qi (fun (r : Int32) (u : Int32 × (Nat → Int32) × (Nat → Int32) × (Nat → Int32) × (Nat → Int32) × (Nat → Int64) × (Nat → Int64)) => match u with | (n_m_thrown, n_m_lines_c, n_m_has_c, n_m_person_c, n_m_pair_c, n_m_lost_c, n_m_strikes_c) => (ir n_m_thrown.toInt 0 0) ∧ (hasI n_m_has_c) ∧ (perI n_m_person_c) ∧ (ar n_m_pair_c 240 0 15) ∧ (ir r.toInt (-6) 0)) (fun (u : Int32 × (Nat → Int32) × (Nat → Int32) × (Nat → Int32) × (Nat → Int32) × (Nat → Int64) × (Nat → Int64)) (t : State) => bRW g (tyT cI cJ cB cZ cL) (va_A [(m, .inr (11, mG m_a m_thrown m_taped m_at m_token m_place m_value m_word m_bad m_badPlace m_fault m_faultPlace m_willing m_will m_forgot m_isDrawn m_x m_begin m_round m_roundCards m_fate m_any m_bothSend m_meanCards m_bestSum m_fitMany m_fitFirst m_fitSecond)), ((m_a 22), .inl (cZ, 3, .inl m_isKept_c)), ((m_a 16), .inl (cI, 5, .inl m_lines_c)), ((m_a 17), .inl (cI, 25, .inl m_has_c)), ((m_a 18), .inl (cI, 250, .inl m_person_c)), ((m_a 19), .inl (cI, 240, .inl m_pair_c)), ((m_a 20), .inl (cJ, 160, .inr (.inl m_lost_c))), ((m_a 21), .inl (cJ, 5, .inr (.inl m_strikes_c)))] sz) (match u with | (n_m_thrown, n_m_lines_c, n_m_has_c, n_m_person_c, n_m_pair_c, n_m_lost_c, n_m_strikes_c) => [(m, .inr (11, mG m_a n_m_thrown m_taped m_at m_token m_place m_value m_word m_bad m_badPlace m_fault m_faultPlace m_willing m_will m_forgot m_isDrawn m_x m_begin m_round m_roundCards m_fate m_any m_bothSend m_meanCards m_bestSum m_fitMany m_fitFirst m_fitSecond)), ((m_a 22), .inl (cZ, 3, .inl m_isKept_c)), ((m_a 16), .inl (cI, 5, .inl n_m_lines_c)), ((m_a 17), .inl (cI, 25, .inl n_m_has_c)), ((m_a 18), .inl (cI, 250, .inl n_m_person_c)), ((m_a 19), .inl (cI, 240, .inl n_m_pair_c)), ((m_a 20), .inl (cJ, 160, .inr (.inl n_m_lost_c))), ((m_a 21), .inl (cJ, 5, .inr (.inl n_m_strikes_c)))]) t) (va_A [(m, .inr (11, mG m_a m_thrown m_taped m_at m_token m_place m_value m_word m_bad m_badPlace m_fault m_faultPlace m_willing m_will m_forgot m_isDrawn m_x m_begin m_round m_roundCards m_fate m_any m_bothSend m_meanCards m_bestSum m_fitMany m_fitFirst m_fitSecond)), ((m_a 22), .inl (cZ, 3, .inl m_isKept_c)), ((m_a 16), .inl (cI, 5, .inl m_lines_c)), ((m_a 17), .inl (cI, 25, .inl m_has_c)), ((m_a 18), .inl (cI, 250, .inl m_person_c)), ((m_a 19), .inl (cI, 240, .inl m_pair_c)), ((m_a 20), .inl (cJ, 160, .inr (.inl m_lost_c))), ((m_a 21), .inl (cJ, 5, .inr (.inl m_strikes_c)))] sz)) 0 0 (va_A [(m, .inr (11, mG m_a m_thrown m_taped m_at m_token m_place m_value m_word m_bad m_badPlace m_fault m_faultPlace m_willing m_will m_forgot m_isDrawn m_x m_begin m_round m_roundCards m_fate m_any m_bothSend m_meanCards m_bestSum m_fitMany m_fitFirst m_fitSecond)), ((m_a 22), .inl (cZ, 3, .inl m_isKept_c)), ((m_a 16), .inl (cI, 5, .inl m_lines_c)), ((m_a 17), .inl (cI, 25, .inl m_has_c)), ((m_a 18), .inl (cI, 250, .inl m_person_c)), ((m_a 19), .inl (cI, 240, .inl m_pair_c)), ((m_a 20), .inl (cJ, 160, .inr (.inl m_lost_c))), ((m_a 21), .inl (cJ, 5, .inr (.inl m_strikes_c)))] sz) := by
  refine Met.ofW (cc := cX12_on) (maxL := 2) (ret := (some .int)) (by decide) rfl ?_
  intro p e s mth args below meth c s₁ B hml hv
  obtain ⟨rfl, hsz, hP, hK, hD0⟩ := hv
  have hx := B.exec
  have hb := B.bytes
  have hr := B.returns
  have hts := atoms_spec (ws := v_X12_on) B.pre
  have hown : s.vm.findClass RX12 = some mth.cls := findClass_of_methodNamed B.named
  have hlocks := B.notSynchronized
  clear B
  subst hsz
  have iX12 : ∀ w ∈ wsX120, w ∈ v_X12_on := (fun _ h => List.mem_cons_of_mem _ (List.mem_append_right _ (List.mem_append_right _ (List.mem_append_right _ (List.mem_append_left _ h)))))
  have hD := hD0.self (sz := s.heap.size)
  generalize hAe : (va_A [(m, .inr (11, mG m_a m_thrown m_taped m_at m_token m_place m_value m_word m_bad m_badPlace m_fault m_faultPlace m_willing m_will m_forgot m_isDrawn m_x m_begin m_round m_roundCards m_fate m_any m_bothSend m_meanCards m_bestSum m_fitMany m_fitFirst m_fitSecond)), ((m_a 22), .inl (cZ, 3, .inl m_isKept_c)), ((m_a 16), .inl (cI, 5, .inl m_lines_c)), ((m_a 17), .inl (cI, 25, .inl m_has_c)), ((m_a 18), .inl (cI, 250, .inl m_person_c)), ((m_a 19), .inl (cI, 240, .inl m_pair_c)), ((m_a 20), .inl (cJ, 160, .inr (.inl m_lost_c))), ((m_a 21), .inl (cJ, 5, .inr (.inl m_strikes_c)))] s.heap.size) = A at hD ⊢
  have hA : ∀ q : Nat, s.heap.size ≤ q → A q := fun q h => by rw [← hAe]; exact Or.inr h
  have hS : va_S A s.heap s.heap [] := va_S.rf
  have hl := lv_entry ([.ref m, .int p0]) (n := 2) (Nat.le_of_ble_eq_true rfl)
  rw [lg_entry_eq]
  generalize (lg_sl ([.ref m, .int p0]) ++ List.replicate (2 - (lg_sl ([.ref m, .int p0])).length) Slot.unset).toArray = ls at hl ⊢
  generalize ([.ref m, .int p0] : List Value).toArray = av at hts ⊢
  generalize hQ : MQ below _ av s _ _ A = QQ
  have hl : lv_has ls 2 [(0, .ref m), (1, .int p0)] := hl
  have hP : va_P g vwCl [(m, .inr (11, mG m_a m_thrown m_taped m_at m_token m_place m_value m_word m_bad m_badPlace m_fault m_faultPlace m_willing m_will m_forgot m_isDrawn m_x m_begin m_round m_roundCards m_fate m_any m_bothSend m_meanCards m_bestSum m_fitMany m_fitFirst m_fitSecond)), ((m_a 22), .inl (cZ, 3, .inl m_isKept_c)), ((m_a 16), .inl (cI, 5, .inl m_lines_c)), ((m_a 17), .inl (cI, 25, .inl m_has_c)), ((m_a 18), .inl (cI, 250, .inl m_person_c)), ((m_a 19), .inl (cI, 240, .inl m_pair_c)), ((m_a 20), .inl (cJ, 160, .inr (.inl m_lost_c))), ((m_a 21), .inl (cJ, 5, .inr (.inl m_strikes_c)))] s.heap := hP
  refine lv_aload_n hx hb dX12_on_0 rfl (lv_at hl 0 rfl) ?_
  refine lv_iconst (v := 0) hx hb dX12_on_1 (by decide) ?_
  refine va_put (D := g) (ci := 11) (v := .int 0) (ty := .int) (C := RX12) (T := TX12) (N := 56) hx hb hts iX12 tyX12 tyX12_ok nmX12 hown hK hP hD hS 0 rfl rfl 0 (by decide) (hts (.fieldLink RX12 107 "CardsAtYuleModel" "thrown" "I") (List.mem_cons_of_mem _ (List.mem_append_left _ (List.mem_of_getElem? (i := 0) rfl)))) (fun _ h9 => h9) rfl (by decide +kernel) rfl rfl (Nat.le_of_ble_eq_true rfl) dX12_on_2 (fun H locs hP hD hS => ?_)
  have hP : va_P g vwCl [(m, .inr (11, mG m_a 0 m_taped m_at m_token m_place m_value m_word m_bad m_badPlace m_fault m_faultPlace m_willing m_will m_forgot m_isDrawn m_x m_begin m_round m_roundCards m_fate m_any m_bothSend m_meanCards m_bestSum m_fitMany m_fitFirst m_fitSecond)), ((m_a 22), .inl (cZ, 3, .inl m_isKept_c)), ((m_a 16), .inl (cI, 5, .inl m_lines_c)), ((m_a 17), .inl (cI, 25, .inl m_has_c)), ((m_a 18), .inl (cI, 250, .inl m_person_c)), ((m_a 19), .inl (cI, 240, .inl m_pair_c)), ((m_a 20), .inl (cJ, 160, .inr (.inl m_lost_c))), ((m_a 21), .inl (cJ, 5, .inr (.inl m_strikes_c)))] H := hP
  have hD : va_D A [(m, .inr (11, mG m_a 0 m_taped m_at m_token m_place m_value m_word m_bad m_badPlace m_fault m_faultPlace m_willing m_will m_forgot m_isDrawn m_x m_begin m_round m_roundCards m_fate m_any m_bothSend m_meanCards m_bestSum m_fitMany m_fitFirst m_fitSecond)), ((m_a 22), .inl (cZ, 3, .inl m_isKept_c)), ((m_a 16), .inl (cI, 5, .inl m_lines_c)), ((m_a 17), .inl (cI, 25, .inl m_has_c)), ((m_a 18), .inl (cI, 250, .inl m_person_c)), ((m_a 19), .inl (cI, 240, .inl m_pair_c)), ((m_a 20), .inl (cJ, 160, .inr (.inl m_lost_c))), ((m_a 21), .inl (cJ, 5, .inr (.inl m_strikes_c)))] := hD
  refine lv_iload_n hx hb dX12_on_5 rfl (lv_at hl 1 rfl) ?_
  refine lv_i2l (v := p0.toInt64) hx hb dX12_on_6 rfl ?_
  refine lv_lconst (v := 0) hx hb dX12_on_7 (by decide) ?_
  refine lv_ldc2 (v := 2) hx hb hown (hts (.constantLong RX12 284 (2)) (List.mem_cons_of_mem _ (List.mem_append_left _ (List.mem_of_getElem? (i := 1) rfl)))) dX12_on_8 ?_
  refine ro_i (va_runS (As := [.long p0.toInt64, .long 0, .long 2]) (rest := []) ⟨hx, hb, hml, hown, hts⟩ (q_X12_in l g cI cJ cB cZ cL p0.toInt64 p0.toInt 0 0 2 2 H.size (z_i2l rfl) rfl rfl) (va_cwS 3 hts (goodIn_app (g_3 (List.mem_cons_of_mem _ (List.mem_append_left _ (List.mem_of_getElem? (i := 2) rfl))) (List.mem_cons_of_mem _ (List.mem_append_left _ (List.mem_of_getElem? (i := 3) rfl))) (List.mem_cons_of_mem _ (List.mem_append_left _ (List.mem_of_getElem? (i := 4) rfl))) (by decide +kernel)) (goodIn_sub (fun _ h => List.mem_cons_of_mem _ (List.mem_append_right _ (List.mem_append_left _ h))) good_v_X12_in)) rfl rfl rfl (by decide +kernel) ⟨Nat.le_of_ble_eq_true rfl, Nat.le_of_ble_eq_true rfl⟩) (ps_RO (wc := []) hK hP [] rfl) rfl rfl hl.1 rfl (lv_room (Nat.le_of_ble_eq_true rfl)) dX12_on_11 ⟨Nat.le_of_ble_eq_true rfl, Nat.le_of_ble_eq_true rfl⟩) hS hA hP (fun r11 u11 H locs hw11 hP hS => ?_)
  have hw11_0 := hw11
  rcases hw11_0 with ⟨er11, fc11_0, fc11_1⟩ | er11
  rotate_left 1
  · subst er11
    refine lv_if_ne (tgt := 20) hx hb dX12_on_14 (by decide) (fun c => absurd c (by decide)) (fun _ => ?_)
    refine lv_bipush (v := (-2)) hx hb dX12_on_17 (by decide) ?_
    subst hQ
    have hP9 := hP.sub (ws' := [(m, .inr (11, mG m_a 0 m_taped m_at m_token m_place m_value m_word m_bad m_badPlace m_fault m_faultPlace m_willing m_will m_forgot m_isDrawn m_x m_begin m_round m_roundCards m_fate m_any m_bothSend m_meanCards m_bestSum m_fitMany m_fitFirst m_fitSecond)), ((m_a 22), .inl (cZ, 3, .inl m_isKept_c)), ((m_a 16), .inl (cI, 5, .inl m_lines_c)), ((m_a 17), .inl (cI, 25, .inl m_has_c)), ((m_a 18), .inl (cI, 250, .inl m_person_c)), ((m_a 19), .inl (cI, 240, .inl m_pair_c)), ((m_a 20), .inl (cJ, 160, .inr (.inl m_lost_c))), ((m_a 21), .inl (cJ, 5, .inr (.inl m_strikes_c)))]) [0, 1, 2, 3, 4, 5, 6, 7] rfl
    have hD9 := hD.sub (ws' := [(m, .inr (11, mG m_a 0 m_taped m_at m_token m_place m_value m_word m_bad m_badPlace m_fault m_faultPlace m_willing m_will m_forgot m_isDrawn m_x m_begin m_round m_roundCards m_fate m_any m_bothSend m_meanCards m_bestSum m_fitMany m_fitFirst m_fitSecond)), ((m_a 22), .inl (cZ, 3, .inl m_isKept_c)), ((m_a 16), .inl (cI, 5, .inl m_lines_c)), ((m_a 17), .inl (cI, 25, .inl m_has_c)), ((m_a 18), .inl (cI, 250, .inl m_person_c)), ((m_a 19), .inl (cI, 240, .inl m_pair_c)), ((m_a 20), .inl (cJ, 160, .inr (.inl m_lost_c))), ((m_a 21), .inl (cJ, 5, .inr (.inl m_strikes_c)))]) [0, 1, 2, 3, 4, 5, 6, 7] (by decide) rfl
    exact W.iret (v := (-2)) hx hb hr (fun t ht hW => ⟨⟨(-2), (0, m_lines_c, m_has_c, m_person_c, m_pair_c, m_lost_c, m_strikes_c), rfl, ⟨(show ir (0 : Int32).toInt 0 0 by decide), ha_m_has_c, ha_m_person_c, ha_m_pair_c, (show ir ((-2) : Int32).toInt (-6) 0 by decide)⟩, ⟨by rw [ht]; exact hP9, va_K.moved hW.alike hK, hD9⟩⟩, hS.F ht⟩) hS.2.2 dX12_on_19
  subst er11
  have fc11_0 : 0 ≤ p0.toInt := fc11_0
  have r11_0b : ir p0.toInt 0 2147483647 := ir_leb fc11_0 (ir_c 0) (rg_all p0) (by decide)
  have fc11_1 : p0.toInt ≤ 2 := fc11_1
  have r11_1a : ir p0.toInt 0 2 := ir_lea fc11_1 r11_0b (ir_c 2) (by decide)
  refine lv_if_ne (tgt := 20) hx hb dX12_on_14 (by decide) (fun _ => ?_) (fun c => absurd c (by decide))
  refine lv_aload_n hx hb dX12_on_20 rfl (lv_at hl 0 rfl) ?_
  refine va_get (D := g) (ci := 11) (v := .ref (m_a 22)) (C := RX12) (T := TX12) (N := 56) hx hb hts iX12 hown hK hP 0 rfl rfl 22 (by decide) (hts (.fieldLink RX12 49 "CardsAtYuleModel" "isKept" "[Z") (List.mem_cons_of_mem _ (List.mem_append_left _ (List.mem_of_getElem? (i := 5) rfl)))) (fun _ h9 => h9) rfl dX12_on_21 ?_
  refine lv_iload_n hx hb dX12_on_24 rfl (lv_at hl 1 rfl) ?_
  refine va_zald (D := g) hx hb hK hP 1 3 rfl rfl (vi_rg rfl r11_1a (by decide) (by decide)) dX12_on_25 ?_
  refine lv_topi (fun y25 e25 => ?_)
  have r25 : ir y25.toInt 0 1 := by rw [e25]; exact ha_m_isKept_c _ (vi_cl (vi_rg rfl r11_1a (by decide) (by decide)))
  refine lv_if_ne (tgt := 32) hx hb dX12_on_26 (by decide) (fun c26 => ?_) (fun c26 => ?_)
  rotate_left 1
  · have f26 := (show y25.toInt = 0 from z_eq rfl rfl c26)
    have r26a : ir y25.toInt 0 0 := ir_eqa f26 r25 (ir_c 0) (by decide) (by decide)
    refine lv_bipush (v := (-6)) hx hb dX12_on_29 (by decide) ?_
    subst hQ
    have hP9 := hP.sub (ws' := [(m, .inr (11, mG m_a 0 m_taped m_at m_token m_place m_value m_word m_bad m_badPlace m_fault m_faultPlace m_willing m_will m_forgot m_isDrawn m_x m_begin m_round m_roundCards m_fate m_any m_bothSend m_meanCards m_bestSum m_fitMany m_fitFirst m_fitSecond)), ((m_a 22), .inl (cZ, 3, .inl m_isKept_c)), ((m_a 16), .inl (cI, 5, .inl m_lines_c)), ((m_a 17), .inl (cI, 25, .inl m_has_c)), ((m_a 18), .inl (cI, 250, .inl m_person_c)), ((m_a 19), .inl (cI, 240, .inl m_pair_c)), ((m_a 20), .inl (cJ, 160, .inr (.inl m_lost_c))), ((m_a 21), .inl (cJ, 5, .inr (.inl m_strikes_c)))]) [0, 1, 2, 3, 4, 5, 6, 7] rfl
    have hD9 := hD.sub (ws' := [(m, .inr (11, mG m_a 0 m_taped m_at m_token m_place m_value m_word m_bad m_badPlace m_fault m_faultPlace m_willing m_will m_forgot m_isDrawn m_x m_begin m_round m_roundCards m_fate m_any m_bothSend m_meanCards m_bestSum m_fitMany m_fitFirst m_fitSecond)), ((m_a 22), .inl (cZ, 3, .inl m_isKept_c)), ((m_a 16), .inl (cI, 5, .inl m_lines_c)), ((m_a 17), .inl (cI, 25, .inl m_has_c)), ((m_a 18), .inl (cI, 250, .inl m_person_c)), ((m_a 19), .inl (cI, 240, .inl m_pair_c)), ((m_a 20), .inl (cJ, 160, .inr (.inl m_lost_c))), ((m_a 21), .inl (cJ, 5, .inr (.inl m_strikes_c)))]) [0, 1, 2, 3, 4, 5, 6, 7] (by decide) rfl
    exact W.iret (v := (-6)) hx hb hr (fun t ht hW => ⟨⟨(-6), (0, m_lines_c, m_has_c, m_person_c, m_pair_c, m_lost_c, m_strikes_c), rfl, ⟨(show ir (0 : Int32).toInt 0 0 by decide), ha_m_has_c, ha_m_person_c, ha_m_pair_c, (show ir ((-6) : Int32).toInt (-6) 0 by decide)⟩, ⟨by rw [ht]; exact hP9, va_K.moved hW.alike hK, hD9⟩⟩, hS.F ht⟩) hS.2.2 dX12_on_31
  have f26 := (show y25.toInt ≠ 0 from z_ne rfl rfl c26)
  have r26a : ir y25.toInt 1 1 := ir_nel f26 r25 (by decide) (by decide)
  refine lv_aload_n hx hb dX12_on_32 rfl (lv_at hl 0 rfl) ?_
  refine lv_iconst (v := 1) hx hb dX12_on_33 (by decide) ?_
  refine lv_iload_n hx hb dX12_on_34 rfl (lv_at hl 1 rfl) ?_
  refine lv_iadd hx hb dX12_on_35 ?_
  refine lv_topi (fun y35 e35 => ?_)
  have q35 : y35.toInt = 1 + p0.toInt := by rw [e35]; exact ad_z rfl rfl (ir_c 1) r11_1a (by decide) (by decide)
  have r35 : ir y35.toInt 1 3 := ad_r q35 (ir_c 1) r11_1a (by decide) (by decide)
  refine lv_iconst (v := 0) hx hb dX12_on_36 (by decide) ?_
  refine rw_v (wr := [((m_a 22), .inl (cZ, 3, .inl m_isKept_c))]) (va_runV (As := [.int y35, .int 0]) (rest := []) ⟨hx, hb, hml, hown, hts⟩ (q_X12_copyLand l g cI cJ cB cZ cL y35 0 m m_a 0 m_taped m_at m_token m_place m_value m_word m_bad m_badPlace m_fault m_faultPlace m_willing m_will m_forgot m_isDrawn m_x m_begin m_round m_roundCards m_fate m_any m_bothSend m_meanCards m_bestSum m_fitMany m_fitFirst m_fitSecond m_lines_c m_has_c m_person_c m_pair_c m_lost_c m_strikes_c H.size (ir_w r35 (by decide) (by decide)) (by decide) hv_m_taped hv_m_at hv_m_will hv_m_isDrawn ha_m_has_c ha_m_person_c ha_m_pair_c) (cwV 2 hts (goodIn_app (g_4 (List.mem_cons_of_mem _ (List.mem_append_left _ (List.mem_of_getElem? (i := 6) rfl))) (List.mem_cons_of_mem _ (List.mem_append_left _ (List.mem_of_getElem? (i := 7) rfl))) (List.mem_cons_of_mem _ (List.mem_append_left _ (List.mem_of_getElem? (i := 8) rfl))) (List.mem_cons_of_mem _ (List.mem_append_left _ (List.mem_of_getElem? (i := 4) rfl))) (by decide +kernel)) (goodIn_sub (fun _ h => List.mem_cons_of_mem _ (List.mem_append_right _ (List.mem_append_right _ (List.mem_append_left _ h)))) good_v_X12_copyLand)) rfl rfl rfl (by decide +kernel) ⟨Nat.le_of_ble_eq_true rfl, Nat.le_of_ble_eq_true rfl⟩) (pv_RW (q := (RX12, TX12, 56)) (ci := 11) (q0 := 0) (wc := [(m, .inr (11, mG m_a 0 m_taped m_at m_token m_place m_value m_word m_bad m_badPlace m_fault m_faultPlace m_willing m_will m_forgot m_isDrawn m_x m_begin m_round m_roundCards m_fate m_any m_bothSend m_meanCards m_bestSum m_fitMany m_fitFirst m_fitSecond)), ((m_a 16), .inl (cI, 5, .inl m_lines_c)), ((m_a 17), .inl (cI, 25, .inl m_has_c)), ((m_a 18), .inl (cI, 250, .inl m_person_c)), ((m_a 19), .inl (cI, 240, .inl m_pair_c)), ((m_a 20), .inl (cJ, 160, .inr (.inl m_lost_c))), ((m_a 21), .inl (cJ, 5, .inr (.inl m_strikes_c)))]) hK hP hD [0, 2, 3, 4, 5, 6, 7] (by decide) rfl rfl rfl) rfl rfl hl.1 rfl (lv_room (Nat.le_of_ble_eq_true rfl)) dX12_on_37 ⟨Nat.le_of_ble_eq_true rfl, Nat.le_of_ble_eq_true rfl⟩) hS hA hP hD [0, 2, 3, 4, 5, 6, 7] [1] rfl rfl (by decide) (by decide) (fun u37 H locs hw37 hP hD hS => ?_)
  obtain ⟨n_m_lines_c_37, n_m_has_c_37, n_m_person_c_37, n_m_pair_c_37, n_m_lost_c_37, n_m_strikes_c_37⟩ := u37
  have hP : va_P g vwCl [((m_a 22), .inl (cZ, 3, .inl m_isKept_c)), (m, .inr (11, mG m_a 0 m_taped m_at m_token m_place m_value m_word m_bad m_badPlace m_fault m_faultPlace m_willing m_will m_forgot m_isDrawn m_x m_begin m_round m_roundCards m_fate m_any m_bothSend m_meanCards m_bestSum m_fitMany m_fitFirst m_fitSecond)), ((m_a 16), .inl (cI, 5, .inl n_m_lines_c_37)), ((m_a 17), .inl (cI, 25, .inl n_m_has_c_37)), ((m_a 18), .inl (cI, 250, .inl n_m_person_c_37)), ((m_a 19), .inl (cI, 240, .inl n_m_pair_c_37)), ((m_a 20), .inl (cJ, 160, .inr (.inl n_m_lost_c_37))), ((m_a 21), .inl (cJ, 5, .inr (.inl n_m_strikes_c_37)))] H := hP
  have hD : va_D A [((m_a 22), .inl (cZ, 3, .inl m_isKept_c)), (m, .inr (11, mG m_a 0 m_taped m_at m_token m_place m_value m_word m_bad m_badPlace m_fault m_faultPlace m_willing m_will m_forgot m_isDrawn m_x m_begin m_round m_roundCards m_fate m_any m_bothSend m_meanCards m_bestSum m_fitMany m_fitFirst m_fitSecond)), ((m_a 16), .inl (cI, 5, .inl n_m_lines_c_37)), ((m_a 17), .inl (cI, 25, .inl n_m_has_c_37)), ((m_a 18), .inl (cI, 250, .inl n_m_person_c_37)), ((m_a 19), .inl (cI, 240, .inl n_m_pair_c_37)), ((m_a 20), .inl (cJ, 160, .inr (.inl n_m_lost_c_37))), ((m_a 21), .inl (cJ, 5, .inr (.inl n_m_strikes_c_37)))] := hD
  dsimp only at hw37
  obtain ⟨hw37_0, hw37_1, hw37_2⟩ := hw37
  refine lv_iconst (v := 0) hx hb dX12_on_40 (by decide) ?_
  subst hQ
  have hP9 := hP.sub (ws' := [(m, .inr (11, mG m_a 0 m_taped m_at m_token m_place m_value m_word m_bad m_badPlace m_fault m_faultPlace m_willing m_will m_forgot m_isDrawn m_x m_begin m_round m_roundCards m_fate m_any m_bothSend m_meanCards m_bestSum m_fitMany m_fitFirst m_fitSecond)), ((m_a 22), .inl (cZ, 3, .inl m_isKept_c)), ((m_a 16), .inl (cI, 5, .inl n_m_lines_c_37)), ((m_a 17), .inl (cI, 25, .inl n_m_has_c_37)), ((m_a 18), .inl (cI, 250, .inl n_m_person_c_37)), ((m_a 19), .inl (cI, 240, .inl n_m_pair_c_37)), ((m_a 20), .inl (cJ, 160, .inr (.inl n_m_lost_c_37))), ((m_a 21), .inl (cJ, 5, .inr (.inl n_m_strikes_c_37)))]) [1, 0, 2, 3, 4, 5, 6, 7] rfl
  have hD9 := hD.sub (ws' := [(m, .inr (11, mG m_a 0 m_taped m_at m_token m_place m_value m_word m_bad m_badPlace m_fault m_faultPlace m_willing m_will m_forgot m_isDrawn m_x m_begin m_round m_roundCards m_fate m_any m_bothSend m_meanCards m_bestSum m_fitMany m_fitFirst m_fitSecond)), ((m_a 22), .inl (cZ, 3, .inl m_isKept_c)), ((m_a 16), .inl (cI, 5, .inl n_m_lines_c_37)), ((m_a 17), .inl (cI, 25, .inl n_m_has_c_37)), ((m_a 18), .inl (cI, 250, .inl n_m_person_c_37)), ((m_a 19), .inl (cI, 240, .inl n_m_pair_c_37)), ((m_a 20), .inl (cJ, 160, .inr (.inl n_m_lost_c_37))), ((m_a 21), .inl (cJ, 5, .inr (.inl n_m_strikes_c_37)))]) [1, 0, 2, 3, 4, 5, 6, 7] (by decide) rfl
  exact W.iret (v := 0) hx hb hr (fun t ht hW => ⟨⟨0, (0, n_m_lines_c_37, n_m_has_c_37, n_m_person_c_37, n_m_pair_c_37, n_m_lost_c_37, n_m_strikes_c_37), rfl, ⟨(show ir (0 : Int32).toInt 0 0 by decide), hw37_0, hw37_1, hw37_2, (show ir (0 : Int32).toInt (-6) 0 by decide)⟩, ⟨by rw [ht]; exact hP9, va_K.moved hW.alike hK, hD9⟩⟩, hS.F ht⟩) hS.2.2 dX12_on_41
def v_X12_sideRule : List Cond := .code yX12_sideRule cX12_sideRule 3 (some .int) :: (([.methodLink RX12 321 yX12_whoOf, .instanceMethod yX12_whoOf, .selects RX12 yX12_whoOf yX12_whoOf, .initialized RX12, .methodLink RX12 324 yX12_ruleOf, .instanceMethod yX12_ruleOf, .selects RX12 yX12_ruleOf yX12_ruleOf] : List Cond) ++ (v_X12_whoOf ++ (v_X12_ruleOf ++ ([] : List Cond))))
theorem good_v_X12_sideRule : v_X12_sideRule.all goodWord = true := ga_c (by decide +kernel) (ga_a (by decide +kernel) (ga_a good_v_X12_whoOf (ga_a good_v_X12_ruleOf rfl)))
set_option maxHeartbeats 4000000 in
set_option maxRecDepth 100000 in
theorem q_X12_sideRule (l : Launch) (g : va_G) (cI cJ cB cZ cL : ClassId) (p0 : Int32) (p1 : Int32) (m : Nat) (m_a : Nat → Nat) (m_thrown : Int32) (m_taped : Int32) (m_at : Int32) (m_token : Int32) (m_place : Int32) (m_value : Int32) (m_word : Int64) (m_bad : Int32) (m_badPlace : Int32) (m_fault : Int32) (m_faultPlace : Int32) (m_willing : Int32) (m_will : Int32) (m_forgot : Int32) (m_isDrawn : Int32) (m_x : Int64) (m_begin : Int32) (m_round : Int32) (m_roundCards : Int32) (m_fate : Int32) (m_any : Int64) (m_bothSend : Int64) (m_meanCards : Int64) (m_bestSum : Int32) (m_fitMany : Int32) (m_fitFirst : Int64) (m_fitSecond : Int64) (m_pair_c : Nat → Int32) (m_person_c : Nat → Int32) (sz : Nat) (hv_p0 : ir p0.toInt 0 15) (hv_p1 : ir p1.toInt 0 1) (hv_m_taped : ir m_taped.toInt 0 1600) (hv_m_at : ir m_at.toInt 0 1600) (hv_m_will : ir m_will.toInt 0 1) (hv_m_isDrawn : ir m_isDrawn.toInt 0 1) (ha_m_pair_c : ar m_pair_c 240 0 15) (ha_m_person_c : perI m_person_c) : Met l yX12_sideRule v_X12_sideRule ({ frames := 2, cells := 0, slots := 0, locals := 43 }) (va_Pc [.ref m, .int p0, .int p1] (pRO g (tyT cI cJ cB cZ cL) [(m, .inr (11, mG m_a m_thrown m_taped m_at m_token m_place m_value m_word m_bad m_badPlace m_fault m_faultPlace m_willing m_will m_forgot m_isDrawn m_x m_begin m_round m_roundCards m_fate m_any m_bothSend m_meanCards m_bestSum m_fitMany m_fitFirst m_fitSecond)), ((m_a 19), .inl (cI, 240, .inl m_pair_c)), ((m_a 18), .inl (cI, 250, .inl m_person_c))] sz)) (va_Qi (fun (r : Int32) (u : Unit) => (r = sdV m_pair_c m_person_c p0 p1) ∧ (ir r.toInt 0 31)) (fun (_ : Unit) (_ : State) => True) (va_A [] sz)) 0 0 (va_A [] sz) := by
  refine Met.ofW (cc := cX12_sideRule) (maxL := 3) (ret := (some .int)) (by decide) rfl ?_
  intro p e s mth args below meth c s₁ B hml hv
  obtain ⟨rfl, hsz, hP, hK⟩ := hv
  have hx := B.exec
  have hb := B.bytes
  have hr := B.returns
  have hts := atoms_spec (ws := v_X12_sideRule) B.pre
  have hown : s.vm.findClass RX12 = some mth.cls := findClass_of_methodNamed B.named
  have hlocks := B.notSynchronized
  clear B
  subst hsz
  generalize hAe : (va_A [] s.heap.size) = A
  have hA : ∀ q : Nat, s.heap.size ≤ q → A q := fun q h => by rw [← hAe]; exact Or.inr h
  have hS : va_S A s.heap s.heap [] := va_S.rf
  have hl := lv_entry ([.ref m, .int p0, .int p1]) (n := 3) (Nat.le_of_ble_eq_true rfl)
  rw [lg_entry_eq]
  generalize (lg_sl ([.ref m, .int p0, .int p1]) ++ List.replicate (3 - (lg_sl ([.ref m, .int p0, .int p1])).length) Slot.unset).toArray = ls at hl ⊢
  generalize ([.ref m, .int p0, .int p1] : List Value).toArray = av at hts ⊢
  generalize hQ : MQ below _ av s _ _ A = QQ
  have hl : lv_has ls 3 [(0, .ref m), (1, .int p0), (2, .int p1)] := hl
  have hP : va_P g vwCl [(m, .inr (11, mG m_a m_thrown m_taped m_at m_token m_place m_value m_word m_bad m_badPlace m_fault m_faultPlace m_willing m_will m_forgot m_isDrawn m_x m_begin m_round m_roundCards m_fate m_any m_bothSend m_meanCards m_bestSum m_fitMany m_fitFirst m_fitSecond)), ((m_a 19), .inl (cI, 240, .inl m_pair_c)), ((m_a 18), .inl (cI, 250, .inl m_person_c))] s.heap := hP
  refine lv_aload_n hx hb dX12_sideRule_0 rfl (lv_at hl 0 rfl) ?_
  refine lv_aload_n hx hb dX12_sideRule_1 rfl (lv_at hl 0 rfl) ?_
  refine lv_iload_n hx hb dX12_sideRule_2 rfl (lv_at hl 1 rfl) ?_
  refine lv_iload_n hx hb dX12_sideRule_3 rfl (lv_at hl 2 rfl) ?_
  refine ro_i (va_runV (As := [.int p0, .int p1]) (rest := [.ref m]) ⟨hx, hb, hml, hown, hts⟩ (q_X12_whoOf l g cI cJ cB cZ cL p0 p1 m m_a m_thrown m_taped m_at m_token m_place m_value m_word m_bad m_badPlace m_fault m_faultPlace m_willing m_will m_forgot m_isDrawn m_x m_begin m_round m_roundCards m_fate m_any m_bothSend m_meanCards m_bestSum m_fitMany m_fitFirst m_fitSecond m_pair_c s.heap.size hv_p0 hv_p1 hv_m_taped hv_m_at hv_m_will hv_m_isDrawn ha_m_pair_c) (cwV 2 hts (goodIn_app (g_4 (List.mem_cons_of_mem _ (List.mem_append_left _ (List.mem_of_getElem? (i := 0) rfl))) (List.mem_cons_of_mem _ (List.mem_append_left _ (List.mem_of_getElem? (i := 1) rfl))) (List.mem_cons_of_mem _ (List.mem_append_left _ (List.mem_of_getElem? (i := 2) rfl))) (List.mem_cons_of_mem _ (List.mem_append_left _ (List.mem_of_getElem? (i := 3) rfl))) (by decide +kernel)) (goodIn_sub (fun _ h => List.mem_cons_of_mem _ (List.mem_append_right _ (List.mem_append_left _ h))) good_v_X12_whoOf)) rfl rfl rfl (by decide +kernel) ⟨Nat.le_of_ble_eq_true rfl, Nat.le_of_ble_eq_true rfl⟩) (pv_RO (q := (RX12, TX12, 56)) (ci := 11) (q0 := 0) (wc := [(m, .inr (11, mG m_a m_thrown m_taped m_at m_token m_place m_value m_word m_bad m_badPlace m_fault m_faultPlace m_willing m_will m_forgot m_isDrawn m_x m_begin m_round m_roundCards m_fate m_any m_bothSend m_meanCards m_bestSum m_fitMany m_fitFirst m_fitSecond)), ((m_a 19), .inl (cI, 240, .inl m_pair_c))]) hK hP [0, 1] rfl rfl rfl) rfl rfl hl.1 rfl (lv_room (Nat.le_of_ble_eq_true rfl)) dX12_sideRule_4 ⟨Nat.le_of_ble_eq_true rfl, Nat.le_of_ble_eq_true rfl⟩) hS hA hP (fun r4 u4 H locs hw4 hP hS => ?_)
  obtain ⟨hw4_0, hw4_1⟩ := hw4
  have hw4_0 : r4 = whoV m_pair_c p0 p1 := hw4_0
  refine ro_i (va_runV (As := [.int r4]) (rest := []) ⟨hx, hb, hml, hown, hts⟩ (q_X12_ruleOf l g cI cJ cB cZ cL r4 m m_a m_thrown m_taped m_at m_token m_place m_value m_word m_bad m_badPlace m_fault m_faultPlace m_willing m_will m_forgot m_isDrawn m_x m_begin m_round m_roundCards m_fate m_any m_bothSend m_meanCards m_bestSum m_fitMany m_fitFirst m_fitSecond m_person_c H.size hw4_1 hv_m_taped hv_m_at hv_m_will hv_m_isDrawn ha_m_person_c) (cwV 1 hts (goodIn_app (g_4 (List.mem_cons_of_mem _ (List.mem_append_left _ (List.mem_of_getElem? (i := 4) rfl))) (List.mem_cons_of_mem _ (List.mem_append_left _ (List.mem_of_getElem? (i := 5) rfl))) (List.mem_cons_of_mem _ (List.mem_append_left _ (List.mem_of_getElem? (i := 6) rfl))) (List.mem_cons_of_mem _ (List.mem_append_left _ (List.mem_of_getElem? (i := 3) rfl))) (by decide +kernel)) (goodIn_sub (fun _ h => List.mem_cons_of_mem _ (List.mem_append_right _ (List.mem_append_right _ (List.mem_append_left _ h)))) good_v_X12_ruleOf)) rfl rfl rfl (by decide +kernel) ⟨Nat.le_of_ble_eq_true rfl, Nat.le_of_ble_eq_true rfl⟩) (pv_RO (q := (RX12, TX12, 56)) (ci := 11) (q0 := 0) (wc := [(m, .inr (11, mG m_a m_thrown m_taped m_at m_token m_place m_value m_word m_bad m_badPlace m_fault m_faultPlace m_willing m_will m_forgot m_isDrawn m_x m_begin m_round m_roundCards m_fate m_any m_bothSend m_meanCards m_bestSum m_fitMany m_fitFirst m_fitSecond)), ((m_a 18), .inl (cI, 250, .inl m_person_c))]) hK hP [0, 2] rfl rfl rfl) rfl rfl hl.1 rfl (lv_room (Nat.le_of_ble_eq_true rfl)) dX12_sideRule_7 ⟨Nat.le_of_ble_eq_true rfl, Nat.le_of_ble_eq_true rfl⟩) hS hA hP (fun r7 u7 H locs hw7 hP hS => ?_)
  obtain ⟨hw7_0, hw7_1⟩ := hw7
  have hw7_0 : r7 = ruV m_person_c r4 := hw7_0
  subst hQ
  exact W.iret (v := r7) hx hb hr (fun t ht hW => ⟨⟨r7, (), rfl, ⟨(by rw [hw7_0, hw4_0]; rfl), hw7_1⟩, trivial⟩, hS.F ht⟩) hS.2.2 dX12_sideRule_10
def v_X12_forgets : List Cond := .code yX12_forgets cX12_forgets 3 (some .int) :: (([.methodLink RX12 321 yX12_whoOf, .instanceMethod yX12_whoOf, .selects RX12 yX12_whoOf yX12_whoOf, .initialized RX12, .methodLink RX12 273 yX12_has0, .instanceMethod yX12_has0, .selects RX12 yX12_has0 yX12_has0] : List Cond) ++ (v_X12_whoOf ++ (v_X12_has0 ++ ([] : List Cond))))
theorem good_v_X12_forgets : v_X12_forgets.all goodWord = true := ga_c (by decide +kernel) (ga_a (by decide +kernel) (ga_a good_v_X12_whoOf (ga_a good_v_X12_has0 rfl)))
set_option maxHeartbeats 4000000 in
set_option maxRecDepth 100000 in
theorem q_X12_forgets (l : Launch) (g : va_G) (cI cJ cB cZ cL : ClassId) (p0 : Int32) (p1 : Int32) (m : Nat) (m_a : Nat → Nat) (m_thrown : Int32) (m_taped : Int32) (m_at : Int32) (m_token : Int32) (m_place : Int32) (m_value : Int32) (m_word : Int64) (m_bad : Int32) (m_badPlace : Int32) (m_fault : Int32) (m_faultPlace : Int32) (m_willing : Int32) (m_will : Int32) (m_forgot : Int32) (m_isDrawn : Int32) (m_x : Int64) (m_begin : Int32) (m_round : Int32) (m_roundCards : Int32) (m_fate : Int32) (m_any : Int64) (m_bothSend : Int64) (m_meanCards : Int64) (m_bestSum : Int32) (m_fitMany : Int32) (m_fitFirst : Int64) (m_fitSecond : Int64) (m_pair_c : Nat → Int32) (m_person_c : Nat → Int32) (sz : Nat) (hv_p0 : ir p0.toInt 0 15) (hv_p1 : ir p1.toInt 0 1) (hv_m_taped : ir m_taped.toInt 0 1600) (hv_m_at : ir m_at.toInt 0 1600) (hv_m_will : ir m_will.toInt 0 1) (hv_m_isDrawn : ir m_isDrawn.toInt 0 1) (ha_m_pair_c : ar m_pair_c 240 0 15) (ha_m_person_c : perI m_person_c) : Met l yX12_forgets v_X12_forgets ({ frames := 1, cells := 0, slots := 0, locals := 22 }) (va_Pc [.ref m, .int p0, .int p1] (pRO g (tyT cI cJ cB cZ cL) [(m, .inr (11, mG m_a m_thrown m_taped m_at m_token m_place m_value m_word m_bad m_badPlace m_fault m_faultPlace m_willing m_will m_forgot m_isDrawn m_x m_begin m_round m_roundCards m_fate m_any m_bothSend m_meanCards m_bestSum m_fitMany m_fitFirst m_fitSecond)), ((m_a 19), .inl (cI, 240, .inl m_pair_c)), ((m_a 18), .inl (cI, 250, .inl m_person_c))] sz)) (va_Qi (fun (r : Int32) (u : Unit) => True) (fun (_ : Unit) (_ : State) => True) (va_A [] sz)) 0 0 (va_A [] sz) := by
  refine Met.ofW (cc := cX12_forgets) (maxL := 3) (ret := (some .int)) (by decide) rfl ?_
  intro p e s mth args below meth c s₁ B hml hv
  obtain ⟨rfl, hsz, hP, hK⟩ := hv
  have hx := B.exec
  have hb := B.bytes
  have hr := B.returns
  have hts := atoms_spec (ws := v_X12_forgets) B.pre
  have hown : s.vm.findClass RX12 = some mth.cls := findClass_of_methodNamed B.named
  have hlocks := B.notSynchronized
  clear B
  subst hsz
  generalize hAe : (va_A [] s.heap.size) = A
  have hA : ∀ q : Nat, s.heap.size ≤ q → A q := fun q h => by rw [← hAe]; exact Or.inr h
  have hS : va_S A s.heap s.heap [] := va_S.rf
  have hl := lv_entry ([.ref m, .int p0, .int p1]) (n := 3) (Nat.le_of_ble_eq_true rfl)
  rw [lg_entry_eq]
  generalize (lg_sl ([.ref m, .int p0, .int p1]) ++ List.replicate (3 - (lg_sl ([.ref m, .int p0, .int p1])).length) Slot.unset).toArray = ls at hl ⊢
  generalize ([.ref m, .int p0, .int p1] : List Value).toArray = av at hts ⊢
  generalize hQ : MQ below _ av s _ _ A = QQ
  have hl : lv_has ls 3 [(0, .ref m), (1, .int p0), (2, .int p1)] := hl
  have hP : va_P g vwCl [(m, .inr (11, mG m_a m_thrown m_taped m_at m_token m_place m_value m_word m_bad m_badPlace m_fault m_faultPlace m_willing m_will m_forgot m_isDrawn m_x m_begin m_round m_roundCards m_fate m_any m_bothSend m_meanCards m_bestSum m_fitMany m_fitFirst m_fitSecond)), ((m_a 19), .inl (cI, 240, .inl m_pair_c)), ((m_a 18), .inl (cI, 250, .inl m_person_c))] s.heap := hP
  refine lv_aload_n hx hb dX12_forgets_0 rfl (lv_at hl 0 rfl) ?_
  refine lv_aload_n hx hb dX12_forgets_1 rfl (lv_at hl 0 rfl) ?_
  refine lv_iload_n hx hb dX12_forgets_2 rfl (lv_at hl 1 rfl) ?_
  refine lv_iload_n hx hb dX12_forgets_3 rfl (lv_at hl 2 rfl) ?_
  refine ro_i (va_runV (As := [.int p0, .int p1]) (rest := [.ref m]) ⟨hx, hb, hml, hown, hts⟩ (q_X12_whoOf l g cI cJ cB cZ cL p0 p1 m m_a m_thrown m_taped m_at m_token m_place m_value m_word m_bad m_badPlace m_fault m_faultPlace m_willing m_will m_forgot m_isDrawn m_x m_begin m_round m_roundCards m_fate m_any m_bothSend m_meanCards m_bestSum m_fitMany m_fitFirst m_fitSecond m_pair_c s.heap.size hv_p0 hv_p1 hv_m_taped hv_m_at hv_m_will hv_m_isDrawn ha_m_pair_c) (cwV 2 hts (goodIn_app (g_4 (List.mem_cons_of_mem _ (List.mem_append_left _ (List.mem_of_getElem? (i := 0) rfl))) (List.mem_cons_of_mem _ (List.mem_append_left _ (List.mem_of_getElem? (i := 1) rfl))) (List.mem_cons_of_mem _ (List.mem_append_left _ (List.mem_of_getElem? (i := 2) rfl))) (List.mem_cons_of_mem _ (List.mem_append_left _ (List.mem_of_getElem? (i := 3) rfl))) (by decide +kernel)) (goodIn_sub (fun _ h => List.mem_cons_of_mem _ (List.mem_append_right _ (List.mem_append_left _ h))) good_v_X12_whoOf)) rfl rfl rfl (by decide +kernel) ⟨Nat.le_of_ble_eq_true rfl, Nat.le_of_ble_eq_true rfl⟩) (pv_RO (q := (RX12, TX12, 56)) (ci := 11) (q0 := 0) (wc := [(m, .inr (11, mG m_a m_thrown m_taped m_at m_token m_place m_value m_word m_bad m_badPlace m_fault m_faultPlace m_willing m_will m_forgot m_isDrawn m_x m_begin m_round m_roundCards m_fate m_any m_bothSend m_meanCards m_bestSum m_fitMany m_fitFirst m_fitSecond)), ((m_a 19), .inl (cI, 240, .inl m_pair_c))]) hK hP [0, 1] rfl rfl rfl) rfl rfl hl.1 rfl (lv_room (Nat.le_of_ble_eq_true rfl)) dX12_forgets_4 ⟨Nat.le_of_ble_eq_true rfl, Nat.le_of_ble_eq_true rfl⟩) hS hA hP (fun r4 u4 H locs hw4 hP hS => ?_)
  obtain ⟨hw4_0, hw4_1⟩ := hw4
  have hw4_0 : r4 = whoV m_pair_c p0 p1 := hw4_0
  refine lv_iconst (v := 2) hx hb dX12_forgets_7 (by decide) ?_
  refine ro_i (va_runV (As := [.int r4, .int 2]) (rest := []) ⟨hx, hb, hml, hown, hts⟩ (q_X12_has0 l g cI cJ cB cZ cL r4 2 m m_a m_thrown m_taped m_at m_token m_place m_value m_word m_bad m_badPlace m_fault m_faultPlace m_willing m_will m_forgot m_isDrawn m_x m_begin m_round m_roundCards m_fate m_any m_bothSend m_meanCards m_bestSum m_fitMany m_fitFirst m_fitSecond m_person_c H.size hw4_1 (by decide) hv_m_taped hv_m_at hv_m_will hv_m_isDrawn ha_m_person_c) (cwV 2 hts (goodIn_app (g_4 (List.mem_cons_of_mem _ (List.mem_append_left _ (List.mem_of_getElem? (i := 4) rfl))) (List.mem_cons_of_mem _ (List.mem_append_left _ (List.mem_of_getElem? (i := 5) rfl))) (List.mem_cons_of_mem _ (List.mem_append_left _ (List.mem_of_getElem? (i := 6) rfl))) (List.mem_cons_of_mem _ (List.mem_append_left _ (List.mem_of_getElem? (i := 3) rfl))) (by decide +kernel)) (goodIn_sub (fun _ h => List.mem_cons_of_mem _ (List.mem_append_right _ (List.mem_append_right _ (List.mem_append_left _ h)))) good_v_X12_has0)) rfl rfl rfl (by decide +kernel) ⟨Nat.le_of_ble_eq_true rfl, Nat.le_of_ble_eq_true rfl⟩) (pv_RO (q := (RX12, TX12, 56)) (ci := 11) (q0 := 0) (wc := [(m, .inr (11, mG m_a m_thrown m_taped m_at m_token m_place m_value m_word m_bad m_badPlace m_fault m_faultPlace m_willing m_will m_forgot m_isDrawn m_x m_begin m_round m_roundCards m_fate m_any m_bothSend m_meanCards m_bestSum m_fitMany m_fitFirst m_fitSecond)), ((m_a 18), .inl (cI, 250, .inl m_person_c))]) hK hP [0, 2] rfl rfl rfl) rfl rfl hl.1 rfl (lv_room (Nat.le_of_ble_eq_true rfl)) dX12_forgets_8 ⟨Nat.le_of_ble_eq_true rfl, Nat.le_of_ble_eq_true rfl⟩) hS hA hP (fun r8 u8 H locs hw8 hP hS => ?_)
  subst hQ
  exact W.iret (v := r8) hx hb hr (fun t ht hW => ⟨⟨r8, (), rfl, trivial, trivial⟩, hS.F ht⟩) hS.2.2 dX12_forgets_11
def v_X12_isChance : List Cond := .code yX12_isChance cX12_isChance 4 (some .boolean) :: (([.methodLink RX12 281 yX12_isPair, .instanceMethod yX12_isPair, .selects RX12 yX12_isPair yX12_isPair, .initialized RX12, .constantLong RX12 110 (3), .methodLink RX12 112 yX12_in, .static yX12_in] : List Cond) ++ (v_X12_isPair ++ (v_X12_in ++ ([] : List Cond))))
theorem good_v_X12_isChance : v_X12_isChance.all goodWord = true := ga_c (by decide +kernel) (ga_a (by decide +kernel) (ga_a good_v_X12_isPair (ga_a good_v_X12_in rfl)))
set_option maxHeartbeats 4000000 in
set_option maxRecDepth 100000 in
theorem q_X12_isChance (l : Launch) (g : va_G) (cI cJ cB cZ cL : ClassId) (p0 : Int32) (p1 : Int32) (p2 : Int32) (m : Nat) (m_a : Nat → Nat) (m_thrown : Int32) (m_taped : Int32) (m_at : Int32) (m_token : Int32) (m_place : Int32) (m_value : Int32) (m_word : Int64) (m_bad : Int32) (m_badPlace : Int32) (m_fault : Int32) (m_faultPlace : Int32) (m_willing : Int32) (m_will : Int32) (m_forgot : Int32) (m_isDrawn : Int32) (m_x : Int64) (m_begin : Int32) (m_round : Int32) (m_roundCards : Int32) (m_fate : Int32) (m_any : Int64) (m_bothSend : Int64) (m_meanCards : Int64) (m_bestSum : Int32) (m_fitMany : Int32) (m_fitFirst : Int64) (m_fitSecond : Int64) (m_has_c : Nat → Int32) (sz : Nat) (hv_m_taped : ir m_taped.toInt 0 1600) (hv_m_at : ir m_at.toInt 0 1600) (hv_m_will : ir m_will.toInt 0 1) (hv_m_isDrawn : ir m_isDrawn.toInt 0 1) (ha_m_has_c : hasI m_has_c) : Met l yX12_isChance v_X12_isChance ({ frames := 2, cells := 0, slots := 0, locals := 46 }) (va_Pc [.ref m, .int p0, .int p1, .int p2] (pRO g (tyT cI cJ cB cZ cL) [(m, .inr (11, mG m_a m_thrown m_taped m_at m_token m_place m_value m_word m_bad m_badPlace m_fault m_faultPlace m_willing m_will m_forgot m_isDrawn m_x m_begin m_round m_roundCards m_fate m_any m_bothSend m_meanCards m_bestSum m_fitMany m_fitFirst m_fitSecond)), ((m_a 17), .inl (cI, 25, .inl m_has_c))] sz)) (va_Qi (fun (r : Int32) (u : Unit) => ((r = 1 ∧ 0 ≤ p0.toInt ∧ p0.toInt ≤ 15 ∧ 1 ≤ p1.toInt ∧ p1.toInt ≤ 3) ∨ (r = 0))) (fun (_ : Unit) (_ : State) => True) (va_A [] sz)) 0 0 (va_A [] sz) := by
  refine Met.ofW (cc := cX12_isChance) (maxL := 4) (ret := (some .boolean)) (by decide) rfl ?_
  intro p e s mth args below meth c s₁ B hml hv
  obtain ⟨rfl, hsz, hP, hK⟩ := hv
  have hx := B.exec
  have hb := B.bytes
  have hr := B.returns
  have hts := atoms_spec (ws := v_X12_isChance) B.pre
  have hown : s.vm.findClass RX12 = some mth.cls := findClass_of_methodNamed B.named
  have hlocks := B.notSynchronized
  clear B
  subst hsz
  generalize hAe : (va_A [] s.heap.size) = A
  have hA : ∀ q : Nat, s.heap.size ≤ q → A q := fun q h => by rw [← hAe]; exact Or.inr h
  have hS : va_S A s.heap s.heap [] := va_S.rf
  have hl := lv_entry ([.ref m, .int p0, .int p1, .int p2]) (n := 4) (Nat.le_of_ble_eq_true rfl)
  rw [lg_entry_eq]
  generalize (lg_sl ([.ref m, .int p0, .int p1, .int p2]) ++ List.replicate (4 - (lg_sl ([.ref m, .int p0, .int p1, .int p2])).length) Slot.unset).toArray = ls at hl ⊢
  generalize ([.ref m, .int p0, .int p1, .int p2] : List Value).toArray = av at hts ⊢
  generalize hQ : MQ below _ av s _ _ A = QQ
  have hl : lv_has ls 4 [(0, .ref m), (1, .int p0), (2, .int p1), (3, .int p2)] := hl
  have hP : va_P g vwCl [(m, .inr (11, mG m_a m_thrown m_taped m_at m_token m_place m_value m_word m_bad m_badPlace m_fault m_faultPlace m_willing m_will m_forgot m_isDrawn m_x m_begin m_round m_roundCards m_fate m_any m_bothSend m_meanCards m_bestSum m_fitMany m_fitFirst m_fitSecond)), ((m_a 17), .inl (cI, 25, .inl m_has_c))] s.heap := hP
  refine lv_aload_n hx hb dX12_isChance_0 rfl (lv_at hl 0 rfl) ?_
  refine lv_iload_n hx hb dX12_isChance_1 rfl (lv_at hl 1 rfl) ?_
  refine ro_i (va_runV (As := [.int p0]) (rest := []) ⟨hx, hb, hml, hown, hts⟩ (q_X12_isPair l g cI cJ cB cZ cL p0 m m_a m_thrown m_taped m_at m_token m_place m_value m_word m_bad m_badPlace m_fault m_faultPlace m_willing m_will m_forgot m_isDrawn m_x m_begin m_round m_roundCards m_fate m_any m_bothSend m_meanCards m_bestSum m_fitMany m_fitFirst m_fitSecond m_has_c s.heap.size hv_m_taped hv_m_at hv_m_will hv_m_isDrawn ha_m_has_c) (cwV 1 hts (goodIn_app (g_4 (List.mem_cons_of_mem _ (List.mem_append_left _ (List.mem_of_getElem? (i := 0) rfl))) (List.mem_cons_of_mem _ (List.mem_append_left _ (List.mem_of_getElem? (i := 1) rfl))) (List.mem_cons_of_mem _ (List.mem_append_left _ (List.mem_of_getElem? (i := 2) rfl))) (List.mem_cons_of_mem _ (List.mem_append_left _ (List.mem_of_getElem? (i := 3) rfl))) (by decide +kernel)) (goodIn_sub (fun _ h => List.mem_cons_of_mem _ (List.mem_append_right _ (List.mem_append_left _ h))) good_v_X12_isPair)) rfl rfl rfl (by decide +kernel) ⟨Nat.le_of_ble_eq_true rfl, Nat.le_of_ble_eq_true rfl⟩) (pv_RO (q := (RX12, TX12, 56)) (ci := 11) (q0 := 0) (wc := [(m, .inr (11, mG m_a m_thrown m_taped m_at m_token m_place m_value m_word m_bad m_badPlace m_fault m_faultPlace m_willing m_will m_forgot m_isDrawn m_x m_begin m_round m_roundCards m_fate m_any m_bothSend m_meanCards m_bestSum m_fitMany m_fitFirst m_fitSecond)), ((m_a 17), .inl (cI, 25, .inl m_has_c))]) hK hP [0, 1] rfl rfl rfl) rfl rfl hl.1 rfl (lv_room (Nat.le_of_ble_eq_true rfl)) dX12_isChance_2 ⟨Nat.le_of_ble_eq_true rfl, Nat.le_of_ble_eq_true rfl⟩) hS hA hP (fun r2 u2 H locs hw2 hP hS => ?_)
  have hw2_0 := hw2
  rcases hw2_0 with ⟨er2, fc2_0, fc2_1⟩ | er2
  rotate_left 1
  · subst er2
    refine lv_if_eq (tgt := 34) hx hb dX12_isChance_5 (by decide) (fun _ => ?_) (fun c => absurd c (by decide))
    refine lv_iconst (v := 0) hx hb dX12_isChance_34 (by decide) ?_
    subst hQ
    exact W.zret (v := 0) hx hb hr rfl (fun t ht hW => ⟨⟨0, (), rfl, (Or.inr rfl), trivial⟩, hS.F ht⟩) hS.2.2 dX12_isChance_35
  subst er2
  have fc2_0 : 0 ≤ p0.toInt := fc2_0
  have r2_0b : ir p0.toInt 0 2147483647 := ir_leb fc2_0 (ir_c 0) (rg_all p0) (by decide)
  have fc2_1 : p0.toInt ≤ 15 := fc2_1
  have r2_1a : ir p0.toInt 0 15 := ir_lea fc2_1 r2_0b (ir_c 15) (by decide)
  refine lv_if_eq (tgt := 34) hx hb dX12_isChance_5 (by decide) (fun c => absurd c (by decide)) (fun _ => ?_)
  refine lv_iload_n hx hb dX12_isChance_8 rfl (lv_at hl 2 rfl) ?_
  refine lv_i2l (v := p1.toInt64) hx hb dX12_isChance_9 rfl ?_
  refine lv_lconst (v := 1) hx hb dX12_isChance_10 (by decide) ?_
  refine lv_ldc2 (v := 3) hx hb hown (hts (.constantLong RX12 110 (3)) (List.mem_cons_of_mem _ (List.mem_append_left _ (List.mem_of_getElem? (i := 4) rfl)))) dX12_isChance_11 ?_
  refine ro_i (va_runS (As := [.long p1.toInt64, .long 1, .long 3]) (rest := []) ⟨hx, hb, hml, hown, hts⟩ (q_X12_in l g cI cJ cB cZ cL p1.toInt64 p1.toInt 1 1 3 3 H.size (z_i2l rfl) rfl rfl) (va_cwS 3 hts (goodIn_app (g_3 (List.mem_cons_of_mem _ (List.mem_append_left _ (List.mem_of_getElem? (i := 5) rfl))) (List.mem_cons_of_mem _ (List.mem_append_left _ (List.mem_of_getElem? (i := 6) rfl))) (List.mem_cons_of_mem _ (List.mem_append_left _ (List.mem_of_getElem? (i := 3) rfl))) (by decide +kernel)) (goodIn_sub (fun _ h => List.mem_cons_of_mem _ (List.mem_append_right _ (List.mem_append_right _ (List.mem_append_left _ h)))) good_v_X12_in)) rfl rfl rfl (by decide +kernel) ⟨Nat.le_of_ble_eq_true rfl, Nat.le_of_ble_eq_true rfl⟩) (ps_RO (wc := []) hK hP [] rfl) rfl rfl hl.1 rfl (lv_room (Nat.le_of_ble_eq_true rfl)) dX12_isChance_14 ⟨Nat.le_of_ble_eq_true rfl, Nat.le_of_ble_eq_true rfl⟩) hS hA hP (fun r14 u14 H locs hw14 hP hS => ?_)
  have hw14_0 := hw14
  rcases hw14_0 with ⟨er14, fc14_0, fc14_1⟩ | er14
  rotate_left 1
  · subst er14
    refine lv_if_eq (tgt := 34) hx hb dX12_isChance_17 (by decide) (fun _ => ?_) (fun c => absurd c (by decide))
    refine lv_iconst (v := 0) hx hb dX12_isChance_34 (by decide) ?_
    subst hQ
    exact W.zret (v := 0) hx hb hr rfl (fun t ht hW => ⟨⟨0, (), rfl, (Or.inr rfl), trivial⟩, hS.F ht⟩) hS.2.2 dX12_isChance_35
  subst er14
  have fc14_0 : 1 ≤ p1.toInt := fc14_0
  have r14_0b : ir p1.toInt 1 2147483647 := ir_leb fc14_0 (ir_c 1) (rg_all p1) (by decide)
  have fc14_1 : p1.toInt ≤ 3 := fc14_1
  have r14_1a : ir p1.toInt 1 3 := ir_lea fc14_1 r14_0b (ir_c 3) (by decide)
  refine lv_if_eq (tgt := 34) hx hb dX12_isChance_17 (by decide) (fun c => absurd c (by decide)) (fun _ => ?_)
  refine lv_iload_n hx hb dX12_isChance_20 rfl (lv_at hl 3 rfl) ?_
  refine lv_i2l (v := p2.toInt64) hx hb dX12_isChance_21 rfl ?_
  refine lv_lconst (v := 0) hx hb dX12_isChance_22 (by decide) ?_
  refine lv_lconst (v := 1) hx hb dX12_isChance_23 (by decide) ?_
  refine ro_i (va_runS (As := [.long p2.toInt64, .long 0, .long 1]) (rest := []) ⟨hx, hb, hml, hown, hts⟩ (q_X12_in l g cI cJ cB cZ cL p2.toInt64 p2.toInt 0 0 1 1 H.size (z_i2l rfl) rfl rfl) (va_cwS 3 hts (goodIn_app (g_3 (List.mem_cons_of_mem _ (List.mem_append_left _ (List.mem_of_getElem? (i := 5) rfl))) (List.mem_cons_of_mem _ (List.mem_append_left _ (List.mem_of_getElem? (i := 6) rfl))) (List.mem_cons_of_mem _ (List.mem_append_left _ (List.mem_of_getElem? (i := 3) rfl))) (by decide +kernel)) (goodIn_sub (fun _ h => List.mem_cons_of_mem _ (List.mem_append_right _ (List.mem_append_right _ (List.mem_append_left _ h)))) good_v_X12_in)) rfl rfl rfl (by decide +kernel) ⟨Nat.le_of_ble_eq_true rfl, Nat.le_of_ble_eq_true rfl⟩) (ps_RO (wc := []) hK hP [] rfl) rfl rfl hl.1 rfl (lv_room (Nat.le_of_ble_eq_true rfl)) dX12_isChance_24 ⟨Nat.le_of_ble_eq_true rfl, Nat.le_of_ble_eq_true rfl⟩) hS hA hP (fun r24 u24 H locs hw24 hP hS => ?_)
  have hw24_0 := hw24
  rcases hw24_0 with ⟨er24, fc24_0, fc24_1⟩ | er24
  rotate_left 1
  · subst er24
    refine lv_if_eq (tgt := 34) hx hb dX12_isChance_27 (by decide) (fun _ => ?_) (fun c => absurd c (by decide))
    refine lv_iconst (v := 0) hx hb dX12_isChance_34 (by decide) ?_
    subst hQ
    exact W.zret (v := 0) hx hb hr rfl (fun t ht hW => ⟨⟨0, (), rfl, (Or.inr rfl), trivial⟩, hS.F ht⟩) hS.2.2 dX12_isChance_35
  subst er24
  have fc24_0 : 0 ≤ p2.toInt := fc24_0
  have r24_0b : ir p2.toInt 0 2147483647 := ir_leb fc24_0 (ir_c 0) (rg_all p2) (by decide)
  have fc24_1 : p2.toInt ≤ 1 := fc24_1
  have r24_1a : ir p2.toInt 0 1 := ir_lea fc24_1 r24_0b (ir_c 1) (by decide)
  refine lv_if_eq (tgt := 34) hx hb dX12_isChance_27 (by decide) (fun c => absurd c (by decide)) (fun _ => ?_)
  refine lv_iconst (v := 1) hx hb dX12_isChance_30 (by decide) ?_
  refine lv_goto (tgt := 35) hx hb dX12_isChance_31 (by decide) ?_
  subst hQ
  exact W.zret (v := 1) hx hb hr rfl (fun t ht hW => ⟨⟨1, (), rfl, (Or.inl ⟨rfl, (by first | omega | decide), (by first | omega | decide), (by first | omega | decide), (by first | omega | decide)⟩), trivial⟩, hS.F ht⟩) hS.2.2 dX12_isChance_35
def v_X12_isWill : List Cond := .code yX12_isWill cX12_isWill 4 (some .boolean) :: (([.methodLink RX12 281 yX12_isPair, .instanceMethod yX12_isPair, .selects RX12 yX12_isPair yX12_isPair, .initialized RX12, .methodLink RX12 340 yX12_isSide, .static yX12_isSide, .constantLong RX12 485 (12), .methodLink RX12 112 yX12_in, .static yX12_in] : List Cond) ++ (v_X12_isPair ++ (v_X12_isSide ++ (v_X12_in ++ ([] : List Cond)))))
theorem good_v_X12_isWill : v_X12_isWill.all goodWord = true := ga_c (by decide +kernel) (ga_a (by decide +kernel) (ga_a good_v_X12_isPair (ga_a good_v_X12_isSide (ga_a good_v_X12_in rfl))))
set_option maxHeartbeats 4000000 in
set_option maxRecDepth 100000 in
theorem q_X12_isWill (l : Launch) (g : va_G) (cI cJ cB cZ cL : ClassId) (p0 : Int32) (p1 : Int32) (p2 : Int32) (m : Nat) (m_a : Nat → Nat) (m_thrown : Int32) (m_taped : Int32) (m_at : Int32) (m_token : Int32) (m_place : Int32) (m_value : Int32) (m_word : Int64) (m_bad : Int32) (m_badPlace : Int32) (m_fault : Int32) (m_faultPlace : Int32) (m_willing : Int32) (m_will : Int32) (m_forgot : Int32) (m_isDrawn : Int32) (m_x : Int64) (m_begin : Int32) (m_round : Int32) (m_roundCards : Int32) (m_fate : Int32) (m_any : Int64) (m_bothSend : Int64) (m_meanCards : Int64) (m_bestSum : Int32) (m_fitMany : Int32) (m_fitFirst : Int64) (m_fitSecond : Int64) (m_has_c : Nat → Int32) (sz : Nat) (hv_m_taped : ir m_taped.toInt 0 1600) (hv_m_at : ir m_at.toInt 0 1600) (hv_m_will : ir m_will.toInt 0 1) (hv_m_isDrawn : ir m_isDrawn.toInt 0 1) (ha_m_has_c : hasI m_has_c) : Met l yX12_isWill v_X12_isWill ({ frames := 2, cells := 0, slots := 0, locals := 46 }) (va_Pc [.ref m, .int p0, .int p1, .int p2] (pRO g (tyT cI cJ cB cZ cL) [(m, .inr (11, mG m_a m_thrown m_taped m_at m_token m_place m_value m_word m_bad m_badPlace m_fault m_faultPlace m_willing m_will m_forgot m_isDrawn m_x m_begin m_round m_roundCards m_fate m_any m_bothSend m_meanCards m_bestSum m_fitMany m_fitFirst m_fitSecond)), ((m_a 17), .inl (cI, 25, .inl m_has_c))] sz)) (va_Qi (fun (r : Int32) (u : Unit) => ((r = 1 ∧ 0 ≤ p0.toInt ∧ p0.toInt ≤ 15 ∧ 0 ≤ p1.toInt ∧ p1.toInt ≤ 1 ∧ 1 ≤ p2.toInt ∧ p2.toInt ≤ 12) ∨ (r = 0))) (fun (_ : Unit) (_ : State) => True) (va_A [] sz)) 0 0 (va_A [] sz) := by
  refine Met.ofW (cc := cX12_isWill) (maxL := 4) (ret := (some .boolean)) (by decide) rfl ?_
  intro p e s mth args below meth c s₁ B hml hv
  obtain ⟨rfl, hsz, hP, hK⟩ := hv
  have hx := B.exec
  have hb := B.bytes
  have hr := B.returns
  have hts := atoms_spec (ws := v_X12_isWill) B.pre
  have hown : s.vm.findClass RX12 = some mth.cls := findClass_of_methodNamed B.named
  have hlocks := B.notSynchronized
  clear B
  subst hsz
  generalize hAe : (va_A [] s.heap.size) = A
  have hA : ∀ q : Nat, s.heap.size ≤ q → A q := fun q h => by rw [← hAe]; exact Or.inr h
  have hS : va_S A s.heap s.heap [] := va_S.rf
  have hl := lv_entry ([.ref m, .int p0, .int p1, .int p2]) (n := 4) (Nat.le_of_ble_eq_true rfl)
  rw [lg_entry_eq]
  generalize (lg_sl ([.ref m, .int p0, .int p1, .int p2]) ++ List.replicate (4 - (lg_sl ([.ref m, .int p0, .int p1, .int p2])).length) Slot.unset).toArray = ls at hl ⊢
  generalize ([.ref m, .int p0, .int p1, .int p2] : List Value).toArray = av at hts ⊢
  generalize hQ : MQ below _ av s _ _ A = QQ
  have hl : lv_has ls 4 [(0, .ref m), (1, .int p0), (2, .int p1), (3, .int p2)] := hl
  have hP : va_P g vwCl [(m, .inr (11, mG m_a m_thrown m_taped m_at m_token m_place m_value m_word m_bad m_badPlace m_fault m_faultPlace m_willing m_will m_forgot m_isDrawn m_x m_begin m_round m_roundCards m_fate m_any m_bothSend m_meanCards m_bestSum m_fitMany m_fitFirst m_fitSecond)), ((m_a 17), .inl (cI, 25, .inl m_has_c))] s.heap := hP
  refine lv_aload_n hx hb dX12_isWill_0 rfl (lv_at hl 0 rfl) ?_
  refine lv_iload_n hx hb dX12_isWill_1 rfl (lv_at hl 1 rfl) ?_
  refine ro_i (va_runV (As := [.int p0]) (rest := []) ⟨hx, hb, hml, hown, hts⟩ (q_X12_isPair l g cI cJ cB cZ cL p0 m m_a m_thrown m_taped m_at m_token m_place m_value m_word m_bad m_badPlace m_fault m_faultPlace m_willing m_will m_forgot m_isDrawn m_x m_begin m_round m_roundCards m_fate m_any m_bothSend m_meanCards m_bestSum m_fitMany m_fitFirst m_fitSecond m_has_c s.heap.size hv_m_taped hv_m_at hv_m_will hv_m_isDrawn ha_m_has_c) (cwV 1 hts (goodIn_app (g_4 (List.mem_cons_of_mem _ (List.mem_append_left _ (List.mem_of_getElem? (i := 0) rfl))) (List.mem_cons_of_mem _ (List.mem_append_left _ (List.mem_of_getElem? (i := 1) rfl))) (List.mem_cons_of_mem _ (List.mem_append_left _ (List.mem_of_getElem? (i := 2) rfl))) (List.mem_cons_of_mem _ (List.mem_append_left _ (List.mem_of_getElem? (i := 3) rfl))) (by decide +kernel)) (goodIn_sub (fun _ h => List.mem_cons_of_mem _ (List.mem_append_right _ (List.mem_append_left _ h))) good_v_X12_isPair)) rfl rfl rfl (by decide +kernel) ⟨Nat.le_of_ble_eq_true rfl, Nat.le_of_ble_eq_true rfl⟩) (pv_RO (q := (RX12, TX12, 56)) (ci := 11) (q0 := 0) (wc := [(m, .inr (11, mG m_a m_thrown m_taped m_at m_token m_place m_value m_word m_bad m_badPlace m_fault m_faultPlace m_willing m_will m_forgot m_isDrawn m_x m_begin m_round m_roundCards m_fate m_any m_bothSend m_meanCards m_bestSum m_fitMany m_fitFirst m_fitSecond)), ((m_a 17), .inl (cI, 25, .inl m_has_c))]) hK hP [0, 1] rfl rfl rfl) rfl rfl hl.1 rfl (lv_room (Nat.le_of_ble_eq_true rfl)) dX12_isWill_2 ⟨Nat.le_of_ble_eq_true rfl, Nat.le_of_ble_eq_true rfl⟩) hS hA hP (fun r2 u2 H locs hw2 hP hS => ?_)
  have hw2_0 := hw2
  rcases hw2_0 with ⟨er2, fc2_0, fc2_1⟩ | er2
  rotate_left 1
  · subst er2
    refine lv_if_eq (tgt := 31) hx hb dX12_isWill_5 (by decide) (fun _ => ?_) (fun c => absurd c (by decide))
    refine lv_iconst (v := 0) hx hb dX12_isWill_31 (by decide) ?_
    subst hQ
    exact W.zret (v := 0) hx hb hr rfl (fun t ht hW => ⟨⟨0, (), rfl, (Or.inr rfl), trivial⟩, hS.F ht⟩) hS.2.2 dX12_isWill_32
  subst er2
  have fc2_0 : 0 ≤ p0.toInt := fc2_0
  have r2_0b : ir p0.toInt 0 2147483647 := ir_leb fc2_0 (ir_c 0) (rg_all p0) (by decide)
  have fc2_1 : p0.toInt ≤ 15 := fc2_1
  have r2_1a : ir p0.toInt 0 15 := ir_lea fc2_1 r2_0b (ir_c 15) (by decide)
  refine lv_if_eq (tgt := 31) hx hb dX12_isWill_5 (by decide) (fun c => absurd c (by decide)) (fun _ => ?_)
  refine lv_iload_n hx hb dX12_isWill_8 rfl (lv_at hl 2 rfl) ?_
  refine ro_i (va_runS (As := [.int p1]) (rest := []) ⟨hx, hb, hml, hown, hts⟩ (q_X12_isSide l g cI cJ cB cZ cL p1 H.size ) (va_cwS 1 hts (goodIn_app (g_3 (List.mem_cons_of_mem _ (List.mem_append_left _ (List.mem_of_getElem? (i := 4) rfl))) (List.mem_cons_of_mem _ (List.mem_append_left _ (List.mem_of_getElem? (i := 5) rfl))) (List.mem_cons_of_mem _ (List.mem_append_left _ (List.mem_of_getElem? (i := 3) rfl))) (by decide +kernel)) (goodIn_sub (fun _ h => List.mem_cons_of_mem _ (List.mem_append_right _ (List.mem_append_right _ (List.mem_append_left _ h)))) good_v_X12_isSide)) rfl rfl rfl (by decide +kernel) ⟨Nat.le_of_ble_eq_true rfl, Nat.le_of_ble_eq_true rfl⟩) (ps_RO (wc := []) hK hP [] rfl) rfl rfl hl.1 rfl (lv_room (Nat.le_of_ble_eq_true rfl)) dX12_isWill_9 ⟨Nat.le_of_ble_eq_true rfl, Nat.le_of_ble_eq_true rfl⟩) hS hA hP (fun r9 u9 H locs hw9 hP hS => ?_)
  have hw9_0 := hw9
  rcases hw9_0 with ⟨er9, fc9_0, fc9_1⟩ | er9
  rotate_left 1
  · subst er9
    refine lv_if_eq (tgt := 31) hx hb dX12_isWill_12 (by decide) (fun _ => ?_) (fun c => absurd c (by decide))
    refine lv_iconst (v := 0) hx hb dX12_isWill_31 (by decide) ?_
    subst hQ
    exact W.zret (v := 0) hx hb hr rfl (fun t ht hW => ⟨⟨0, (), rfl, (Or.inr rfl), trivial⟩, hS.F ht⟩) hS.2.2 dX12_isWill_32
  subst er9
  have fc9_0 : 0 ≤ p1.toInt := fc9_0
  have r9_0b : ir p1.toInt 0 2147483647 := ir_leb fc9_0 (ir_c 0) (rg_all p1) (by decide)
  have fc9_1 : p1.toInt ≤ 1 := fc9_1
  have r9_1a : ir p1.toInt 0 1 := ir_lea fc9_1 r9_0b (ir_c 1) (by decide)
  refine lv_if_eq (tgt := 31) hx hb dX12_isWill_12 (by decide) (fun c => absurd c (by decide)) (fun _ => ?_)
  refine lv_iload_n hx hb dX12_isWill_15 rfl (lv_at hl 3 rfl) ?_
  refine lv_i2l (v := p2.toInt64) hx hb dX12_isWill_16 rfl ?_
  refine lv_lconst (v := 1) hx hb dX12_isWill_17 (by decide) ?_
  refine lv_ldc2 (v := 12) hx hb hown (hts (.constantLong RX12 485 (12)) (List.mem_cons_of_mem _ (List.mem_append_left _ (List.mem_of_getElem? (i := 6) rfl)))) dX12_isWill_18 ?_
  refine ro_i (va_runS (As := [.long p2.toInt64, .long 1, .long 12]) (rest := []) ⟨hx, hb, hml, hown, hts⟩ (q_X12_in l g cI cJ cB cZ cL p2.toInt64 p2.toInt 1 1 12 12 H.size (z_i2l rfl) rfl rfl) (va_cwS 3 hts (goodIn_app (g_3 (List.mem_cons_of_mem _ (List.mem_append_left _ (List.mem_of_getElem? (i := 7) rfl))) (List.mem_cons_of_mem _ (List.mem_append_left _ (List.mem_of_getElem? (i := 8) rfl))) (List.mem_cons_of_mem _ (List.mem_append_left _ (List.mem_of_getElem? (i := 3) rfl))) (by decide +kernel)) (goodIn_sub (fun _ h => List.mem_cons_of_mem _ (List.mem_append_right _ (List.mem_append_right _ (List.mem_append_right _ (List.mem_append_left _ h))))) good_v_X12_in)) rfl rfl rfl (by decide +kernel) ⟨Nat.le_of_ble_eq_true rfl, Nat.le_of_ble_eq_true rfl⟩) (ps_RO (wc := []) hK hP [] rfl) rfl rfl hl.1 rfl (lv_room (Nat.le_of_ble_eq_true rfl)) dX12_isWill_21 ⟨Nat.le_of_ble_eq_true rfl, Nat.le_of_ble_eq_true rfl⟩) hS hA hP (fun r21 u21 H locs hw21 hP hS => ?_)
  have hw21_0 := hw21
  rcases hw21_0 with ⟨er21, fc21_0, fc21_1⟩ | er21
  rotate_left 1
  · subst er21
    refine lv_if_eq (tgt := 31) hx hb dX12_isWill_24 (by decide) (fun _ => ?_) (fun c => absurd c (by decide))
    refine lv_iconst (v := 0) hx hb dX12_isWill_31 (by decide) ?_
    subst hQ
    exact W.zret (v := 0) hx hb hr rfl (fun t ht hW => ⟨⟨0, (), rfl, (Or.inr rfl), trivial⟩, hS.F ht⟩) hS.2.2 dX12_isWill_32
  subst er21
  have fc21_0 : 1 ≤ p2.toInt := fc21_0
  have r21_0b : ir p2.toInt 1 2147483647 := ir_leb fc21_0 (ir_c 1) (rg_all p2) (by decide)
  have fc21_1 : p2.toInt ≤ 12 := fc21_1
  have r21_1a : ir p2.toInt 1 12 := ir_lea fc21_1 r21_0b (ir_c 12) (by decide)
  refine lv_if_eq (tgt := 31) hx hb dX12_isWill_24 (by decide) (fun c => absurd c (by decide)) (fun _ => ?_)
  refine lv_iconst (v := 1) hx hb dX12_isWill_27 (by decide) ?_
  refine lv_goto (tgt := 32) hx hb dX12_isWill_28 (by decide) ?_
  subst hQ
  exact W.zret (v := 1) hx hb hr rfl (fun t ht hW => ⟨⟨1, (), rfl, (Or.inl ⟨rfl, (by first | omega | decide), (by first | omega | decide), (by first | omega | decide), (by first | omega | decide), (by first | omega | decide), (by first | omega | decide)⟩), trivial⟩, hS.F ht⟩) hS.2.2 dX12_isWill_32
def v_X12_fateNow : List Cond := .code yX12_fateNow cX12_fateNow 2 (some .int) :: (([.fieldLink RX12 397 "CardsAtYuleModel" "fate" "I", .fieldLink RX12 391 "CardsAtYuleModel" "roundCards" "I", .fieldLink RX12 388 "CardsAtYuleModel" "round" "I", .fieldLink RX12 385 "CardsAtYuleModel" "begin" "I"] : List Cond) ++ (wsX120 ++ ([] : List Cond)))
theorem good_v_X12_fateNow : v_X12_fateNow.all goodWord = true := ga_c (by decide +kernel) (ga_a (by decide +kernel) (ga_a good_wsX120 rfl))
set_option maxHeartbeats 4000000 in
set_option maxRecDepth 100000 in
theorem q_X12_fateNow (l : Launch) (g : va_G) (cI cJ cB cZ cL : ClassId) (p0 : Int32) (m : Nat) (m_a : Nat → Nat) (m_thrown : Int32) (m_taped : Int32) (m_at : Int32) (m_token : Int32) (m_place : Int32) (m_value : Int32) (m_word : Int64) (m_bad : Int32) (m_badPlace : Int32) (m_fault : Int32) (m_faultPlace : Int32) (m_willing : Int32) (m_will : Int32) (m_forgot : Int32) (m_isDrawn : Int32) (m_x : Int64) (m_begin : Int32) (m_round : Int32) (m_roundCards : Int32) (m_fate : Int32) (m_any : Int64) (m_bothSend : Int64) (m_meanCards : Int64) (m_bestSum : Int32) (m_fitMany : Int32) (m_fitFirst : Int64) (m_fitSecond : Int64) (sz : Nat) (hv_m_taped : ir m_taped.toInt 0 1600) (hv_m_at : ir m_at.toInt 0 1600) (hv_m_will : ir m_will.toInt 0 1) (hv_m_isDrawn : ir m_isDrawn.toInt 0 1) : Met l yX12_fateNow v_X12_fateNow ({ frames := 0, cells := 0, slots := 0, locals := 0 }) (va_Pc [.ref m, .int p0] (pRO g (tyT cI cJ cB cZ cL) [(m, .inr (11, mG m_a m_thrown m_taped m_at m_token m_place m_value m_word m_bad m_badPlace m_fault m_faultPlace m_willing m_will m_forgot m_isDrawn m_x m_begin m_round m_roundCards m_fate m_any m_bothSend m_meanCards m_bestSum m_fitMany m_fitFirst m_fitSecond))] sz)) (va_Qi (fun (r : Int32) (u : Unit) => True) (fun (_ : Unit) (_ : State) => True) (va_A [] sz)) 0 0 (va_A [] sz) := by
  refine Met.ofW (cc := cX12_fateNow) (maxL := 2) (ret := (some .int)) (by decide) rfl ?_
  intro p e s mth args below meth c s₁ B hml hv
  obtain ⟨rfl, hsz, hP, hK⟩ := hv
  have hx := B.exec
  have hb := B.bytes
  have hr := B.returns
  have hts := atoms_spec (ws := v_X12_fateNow) B.pre
  have hown : s.vm.findClass RX12 = some mth.cls := findClass_of_methodNamed B.named
  have hlocks := B.notSynchronized
  clear B
  subst hsz
  have iX12 : ∀ w ∈ wsX120, w ∈ v_X12_fateNow := (fun _ h => List.mem_cons_of_mem _ (List.mem_append_right _ (List.mem_append_left _ h)))
  generalize hAe : (va_A [] s.heap.size) = A
  have hA : ∀ q : Nat, s.heap.size ≤ q → A q := fun q h => by rw [← hAe]; exact Or.inr h
  have hS : va_S A s.heap s.heap [] := va_S.rf
  have hl := lv_entry ([.ref m, .int p0]) (n := 2) (Nat.le_of_ble_eq_true rfl)
  rw [lg_entry_eq]
  generalize (lg_sl ([.ref m, .int p0]) ++ List.replicate (2 - (lg_sl ([.ref m, .int p0])).length) Slot.unset).toArray = ls at hl ⊢
  generalize ([.ref m, .int p0] : List Value).toArray = av at hts ⊢
  generalize hQ : MQ below _ av s _ _ A = QQ
  have hl : lv_has ls 2 [(0, .ref m), (1, .int p0)] := hl
  have hP : va_P g vwCl [(m, .inr (11, mG m_a m_thrown m_taped m_at m_token m_place m_value m_word m_bad m_badPlace m_fault m_faultPlace m_willing m_will m_forgot m_isDrawn m_x m_begin m_round m_roundCards m_fate m_any m_bothSend m_meanCards m_bestSum m_fitMany m_fitFirst m_fitSecond))] s.heap := hP
  refine lv_iload_n hx hb dX12_fateNow_0 rfl (lv_at hl 1 rfl) ?_
  refine lv_if_ne (tgt := 11) hx hb dX12_fateNow_1 (by decide) (fun c1 => ?_) (fun c1 => ?_)
  rotate_left 1
  · have f1 := (show p0.toInt = 0 from z_eq rfl rfl c1)
    have r1a : ir p0.toInt 0 0 := ir_eqa f1 (rg_all p0) (ir_c 0) (by decide) (by decide)
    refine lv_aload_n hx hb dX12_fateNow_4 rfl (lv_at hl 0 rfl) ?_
    refine va_get (D := g) (ci := 11) (v := .int m_begin) (C := RX12) (T := TX12) (N := 56) hx hb hts iX12 hown hK hP 0 rfl rfl 40 (by decide) (hts (.fieldLink RX12 385 "CardsAtYuleModel" "begin" "I") (List.mem_cons_of_mem _ (List.mem_append_left _ (List.mem_of_getElem? (i := 3) rfl)))) (fun _ h9 => h9) rfl dX12_fateNow_5 ?_
    refine lv_goto (tgt := 39) hx hb dX12_fateNow_8 (by decide) ?_
    subst hQ
    exact W.iret (v := m_begin) hx hb hr (fun t ht hW => ⟨⟨m_begin, (), rfl, trivial, trivial⟩, hS.F ht⟩) hS.2.2 dX12_fateNow_39
  have f1 := (show p0.toInt ≠ 0 from z_ne rfl rfl c1)
  refine lv_iload_n hx hb dX12_fateNow_11 rfl (lv_at hl 1 rfl) ?_
  refine lv_iconst (v := 1) hx hb dX12_fateNow_12 (by decide) ?_
  refine lv_icmp_ne (tgt := 23) hx hb dX12_fateNow_13 (by decide) (fun c13 => ?_) (fun c13 => ?_)
  rotate_left 1
  · have f13 := (show p0.toInt = 1 from z_eq rfl rfl c13)
    have r13a : ir p0.toInt 1 1 := ir_eqa f13 (rg_all p0) (ir_c 1) (by decide) (by decide)
    refine lv_aload_n hx hb dX12_fateNow_16 rfl (lv_at hl 0 rfl) ?_
    refine va_get (D := g) (ci := 11) (v := .int m_round) (C := RX12) (T := TX12) (N := 56) hx hb hts iX12 hown hK hP 0 rfl rfl 41 (by decide) (hts (.fieldLink RX12 388 "CardsAtYuleModel" "round" "I") (List.mem_cons_of_mem _ (List.mem_append_left _ (List.mem_of_getElem? (i := 2) rfl)))) (fun _ h9 => h9) rfl dX12_fateNow_17 ?_
    refine lv_goto (tgt := 39) hx hb dX12_fateNow_20 (by decide) ?_
    subst hQ
    exact W.iret (v := m_round) hx hb hr (fun t ht hW => ⟨⟨m_round, (), rfl, trivial, trivial⟩, hS.F ht⟩) hS.2.2 dX12_fateNow_39
  have f13 := (show p0.toInt ≠ 1 from z_ne rfl rfl c13)
  refine lv_iload_n hx hb dX12_fateNow_23 rfl (lv_at hl 1 rfl) ?_
  refine lv_iconst (v := 2) hx hb dX12_fateNow_24 (by decide) ?_
  refine lv_icmp_ne (tgt := 35) hx hb dX12_fateNow_25 (by decide) (fun c25 => ?_) (fun c25 => ?_)
  · have f25 := (show p0.toInt ≠ 2 from z_ne rfl rfl c25)
    refine lv_aload_n hx hb dX12_fateNow_35 rfl (lv_at hl 0 rfl) ?_
    refine va_get (D := g) (ci := 11) (v := .int m_fate) (C := RX12) (T := TX12) (N := 56) hx hb hts iX12 hown hK hP 0 rfl rfl 43 (by decide) (hts (.fieldLink RX12 397 "CardsAtYuleModel" "fate" "I") (List.mem_cons_of_mem _ (List.mem_append_left _ (List.mem_of_getElem? (i := 0) rfl)))) (fun _ h9 => h9) rfl dX12_fateNow_36 ?_
    subst hQ
    exact W.iret (v := m_fate) hx hb hr (fun t ht hW => ⟨⟨m_fate, (), rfl, trivial, trivial⟩, hS.F ht⟩) hS.2.2 dX12_fateNow_39
  have f25 := (show p0.toInt = 2 from z_eq rfl rfl c25)
  have r25a : ir p0.toInt 2 2 := ir_eqa f25 (rg_all p0) (ir_c 2) (by decide) (by decide)
  refine lv_aload_n hx hb dX12_fateNow_28 rfl (lv_at hl 0 rfl) ?_
  refine va_get (D := g) (ci := 11) (v := .int m_roundCards) (C := RX12) (T := TX12) (N := 56) hx hb hts iX12 hown hK hP 0 rfl rfl 42 (by decide) (hts (.fieldLink RX12 391 "CardsAtYuleModel" "roundCards" "I") (List.mem_cons_of_mem _ (List.mem_append_left _ (List.mem_of_getElem? (i := 1) rfl)))) (fun _ h9 => h9) rfl dX12_fateNow_29 ?_
  refine lv_goto (tgt := 39) hx hb dX12_fateNow_32 (by decide) ?_
  subst hQ
  exact W.iret (v := m_roundCards) hx hb hr (fun t ht hW => ⟨⟨m_roundCards, (), rfl, trivial, trivial⟩, hS.F ht⟩) hS.2.2 dX12_fateNow_39
def v_X12_falls : List Cond := .code yX12_falls cX12_falls 6 none :: (([.methodLink RX12 288 yX12_isBit, .static yX12_isBit, .initialized RX12, .fieldLink RX12 95 "CardsAtYuleModel" "likelyThen" "[J", .fieldLink RX12 439 "CardsAtYuleModel" "any" "J", .fieldLink RX12 442 "CardsAtYuleModel" "bothSend" "J", .fieldLink RX12 445 "CardsAtYuleModel" "meanCards" "J", .methodLink RX12 364 yX12_sizeOf, .static yX12_sizeOf] : List Cond) ++ (v_X12_isBit ++ (v_X12_sizeOf ++ (wsX120 ++ ([] : List Cond)))))
theorem good_v_X12_falls : v_X12_falls.all goodWord = true := ga_c (by decide +kernel) (ga_a (by decide +kernel) (ga_a good_v_X12_isBit (ga_a good_v_X12_sizeOf (ga_a good_wsX120 rfl))))
set_option maxHeartbeats 4000000 in
set_option maxRecDepth 100000 in
theorem q_X12_falls (l : Launch) (g : va_G) (cI cJ cB cZ cL : ClassId) (p0 : Int32) (p1 : Int32) (p2 : Int64) (m : Nat) (m_a : Nat → Nat) (m_thrown : Int32) (m_taped : Int32) (m_at : Int32) (m_token : Int32) (m_place : Int32) (m_value : Int32) (m_word : Int64) (m_bad : Int32) (m_badPlace : Int32) (m_fault : Int32) (m_faultPlace : Int32) (m_willing : Int32) (m_will : Int32) (m_forgot : Int32) (m_isDrawn : Int32) (m_x : Int64) (m_begin : Int32) (m_round : Int32) (m_roundCards : Int32) (m_fate : Int32) (m_any : Int64) (m_bothSend : Int64) (m_meanCards : Int64) (m_bestSum : Int32) (m_fitMany : Int32) (m_fitFirst : Int64) (m_fitSecond : Int64) (m_likelyThen_c : Nat → Int64) (sz : Nat) (hv_p0 : ir p0.toInt 0 15) (hv_m_taped : ir m_taped.toInt 0 1600) (hv_m_at : ir m_at.toInt 0 1600) (hv_m_will : ir m_will.toInt 0 1) (hv_m_isDrawn : ir m_isDrawn.toInt 0 1) : Met l yX12_falls v_X12_falls ({ frames := 1, cells := 0, slots := 0, locals := 22 }) (va_Pc [.ref m, .int p0, .int p1, .long p2] (pRW g (tyT cI cJ cB cZ cL) [(m, .inr (11, mG m_a m_thrown m_taped m_at m_token m_place m_value m_word m_bad m_badPlace m_fault m_faultPlace m_willing m_will m_forgot m_isDrawn m_x m_begin m_round m_roundCards m_fate m_any m_bothSend m_meanCards m_bestSum m_fitMany m_fitFirst m_fitSecond)), ((m_a 45), .inl (cJ, 16, .inr (.inl m_likelyThen_c)))] sz)) (va_Qv (fun (u : Int64 × Int64 × Int64 × (Nat → Int64)) => match u with | (n_m_any, n_m_bothSend, n_m_meanCards, n_m_likelyThen_c) => True) (fun (u : Int64 × Int64 × Int64 × (Nat → Int64)) (t : State) => bRW g (tyT cI cJ cB cZ cL) (va_A [(m, .inr (11, mG m_a m_thrown m_taped m_at m_token m_place m_value m_word m_bad m_badPlace m_fault m_faultPlace m_willing m_will m_forgot m_isDrawn m_x m_begin m_round m_roundCards m_fate m_any m_bothSend m_meanCards m_bestSum m_fitMany m_fitFirst m_fitSecond)), ((m_a 45), .inl (cJ, 16, .inr (.inl m_likelyThen_c)))] sz) (match u with | (n_m_any, n_m_bothSend, n_m_meanCards, n_m_likelyThen_c) => [(m, .inr (11, mG m_a m_thrown m_taped m_at m_token m_place m_value m_word m_bad m_badPlace m_fault m_faultPlace m_willing m_will m_forgot m_isDrawn m_x m_begin m_round m_roundCards m_fate n_m_any n_m_bothSend n_m_meanCards m_bestSum m_fitMany m_fitFirst m_fitSecond)), ((m_a 45), .inl (cJ, 16, .inr (.inl n_m_likelyThen_c)))]) t) (va_A [(m, .inr (11, mG m_a m_thrown m_taped m_at m_token m_place m_value m_word m_bad m_badPlace m_fault m_faultPlace m_willing m_will m_forgot m_isDrawn m_x m_begin m_round m_roundCards m_fate m_any m_bothSend m_meanCards m_bestSum m_fitMany m_fitFirst m_fitSecond)), ((m_a 45), .inl (cJ, 16, .inr (.inl m_likelyThen_c)))] sz)) 0 0 (va_A [(m, .inr (11, mG m_a m_thrown m_taped m_at m_token m_place m_value m_word m_bad m_badPlace m_fault m_faultPlace m_willing m_will m_forgot m_isDrawn m_x m_begin m_round m_roundCards m_fate m_any m_bothSend m_meanCards m_bestSum m_fitMany m_fitFirst m_fitSecond)), ((m_a 45), .inl (cJ, 16, .inr (.inl m_likelyThen_c)))] sz) := by
  refine Met.ofW (cc := cX12_falls) (maxL := 6) (ret := none) (by decide) rfl ?_
  intro p e s mth args below meth c s₁ B hml hv
  obtain ⟨rfl, hsz, hP, hK, hD0⟩ := hv
  have hx := B.exec
  have hb := B.bytes
  have hr := B.returns
  have hts := atoms_spec (ws := v_X12_falls) B.pre
  have hown : s.vm.findClass RX12 = some mth.cls := findClass_of_methodNamed B.named
  have hlocks := B.notSynchronized
  clear B
  subst hsz
  have iX12 : ∀ w ∈ wsX120, w ∈ v_X12_falls := (fun _ h => List.mem_cons_of_mem _ (List.mem_append_right _ (List.mem_append_right _ (List.mem_append_right _ (List.mem_append_left _ h)))))
  have hD := hD0.self (sz := s.heap.size)
  generalize hAe : (va_A [(m, .inr (11, mG m_a m_thrown m_taped m_at m_token m_place m_value m_word m_bad m_badPlace m_fault m_faultPlace m_willing m_will m_forgot m_isDrawn m_x m_begin m_round m_roundCards m_fate m_any m_bothSend m_meanCards m_bestSum m_fitMany m_fitFirst m_fitSecond)), ((m_a 45), .inl (cJ, 16, .inr (.inl m_likelyThen_c)))] s.heap.size) = A at hD ⊢
  have hA : ∀ q : Nat, s.heap.size ≤ q → A q := fun q h => by rw [← hAe]; exact Or.inr h
  have hS : va_S A s.heap s.heap [] := va_S.rf
  have hl := lv_entry ([.ref m, .int p0, .int p1, .long p2]) (n := 6) (Nat.le_of_ble_eq_true rfl)
  rw [lg_entry_eq]
  generalize (lg_sl ([.ref m, .int p0, .int p1, .long p2]) ++ List.replicate (6 - (lg_sl ([.ref m, .int p0, .int p1, .long p2])).length) Slot.unset).toArray = ls at hl ⊢
  generalize ([.ref m, .int p0, .int p1, .long p2] : List Value).toArray = av at hts ⊢
  generalize hQ : MQ below _ av s _ _ A = QQ
  have hl : lv_has ls 6 [(0, .ref m), (1, .int p0), (2, .int p1), (3, .long p2)] := hl
  have hP : va_P g vwCl [(m, .inr (11, mG m_a m_thrown m_taped m_at m_token m_place m_value m_word m_bad m_badPlace m_fault m_faultPlace m_willing m_will m_forgot m_isDrawn m_x m_begin m_round m_roundCards m_fate m_any m_bothSend m_meanCards m_bestSum m_fitMany m_fitFirst m_fitSecond)), ((m_a 45), .inl (cJ, 16, .inr (.inl m_likelyThen_c)))] s.heap := hP
  refine lv_iload_n hx hb dX12_falls_0 rfl (lv_at hl 1 rfl) ?_
  refine lv_iconst (v := 5) hx hb dX12_falls_1 (by decide) ?_
  refine lv_iand hx hb dX12_falls_2 ?_
  refine lv_topi (fun y2 e2 => ?_)
  have r2 : ir y2.toInt 0 5 := by rw [e2]; exact an_y rfl (ir_c 5) (by decide)
  refine lv_iconst (v := 1) hx hb dX12_falls_3 (by decide) ?_
  refine lv_ishl hx hb dX12_falls_4 ?_
  refine lv_topi (fun y4 e4 => ?_)
  have r4 : ir y4.toInt 0 10 := by rw [e4]; exact sl_r 1 rfl r2 (by decide) (by decide) (by decide) (by decide) (by decide)
  refine lv_iload_n hx hb dX12_falls_5 rfl (lv_at hl 2 rfl) ?_
  refine lv_iconst (v := 1) hx hb dX12_falls_6 (by decide) ?_
  refine ro_i (va_runS (As := [.int p1, .int 1]) (rest := [.int y4]) ⟨hx, hb, hml, hown, hts⟩ (q_X12_isBit l g cI cJ cB cZ cL p1 1 s.heap.size ) (va_cwS 2 hts (goodIn_app (g_3 (List.mem_cons_of_mem _ (List.mem_append_left _ (List.mem_of_getElem? (i := 0) rfl))) (List.mem_cons_of_mem _ (List.mem_append_left _ (List.mem_of_getElem? (i := 1) rfl))) (List.mem_cons_of_mem _ (List.mem_append_left _ (List.mem_of_getElem? (i := 2) rfl))) (by decide +kernel)) (goodIn_sub (fun _ h => List.mem_cons_of_mem _ (List.mem_append_right _ (List.mem_append_left _ h))) good_v_X12_isBit)) rfl rfl rfl (by decide +kernel) ⟨Nat.le_of_ble_eq_true rfl, Nat.le_of_ble_eq_true rfl⟩) (ps_RO (wc := []) hK hP [] rfl) rfl rfl hl.1 rfl (lv_room (Nat.le_of_ble_eq_true rfl)) dX12_falls_7 ⟨Nat.le_of_ble_eq_true rfl, Nat.le_of_ble_eq_true rfl⟩) hS hA hP (fun r7 u7 H locs hw7 hP hS => ?_)
  have hw7_0 := hw7
  have J18 : ∀ (j18_s0 : Int32) (H : Heap) (locs : List Loc) (ls : Array Slot), (ir j18_s0.toInt 0 1) → va_P g vwCl [(m, .inr (11, mG m_a m_thrown m_taped m_at m_token m_place m_value m_word m_bad m_badPlace m_fault m_faultPlace m_willing m_will m_forgot m_isDrawn m_x m_begin m_round m_roundCards m_fate m_any m_bothSend m_meanCards m_bestSum m_fitMany m_fitFirst m_fitSecond)), ((m_a 45), .inl (cJ, 16, .inr (.inl m_likelyThen_c)))] H → va_D A [(m, .inr (11, mG m_a m_thrown m_taped m_at m_token m_place m_value m_word m_bad m_badPlace m_fault m_faultPlace m_willing m_will m_forgot m_isDrawn m_x m_begin m_round m_roundCards m_fate m_any m_bothSend m_meanCards m_bestSum m_fitMany m_fitFirst m_fitSecond)), ((m_a 45), .inl (cJ, 16, .inr (.inl m_likelyThen_c)))] → va_S A s.heap H locs → lv_has ls 6 [(0, .ref m), (2, .int p1), (3, .long p2)] → W p l e (headSpec v_X12_falls ({ frames := 1, cells := 0, slots := 0, locals := 22 })).room s mth av below meth c H locs 0 0 QQ (F0 mth 18 ls [.int j18_s0, .int y4]) := by
    intro j18_s0 H locs ls hj18_s0 hP hD hS hl
    refine lv_ior hx hb dX12_falls_18 ?_
    refine lv_topi (fun y18 e18 => ?_)
    have r18 : ir y18.toInt 0 15 := by rw [e18]; exact or_r 4 rfl rfl r4 hj18_s0 (by decide) (by decide) (by decide) (by decide) (by decide)
    refine lv_iload_n hx hb dX12_falls_19 rfl (lv_at hl 1 rfl) ?_
    refine lv_iconst (v := 0) hx hb dX12_falls_20 (by decide) ?_
    refine ro_i (va_runS (As := [.int p1, .int 0]) (rest := [.int y18]) ⟨hx, hb, hml, hown, hts⟩ (q_X12_isBit l g cI cJ cB cZ cL p1 0 H.size ) (va_cwS 2 hts (goodIn_app (g_3 (List.mem_cons_of_mem _ (List.mem_append_left _ (List.mem_of_getElem? (i := 0) rfl))) (List.mem_cons_of_mem _ (List.mem_append_left _ (List.mem_of_getElem? (i := 1) rfl))) (List.mem_cons_of_mem _ (List.mem_append_left _ (List.mem_of_getElem? (i := 2) rfl))) (by decide +kernel)) (goodIn_sub (fun _ h => List.mem_cons_of_mem _ (List.mem_append_right _ (List.mem_append_left _ h))) good_v_X12_isBit)) rfl rfl rfl (by decide +kernel) ⟨Nat.le_of_ble_eq_true rfl, Nat.le_of_ble_eq_true rfl⟩) (ps_RO (wc := []) hK hP [] rfl) rfl rfl hl.1 rfl (lv_room (Nat.le_of_ble_eq_true rfl)) dX12_falls_21 ⟨Nat.le_of_ble_eq_true rfl, Nat.le_of_ble_eq_true rfl⟩) hS hA hP (fun r21 u21 H locs hw21 hP hS => ?_)
    have hw21_0 := hw21
    have J32 : ∀ (j32_s0 : Int32) (H : Heap) (locs : List Loc) (ls : Array Slot), (ir j32_s0.toInt 0 4) → va_P g vwCl [(m, .inr (11, mG m_a m_thrown m_taped m_at m_token m_place m_value m_word m_bad m_badPlace m_fault m_faultPlace m_willing m_will m_forgot m_isDrawn m_x m_begin m_round m_roundCards m_fate m_any m_bothSend m_meanCards m_bestSum m_fitMany m_fitFirst m_fitSecond)), ((m_a 45), .inl (cJ, 16, .inr (.inl m_likelyThen_c)))] H → va_D A [(m, .inr (11, mG m_a m_thrown m_taped m_at m_token m_place m_value m_word m_bad m_badPlace m_fault m_faultPlace m_willing m_will m_forgot m_isDrawn m_x m_begin m_round m_roundCards m_fate m_any m_bothSend m_meanCards m_bestSum m_fitMany m_fitFirst m_fitSecond)), ((m_a 45), .inl (cJ, 16, .inr (.inl m_likelyThen_c)))] → va_S A s.heap H locs → lv_has ls 6 [(0, .ref m), (2, .int p1), (3, .long p2)] → W p l e (headSpec v_X12_falls ({ frames := 1, cells := 0, slots := 0, locals := 22 })).room s mth av below meth c H locs 0 0 QQ (F0 mth 32 ls [.int j32_s0, .int y18]) := by
      intro j32_s0 H locs ls hj32_s0 hP hD hS hl
      refine lv_ior hx hb dX12_falls_32 ?_
      refine lv_topi (fun y32 e32 => ?_)
      have r32 : ir y32.toInt 0 15 := by rw [e32]; exact or_r 4 rfl rfl r18 hj32_s0 (by decide) (by decide) (by decide) (by decide) (by decide)
      refine lv_istore (lv' := [(5, .int y32), (0, .ref m), (2, .int p1), (3, .long p2)]) hx hb dX12_falls_33 hl (by decide) rfl (fun ls hl => ?_)
      refine lv_aload_n hx hb dX12_falls_35 rfl (lv_at hl 1 rfl) ?_
      refine va_get (D := g) (ci := 11) (v := .ref (m_a 45)) (C := RX12) (T := TX12) (N := 56) hx hb hts iX12 hown hK hP 0 rfl rfl 45 (by decide) (hts (.fieldLink RX12 95 "CardsAtYuleModel" "likelyThen" "[J") (List.mem_cons_of_mem _ (List.mem_append_left _ (List.mem_of_getElem? (i := 3) rfl)))) (fun _ h9 => h9) rfl dX12_falls_36 ?_
      refine lv_iload hx hb dX12_falls_39 (lv_at hl 0 rfl) ?_
      refine lv_dup2_11 hx hb dX12_falls_41 rfl rfl ?_
      refine va_lald (D := g) hx hb hK hP 1 1 rfl rfl (vi_rg rfl r32 (by decide) (by decide)) dX12_falls_42 ?_
      refine lv_topl (fun y42 e42 => ?_)
      refine lv_lload_n hx hb dX12_falls_43 rfl (lv_at hl 3 rfl) ?_
      refine lv_ladd hx hb dX12_falls_44 ?_
      refine lv_topl (fun y44 e44 => ?_)
      refine va_last (D := g) hx hb hK hP hD hS 1 1 rfl rfl (vi_rg rfl r32 (by decide) (by decide)) dX12_falls_45 (fun H locs hP hD hS => ?_)
      obtain ⟨g45, e45⟩ : ∃ z, z = vp_updL m_likelyThen_c y32.toNatClampNeg y44 := ⟨_, rfl⟩
      have hP : va_P g vwCl [(m, .inr (11, mG m_a m_thrown m_taped m_at m_token m_place m_value m_word m_bad m_badPlace m_fault m_faultPlace m_willing m_will m_forgot m_isDrawn m_x m_begin m_round m_roundCards m_fate m_any m_bothSend m_meanCards m_bestSum m_fitMany m_fitFirst m_fitSecond)), ((m_a 45), .inl (cJ, 16, .inr (.inl (vp_updL m_likelyThen_c y32.toNatClampNeg y44))))] H := hP
      have hD : va_D A [(m, .inr (11, mG m_a m_thrown m_taped m_at m_token m_place m_value m_word m_bad m_badPlace m_fault m_faultPlace m_willing m_will m_forgot m_isDrawn m_x m_begin m_round m_roundCards m_fate m_any m_bothSend m_meanCards m_bestSum m_fitMany m_fitFirst m_fitSecond)), ((m_a 45), .inl (cJ, 16, .inr (.inl (vp_updL m_likelyThen_c y32.toNatClampNeg y44))))] := hD
      rw [← e45] at hP hD
      refine lv_aload_n hx hb dX12_falls_46 rfl (lv_at hl 1 rfl) ?_
      refine lv_dup hx hb dX12_falls_47 rfl ?_
      refine va_get (D := g) (ci := 11) (v := .long m_any) (C := RX12) (T := TX12) (N := 56) hx hb hts iX12 hown hK hP 0 rfl rfl 46 (by decide) (hts (.fieldLink RX12 439 "CardsAtYuleModel" "any" "J") (List.mem_cons_of_mem _ (List.mem_append_left _ (List.mem_of_getElem? (i := 4) rfl)))) (fun _ h9 => h9) rfl dX12_falls_48 ?_
      refine lv_iload_n hx hb dX12_falls_51 rfl (lv_at hl 2 rfl) ?_
      have J60 : ∀ (j60_s0 : Int64) (H : Heap) (locs : List Loc) (ls : Array Slot), va_P g vwCl [(m, .inr (11, mG m_a m_thrown m_taped m_at m_token m_place m_value m_word m_bad m_badPlace m_fault m_faultPlace m_willing m_will m_forgot m_isDrawn m_x m_begin m_round m_roundCards m_fate m_any m_bothSend m_meanCards m_bestSum m_fitMany m_fitFirst m_fitSecond)), ((m_a 45), .inl (cJ, 16, .inr (.inl g45)))] H → va_D A [(m, .inr (11, mG m_a m_thrown m_taped m_at m_token m_place m_value m_word m_bad m_badPlace m_fault m_faultPlace m_willing m_will m_forgot m_isDrawn m_x m_begin m_round m_roundCards m_fate m_any m_bothSend m_meanCards m_bestSum m_fitMany m_fitFirst m_fitSecond)), ((m_a 45), .inl (cJ, 16, .inr (.inl g45)))] → va_S A s.heap H locs → lv_has ls 6 [(0, .ref m), (2, .int p1), (3, .long p2)] → W p l e (headSpec v_X12_falls ({ frames := 1, cells := 0, slots := 0, locals := 22 })).room s mth av below meth c H locs 0 0 QQ (F0 mth 60 ls [.long j60_s0, .long m_any, .ref m]) := by
        intro j60_s0 H locs ls  hP hD hS hl
        refine lv_ladd hx hb dX12_falls_60 ?_
        refine lv_topl (fun y60 e60 => ?_)
        refine va_put (D := g) (ci := 11) (v := .long y60) (ty := .long) (C := RX12) (T := TX12) (N := 56) hx hb hts iX12 tyX12 tyX12_ok nmX12 hown hK hP hD hS 0 rfl rfl 46 (by decide) (hts (.fieldLink RX12 439 "CardsAtYuleModel" "any" "J") (List.mem_cons_of_mem _ (List.mem_append_left _ (List.mem_of_getElem? (i := 4) rfl)))) (fun _ h9 => h9) rfl (by decide +kernel) rfl rfl (Nat.le_of_ble_eq_true rfl) dX12_falls_61 (fun H locs hP hD hS => ?_)
        have hP : va_P g vwCl [(m, .inr (11, mG m_a m_thrown m_taped m_at m_token m_place m_value m_word m_bad m_badPlace m_fault m_faultPlace m_willing m_will m_forgot m_isDrawn m_x m_begin m_round m_roundCards m_fate y60 m_bothSend m_meanCards m_bestSum m_fitMany m_fitFirst m_fitSecond)), ((m_a 45), .inl (cJ, 16, .inr (.inl g45)))] H := hP
        have hD : va_D A [(m, .inr (11, mG m_a m_thrown m_taped m_at m_token m_place m_value m_word m_bad m_badPlace m_fault m_faultPlace m_willing m_will m_forgot m_isDrawn m_x m_begin m_round m_roundCards m_fate y60 m_bothSend m_meanCards m_bestSum m_fitMany m_fitFirst m_fitSecond)), ((m_a 45), .inl (cJ, 16, .inr (.inl g45)))] := hD
        refine lv_aload_n hx hb dX12_falls_64 rfl (lv_at hl 0 rfl) ?_
        refine lv_dup hx hb dX12_falls_65 rfl ?_
        refine va_get (D := g) (ci := 11) (v := .long m_bothSend) (C := RX12) (T := TX12) (N := 56) hx hb hts iX12 hown hK hP 0 rfl rfl 47 (by decide) (hts (.fieldLink RX12 442 "CardsAtYuleModel" "bothSend" "J") (List.mem_cons_of_mem _ (List.mem_append_left _ (List.mem_of_getElem? (i := 5) rfl)))) (fun _ h9 => h9) rfl dX12_falls_66 ?_
        refine lv_iload_n hx hb dX12_falls_69 rfl (lv_at hl 1 rfl) ?_
        refine lv_iconst (v := 3) hx hb dX12_falls_70 (by decide) ?_
        have J79 : ∀ (j79_s0 : Int64) (H : Heap) (locs : List Loc) (ls : Array Slot), va_P g vwCl [(m, .inr (11, mG m_a m_thrown m_taped m_at m_token m_place m_value m_word m_bad m_badPlace m_fault m_faultPlace m_willing m_will m_forgot m_isDrawn m_x m_begin m_round m_roundCards m_fate y60 m_bothSend m_meanCards m_bestSum m_fitMany m_fitFirst m_fitSecond)), ((m_a 45), .inl (cJ, 16, .inr (.inl g45)))] H → va_D A [(m, .inr (11, mG m_a m_thrown m_taped m_at m_token m_place m_value m_word m_bad m_badPlace m_fault m_faultPlace m_willing m_will m_forgot m_isDrawn m_x m_begin m_round m_roundCards m_fate y60 m_bothSend m_meanCards m_bestSum m_fitMany m_fitFirst m_fitSecond)), ((m_a 45), .inl (cJ, 16, .inr (.inl g45)))] → va_S A s.heap H locs → lv_has ls 6 [(0, .ref m), (2, .int p1), (3, .long p2)] → W p l e (headSpec v_X12_falls ({ frames := 1, cells := 0, slots := 0, locals := 22 })).room s mth av below meth c H locs 0 0 QQ (F0 mth 79 ls [.long j79_s0, .long m_bothSend, .ref m]) := by
          intro j79_s0 H locs ls  hP hD hS hl
          refine lv_ladd hx hb dX12_falls_79 ?_
          refine lv_topl (fun y79 e79 => ?_)
          refine va_put (D := g) (ci := 11) (v := .long y79) (ty := .long) (C := RX12) (T := TX12) (N := 56) hx hb hts iX12 tyX12 tyX12_ok nmX12 hown hK hP hD hS 0 rfl rfl 47 (by decide) (hts (.fieldLink RX12 442 "CardsAtYuleModel" "bothSend" "J") (List.mem_cons_of_mem _ (List.mem_append_left _ (List.mem_of_getElem? (i := 5) rfl)))) (fun _ h9 => h9) rfl (by decide +kernel) rfl rfl (Nat.le_of_ble_eq_true rfl) dX12_falls_80 (fun H locs hP hD hS => ?_)
          have hP : va_P g vwCl [(m, .inr (11, mG m_a m_thrown m_taped m_at m_token m_place m_value m_word m_bad m_badPlace m_fault m_faultPlace m_willing m_will m_forgot m_isDrawn m_x m_begin m_round m_roundCards m_fate y60 y79 m_meanCards m_bestSum m_fitMany m_fitFirst m_fitSecond)), ((m_a 45), .inl (cJ, 16, .inr (.inl g45)))] H := hP
          have hD : va_D A [(m, .inr (11, mG m_a m_thrown m_taped m_at m_token m_place m_value m_word m_bad m_badPlace m_fault m_faultPlace m_willing m_will m_forgot m_isDrawn m_x m_begin m_round m_roundCards m_fate y60 y79 m_meanCards m_bestSum m_fitMany m_fitFirst m_fitSecond)), ((m_a 45), .inl (cJ, 16, .inr (.inl g45)))] := hD
          refine lv_aload_n hx hb dX12_falls_83 rfl (lv_at hl 0 rfl) ?_
          refine lv_dup hx hb dX12_falls_84 rfl ?_
          refine va_get (D := g) (ci := 11) (v := .long m_meanCards) (C := RX12) (T := TX12) (N := 56) hx hb hts iX12 hown hK hP 0 rfl rfl 48 (by decide) (hts (.fieldLink RX12 445 "CardsAtYuleModel" "meanCards" "J") (List.mem_cons_of_mem _ (List.mem_append_left _ (List.mem_of_getElem? (i := 6) rfl)))) (fun _ h9 => h9) rfl dX12_falls_85 ?_
          refine lv_lload_n hx hb dX12_falls_88 rfl (lv_at hl 2 rfl) ?_
          refine lv_iload_n hx hb dX12_falls_89 rfl (lv_at hl 1 rfl) ?_
          refine ro_i (va_runS (As := [.int p1]) (rest := [.long p2, .long m_meanCards, .ref m]) ⟨hx, hb, hml, hown, hts⟩ (q_X12_sizeOf l g cI cJ cB cZ cL p1 H.size ) (va_cwS 1 hts (goodIn_app (g_3 (List.mem_cons_of_mem _ (List.mem_append_left _ (List.mem_of_getElem? (i := 7) rfl))) (List.mem_cons_of_mem _ (List.mem_append_left _ (List.mem_of_getElem? (i := 8) rfl))) (List.mem_cons_of_mem _ (List.mem_append_left _ (List.mem_of_getElem? (i := 2) rfl))) (by decide +kernel)) (goodIn_sub (fun _ h => List.mem_cons_of_mem _ (List.mem_append_right _ (List.mem_append_right _ (List.mem_append_left _ h)))) good_v_X12_sizeOf)) rfl rfl rfl (by decide +kernel) ⟨Nat.le_of_ble_eq_true rfl, Nat.le_of_ble_eq_true rfl⟩) (ps_RO (wc := []) hK hP [] rfl) rfl rfl hl.1 rfl (lv_room (Nat.le_of_ble_eq_true rfl)) dX12_falls_90 ⟨Nat.le_of_ble_eq_true rfl, Nat.le_of_ble_eq_true rfl⟩) hS hA hP (fun r90 u90 H locs hw90 hP hS => ?_)
          refine lv_i2l (v := r90.toInt64) hx hb dX12_falls_93 rfl ?_
          refine lv_lmul hx hb dX12_falls_94 ?_
          refine lv_topl (fun y94 e94 => ?_)
          refine lv_ladd hx hb dX12_falls_95 ?_
          refine lv_topl (fun y95 e95 => ?_)
          refine va_put (D := g) (ci := 11) (v := .long y95) (ty := .long) (C := RX12) (T := TX12) (N := 56) hx hb hts iX12 tyX12 tyX12_ok nmX12 hown hK hP hD hS 0 rfl rfl 48 (by decide) (hts (.fieldLink RX12 445 "CardsAtYuleModel" "meanCards" "J") (List.mem_cons_of_mem _ (List.mem_append_left _ (List.mem_of_getElem? (i := 6) rfl)))) (fun _ h9 => h9) rfl (by decide +kernel) rfl rfl (Nat.le_of_ble_eq_true rfl) dX12_falls_96 (fun H locs hP hD hS => ?_)
          have hP : va_P g vwCl [(m, .inr (11, mG m_a m_thrown m_taped m_at m_token m_place m_value m_word m_bad m_badPlace m_fault m_faultPlace m_willing m_will m_forgot m_isDrawn m_x m_begin m_round m_roundCards m_fate y60 y79 y95 m_bestSum m_fitMany m_fitFirst m_fitSecond)), ((m_a 45), .inl (cJ, 16, .inr (.inl g45)))] H := hP
          have hD : va_D A [(m, .inr (11, mG m_a m_thrown m_taped m_at m_token m_place m_value m_word m_bad m_badPlace m_fault m_faultPlace m_willing m_will m_forgot m_isDrawn m_x m_begin m_round m_roundCards m_fate y60 y79 y95 m_bestSum m_fitMany m_fitFirst m_fitSecond)), ((m_a 45), .inl (cJ, 16, .inr (.inl g45)))] := hD
          subst hQ
          have hP9 := hP.sub (ws' := [(m, .inr (11, mG m_a m_thrown m_taped m_at m_token m_place m_value m_word m_bad m_badPlace m_fault m_faultPlace m_willing m_will m_forgot m_isDrawn m_x m_begin m_round m_roundCards m_fate y60 y79 y95 m_bestSum m_fitMany m_fitFirst m_fitSecond)), ((m_a 45), .inl (cJ, 16, .inr (.inl g45)))]) [0, 1] rfl
          have hD9 := hD.sub (ws' := [(m, .inr (11, mG m_a m_thrown m_taped m_at m_token m_place m_value m_word m_bad m_badPlace m_fault m_faultPlace m_willing m_will m_forgot m_isDrawn m_x m_begin m_round m_roundCards m_fate y60 y79 y95 m_bestSum m_fitMany m_fitFirst m_fitSecond)), ((m_a 45), .inl (cJ, 16, .inr (.inl g45)))]) [0, 1] (by decide) rfl
          exact W.vret hx hb hr (fun t ht hW => ⟨⟨(y60, y79, y95, g45), rfl, trivial, ⟨by rw [ht]; exact hP9, va_K.moved hW.alike hK, hD9⟩⟩, hS.F ht⟩) hS.2.2 dX12_falls_99
        refine lv_icmp_ne (tgt := 78) hx hb dX12_falls_71 (by decide) (fun c71 => ?_) (fun c71 => ?_)
        · have f71 := (show p1.toInt ≠ 3 from z_ne rfl rfl c71)
          refine lv_lconst (v := 0) hx hb dX12_falls_78 (by decide) ?_
          exact J79 0 _ _ _  (hP.sub [0, 1] rfl) (hD.sub [0, 1] (by decide) rfl) hS (lv_sub hl [0, 1, 2] rfl)
        have f71 := (show p1.toInt = 3 from z_eq rfl rfl c71)
        have r71a : ir p1.toInt 3 3 := ir_eqa f71 (rg_all p1) (ir_c 3) (by decide) (by decide)
        refine lv_lload_n hx hb dX12_falls_74 rfl (lv_at hl 2 rfl) ?_
        refine lv_goto (tgt := 79) hx hb dX12_falls_75 (by decide) ?_
        exact J79 p2 _ _ _  (hP.sub [0, 1] rfl) (hD.sub [0, 1] (by decide) rfl) hS (lv_sub hl [0, 1, 2] rfl)
      refine lv_if_le (tgt := 59) hx hb dX12_falls_52 (by decide) (fun c52 => ?_) (fun c52 => ?_)
      · have f52 := (show p1.toInt ≤ 0 from z_le rfl rfl c52)
        have r52a : ir p1.toInt (-2147483648) 0 := ir_lea f52 (rg_all p1) (ir_c 0) (by decide)
        refine lv_lconst (v := 0) hx hb dX12_falls_59 (by decide) ?_
        exact J60 0 _ _ _  (hP.sub [0, 1] rfl) (hD.sub [0, 1] (by decide) rfl) hS (lv_sub hl [1, 2, 3] rfl)
      have f52 := (show 0 < p1.toInt from z_nle rfl rfl c52)
      have r52a : ir p1.toInt 1 2147483647 := ir_ltb f52 (ir_c 0) (rg_all p1) (by decide)
      refine lv_lload_n hx hb dX12_falls_55 rfl (lv_at hl 3 rfl) ?_
      refine lv_goto (tgt := 60) hx hb dX12_falls_56 (by decide) ?_
      exact J60 p2 _ _ _  (hP.sub [0, 1] rfl) (hD.sub [0, 1] (by decide) rfl) hS (lv_sub hl [1, 2, 3] rfl)
    refine lv_if_eq (tgt := 31) hx hb dX12_falls_24 (by decide) (fun c24 => ?_) (fun c24 => ?_)
    · have f24 := (show r21.toInt = 0 from z_eq rfl rfl c24)
      have r24a : ir r21.toInt 0 0 := ir_eqa f24 hw21_0 (ir_c 0) (by decide) (by decide)
      refine lv_iconst (v := 0) hx hb dX12_falls_31 (by decide) ?_
      exact J32 0 _ _ _ (by decide) (hP.sub [0, 1] rfl) (hD.sub [0, 1] (by decide) rfl) hS (lv_sub hl [0, 1, 2] rfl)
    have f24 := (show r21.toInt ≠ 0 from z_ne rfl rfl c24)
    have r24a : ir r21.toInt 1 1 := ir_nel f24 hw21_0 (by decide) (by decide)
    refine lv_iconst (v := 4) hx hb dX12_falls_27 (by decide) ?_
    refine lv_goto (tgt := 32) hx hb dX12_falls_28 (by decide) ?_
    exact J32 4 _ _ _ (by decide) (hP.sub [0, 1] rfl) (hD.sub [0, 1] (by decide) rfl) hS (lv_sub hl [0, 1, 2] rfl)
  refine lv_if_eq (tgt := 17) hx hb dX12_falls_10 (by decide) (fun c10 => ?_) (fun c10 => ?_)
  · have f10 := (show r7.toInt = 0 from z_eq rfl rfl c10)
    have r10a : ir r7.toInt 0 0 := ir_eqa f10 hw7_0 (ir_c 0) (by decide) (by decide)
    refine lv_iconst (v := 0) hx hb dX12_falls_17 (by decide) ?_
    exact J18 0 _ _ _ (by decide) (hP.sub [0, 1] rfl) (hD.sub [0, 1] (by decide) rfl) hS (lv_sub hl [0, 2, 3] rfl)
  have f10 := (show r7.toInt ≠ 0 from z_ne rfl rfl c10)
  have r10a : ir r7.toInt 1 1 := ir_nel f10 hw7_0 (by decide) (by decide)
  refine lv_iconst (v := 1) hx hb dX12_falls_13 (by decide) ?_
  refine lv_goto (tgt := 18) hx hb dX12_falls_14 (by decide) ?_
  exact J18 1 _ _ _ (by decide) (hP.sub [0, 1] rfl) (hD.sub [0, 1] (by decide) rfl) hS (lv_sub hl [0, 2, 3] rfl)
