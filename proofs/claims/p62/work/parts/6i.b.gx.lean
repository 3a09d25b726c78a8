def v_X12_keep : List Cond := .code yX12_keep cX12_keep 2 (some .int) :: (([.fieldLink RX12 107 "CardsAtYuleModel" "thrown" "I", .constantLong RX12 284 (2), .methodLink RX12 112 yX12_in, .static yX12_in, .initialized RX12, .methodLink RX12 263 yX12_copyLand, .instanceMethod yX12_copyLand, .selects RX12 yX12_copyLand yX12_copyLand, .fieldLink RX12 49 "CardsAtYuleModel" "isKept" "[Z"] : List Cond) ++ (v_X12_in ++ (v_X12_copyLand ++ (wsX120 ++ ([] : List Cond)))))
theorem good_v_X12_keep : v_X12_keep.all goodWord = true := ga_c (by decide +kernel) (ga_a (by decide +kernel) (ga_a good_v_X12_in (ga_a good_v_X12_copyLand (ga_a good_wsX120 rfl))))
set_option maxHeartbeats 4000000 in
set_option maxRecDepth 100000 in
theorem q_X12_keep (l : Launch) (g : va_G) (cI cJ cB cZ cL : ClassId) (p0 : Int32) (m : Nat) (m_a : Nat → Nat) (m_thrown : Int32) (m_taped : Int32) (m_at : Int32) (m_token : Int32) (m_place : Int32) (m_value : Int32) (m_word : Int64) (m_bad : Int32) (m_badPlace : Int32) (m_fault : Int32) (m_faultPlace : Int32) (m_willing : Int32) (m_will : Int32) (m_forgot : Int32) (m_isDrawn : Int32) (m_x : Int64) (m_begin : Int32) (m_round : Int32) (m_roundCards : Int32) (m_fate : Int32) (m_any : Int64) (m_bothSend : Int64) (m_meanCards : Int64) (m_bestSum : Int32) (m_fitMany : Int32) (m_fitFirst : Int64) (m_fitSecond : Int64) (m_lines_c : Nat → Int32) (m_has_c : Nat → Int32) (m_person_c : Nat → Int32) (m_pair_c : Nat → Int32) (m_lost_c : Nat → Int64) (m_strikes_c : Nat → Int64) (m_isKept_c : Nat → Int32) (sz : Nat) (hv_m_taped : ir m_taped.toInt 0 1600) (hv_m_at : ir m_at.toInt 0 1600) (hv_m_will : ir m_will.toInt 0 1) (hv_m_isDrawn : ir m_isDrawn.toInt 0 1) (ha_m_has_c : hasI m_has_c) (ha_m_person_c : perI m_person_c) (ha_m_pair_c : ar m_pair_c 240 0 15) (ha_m_isKept_c : ar m_isKept_c 3 0 1) : Met l yX12_keep v_X12_keep ({ frames := 2, cells := 0, slots := 0, locals := 47 }) (va_Pc [.ref m, .int p0] (pRW g (tyT cI cJ cB cZ cL) [(m, .inr (11, mG m_a m_thrown m_taped m_at m_token m_place m_value m_word m_bad m_badPlace m_fault m_faultPlace m_willing m_will m_forgot m_isDrawn m_x m_begin m_round m_roundCards m_fate m_any m_bothSend m_meanCards m_bestSum m_fitMany m_fitFirst m_fitSecond)), ((m_a 16), .inl (cI, 5, .inl m_lines_c)), ((m_a 17), .inl (cI, 25, .inl m_has_c)), ((m_a 18), .inl (cI, 250, .inl m_person_c)), ((m_a 19), .inl (cI, 240, .inl m_pair_c)), ((m_a 20), .inl (cJ, 160, .inr (.inl m_lost_c))), ((m_a 21), .inl (cJ, 5, .inr (.inl m_strikes_c))), ((m_a 22), .inl (cZ, 3, .inl m_isKept_c))] sz)) (va_Qi (fun (r : Int32) (u : Int32 × (Nat → Int32) × (Nat → Int32) × (Nat → Int32) × (Nat → Int32) × (Nat → Int64) × (Nat → Int64) × (Nat → Int32)) => match u with | (n_m_thrown, n_m_lines_c, n_m_has_c, n_m_person_c, n_m_pair_c, n_m_lost_c, n_m_strikes_c, n_m_isKept_c) => (ir n_m_thrown.toInt 0 0) ∧ (hasI n_m_has_c) ∧ (perI n_m_person_c) ∧ (ar n_m_pair_c 240 0 15) ∧ (ar n_m_isKept_c 3 0 1) ∧ (ir r.toInt (-2) 0)) (fun (u : Int32 × (Nat → Int32) × (Nat → Int32) × (Nat → Int32) × (Nat → Int32) × (Nat → Int64) × (Nat → Int64) × (Nat → Int32)) (t : State) => bRW g (tyT cI cJ cB cZ cL) (va_A [(m, .inr (11, mG m_a m_thrown m_taped m_at m_token m_place m_value m_word m_bad m_badPlace m_fault m_faultPlace m_willing m_will m_forgot m_isDrawn m_x m_begin m_round m_roundCards m_fate m_any m_bothSend m_meanCards m_bestSum m_fitMany m_fitFirst m_fitSecond)), ((m_a 16), .inl (cI, 5, .inl m_lines_c)), ((m_a 17), .inl (cI, 25, .inl m_has_c)), ((m_a 18), .inl (cI, 250, .inl m_person_c)), ((m_a 19), .inl (cI, 240, .inl m_pair_c)), ((m_a 20), .inl (cJ, 160, .inr (.inl m_lost_c))), ((m_a 21), .inl (cJ, 5, .inr (.inl m_strikes_c))), ((m_a 22), .inl (cZ, 3, .inl m_isKept_c))] sz) (match u with | (n_m_thrown, n_m_lines_c, n_m_has_c, n_m_person_c, n_m_pair_c, n_m_lost_c, n_m_strikes_c, n_m_isKept_c) => [(m, .inr (11, mG m_a n_m_thrown m_taped m_at m_token m_place m_value m_word m_bad m_badPlace m_fault m_faultPlace m_willing m_will m_forgot m_isDrawn m_x m_begin m_round m_roundCards m_fate m_any m_bothSend m_meanCards m_bestSum m_fitMany m_fitFirst m_fitSecond)), ((m_a 16), .inl (cI, 5, .inl n_m_lines_c)), ((m_a 17), .inl (cI, 25, .inl n_m_has_c)), ((m_a 18), .inl (cI, 250, .inl n_m_person_c)), ((m_a 19), .inl (cI, 240, .inl n_m_pair_c)), ((m_a 20), .inl (cJ, 160, .inr (.inl n_m_lost_c))), ((m_a 21), .inl (cJ, 5, .inr (.inl n_m_strikes_c))), ((m_a 22), .inl (cZ, 3, .inl n_m_isKept_c))]) t) (va_A [(m, .inr (11, mG m_a m_thrown m_taped m_at m_token m_place m_value m_word m_bad m_badPlace m_fault m_faultPlace m_willing m_will m_forgot m_isDrawn m_x m_begin m_round m_roundCards m_fate m_any m_bothSend m_meanCards m_bestSum m_fitMany m_fitFirst m_fitSecond)), ((m_a 16), .inl (cI, 5, .inl m_lines_c)), ((m_a 17), .inl (cI, 25, .inl m_has_c)), ((m_a 18), .inl (cI, 250, .inl m_person_c)), ((m_a 19), .inl (cI, 240, .inl m_pair_c)), ((m_a 20), .inl (cJ, 160, .inr (.inl m_lost_c))), ((m_a 21), .inl (cJ, 5, .inr (.inl m_strikes_c))), ((m_a 22), .inl (cZ, 3, .inl m_isKept_c))] sz)) 0 0 (va_A [(m, .inr (11, mG m_a m_thrown m_taped m_at m_token m_place m_value m_word m_bad m_badPlace m_fault m_faultPlace m_willing m_will m_forgot m_isDrawn m_x m_begin m_round m_roundCards m_fate m_any m_bothSend m_meanCards m_bestSum m_fitMany m_fitFirst m_fitSecond)), ((m_a 16), .inl (cI, 5, .inl m_lines_c)), ((m_a 17), .inl (cI, 25, .inl m_has_c)), ((m_a 18), .inl (cI, 250, .inl m_person_c)), ((m_a 19), .inl (cI, 240, .inl m_pair_c)), ((m_a 20), .inl (cJ, 160, .inr (.inl m_lost_c))), ((m_a 21), .inl (cJ, 5, .inr (.inl m_strikes_c))), ((m_a 22), .inl (cZ, 3, .inl m_isKept_c))] sz) := by
  refine Met.ofW (cc := cX12_keep) (maxL := 2) (ret := (some .int)) (by decide) rfl ?_
  intro p e s mth args below meth c s₁ B hml hv
  obtain ⟨rfl, hsz, hP, hK, hD0⟩ := hv
  have hx := B.exec
  have hb := B.bytes
  have hr := B.returns
  have hts := atoms_spec (ws := v_X12_keep) B.pre
  have hown : s.vm.findClass RX12 = some mth.cls := findClass_of_methodNamed B.named
  have hlocks := B.notSynchronized
  clear B
  subst hsz
  have iX12 : ∀ w ∈ wsX120, w ∈ v_X12_keep := (fun _ h => List.mem_cons_of_mem _ (List.mem_append_right _ (List.mem_append_right _ (List.mem_append_right _ (List.mem_append_left _ h)))))
  have hD := hD0.self (sz := s.heap.size)
  generalize hAe : (va_A [(m, .inr (11, mG m_a m_thrown m_taped m_at m_token m_place m_value m_word m_bad m_badPlace m_fault m_faultPlace m_willing m_will m_forgot m_isDrawn m_x m_begin m_round m_roundCards m_fate m_any m_bothSend m_meanCards m_bestSum m_fitMany m_fitFirst m_fitSecond)), ((m_a 16), .inl (cI, 5, .inl m_lines_c)), ((m_a 17), .inl (cI, 25, .inl m_has_c)), ((m_a 18), .inl (cI, 250, .inl m_person_c)), ((m_a 19), .inl (cI, 240, .inl m_pair_c)), ((m_a 20), .inl (cJ, 160, .inr (.inl m_lost_c))), ((m_a 21), .inl (cJ, 5, .inr (.inl m_strikes_c))), ((m_a 22), .inl (cZ, 3, .inl m_isKept_c))] s.heap.size) = A at hD ⊢
  have hA : ∀ q : Nat, s.heap.size ≤ q → A q := fun q h => by rw [← hAe]; exact Or.inr h
  have hS : va_S A s.heap s.heap [] := va_S.rf
  have hl := lv_entry ([.ref m, .int p0]) (n := 2) (Nat.le_of_ble_eq_true rfl)
  rw [lg_entry_eq]
  generalize (lg_sl ([.ref m, .int p0]) ++ List.replicate (2 - (lg_sl ([.ref m, .int p0])).length) Slot.unset).toArray = ls at hl ⊢
  generalize ([.ref m, .int p0] : List Value).toArray = av at hts ⊢
  generalize hQ : MQ below _ av s _ _ A = QQ
  have hl : lv_has ls 2 [(0, .ref m), (1, .int p0)] := hl
  have hP : va_P g vwCl [(m, .inr (11, mG m_a m_thrown m_taped m_at m_token m_place m_value m_word m_bad m_badPlace m_fault m_faultPlace m_willing m_will m_forgot m_isDrawn m_x m_begin m_round m_roundCards m_fate m_any m_bothSend m_meanCards m_bestSum m_fitMany m_fitFirst m_fitSecond)), ((m_a 16), .inl (cI, 5, .inl m_lines_c)), ((m_a 17), .inl (cI, 25, .inl m_has_c)), ((m_a 18), .inl (cI, 250, .inl m_person_c)), ((m_a 19), .inl (cI, 240, .inl m_pair_c)), ((m_a 20), .inl (cJ, 160, .inr (.inl m_lost_c))), ((m_a 21), .inl (cJ, 5, .inr (.inl m_strikes_c))), ((m_a 22), .inl (cZ, 3, .inl m_isKept_c))] s.heap := hP
  refine lv_aload_n hx hb dX12_keep_0 rfl (lv_at hl 0 rfl) ?_
  refine lv_iconst (v := 0) hx hb dX12_keep_1 (by decide) ?_
  refine va_put (D := g) (ci := 11) (v := .int 0) (ty := .int) (C := RX12) (T := TX12) (N := 56) hx hb hts iX12 tyX12 tyX12_ok nmX12 hown hK hP hD hS 0 rfl rfl 0 (by decide) (hts (.fieldLink RX12 107 "CardsAtYuleModel" "thrown" "I") (List.mem_cons_of_mem _ (List.mem_append_left _ (List.mem_of_getElem? (i := 0) rfl)))) (fun _ h9 => h9) rfl (by decide +kernel) rfl rfl (Nat.le_of_ble_eq_true rfl) dX12_keep_2 (fun H locs hP hD hS => ?_)
  have hP : va_P g vwCl [(m, .inr (11, mG m_a 0 m_taped m_at m_token m_place m_value m_word m_bad m_badPlace m_fault m_faultPlace m_willing m_will m_forgot m_isDrawn m_x m_begin m_round m_roundCards m_fate m_any m_bothSend m_meanCards m_bestSum m_fitMany m_fitFirst m_fitSecond)), ((m_a 16), .inl (cI, 5, .inl m_lines_c)), ((m_a 17), .inl (cI, 25, .inl m_has_c)), ((m_a 18), .inl (cI, 250, .inl m_person_c)), ((m_a 19), .inl (cI, 240, .inl m_pair_c)), ((m_a 20), .inl (cJ, 160, .inr (.inl m_lost_c))), ((m_a 21), .inl (cJ, 5, .inr (.inl m_strikes_c))), ((m_a 22), .inl (cZ, 3, .inl m_isKept_c))] H := hP
  have hD : va_D A [(m, .inr (11, mG m_a 0 m_taped m_at m_token m_place m_value m_word m_bad m_badPlace m_fault m_faultPlace m_willing m_will m_forgot m_isDrawn m_x m_begin m_round m_roundCards m_fate m_any m_bothSend m_meanCards m_bestSum m_fitMany m_fitFirst m_fitSecond)), ((m_a 16), .inl (cI, 5, .inl m_lines_c)), ((m_a 17), .inl (cI, 25, .inl m_has_c)), ((m_a 18), .inl (cI, 250, .inl m_person_c)), ((m_a 19), .inl (cI, 240, .inl m_pair_c)), ((m_a 20), .inl (cJ, 160, .inr (.inl m_lost_c))), ((m_a 21), .inl (cJ, 5, .inr (.inl m_strikes_c))), ((m_a 22), .inl (cZ, 3, .inl m_isKept_c))] := hD
  refine lv_iload_n hx hb dX12_keep_5 rfl (lv_at hl 1 rfl) ?_
  refine lv_i2l (v := p0.toInt64) hx hb dX12_keep_6 rfl ?_
  refine lv_lconst (v := 0) hx hb dX12_keep_7 (by decide) ?_
  refine lv_ldc2 (v := 2) hx hb hown (hts (.constantLong RX12 284 (2)) (List.mem_cons_of_mem _ (List.mem_append_left _ (List.mem_of_getElem? (i := 1) rfl)))) dX12_keep_8 ?_
  refine ro_i (va_runS (As := [.long p0.toInt64, .long 0, .long 2]) (rest := []) ⟨hx, hb, hml, hown, hts⟩ (q_X12_in l g cI cJ cB cZ cL p0.toInt64 p0.toInt 0 0 2 2 H.size (z_i2l rfl) rfl rfl) (va_cwS 3 hts (goodIn_app (g_3 (List.mem_cons_of_mem _ (List.mem_append_left _ (List.mem_of_getElem? (i := 2) rfl))) (List.mem_cons_of_mem _ (List.mem_append_left _ (List.mem_of_getElem? (i := 3) rfl))) (List.mem_cons_of_mem _ (List.mem_append_left _ (List.mem_of_getElem? (i := 4) rfl))) (by decide +kernel)) (goodIn_sub (fun _ h => List.mem_cons_of_mem _ (List.mem_append_right _ (List.mem_append_left _ h))) good_v_X12_in)) rfl rfl rfl (by decide +kernel) ⟨Nat.le_of_ble_eq_true rfl, Nat.le_of_ble_eq_true rfl⟩) (ps_RO (wc := []) hK hP [] rfl) rfl rfl hl.1 rfl (lv_room (Nat.le_of_ble_eq_true rfl)) dX12_keep_11 ⟨Nat.le_of_ble_eq_true rfl, Nat.le_of_ble_eq_true rfl⟩) hS hA hP (fun r11 u11 H locs hw11 hP hS => ?_)
  have hw11_0 := hw11
  rcases hw11_0 with ⟨er11, fc11_0, fc11_1⟩ | er11
  rotate_left 1
  · subst er11
    refine lv_if_ne (tgt := 20) hx hb dX12_keep_14 (by decide) (fun c => absurd c (by decide)) (fun _ => ?_)
    refine lv_bipush (v := (-2)) hx hb dX12_keep_17 (by decide) ?_
    subst hQ
    have hP9 := hP.sub (ws' := [(m, .inr (11, mG m_a 0 m_taped m_at m_token m_place m_value m_word m_bad m_badPlace m_fault m_faultPlace m_willing m_will m_forgot m_isDrawn m_x m_begin m_round m_roundCards m_fate m_any m_bothSend m_meanCards m_bestSum m_fitMany m_fitFirst m_fitSecond)), ((m_a 16), .inl (cI, 5, .inl m_lines_c)), ((m_a 17), .inl (cI, 25, .inl m_has_c)), ((m_a 18), .inl (cI, 250, .inl m_person_c)), ((m_a 19), .inl (cI, 240, .inl m_pair_c)), ((m_a 20), .inl (cJ, 160, .inr (.inl m_lost_c))), ((m_a 21), .inl (cJ, 5, .inr (.inl m_strikes_c))), ((m_a 22), .inl (cZ, 3, .inl m_isKept_c))]) [0, 1, 2, 3, 4, 5, 6, 7] rfl
    have hD9 := hD.sub (ws' := [(m, .inr (11, mG m_a 0 m_taped m_at m_token m_place m_value m_word m_bad m_badPlace m_fault m_faultPlace m_willing m_will m_forgot m_isDrawn m_x m_begin m_round m_roundCards m_fate m_any m_bothSend m_meanCards m_bestSum m_fitMany m_fitFirst m_fitSecond)), ((m_a 16), .inl (cI, 5, .inl m_lines_c)), ((m_a 17), .inl (cI, 25, .inl m_has_c)), ((m_a 18), .inl (cI, 250, .inl m_person_c)), ((m_a 19), .inl (cI, 240, .inl m_pair_c)), ((m_a 20), .inl (cJ, 160, .inr (.inl m_lost_c))), ((m_a 21), .inl (cJ, 5, .inr (.inl m_strikes_c))), ((m_a 22), .inl (cZ, 3, .inl m_isKept_c))]) [0, 1, 2, 3, 4, 5, 6, 7] (by decide) rfl
    exact W.iret (v := (-2)) hx hb hr (fun t ht hW => ⟨⟨(-2), (0, m_lines_c, m_has_c, m_person_c, m_pair_c, m_lost_c, m_strikes_c, m_isKept_c), rfl, ⟨(show ir (0 : Int32).toInt 0 0 by decide), ha_m_has_c, ha_m_person_c, ha_m_pair_c, ha_m_isKept_c, (show ir ((-2) : Int32).toInt (-2) 0 by decide)⟩, ⟨by rw [ht]; exact hP9, va_K.moved hW.alike hK, hD9⟩⟩, hS.F ht⟩) hS.2.2 dX12_keep_19
  subst er11
  have fc11_0 : 0 ≤ p0.toInt := fc11_0
  have r11_0b : ir p0.toInt 0 2147483647 := ir_leb fc11_0 (ir_c 0) (rg_all p0) (by decide)
  have fc11_1 : p0.toInt ≤ 2 := fc11_1
  have r11_1a : ir p0.toInt 0 2 := ir_lea fc11_1 r11_0b (ir_c 2) (by decide)
  refine lv_if_ne (tgt := 20) hx hb dX12_keep_14 (by decide) (fun _ => ?_) (fun c => absurd c (by decide))
  refine lv_aload_n hx hb dX12_keep_20 rfl (lv_at hl 0 rfl) ?_
  refine lv_iconst (v := 0) hx hb dX12_keep_21 (by decide) ?_
  refine lv_iconst (v := 1) hx hb dX12_keep_22 (by decide) ?_
  refine lv_iload_n hx hb dX12_keep_23 rfl (lv_at hl 1 rfl) ?_
  refine lv_iadd hx hb dX12_keep_24 ?_
  refine lv_topi (fun y24 e24 => ?_)
  have q24 : y24.toInt = 1 + p0.toInt := by rw [e24]; exact ad_z rfl rfl (ir_c 1) r11_1a (by decide) (by decide)
  have r24 : ir y24.toInt 1 3 := ad_r q24 (ir_c 1) r11_1a (by decide) (by decide)
  refine rw_v (wr := [((m_a 22), .inl (cZ, 3, .inl m_isKept_c))]) (va_runV (As := [.int 0, .int y24]) (rest := []) ⟨hx, hb, hml, hown, hts⟩ (q_X12_copyLand l g cI cJ cB cZ cL 0 y24 m m_a 0 m_taped m_at m_token m_place m_value m_word m_bad m_badPlace m_fault m_faultPlace m_willing m_will m_forgot m_isDrawn m_x m_begin m_round m_roundCards m_fate m_any m_bothSend m_meanCards m_bestSum m_fitMany m_fitFirst m_fitSecond m_lines_c m_has_c m_person_c m_pair_c m_lost_c m_strikes_c H.size (by decide) (ir_w r24 (by decide) (by decide)) hv_m_taped hv_m_at hv_m_will hv_m_isDrawn ha_m_has_c ha_m_person_c ha_m_pair_c) (cwV 2 hts (goodIn_app (g_4 (List.mem_cons_of_mem _ (List.mem_append_left _ (List.mem_of_getElem? (i := 5) rfl))) (List.mem_cons_of_mem _ (List.mem_append_left _ (List.mem_of_getElem? (i := 6) rfl))) (List.mem_cons_of_mem _ (List.mem_append_left _ (List.mem_of_getElem? (i := 7) rfl))) (List.mem_cons_of_mem _ (List.mem_append_left _ (List.mem_of_getElem? (i := 4) rfl))) (by decide +kernel)) (goodIn_sub (fun _ h => List.mem_cons_of_mem _ (List.mem_append_right _ (List.mem_append_right _ (List.mem_append_left _ h)))) good_v_X12_copyLand)) rfl rfl rfl (by decide +kernel) ⟨Nat.le_of_ble_eq_true rfl, Nat.le_of_ble_eq_true rfl⟩) (pv_RW (q := (RX12, TX12, 56)) (ci := 11) (q0 := 0) (wc := [(m, .inr (11, mG m_a 0 m_taped m_at m_token m_place m_value m_word m_bad m_badPlace m_fault m_faultPlace m_willing m_will m_forgot m_isDrawn m_x m_begin m_round m_roundCards m_fate m_any m_bothSend m_meanCards m_bestSum m_fitMany m_fitFirst m_fitSecond)), ((m_a 16), .inl (cI, 5, .inl m_lines_c)), ((m_a 17), .inl (cI, 25, .inl m_has_c)), ((m_a 18), .inl (cI, 250, .inl m_person_c)), ((m_a 19), .inl (cI, 240, .inl m_pair_c)), ((m_a 20), .inl (cJ, 160, .inr (.inl m_lost_c))), ((m_a 21), .inl (cJ, 5, .inr (.inl m_strikes_c)))]) hK hP hD [0, 1, 2, 3, 4, 5, 6] (by decide) rfl rfl rfl) rfl rfl hl.1 rfl (lv_room (Nat.le_of_ble_eq_true rfl)) dX12_keep_25 ⟨Nat.le_of_ble_eq_true rfl, Nat.le_of_ble_eq_true rfl⟩) hS hA hP hD [0, 1, 2, 3, 4, 5, 6] [7] rfl rfl (by decide) (by decide) (fun u25 H locs hw25 hP hD hS => ?_)
  obtain ⟨n_m_lines_c_25, n_m_has_c_25, n_m_person_c_25, n_m_pair_c_25, n_m_lost_c_25, n_m_strikes_c_25⟩ := u25
  have hP : va_P g vwCl [((m_a 22), .inl (cZ, 3, .inl m_isKept_c)), (m, .inr (11, mG m_a 0 m_taped m_at m_token m_place m_value m_word m_bad m_badPlace m_fault m_faultPlace m_willing m_will m_forgot m_isDrawn m_x m_begin m_round m_roundCards m_fate m_any m_bothSend m_meanCards m_bestSum m_fitMany m_fitFirst m_fitSecond)), ((m_a 16), .inl (cI, 5, .inl n_m_lines_c_25)), ((m_a 17), .inl (cI, 25, .inl n_m_has_c_25)), ((m_a 18), .inl (cI, 250, .inl n_m_person_c_25)), ((m_a 19), .inl (cI, 240, .inl n_m_pair_c_25)), ((m_a 20), .inl (cJ, 160, .inr (.inl n_m_lost_c_25))), ((m_a 21), .inl (cJ, 5, .inr (.inl n_m_strikes_c_25)))] H := hP
  have hD : va_D A [((m_a 22), .inl (cZ, 3, .inl m_isKept_c)), (m, .inr (11, mG m_a 0 m_taped m_at m_token m_place m_value m_word m_bad m_badPlace m_fault m_faultPlace m_willing m_will m_forgot m_isDrawn m_x m_begin m_round m_roundCards m_fate m_any m_bothSend m_meanCards m_bestSum m_fitMany m_fitFirst m_fitSecond)), ((m_a 16), .inl (cI, 5, .inl n_m_lines_c_25)), ((m_a 17), .inl (cI, 25, .inl n_m_has_c_25)), ((m_a 18), .inl (cI, 250, .inl n_m_person_c_25)), ((m_a 19), .inl (cI, 240, .inl n_m_pair_c_25)), ((m_a 20), .inl (cJ, 160, .inr (.inl n_m_lost_c_25))), ((m_a 21), .inl (cJ, 5, .inr (.inl n_m_strikes_c_25)))] := hD
  dsimp only at hw25
  obtain ⟨hw25_0, hw25_1, hw25_2⟩ := hw25
  refine lv_aload_n hx hb dX12_keep_28 rfl (lv_at hl 0 rfl) ?_
  refine va_get (D := g) (ci := 11) (v := .ref (m_a 22)) (C := RX12) (T := TX12) (N := 56) hx hb hts iX12 hown hK hP 1 rfl rfl 22 (by decide) (hts (.fieldLink RX12 49 "CardsAtYuleModel" "isKept" "[Z") (List.mem_cons_of_mem _ (List.mem_append_left _ (List.mem_of_getElem? (i := 8) rfl)))) (fun _ h9 => h9) rfl dX12_keep_29 ?_
  refine lv_iload_n hx hb dX12_keep_32 rfl (lv_at hl 1 rfl) ?_
  refine lv_iconst (v := 1) hx hb dX12_keep_33 (by decide) ?_
  refine va_zast (D := g) hx hb hK hP hD hS 0 3 rfl rfl (vi_rg rfl r11_1a (by decide) (by decide)) dX12_keep_34 (fun H locs hP hD hS => ?_)
  obtain ⟨g34, e34⟩ : ∃ z, z = upd m_isKept_c p0.toNatClampNeg (vp_nar .boolean (1 : Int32)) := ⟨_, rfl⟩
  have hP : va_P g vwCl [((m_a 22), .inl (cZ, 3, .inl (upd m_isKept_c p0.toNatClampNeg (vp_nar .boolean (1 : Int32))))), (m, .inr (11, mG m_a 0 m_taped m_at m_token m_place m_value m_word m_bad m_badPlace m_fault m_faultPlace m_willing m_will m_forgot m_isDrawn m_x m_begin m_round m_roundCards m_fate m_any m_bothSend m_meanCards m_bestSum m_fitMany m_fitFirst m_fitSecond)), ((m_a 16), .inl (cI, 5, .inl n_m_lines_c_25)), ((m_a 17), .inl (cI, 25, .inl n_m_has_c_25)), ((m_a 18), .inl (cI, 250, .inl n_m_person_c_25)), ((m_a 19), .inl (cI, 240, .inl n_m_pair_c_25)), ((m_a 20), .inl (cJ, 160, .inr (.inl n_m_lost_c_25))), ((m_a 21), .inl (cJ, 5, .inr (.inl n_m_strikes_c_25)))] H := hP
  have hD : va_D A [((m_a 22), .inl (cZ, 3, .inl (upd m_isKept_c p0.toNatClampNeg (vp_nar .boolean (1 : Int32))))), (m, .inr (11, mG m_a 0 m_taped m_at m_token m_place m_value m_word m_bad m_badPlace m_fault m_faultPlace m_willing m_will m_forgot m_isDrawn m_x m_begin m_round m_roundCards m_fate m_any m_bothSend m_meanCards m_bestSum m_fitMany m_fitFirst m_fitSecond)), ((m_a 16), .inl (cI, 5, .inl n_m_lines_c_25)), ((m_a 17), .inl (cI, 25, .inl n_m_has_c_25)), ((m_a 18), .inl (cI, 250, .inl n_m_person_c_25)), ((m_a 19), .inl (cI, 240, .inl n_m_pair_c_25)), ((m_a 20), .inl (cJ, 160, .inr (.inl n_m_lost_c_25))), ((m_a 21), .inl (cJ, 5, .inr (.inl n_m_strikes_c_25)))] := hD
  rw [← e34] at hP hD
  have a34 : ar g34 3 0 1 := by rw [e34]; exact ar_u ha_m_isKept_c (bo_r _)
  refine lv_iconst (v := 0) hx hb dX12_keep_35 (by decide) ?_
  subst hQ
  have hP9 := hP.sub (ws' := [(m, .inr (11, mG m_a 0 m_taped m_at m_token m_place m_value m_word m_bad m_badPlace m_fault m_faultPlace m_willing m_will m_forgot m_isDrawn m_x m_begin m_round m_roundCards m_fate m_any m_bothSend m_meanCards m_bestSum m_fitMany m_fitFirst m_fitSecond)), ((m_a 16), .inl (cI, 5, .inl n_m_lines_c_25)), ((m_a 17), .inl (cI, 25, .inl n_m_has_c_25)), ((m_a 18), .inl (cI, 250, .inl n_m_person_c_25)), ((m_a 19), .inl (cI, 240, .inl n_m_pair_c_25)), ((m_a 20), .inl (cJ, 160, .inr (.inl n_m_lost_c_25))), ((m_a 21), .inl (cJ, 5, .inr (.inl n_m_strikes_c_25))), ((m_a 22), .inl (cZ, 3, .inl g34))]) [1, 2, 3, 4, 5, 6, 7, 0] rfl
  have hD9 := hD.sub (ws' := [(m, .inr (11, mG m_a 0 m_taped m_at m_token m_place m_value m_word m_bad m_badPlace m_fault m_faultPlace m_willing m_will m_forgot m_isDrawn m_x m_begin m_round m_roundCards m_fate m_any m_bothSend m_meanCards m_bestSum m_fitMany m_fitFirst m_fitSecond)), ((m_a 16), .inl (cI, 5, .inl n_m_lines_c_25)), ((m_a 17), .inl (cI, 25, .inl n_m_has_c_25)), ((m_a 18), .inl (cI, 250, .inl n_m_person_c_25)), ((m_a 19), .inl (cI, 240, .inl n_m_pair_c_25)), ((m_a 20), .inl (cJ, 160, .inr (.inl n_m_lost_c_25))), ((m_a 21), .inl (cJ, 5, .inr (.inl n_m_strikes_c_25))), ((m_a 22), .inl (cZ, 3, .inl g34))]) [1, 2, 3, 4, 5, 6, 7, 0] (by decide) rfl
  exact W.iret (v := 0) hx hb hr (fun t ht hW => ⟨⟨0, (0, n_m_lines_c_25, n_m_has_c_25, n_m_person_c_25, n_m_pair_c_25, n_m_lost_c_25, n_m_strikes_c_25, g34), rfl, ⟨(show ir (0 : Int32).toInt 0 0 by decide), hw25_0, hw25_1, hw25_2, a34, (show ir (0 : Int32).toInt (-2) 0 by decide)⟩, ⟨by rw [ht]; exact hP9, va_K.moved hW.alike hK, hD9⟩⟩, hS.F ht⟩) hS.2.2 dX12_keep_36
def v_X12_on : List Cond := .code yX12_on cX12_on 2 (some .int) :: (([.fieldLink RX12 107 "CardsAtYuleModel" "thrown" "I", .constantLong RX12 284 (2), .methodLink RX12 112 yX12_in, .static yX12_in, .initialized RX12, .fieldLink RX12 49 "CardsAtYuleModel" "isKept" "[Z", .methodLink RX12 263 yX12_copyLand, .instanceMethod yX12_copyLand, .selects RX12 yX12_copyLand yX12_copyLand] : List Cond) ++ (v_X12_in ++ (v_X12_copyLand ++ (wsX120 ++ ([] : List Cond)))))
theorem good_v_X12_on : v_X12_on.all goodWord = true := ga_c (by decide +kernel) (ga_a (by decide +kernel) (ga_a good_v_X12_in (ga_a good_v_X12_copyLand (ga_a good_wsX120 rfl))))
set_option maxHeartbeats 4000000 in
set_option maxRecDepth 100000 in
theorem q_X12_on (l : Launch) (g : va_G) (cI cJ cB cZ cL : ClassId) (p0 : Int32) (m : Nat) (m_a : Nat → Nat) (m_thrown : Int32) (m_taped : Int32) (m_at : Int32) (m_token : Int32) (m_place : Int32) (m_value : Int32) (m_word : Int64) (m_bad : Int32) (m_badPlace : Int32) (m_fault : Int32) (m_faultPlace : Int32) (m_willing : Int32) (m_will : Int32) (m_forgot : Int32) (m_isDrawn : Int32) (m_x : Int64) (m_begin : Int32) (m_round : Int32) (m_roundCards : Int32) (m_fate : Int32) (m_any : Int64) (m_bothSend : Int64) (m_meanCards : Int64) (m_bestSum : Int32) (m_fitMany : Int32) (m_fitFirst : Int64) (m_fitSecond : Int64) (m_isKept_c : Nat → Int32) (m_lines_c : Nat → Int32) (m_has_c : Nat → Int32) (m_person_c : Nat → Int32) (m_pair_c : Nat → Int32) (m_lost_c : Nat → Int64) (m_strikes_c : Nat → Int64) (sz : Nat) (hv_m_taped : ir m_taped.toInt 0 1600) (hv_m_at : ir m_at.toInt 0 1600) (hv_m_will : ir m_will.toInt 0 1) (hv_m_isDrawn : ir m_isDrawn.toInt 0 1) (ha_m_isKept_c : ar m_isKept_c 3 0 1) (ha_m_has_c : hasI m_has_c) (ha_m_person_c : perI m_person_c) (ha_m_pair_c : ar m_pair_c 240 0 15) : Met l yX12_on v_X12_on ({ frames := 2, cells := 0, slots := 0, locals := 47 }) (va_Pc [.ref m, .int p0] (pRW g (tyT cI cJ cB cZ cL) [(m, .inr (11, mG m_a m_thrown m_taped m_at m_token m_place m_value m_word m_bad m_badPlace m_fault m_faultPlace m_willing m_will m_forgot m_isDrawn m_x m_begin m_round m_roundCards m_fate m_any m_bothSend m_meanCards m_bestSum m_fitMany m_fitFirst m_fitSecond)), ((m_a 22), .inl (cZ, 3, .inl m_isKept_c)), ((m_a 16), .inl (cI, 5, .inl m_lines_c)), ((m_a 17), .inl (cI, 25, .inl m_has_c)), ((m_a 18), .inl (cI, 250, .inl m_person_c)), ((m_a 19), .inl (cI, 240, .inl m_pair_c)), ((m_a 20), .inl (cJ, 160, .inr (.inl m_lost_c))), ((m_a 21), .inl (cJ, 5, .inr (.inl m_strikes_c)))] sz)) (va_Qi (fun (r : Int32) (u : Int32 × (Nat → Int32) × (Nat → Int32) × (Nat → Int32) × (Nat → Int32) × (Nat → Int64) × (Nat → Int64)) => match u with | (n_m_thrown, n_m_lines_c, n_m_has_c, n_m_person_c, n_m_pair_c, n_m_lost_c, n_m_strikes_c) => (ir n_m_thrown.toInt 0 0) ∧ (hasI n_m_has_c) ∧ (perI n_m_person_c) ∧ (ar n_m_pair_c 240 0 15) ∧ (ir r.toInt (-6) 0)) (fun (u : Int32 × (Nat → Int32) × (Nat → Int32) × (Nat → Int32) × (Nat → Int32) × (Nat → Int64) × (Nat → Int64)) (t : State) => bRW g (tyT cI cJ cB cZ cL) (va_A [(m, .inr (11, mG m_a m_thrown m_taped m_at m_token m_place m_value m_word m_bad m_badPlace m_fault m_faultPlace m_willing m_will m_forgot m_isDrawn m_x m_begin m_round m_roundCards m_fate m_any m_bothSend m_meanCards m_bestSum m_fitMany m_fitFirst m_fitSecond)), ((m_a 22), .inl (cZ, 3, .inl m_isKept_c)), ((m_a 16), .inl (cI, 5, .inl m_lines_c)), ((m_a 17), .inl (cI, 25, .inl m_has_c)), ((m_a 18), .inl (cI, 250, .inl m_person_c)), ((m_a 19), .inl (cI, 240, .inl m_pair_c)), ((m_a 20), .inl (cJ, 160, .inr (.inl m_lost_c))), ((m_a 21), .inl (cJ, 5, .inr (.inl m_strikes_c)))] sz) (match u with | (n_m_thrown, n_m_lines_c, n_m_has_c, n_m_person_c, n_m_pair_c, n_m_lost_c, n_m_strikes_c) => [(m, .inr (11, mG m_a n_m_thrown m_taped m_at m_token m_place m_value m_word m_bad m_badPlace m_fault m_faultPlace m_willing m_will m_forgot m_isDrawn m_x m_begin m_round m_roundCards m_fate m_any m_bothSend m_meanCards m_bestSum m_fitMany m_fitFirst m_fitSecond)), ((m_a 22), .inl (cZ, 3, .inl m_isKept_c)), ((m_a 16), .inl (cI, 5, .inl n_m_lines_c)), ((m_a 17), .inl (cI, 25, .inl n_m_has_c)), ((m_a 18), .inl (cI, 250, .inl n_m_person_c)), ((m_a 19), .inl (cI, 240, .inl n_m_pair_c)), ((m_a 20), .inl (cJ, 160, .inr (.inl n_m_lost_c))), ((m_a 21), .inl (cJ, 5, .inr (.inl n_m_strikes_c)))]) t) (va_A [(m, .inr (11, mG m_a m_thrown m_taped m_at m_token m_place m_value m_word m_bad m_badPlace m_fault m_faultPlace m_willing m_will m_forgot m_isDrawn m_x m_begin m_round m_roundCards m_fate m_any m_bothSend m_meanCards m_bestSum m_fitMany m_fitFirst m_fitSecond)), ((m_a 22), .inl (cZ, 3, .inl m_isKept_c)), ((m_a 16), .inl (cI, 5, .inl m_lines_c)), ((m_a 17), .inl (cI, 25, .inl m_has_c)), ((m_a 18), .inl (cI, 250, .inl m_person_c)), ((m_a 19), .inl (cI, 240, .inl m_pair_c)), ((m_a 20), .inl (cJ, 160, .inr (.inl m_lost_c))), ((m_a 21), .inl (cJ, 5, .inr (.inl m_strikes_c)))] sz)) 0 0 (va_A [(m, .inr (11, mG m_a m_thrown m_taped m_at m_token m_place m_value m_word m_bad m_badPlace m_fault m_faultPlace m_willing m_will m_forgot m_isDrawn m_x m_begin m_round m_roundCards m_fate m_any m_bothSend m_meanCards m_bestSum m_fitMany m_fitFirst m_fitSecond)), ((m_a 22), .inl (cZ, 3, .inl m_isKept_c)), ((m_a 16), .inl (cI, 5, .inl m_lines_c)), ((m_a 17), .inl (cI, 25, .inl m_has_c)), ((m_a 18), .inl (cI, 250, .inl m_person_c)), ((m_a 19), .inl (cI, 240, .inl m_pair_c)), ((m_a 20), .inl (cJ, 160, .inr (.inl m_lost_c))), ((m_a 21), .inl (cJ, 5, .inr (.inl m_strikes_c)))] sz) := by
  refine Met.ofW (cc := cX12_on) (maxL := 2) (ret := (some .int)) (by decide) rfl ?_
  intro p e s mth args below meth c s₁ B hml hv
  obtain ⟨rfl, hsz, hP, hK, hD0⟩ := hv
  have hx := B.exec
  have hb := B.bytes
  have hr := B.returns
  have hts := atoms_spec (ws := v_X12_on) B.pre
  have hown : s.vm.findClass RX12 = some mth.cls := findClass_of_methodNamed B.named
  have hlocks := B.notSynchronized
  clear B
  subst hsz
  have iX12 : ∀ w ∈ wsX120, w ∈ v_X12_on := (fun _ h => List.mem_cons_of_mem _ (List.mem_append_right _ (List.mem_append_right _ (List.mem_append_right _ (List.mem_append_left _ h)))))
  have hD := hD0.self (sz := s.heap.size)
  generalize hAe : (va_A [(m, .inr (11, mG m_a m_thrown m_taped m_at m_token m_place m_value m_word m_bad m_badPlace m_fault m_faultPlace m_willing m_will m_forgot m_isDrawn m_x m_begin m_round m_roundCards m_fate m_any m_bothSend m_meanCards m_bestSum m_fitMany m_fitFirst m_fitSecond)), ((m_a 22), .inl (cZ, 3, .inl m_isKept_c)), ((m_a 16), .inl (cI, 5, .inl m_lines_c)), ((m_a 17), .inl (cI, 25, .inl m_has_c)), ((m_a 18), .inl (cI, 250, .inl m_person_c)), ((m_a 19), .inl (cI, 240, .inl m_pair_c)), ((m_a 20), .inl (cJ, 160, .inr (.inl m_lost_c))), ((m_a 21), .inl (cJ, 5, .inr (.inl m_strikes_c)))] s.heap.size) = A at hD ⊢
  have hA : ∀ q : Nat, s.heap.size ≤ q → A q := fun q h => by rw [← hAe]; exact Or.inr h
  have hS : va_S A s.heap s.heap [] := va_S.rf
  have hl := lv_entry ([.ref m, .int p0]) (n := 2) (Nat.le_of_ble_eq_true rfl)
  rw [lg_entry_eq]
  generalize (lg_sl ([.ref m, .int p0]) ++ List.replicate (2 - (lg_sl ([.ref m, .int p0])).length) Slot.unset).toArray = ls at hl ⊢
  generalize ([.ref m, .int p0] : List Value).toArray = av at hts ⊢
  generalize hQ : MQ below _ av s _ _ A = QQ
  have hl : lv_has ls 2 [(0, .ref m), (1, .int p0)] := hl
  have hP : va_P g vwCl [(m, .inr (11, mG m_a m_thrown m_taped m_at m_token m_place m_value m_word m_bad m_badPlace m_fault m_faultPlace m_willing m_will m_forgot m_isDrawn m_x m_begin m_round m_roundCards m_fate m_any m_bothSend m_meanCards m_bestSum m_fitMany m_fitFirst m_fitSecond)), ((m_a 22), .inl (cZ, 3, .inl m_isKept_c)), ((m_a 16), .inl (cI, 5, .inl m_lines_c)), ((m_a 17), .inl (cI, 25, .inl m_has_c)), ((m_a 18), .inl (cI, 250, .inl m_person_c)), ((m_a 19), .inl (cI, 240, .inl m_pair_c)), ((m_a 20), .inl (cJ, 160, .inr (.inl m_lost_c))), ((m_a 21), .inl (cJ, 5, .inr (.inl m_strikes_c)))] s.heap := hP
  refine lv_aload_n hx hb dX12_on_0 rfl (lv_at hl 0 rfl) ?_
  refine lv_iconst (v := 0) hx hb dX12_on_1 (by decide) ?_
  refine va_put (D := g) (ci := 11) (v := .int 0) (ty := .int) (C := RX12) (T := TX12) (N := 56) hx hb hts iX12 tyX12 tyX12_ok nmX12 hown hK hP hD hS 0 rfl rfl 0 (by decide) (hts (.fieldLink RX12 107 "CardsAtYuleModel" "thrown" "I") (List.mem_cons_of_mem _ (List.mem_append_left _ (List.mem_of_getElem? (i := 0) rfl)))) (fun _ h9 => h9) rfl (by decide +kernel) rfl rfl (Nat.le_of_ble_eq_true rfl) dX12_on_2 (fun H locs hP hD hS => ?_)
  have hP : va_P g vwCl [(m, .inr (11, mG m_a 0 m_taped m_at m_token m_place m_value m_word m_bad m_badPlace m_fault m_faultPlace m_willing m_will m_forgot m_isDrawn m_x m_begin m_round m_roundCards m_fate m_any m_bothSend m_meanCards m_bestSum m_fitMany m_fitFirst m_fitSecond)), ((m_a 22), .inl (cZ, 3, .inl m_isKept_c)), ((m_a 16), .inl (cI, 5, .inl m_lines_c)), ((m_a 17), .inl (cI, 25, .inl m_has_c)), ((m_a 18), .inl (cI, 250, .inl m_person_c)), ((m_a 19), .inl (cI, 240, .inl m_pair_c)), ((m_a 20), .inl (cJ, 160, .inr (.inl m_lost_c))), ((m_a 21), .inl (cJ, 5, .inr (.inl m_strikes_c)))] H := hP
  have hD : va_D A [(m, .inr (11, mG m_a 0 m_taped m_at m_token m_place m_value m_word m_bad m_badPlace m_fault m_faultPlace m_willing m_will m_forgot m_isDrawn m_x m_begin m_round m_roundCards m_fate m_any m_bothSend m_meanCards m_bestSum m_fitMany m_fitFirst m_fitSecond)), ((m_a 22), .inl (cZ, 3, .inl m_isKept_c)), ((m_a 16), .inl (cI, 5, .inl m_lines_c)), ((m_a 17), .inl (cI, 25, .inl m_has_c)), ((m_a 18), .inl (cI, 250, .inl m_person_c)), ((m_a 19), .inl (cI, 240, .inl m_pair_c)), ((m_a 20), .inl (cJ, 160, .inr (.inl m_lost_c))), ((m_a 21), .inl (cJ, 5, .inr (.inl m_strikes_c)))] := hD
  refine lv_iload_n hx hb dX12_on_5 rfl (lv_at hl 1 rfl) ?_
  refine lv_i2l (v := p0.toInt64) hx hb dX12_on_6 rfl ?_
  refine lv_lconst (v := 0) hx hb dX12_on_7 (by decide) ?_
  refine lv_ldc2 (v := 2) hx hb hown (hts (.constantLong RX12 284 (2)) (List.mem_cons_of_mem _ (List.mem_append_left _ (List.mem_of_getElem? (i := 1) rfl)))) dX12_on_8 ?_
  refine ro_i (va_runS (As := [.long p0.toInt64, .long 0, .long 2]) (rest := []) ⟨hx, hb, hml, hown, hts⟩ (q_X12_in l g cI cJ cB cZ cL p0.toInt64 p0.toInt 0 0 2 2 H.size (z_i2l rfl) rfl rfl) (va_cwS 3 hts (goodIn_app (g_3 (List.mem_cons_of_mem _ (List.mem_append_left _ (List.mem_of_getElem? (i := 2) rfl))) (List.mem_cons_of_mem _ (List.mem_append_left _ (List.mem_of_getElem? (i := 3) rfl))) (List.mem_cons_of_mem _ (List.mem_append_left _ (List.mem_of_getElem? (i := 4) rfl))) (by decide +kernel)) (goodIn_sub (fun _ h => List.mem_cons_of_mem _ (List.mem_append_right _ (List.mem_append_left _ h))) good_v_X12_in)) rfl rfl rfl (by decide +kernel) ⟨Nat.le_of_ble_eq_true rfl, Nat.le_of_ble_eq_true rfl⟩) (ps_RO (wc := []) hK hP [] rfl) rfl rfl hl.1 rfl (lv_room (Nat.le_of_ble_eq_true rfl)) dX12_on_11 ⟨Nat.le_of_ble_eq_true rfl, Nat.le_of_ble_eq_true rfl⟩) hS hA hP (fun r11 u11 H locs hw11 hP hS => ?_)
  have hw11_0 := hw11
  rcases hw11_0 with ⟨er11, fc11_0, fc11_1⟩ | er11
  rotate_left 1
  · subst er11
    refine lv_if_ne (tgt := 20) hx hb dX12_on_14 (by decide) (fun c => absurd c (by decide)) (fun _ => ?_)
    refine lv_bipush (v := (-2)) hx hb dX12_on_17 (by decide) ?_
    subst hQ
    have hP9 := hP.sub (ws' := [(m, .inr (11, mG m_a 0 m_taped m_at m_token m_place m_value m_word m_bad m_badPlace m_fault m_faultPlace m_willing m_will m_forgot m_isDrawn m_x m_begin m_round m_roundCards m_fate m_any m_bothSend m_meanCards m_bestSum m_fitMany m_fitFirst m_fitSecond)), ((m_a 22), .inl (cZ, 3, .inl m_isKept_c)), ((m_a 16), .inl (cI, 5, .inl m_lines_c)), ((m_a 17), .inl (cI, 25, .inl m_has_c)), ((m_a 18), .inl (cI, 250, .inl m_person_c)), ((m_a 19), .inl (cI, 240, .inl m_pair_c)), ((m_a 20), .inl (cJ, 160, .inr (.inl m_lost_c))), ((m_a 21), .inl (cJ, 5, .inr (.inl m_strikes_c)))]) [0, 1, 2, 3, 4, 5, 6, 7] rfl
    have hD9 := hD.sub (ws' := [(m, .inr (11, mG m_a 0 m_taped m_at m_token m_place m_value m_word m_bad m_badPlace m_fault m_faultPlace m_willing m_will m_forgot m_isDrawn m_x m_begin m_round m_roundCards m_fate m_any m_bothSend m_meanCards m_bestSum m_fitMany m_fitFirst m_fitSecond)), ((m_a 22), .inl (cZ, 3, .inl m_isKept_c)), ((m_a 16), .inl (cI, 5, .inl m_lines_c)), ((m_a 17), .inl (cI, 25, .inl m_has_c)), ((m_a 18), .inl (cI, 250, .inl m_person_c)), ((m_a 19), .inl (cI, 240, .inl m_pair_c)), ((m_a 20), .inl (cJ, 160, .inr (.inl m_lost_c))), ((m_a 21), .inl (cJ, 5, .inr (.inl m_strikes_c)))]) [0, 1, 2, 3, 4, 5, 6, 7] (by decide) rfl
    exact W.iret (v := (-2)) hx hb hr (fun t ht hW => ⟨⟨(-2), (0, m_lines_c, m_has_c, m_person_c, m_pair_c, m_lost_c, m_strikes_c), rfl, ⟨(show ir (0 : Int32).toInt 0 0 by decide), ha_m_has_c, ha_m_person_c, ha_m_pair_c, (show ir ((-2) : Int32).toInt (-6) 0 by decide)⟩, ⟨by rw [ht]; exact hP9, va_K.moved hW.alike hK, hD9⟩⟩, hS.F ht⟩) hS.2.2 dX12_on_19
  subst er11
  have fc11_0 : 0 ≤ p0.toInt := fc11_0
  have r11_0b : ir p0.toInt 0 2147483647 := ir_leb fc11_0 (ir_c 0) (rg_all p0) (by decide)
  have fc11_1 : p0.toInt ≤ 2 := fc11_1
  have r11_1a : ir p0.toInt 0 2 := ir_lea fc11_1 r11_0b (ir_c 2) (by decide)
  refine lv_if_ne (tgt := 20) hx hb dX12_on_14 (by decide) (fun _ => ?_) (fun c => absurd c (by decide))
  refine lv_aload_n hx hb dX12_on_20 rfl (lv_at hl 0 rfl) ?_
  refine va_get (D := g) (ci := 11) (v := .ref (m_a 22)) (C := RX12) (T := TX12) (N := 56) hx hb hts iX12 hown hK hP 0 rfl rfl 22 (by decide) (hts (.fieldLink RX12 49 "CardsAtYuleModel" "isKept" "[Z") (List.mem_cons_of_mem _ (List.mem_append_left _ (List.mem_of_getElem? (i := 5) rfl)))) (fun _ h9 => h9) rfl dX12_on_21 ?_
  refine lv_iload_n hx hb dX12_on_24 rfl (lv_at hl 1 rfl) ?_
  refine va_zald (D := g) hx hb hK hP 1 3 rfl rfl (vi_rg rfl r11_1a (by decide) (by decide)) dX12_on_25 ?_
  refine lv_topi (fun y25 e25 => ?_)
  have r25 : ir y25.toInt 0 1 := by rw [e25]; exact ha_m_isKept_c _ (vi_cl (vi_rg rfl r11_1a (by decide) (by decide)))
  refine lv_if_ne (tgt := 32) hx hb dX12_on_26 (by decide) (fun c26 => ?_) (fun c26 => ?_)
  rotate_left 1
  · have f26 := (show y25.toInt = 0 from z_eq rfl rfl c26)
    have r26a : ir y25.toInt 0 0 := ir_eqa f26 r25 (ir_c 0) (by decide) (by decide)
    refine lv_bipush (v := (-6)) hx hb dX12_on_29 (by decide) ?_
    subst hQ
    have hP9 := hP.sub (ws' := [(m, .inr (11, mG m_a 0 m_taped m_at m_token m_place m_value m_word m_bad m_badPlace m_fault m_faultPlace m_willing m_will m_forgot m_isDrawn m_x m_begin m_round m_roundCards m_fate m_any m_bothSend m_meanCards m_bestSum m_fitMany m_fitFirst m_fitSecond)), ((m_a 22), .inl (cZ, 3, .inl m_isKept_c)), ((m_a 16), .inl (cI, 5, .inl m_lines_c)), ((m_a 17), .inl (cI, 25, .inl m_has_c)), ((m_a 18), .inl (cI, 250, .inl m_person_c)), ((m_a 19), .inl (cI, 240, .inl m_pair_c)), ((m_a 20), .inl (cJ, 160, .inr (.inl m_lost_c))), ((m_a 21), .inl (cJ, 5, .inr (.inl m_strikes_c)))]) [0, 1, 2, 3, 4, 5, 6, 7] rfl
    have hD9 := hD.sub (ws' := [(m, .inr (11, mG m_a 0 m_taped m_at m_token m_place m_value m_word m_bad m_badPlace m_fault m_faultPlace m_willing m_will m_forgot m_isDrawn m_x m_begin m_round m_roundCards m_fate m_any m_bothSend m_meanCards m_bestSum m_fitMany m_fitFirst m_fitSecond)), ((m_a 22), .inl (cZ, 3, .inl m_isKept_c)), ((m_a 16), .inl (cI, 5, .inl m_lines_c)), ((m_a 17), .inl (cI, 25, .inl m_has_c)), ((m_a 18), .inl (cI, 250, .inl m_person_c)), ((m_a 19), .inl (cI, 240, .inl m_pair_c)), ((m_a 20), .inl (cJ, 160, .inr (.inl m_lost_c))), ((m_a 21), .inl (cJ, 5, .inr (.inl m_strikes_c)))]) [0, 1, 2, 3, 4, 5, 6, 7] (by decide) rfl
    exact W.iret (v := (-6)) hx hb hr (fun t ht hW => ⟨⟨(-6), (0, m_lines_c, m_has_c, m_person_c, m_pair_c, m_lost_c, m_strikes_c), rfl, ⟨(show ir (0 : Int32).toInt 0 0 by decide), ha_m_has_c, ha_m_person_c, ha_m_pair_c, (show ir ((-6) : Int32).toInt (-6) 0 by decide)⟩, ⟨by rw [ht]; exact hP9, va_K.moved hW.alike hK, hD9⟩⟩, hS.F ht⟩) hS.2.2 dX12_on_31
  have f26 := (show y25.toInt ≠ 0 from z_ne rfl rfl c26)
  have r26a : ir y25.toInt 1 1 := ir_nel f26 r25 (by decide) (by decide)
  refine lv_aload_n hx hb dX12_on_32 rfl (lv_at hl 0 rfl) ?_
  refine lv_iconst (v := 1) hx hb dX12_on_33 (by decide) ?_
  refine lv_iload_n hx hb dX12_on_34 rfl (lv_at hl 1 rfl) ?_
  refine lv_iadd hx hb dX12_on_35 ?_
  refine lv_topi (fun y35 e35 => ?_)
  have q35 : y35.toInt = 1 + p0.toInt := by rw [e35]; exact ad_z rfl rfl (ir_c 1) r11_1a (by decide) (by decide)
  have r35 : ir y35.toInt 1 3 := ad_r q35 (ir_c 1) r11_1a (by decide) (by decide)
  refine lv_iconst (v := 0) hx hb dX12_on_36 (by decide) ?_
  refine rw_v (wr := [((m_a 22), .inl (cZ, 3, .inl m_isKept_c))]) (va_runV (As := [.int y35, .int 0]) (rest := []) ⟨hx, hb, hml, hown, hts⟩ (q_X12_copyLand l g cI cJ cB cZ cL y35 0 m m_a 0 m_taped m_at m_token m_place m_value m_word m_bad m_badPlace m_fault m_faultPlace m_willing m_will m_forgot m_isDrawn m_x m_begin m_round m_roundCards m_fate m_any m_bothSend m_meanCards m_bestSum m_fitMany m_fitFirst m_fitSecond m_lines_c m_has_c m_person_c m_pair_c m_lost_c m_strikes_c H.size (ir_w r35 (by decide) (by decide)) (by decide) hv_m_taped hv_m_at hv_m_will hv_m_isDrawn ha_m_has_c ha_m_person_c ha_m_pair_c) (cwV 2 hts (goodIn_app (g_4 (List.mem_cons_of_mem _ (List.mem_append_left _ (List.mem_of_getElem? (i := 6) rfl))) (List.mem_cons_of_mem _ (List.mem_append_left _ (List.mem_of_getElem? (i := 7) rfl))) (List.mem_cons_of_mem _ (List.mem_append_left _ (List.mem_of_getElem? (i := 8) rfl))) (List.mem_cons_of_mem _ (List.mem_append_left _ (List.mem_of_getElem? (i := 4) rfl))) (by decide +kernel)) (goodIn_sub (fun _ h => List.mem_cons_of_mem _ (List.mem_append_right _ (List.mem_append_right _ (List.mem_append_left _ h)))) good_v_X12_copyLand)) rfl rfl rfl (by decide +kernel) ⟨Nat.le_of_ble_eq_true rfl, Nat.le_of_ble_eq_true rfl⟩) (pv_RW (q := (RX12, TX12, 56)) (ci := 11) (q0 := 0) (wc := [(m, .inr (11, mG m_a 0 m_taped m_at m_token m_place m_value m_word m_bad m_badPlace m_fault m_faultPlace m_willing m_will m_forgot m_isDrawn m_x m_begin m_round m_roundCards m_fate m_any m_bothSend m_meanCards m_bestSum m_fitMany m_fitFirst m_fitSecond)), ((m_a 16), .inl (cI, 5, .inl m_lines_c)), ((m_a 17), .inl (cI, 25, .inl m_has_c)), ((m_a 18), .inl (cI, 250, .inl m_person_c)), ((m_a 19), .inl (cI, 240, .inl m_pair_c)), ((m_a 20), .inl (cJ, 160, .inr (.inl m_lost_c))), ((m_a 21), .inl (cJ, 5, .inr (.inl m_strikes_c)))]) hK hP hD [0, 2, 3, 4, 5, 6, 7] (by decide) rfl rfl rfl) rfl rfl hl.1 rfl (lv_room (Nat.le_of_ble_eq_true rfl)) dX12_on_37 ⟨Nat.le_of_ble_eq_true rfl, Nat.le_of_ble_eq_true rfl⟩) hS hA hP hD [0, 2, 3, 4, 5, 6, 7] [1] rfl rfl (by decide) (by decide) (fun u37 H locs hw37 hP hD hS => ?_)
  obtain ⟨n_m_lines_c_37, n_m_has_c_37, n_m_person_c_37, n_m_pair_c_37, n_m_lost_c_37, n_m_strikes_c_37⟩ := u37
  have hP : va_P g vwCl [((m_a 22), .inl (cZ, 3, .inl m_isKept_c)), (m, .inr (11, mG m_a 0 m_taped m_at m_token m_place m_value m_word m_bad m_badPlace m_fault m_faultPlace m_willing m_will m_forgot m_isDrawn m_x m_begin m_round m_roundCards m_fate m_any m_bothSend m_meanCards m_bestSum m_fitMany m_fitFirst m_fitSecond)), ((m_a 16), .inl (cI, 5, .inl n_m_lines_c_37)), ((m_a 17), .inl (cI, 25, .inl n_m_has_c_37)), ((m_a 18), .inl (cI, 250, .inl n_m_person_c_37)), ((m_a 19), .inl (cI, 240, .inl n_m_pair_c_37)), ((m_a 20), .inl (cJ, 160, .inr (.inl n_m_lost_c_37))), ((m_a 21), .inl (cJ, 5, .inr (.inl n_m_strikes_c_37)))] H := hP
  have hD : va_D A [((m_a 22), .inl (cZ, 3, .inl m_isKept_c)), (m, .inr (11, mG m_a 0 m_taped m_at m_token m_place m_value m_word m_bad m_badPlace m_fault m_faultPlace m_willing m_will m_forgot m_isDrawn m_x m_begin m_round m_roundCards m_fate m_any m_bothSend m_meanCards m_bestSum m_fitMany m_fitFirst m_fitSecond)), ((m_a 16), .inl (cI, 5, .inl n_m_lines_c_37)), ((m_a 17), .inl (cI, 25, .inl n_m_has_c_37)), ((m_a 18), .inl (cI, 250, .inl n_m_person_c_37)), ((m_a 19), .inl (cI, 240, .inl n_m_pair_c_37)), ((m_a 20), .inl (cJ, 160, .inr (.inl n_m_lost_c_37))), ((m_a 21), .inl (cJ, 5, .inr (.inl n_m_strikes_c_37)))] := hD
  dsimp only at hw37
  obtain ⟨hw37_0, hw37_1, hw37_2⟩ := hw37
  refine lv_iconst (v := 0) hx hb dX12_on_40 (by decide) ?_
  subst hQ
  have hP9 := hP.sub (ws' := [(m, .inr (11, mG m_a 0 m_taped m_at m_token m_place m_value m_word m_bad m_badPlace m_fault m_faultPlace m_willing m_will m_forgot m_isDrawn m_x m_begin m_round m_roundCards m_fate m_any m_bothSend m_meanCards m_bestSum m_fitMany m_fitFirst m_fitSecond)), ((m_a 22), .inl (cZ, 3, .inl m_isKept_c)), ((m_a 16), .inl (cI, 5, .inl n_m_lines_c_37)), ((m_a 17), .inl (cI, 25, .inl n_m_has_c_37)), ((m_a 18), .inl (cI, 250, .inl n_m_person_c_37)), ((m_a 19), .inl (cI, 240, .inl n_m_pair_c_37)), ((m_a 20), .inl (cJ, 160, .inr (.inl n_m_lost_c_37))), ((m_a 21), .inl (cJ, 5, .inr (.inl n_m_strikes_c_37)))]) [1, 0, 2, 3, 4, 5, 6, 7] rfl
  have hD9 := hD.sub (ws' := [(m, .inr (11, mG m_a 0 m_taped m_at m_token m_place m_value m_word m_bad m_badPlace m_fault m_faultPlace m_willing m_will m_forgot m_isDrawn m_x m_begin m_round m_roundCards m_fate m_any m_bothSend m_meanCards m_bestSum m_fitMany m_fitFirst m_fitSecond)), ((m_a 22), .inl (cZ, 3, .inl m_isKept_c)), ((m_a 16), .inl (cI, 5, .inl n_m_lines_c_37)), ((m_a 17), .inl (cI, 25, .inl n_m_has_c_37)), ((m_a 18), .inl (cI, 250, .inl n_m_person_c_37)), ((m_a 19), .inl (cI, 240, .inl n_m_pair_c_37)), ((m_a 20), .inl (cJ, 160, .inr (.inl n_m_lost_c_37))), ((m_a 21), .inl (cJ, 5, .inr (.inl n_m_strikes_c_37)))]) [1, 0, 2, 3, 4, 5, 6, 7] (by decide) rfl
  exact W.iret (v := 0) hx hb hr (fun t ht hW => ⟨⟨0, (0, n_m_lines_c_37, n_m_has_c_37, n_m_person_c_37, n_m_pair_c_37, n_m_lost_c_37, n_m_strikes_c_37), rfl, ⟨(show ir (0 : Int32).toInt 0 0 by decide), hw37_0, hw37_1, hw37_2, (show ir (0 : Int32).toInt (-6) 0 by decide)⟩, ⟨by rw [ht]; exact hP9, va_K.moved hW.alike hK, hD9⟩⟩, hS.F ht⟩) hS.2.2 dX12_on_41
def v_X12_sideRule : List Cond := .code yX12_sideRule cX12_sideRule 3 (some .int) :: (([.methodLink RX12 321 yX12_whoOf, .instanceMethod yX12_whoOf, .selects RX12 yX12_whoOf yX12_whoOf, .initialized RX12, .methodLink RX12 324 yX12_ruleOf, .instanceMethod yX12_ruleOf, .selects RX12 yX12_ruleOf yX12_ruleOf] : List Cond) ++ (v_X12_whoOf ++ (v_X12_ruleOf ++ ([] : List Cond))))
theorem good_v_X12_sideRule : v_X12_sideRule.all goodWord = true := ga_c (by decide +kernel) (ga_a (by decide +kernel) (ga_a good_v_X12_whoOf (ga_a good_v_X12_ruleOf rfl)))
set_option maxHeartbeats 4000000 in
set_option maxRecDepth 100000 in
theorem q_X12_sideRule (l : Launch) (g : va_G) (cI cJ cB cZ cL : ClassId) (p0 : Int32) (p1 : Int32) (m : Nat) (m_a : Nat → Nat) (m_thrown : Int32) (m_taped : Int32) (m_at : Int32) (m_token : Int32) (m_place : Int32) (m_value : Int32) (m_word : Int64) (m_bad : Int32) (m_badPlace : Int32) (m_fault : Int32) (m_faultPlace : Int32) (m_willing : Int32) (m_will : Int32) (m_forgot : Int32) (m_isDrawn : Int32) (m_x : Int64) (m_begin : Int32) (m_round : Int32) (m_roundCards : Int32) (m_fate : Int32) (m_any : Int64) (m_bothSend : Int64) (m_meanCards : Int64) (m_bestSum : Int32) (m_fitMany : Int32) (m_fitFirst : Int64) (m_fitSecond : Int64) (m_pair_c : Nat → Int32) (m_person_c : Nat → Int32) (sz : Nat) (hv_p0 : ir p0.toInt 0 15) (hv_p1 : ir p1.toInt 0 1) (hv_m_taped : ir m_taped.toInt 0 1600) (hv_m_at : ir m_at.toInt 0 1600) (hv_m_will : ir m_will.toInt 0 1) (hv_m_isDrawn : ir m_isDrawn.toInt 0 1) (ha_m_pair_c : ar m_pair_c 240 0 15) (ha_m_person_c : perI m_person_c) : Met l yX12_sideRule v_X12_sideRule ({ frames := 2, cells := 0, slots := 0, locals := 43 }) (va_Pc [.ref m, .int p0, .int p1] (pRO g (tyT cI cJ cB cZ cL) [(m, .inr (11, mG m_a m_thrown m_taped m_at m_token m_place m_value m_word m_bad m_badPlace m_fault m_faultPlace m_willing m_will m_forgot m_isDrawn m_x m_begin m_round m_roundCards m_fate m_any m_bothSend m_meanCards m_bestSum m_fitMany m_fitFirst m_fitSecond)), ((m_a 19), .inl (cI, 240, .inl m_pair_c)), ((m_a 18), .inl (cI, 250, .inl m_person_c))] sz)) (va_Qi (fun (r : Int32) (u : Unit) => (r = sdV m_pair_c m_person_c p0 p1) ∧ (ir r.toInt 0 31)) (fun (_ : Unit) (_ : State) => True) (va_A [] sz)) 0 0 (va_A [] sz) := by
  refine Met.ofW (cc := cX12_sideRule) (maxL := 3) (ret := (some .int)) (by decide) rfl ?_
  intro p e s mth args below meth c s₁ B hml hv
  obtain ⟨rfl, hsz, hP, hK⟩ := hv
  have hx := B.exec
  have hb := B.bytes
  have hr := B.returns
  have hts := atoms_spec (ws := v_X12_sideRule) B.pre
  have hown : s.vm.findClass RX12 = some mth.cls := findClass_of_methodNamed B.named
  have hlocks := B.notSynchronized
  clear B
  subst hsz
  generalize hAe : (va_A [] s.heap.size) = A
  have hA : ∀ q : Nat, s.heap.size ≤ q → A q := fun q h => by rw [← hAe]; exact Or.inr h
  have hS : va_S A s.heap s.heap [] := va_S.rf
  have hl := lv_entry ([.ref m, .int p0, .int p1]) (n := 3) (Nat.le_of_ble_eq_true rfl)
  rw [lg_entry_eq]
  generalize (lg_sl ([.ref m, .int p0, .int p1]) ++ List.replicate (3 - (lg_sl ([.ref m, .int p0, .int p1])).length) Slot.unset).toArray = ls at hl ⊢
  generalize ([.ref m, .int p0, .int p1] : List Value).toArray = av at hts ⊢
  generalize hQ : MQ below _ av s _ _ A = QQ
  have hl : lv_has ls 3 [(0, .ref m), (1, .int p0), (2, .int p1)] := hl
  have hP : va_P g vwCl [(m, .inr (11, mG m_a m_thrown m_taped m_at m_token m_place m_value m_word m_bad m_badPlace m_fault m_faultPlace m_willing m_will m_forgot m_isDrawn m_x m_begin m_round m_roundCards m_fate m_any m_bothSend m_meanCards m_bestSum m_fitMany m_fitFirst m_fitSecond)), ((m_a 19), .inl (cI, 240, .inl m_pair_c)), ((m_a 18), .inl (cI, 250, .inl m_person_c))] s.heap := hP
  refine lv_aload_n hx hb dX12_sideRule_0 rfl (lv_at hl 0 rfl) ?_
  refine lv_aload_n hx hb dX12_sideRule_1 rfl (lv_at hl 0 rfl) ?_
  refine lv_iload_n hx hb dX12_sideRule_2 rfl (lv_at hl 1 rfl) ?_
  refine lv_iload_n hx hb dX12_sideRule_3 rfl (lv_at hl 2 rfl) ?_
  refine ro_i (va_runV (As := [.int p0, .int p1]) (rest := [.ref m]) ⟨hx, hb, hml, hown, hts⟩ (q_X12_whoOf l g cI cJ cB cZ cL p0 p1 m m_a m_thrown m_taped m_at m_token m_place m_value m_word m_bad m_badPlace m_fault m_faultPlace m_willing m_will m_forgot m_isDrawn m_x m_begin m_round m_roundCards m_fate m_any m_bothSend m_meanCards m_bestSum m_fitMany m_fitFirst m_fitSecond m_pair_c s.heap.size hv_p0 hv_p1 hv_m_taped hv_m_at hv_m_will hv_m_isDrawn ha_m_pair_c) (cwV 2 hts (goodIn_app (g_4 (List.mem_cons_of_mem _ (List.mem_append_left _ (List.mem_of_getElem? (i := 0) rfl))) (List.mem_cons_of_mem _ (List.mem_append_left _ (List.mem_of_getElem? (i := 1) rfl))) (List.mem_cons_of_mem _ (List.mem_append_left _ (List.mem_of_getElem? (i := 2) rfl))) (List.mem_cons_of_mem _ (List.mem_append_left _ (List.mem_of_getElem? (i := 3) rfl))) (by decide +kernel)) (goodIn_sub (fun _ h => List.mem_cons_of_mem _ (List.mem_append_right _ (List.mem_append_left _ h))) good_v_X12_whoOf)) rfl rfl rfl (by decide +kernel) ⟨Nat.le_of_ble_eq_true rfl, Nat.le_of_ble_eq_true rfl⟩) (pv_RO (q := (RX12, TX12, 56)) (ci := 11) (q0 := 0) (wc := [(m, .inr (11, mG m_a m_thrown m_taped m_at m_token m_place m_value m_word m_bad m_badPlace m_fault m_faultPlace m_willing m_will m_forgot m_isDrawn m_x m_begin m_round m_roundCards m_fate m_any m_bothSend m_meanCards m_bestSum m_fitMany m_fitFirst m_fitSecond)), ((m_a 19), .inl (cI, 240, .inl m_pair_c))]) hK hP [0, 1] rfl rfl rfl) rfl rfl hl.1 rfl (lv_room (Nat.le_of_ble_eq_true rfl)) dX12_sideRule_4 ⟨Nat.le_of_ble_eq_true rfl, Nat.le_of_ble_eq_true rfl⟩) hS hA hP (fun r4 u4 H locs hw4 hP hS => ?_)
  obtain ⟨hw4_0, hw4_1⟩ := hw4
  have hw4_0 : r4 = whoV m_pair_c p0 p1 := hw4_0
  refine ro_i (va_runV (As := [.int r4]) (rest := []) ⟨hx, hb, hml, hown, hts⟩ (q_X12_ruleOf l g cI cJ cB cZ cL r4 m m_a m_thrown m_taped m_at m_token m_place m_value m_word m_bad m_badPlace m_fault m_faultPlace m_willing m_will m_forgot m_isDrawn m_x m_begin m_round m_roundCards m_fate m_any m_bothSend m_meanCards m_bestSum m_fitMany m_fitFirst m_fitSecond m_person_c H.size hw4_1 hv_m_taped hv_m_at hv_m_will hv_m_isDrawn ha_m_person_c) (cwV 1 hts (goodIn_app (g_4 (List.mem_cons_of_mem _ (List.mem_append_left _ (List.mem_of_getElem? (i := 4) rfl))) (List.mem_cons_of_mem _ (List.mem_append_left _ (List.mem_of_getElem? (i := 5) rfl))) (List.mem_cons_of_mem _ (List.mem_append_left _ (List.mem_of_getElem? (i := 6) rfl))) (List.mem_cons_of_mem _ (List.mem_append_left _ (List.mem_of_getElem? (i := 3) rfl))) (by decide +kernel)) (goodIn_sub (fun _ h => List.mem_cons_of_mem _ (List.mem_append_right _ (List.mem_append_right _ (List.mem_append_left _ h)))) good_v_X12_ruleOf)) rfl rfl rfl (by decide +kernel) ⟨Nat.le_of_ble_eq_true rfl, Nat.le_of_ble_eq_true rfl⟩) (pv_RO (q := (RX12, TX12, 56)) (ci := 11) (q0 := 0) (wc := [(m, .inr (11, mG m_a m_thrown m_taped m_at m_token m_place m_value m_word m_bad m_badPlace m_fault m_faultPlace m_willing m_will m_forgot m_isDrawn m_x m_begin m_round m_roundCards m_fate m_any m_bothSend m_meanCards m_bestSum m_fitMany m_fitFirst m_fitSecond)), ((m_a 18), .inl (cI, 250, .inl m_person_c))]) hK hP [0, 2] rfl rfl rfl) rfl rfl hl.1 rfl (lv_room (Nat.le_of_ble_eq_true rfl)) dX12_sideRule_7 ⟨Nat.le_of_ble_eq_true rfl, Nat.le_of_ble_eq_true rfl⟩) hS hA hP (fun r7 u7 H locs hw7 hP hS => ?_)
  obtain ⟨hw7_0, hw7_1⟩ := hw7
  have hw7_0 : r7 = ruV m_person_c r4 := hw7_0
  subst hQ
  exact W.iret (v := r7) hx hb hr (fun t ht hW => ⟨⟨r7, (), rfl, ⟨(by rw [hw7_0, hw4_0]; rfl), hw7_1⟩, trivial⟩, hS.F ht⟩) hS.2.2 dX12_sideRule_10
def v_X12_forgets : List Cond := .code yX12_forgets cX12_forgets 3 (some .int) :: (([.methodLink RX12 321 yX12_whoOf, .instanceMethod yX12_whoOf, .selects RX12 yX12_whoOf yX12_whoOf, .initialized RX12, .methodLink RX12 273 yX12_has0, .instanceMethod yX12_has0, .selects RX12 yX12_has0 yX12_has0] : List Cond) ++ (v_X12_whoOf ++ (v_X12_has0 ++ ([] : List Cond))))
theorem good_v_X12_forgets : v_X12_forgets.all goodWord = true := ga_c (by decide +kernel) (ga_a (by decide +kernel) (ga_a good_v_X12_whoOf (ga_a good_v_X12_has0 rfl)))
set_option maxHeartbeats 4000000 in
set_option maxRecDepth 100000 in
theorem q_X12_forgets (l : Launch) (g : va_G) (cI cJ cB cZ cL : ClassId) (p0 : Int32) (p1 : Int32) (m : Nat) (m_a : Nat → Nat) (m_thrown : Int32) (m_taped : Int32) (m_at : Int32) (m_token : Int32) (m_place : Int32) (m_value : Int32) (m_word : Int64) (m_bad : Int32) (m_badPlace : Int32) (m_fault : Int32) (m_faultPlace : Int32) (m_willing : Int32) (m_will : Int32) (m_forgot : Int32) (m_isDrawn : Int32) (m_x : Int64) (m_begin : Int32) (m_round : Int32) (m_roundCards : Int32) (m_fate : Int32) (m_any : Int64) (m_bothSend : Int64) (m_meanCards : Int64) (m_bestSum : Int32) (m_fitMany : Int32) (m_fitFirst : Int64) (m_fitSecond : Int64) (m_pair_c : Nat → Int32) (m_person_c : Nat → Int32) (sz : Nat) (hv_p0 : ir p0.toInt 0 15) (hv_p1 : ir p1.toInt 0 1) (hv_m_taped : ir m_taped.toInt 0 1600) (hv_m_at : ir m_at.toInt 0 1600) (hv_m_will : ir m_will.toInt 0 1) (hv_m_isDrawn : ir m_isDrawn.toInt 0 1) (ha_m_pair_c : ar m_pair_c 240 0 15) (ha_m_person_c : perI m_person_c) : Met l yX12_forgets v_X12_forgets ({ frames := 1, cells := 0, slots := 0, locals := 22 }) (va_Pc [.ref m, .int p0, .int p1] (pRO g (tyT cI cJ cB cZ cL) [(m, .inr (11, mG m_a m_thrown m_taped m_at m_token m_place m_value m_word m_bad m_badPlace m_fault m_faultPlace m_willing m_will m_forgot m_isDrawn m_x m_begin m_round m_roundCards m_fate m_any m_bothSend m_meanCards m_bestSum m_fitMany m_fitFirst m_fitSecond)), ((m_a 19), .inl (cI, 240, .inl m_pair_c)), ((m_a 18), .inl (cI, 250, .inl m_person_c))] sz)) (va_Qi (fun (r : Int32) (u : Unit) => True) (fun (_ : Unit) (_ : State) => True) (va_A [] sz)) 0 0 (va_A [] sz) := by
  refine Met.ofW (cc := cX12_forgets) (maxL := 3) (ret := (some .int)) (by decide) rfl ?_
  intro p e s mth args below meth c s₁ B hml hv
  obtain ⟨rfl, hsz, hP, hK⟩ := hv
  have hx := B.exec
  have hb := B.bytes
  have hr := B.returns
  have hts := atoms_spec (ws := v_X12_forgets) B.pre
  have hown : s.vm.findClass RX12 = some mth.cls := findClass_of_methodNamed B.named
  have hlocks := B.notSynchronized
  clear B
  subst hsz
  generalize hAe : (va_A [] s.heap.size) = A
  have hA : ∀ q : Nat, s.heap.size ≤ q → A q := fun q h => by rw [← hAe]; exact Or.inr h
  have hS : va_S A s.heap s.heap [] := va_S.rf
  have hl := lv_entry ([.ref m, .int p0, .int p1]) (n := 3) (Nat.le_of_ble_eq_true rfl)
  rw [lg_entry_eq]
  generalize (lg_sl ([.ref m, .int p0, .int p1]) ++ List.replicate (3 - (lg_sl ([.ref m, .int p0, .int p1])).length) Slot.unset).toArray = ls at hl ⊢
  generalize ([.ref m, .int p0, .int p1] : List Value).toArray = av at hts ⊢
  generalize hQ : MQ below _ av s _ _ A = QQ
  have hl : lv_has ls 3 [(0, .ref m), (1, .int p0), (2, .int p1)] := hl
  have hP : va_P g vwCl [(m, .inr (11, mG m_a m_thrown m_taped m_at m_token m_place m_value m_word m_bad m_badPlace m_fault m_faultPlace m_willing m_will m_forgot m_isDrawn m_x m_begin m_round m_roundCards m_fate m_any m_bothSend m_meanCards m_bestSum m_fitMany m_fitFirst m_fitSecond)), ((m_a 19), .inl (cI, 240, .inl m_pair_c)), ((m_a 18), .inl (cI, 250, .inl m_person_c))] s.heap := hP
  refine lv_aload_n hx hb dX12_forgets_0 rfl (lv_at hl 0 rfl) ?_
  refine lv_aload_n hx hb dX12_forgets_1 rfl (lv_at hl 0 rfl) ?_
  refine lv_iload_n hx hb dX12_forgets_2 rfl (lv_at hl 1 rfl) ?_
  refine lv_iload_n hx hb dX12_forgets_3 rfl (lv_at hl 2 rfl) ?_
  refine ro_i (va_runV (As := [.int p0, .int p1]) (rest := [.ref m]) ⟨hx, hb, hml, hown, hts⟩ (q_X12_whoOf l g cI cJ cB cZ cL p0 p1 m m_a m_thrown m_taped m_at m_token m_place m_value m_word m_bad m_badPlace m_fault m_faultPlace m_willing m_will m_forgot m_isDrawn m_x m_begin m_round m_roundCards m_fate m_any m_bothSend m_meanCards m_bestSum m_fitMany m_fitFirst m_fitSecond m_pair_c s.heap.size hv_p0 hv_p1 hv_m_taped hv_m_at hv_m_will hv_m_isDrawn ha_m_pair_c) (cwV 2 hts (goodIn_app (g_4 (List.mem_cons_of_mem _ (List.mem_append_left _ (List.mem_of_getElem? (i := 0) rfl))) (List.mem_cons_of_mem _ (List.mem_append_left _ (List.mem_of_getElem? (i := 1) rfl))) (List.mem_cons_of_mem _ (List.mem_append_left _ (List.mem_of_getElem? (i := 2) rfl))) (List.mem_cons_of_mem _ (List.mem_append_left _ (List.mem_of_getElem? (i := 3) rfl))) (by decide +kernel)) (goodIn_sub (fun _ h => List.mem_cons_of_mem _ (List.mem_append_right _ (List.mem_append_left _ h))) good_v_X12_whoOf)) rfl rfl rfl (by decide +kernel) ⟨Nat.le_of_ble_eq_true rfl, Nat.le_of_ble_eq_true rfl⟩) (pv_RO (q := (RX12, TX12, 56)) (ci := 11) (q0 := 0) (wc := [(m, .inr (11, mG m_a m_thrown m_taped m_at m_token m_place m_value m_word m_bad m_badPlace m_fault m_faultPlace m_willing m_will m_forgot m_isDrawn m_x m_begin m_round m_roundCards m_fate m_any m_bothSend m_meanCards m_bestSum m_fitMany m_fitFirst m_fitSecond)), ((m_a 19), .inl (cI, 240, .inl m_pair_c))]) hK hP [0, 1] rfl rfl rfl) rfl rfl hl.1 rfl (lv_room (Nat.le_of_ble_eq_true rfl)) dX12_forgets_4 ⟨Nat.le_of_ble_eq_true rfl, Nat.le_of_ble_eq_true rfl⟩) hS hA hP (fun r4 u4 H locs hw4 hP hS => ?_)
  obtain ⟨hw4_0, hw4_1⟩ := hw4
  have hw4_0 : r4 = whoV m_pair_c p0 p1 := hw4_0
  refine lv_iconst (v := 2) hx hb dX12_forgets_7 (by decide) ?_
  refine ro_i (va_runV (As := [.int r4, .int 2]) (rest := []) ⟨hx, hb, hml, hown, hts⟩ (q_X12_has0 l g cI cJ cB cZ cL r4 2 m m_a m_thrown m_taped m_at m_token m_place m_value m_word m_bad m_badPlace m_fault m_faultPlace m_willing m_will m_forgot m_isDrawn m_x m_begin m_round m_roundCards m_fate m_any m_bothSend m_meanCards m_bestSum m_fitMany m_fitFirst m_fitSecond m_person_c H.size hw4_1 (by decide) hv_m_taped hv_m_at hv_m_will hv_m_isDrawn ha_m_person_c) (cwV 2 hts (goodIn_app (g_4 (List.mem_cons_of_mem _ (List.mem_append_left _ (List.mem_of_getElem? (i := 4) rfl))) (List.mem_cons_of_mem _ (List.mem_append_left _ (List.mem_of_getElem? (i := 5) rfl))) (List.mem_cons_of_mem _ (List.mem_append_left _ (List.mem_of_getElem? (i := 6) rfl))) (List.mem_cons_of_mem _ (List.mem_append_left _ (List.mem_of_getElem? (i := 3) rfl))) (by decide +kernel)) (goodIn_sub (fun _ h => List.mem_cons_of_mem _ (List.mem_append_right _ (List.mem_append_right _ (List.mem_append_left _ h)))) good_v_X12_has0)) rfl rfl rfl (by decide +kernel) ⟨Nat.le_of_ble_eq_true rfl, Nat.le_of_ble_eq_true rfl⟩) (pv_RO (q := (RX12, TX12, 56)) (ci := 11) (q0 := 0) (wc := [(m, .inr (11, mG m_a m_thrown m_taped m_at m_token m_place m_value m_word m_bad m_badPlace m_fault m_faultPlace m_willing m_will m_forgot m_isDrawn m_x m_begin m_round m_roundCards m_fate m_any m_bothSend m_meanCards m_bestSum m_fitMany m_fitFirst m_fitSecond)), ((m_a 18), .inl (cI, 250, .inl m_person_c))]) hK hP [0, 2] rfl rfl rfl) rfl rfl hl.1 rfl (lv_room (Nat.le_of_ble_eq_true rfl)) dX12_forgets_8 ⟨Nat.le_of_ble_eq_true rfl, Nat.le_of_ble_eq_true rfl⟩) hS hA hP (fun r8 u8 H locs hw8 hP hS => ?_)
  subst hQ
  exact W.iret (v := r8) hx hb hr (fun t ht hW => ⟨⟨r8, (), rfl, trivial, trivial⟩, hS.F ht⟩) hS.2.2 dX12_forgets_11
def v_X12_isChance : List Cond := .code yX12_isChance cX12_isChance 4 (some .boolean) :: (([.methodLink RX12 281 yX12_isPair, .instanceMethod yX12_isPair, .selects RX12 yX12_isPair yX12_isPair, .initialized RX12, .constantLong RX12 110 (3), .methodLink RX12 112 yX12_in, .static yX12_in] : List Cond) ++ (v_X12_isPair ++ (v_X12_in ++ ([] : List Cond))))
theorem good_v_X12_isChance : v_X12_isChance.all goodWord = true := ga_c (by decide +kernel) (ga_a (by decide +kernel) (ga_a good_v_X12_isPair (ga_a good_v_X12_in rfl)))
set_option maxHeartbeats 4000000 in
set_option maxRecDepth 100000 in
theorem q_X12_isChance (l : Launch) (g : va_G) (cI cJ cB cZ cL : ClassId) (p0 : Int32) (p1 : Int32) (p2 : Int32) (m : Nat) (m_a : Nat → Nat) (m_thrown : Int32) (m_taped : Int32) (m_at : Int32) (m_token : Int32) (m_place : Int32) (m_value : Int32) (m_word : Int64) (m_bad : Int32) (m_badPlace : Int32) (m_fault : Int32) (m_faultPlace : Int32) (m_willing : Int32) (m_will : Int32) (m_forgot : Int32) (m_isDrawn : Int32) (m_x : Int64) (m_begin : Int32) (m_round : Int32) (m_roundCards : Int32) (m_fate : Int32) (m_any : Int64) (m_bothSend : Int64) (m_meanCards : Int64) (m_bestSum : Int32) (m_fitMany : Int32) (m_fitFirst : Int64) (m_fitSecond : Int64) (m_has_c : Nat → Int32) (sz : Nat) (hv_m_taped : ir m_taped.toInt 0 1600) (hv_m_at : ir m_at.toInt 0 1600) (hv_m_will : ir m_will.toInt 0 1) (hv_m_isDrawn : ir m_isDrawn.toInt 0 1) (ha_m_has_c : hasI m_has_c) : Met l yX12_isChance v_X12_isChance ({ frames := 2, cells := 0, slots := 0, locals := 46 }) (va_Pc [.ref m, .int p0, .int p1, .int p2] (pRO g (tyT cI cJ cB cZ cL) [(m, .inr (11, mG m_a m_thrown m_taped m_at m_token m_place m_value m_word m_bad m_badPlace m_fault m_faultPlace m_willing m_will m_forgot m_isDrawn m_x m_begin m_round m_roundCards m_fate m_any m_bothSend m_meanCards m_bestSum m_fitMany m_fitFirst m_fitSecond)), ((m_a 17), .inl (cI, 25, .inl m_has_c))] sz)) (va_Qi (fun (r : Int32) (u : Unit) => ((r = 1 ∧ 0 ≤ p0.toInt ∧ p0.toInt ≤ 15 ∧ 1 ≤ p1.toInt ∧ p1.toInt ≤ 3) ∨ (r = 0))) (fun (_ : Unit) (_ : State) => True) (va_A [] sz)) 0 0 (va_A [] sz) := by
  refine Met.ofW (cc := cX12_isChance) (maxL := 4) (ret := (some .boolean)) (by decide) rfl ?_
  intro p e s mth args below meth c s₁ B hml hv
  obtain ⟨rfl, hsz, hP, hK⟩ := hv
  have hx := B.exec
  have hb := B.bytes
  have hr := B.returns
  have hts := atoms_spec (ws := v_X12_isChance) B.pre
  have hown : s.vm.findClass RX12 = some mth.cls := findClass_of_methodNamed B.named
  have hlocks := B.notSynchronized
  clear B
  subst hsz
  generalize hAe : (va_A [] s.heap.size) = A
  have hA : ∀ q : Nat, s.heap.size ≤ q → A q := fun q h => by rw [← hAe]; exact Or.inr h
  have hS : va_S A s.heap s.heap [] := va_S.rf
  have hl := lv_entry ([.ref m, .int p0, .int p1, .int p2]) (n := 4) (Nat.le_of_ble_eq_true rfl)
  rw [lg_entry_eq]
  generalize (lg_sl ([.ref m, .int p0, .int p1, .int p2]) ++ List.replicate (4 - (lg_sl ([.ref m, .int p0, .int p1, .int p2])).length) Slot.unset).toArray = ls at hl ⊢
  generalize ([.ref m, .int p0, .int p1, .int p2] : List Value).toArray = av at hts ⊢
  generalize hQ : MQ below _ av s _ _ A = QQ
  have hl : lv_has ls 4 [(0, .ref m), (1, .int p0), (2, .int p1), (3, .int p2)] := hl
  have hP : va_P g vwCl [(m, .inr (11, mG m_a m_thrown m_taped m_at m_token m_place m_value m_word m_bad m_badPlace m_fault m_faultPlace m_willing m_will m_forgot m_isDrawn m_x m_begin m_round m_roundCards m_fate m_any m_bothSend m_meanCards m_bestSum m_fitMany m_fitFirst m_fitSecond)), ((m_a 17), .inl (cI, 25, .inl m_has_c))] s.heap := hP
  refine lv_aload_n hx hb dX12_isChance_0 rfl (lv_at hl 0 rfl) ?_
  refine lv_iload_n hx hb dX12_isChance_1 rfl (lv_at hl 1 rfl) ?_
  refine ro_i (va_runV (As := [.int p0]) (rest := []) ⟨hx, hb, hml, hown, hts⟩ (q_X12_isPair l g cI cJ cB cZ cL p0 m m_a m_thrown m_taped m_at m_token m_place m_value m_word m_bad m_badPlace m_fault m_faultPlace m_willing m_will m_forgot m_isDrawn m_x m_begin m_round m_roundCards m_fate m_any m_bothSend m_meanCards m_bestSum m_fitMany m_fitFirst m_fitSecond m_has_c s.heap.size hv_m_taped hv_m_at hv_m_will hv_m_isDrawn ha_m_has_c) (cwV 1 hts (goodIn_app (g_4 (List.mem_cons_of_mem _ (List.mem_append_left _ (List.mem_of_getElem? (i := 0) rfl))) (List.mem_cons_of_mem _ (List.mem_append_left _ (List.mem_of_getElem? (i := 1) rfl))) (List.mem_cons_of_mem _ (List.mem_append_left _ (List.mem_of_getElem? (i := 2) rfl))) (List.mem_cons_of_mem _ (List.mem_append_left _ (List.mem_of_getElem? (i := 3) rfl))) (by decide +kernel)) (goodIn_sub (fun _ h => List.mem_cons_of_mem _ (List.mem_append_right _ (List.mem_append_left _ h))) good_v_X12_isPair)) rfl rfl rfl (by decide +kernel) ⟨Nat.le_of_ble_eq_true rfl, Nat.le_of_ble_eq_true rfl⟩) (pv_RO (q := (RX12, TX12, 56)) (ci := 11) (q0 := 0) (wc := [(m, .inr (11, mG m_a m_thrown m_taped m_at m_token m_place m_value m_word m_bad m_badPlace m_fault m_faultPlace m_willing m_will m_forgot m_isDrawn m_x m_begin m_round m_roundCards m_fate m_any m_bothSend m_meanCards m_bestSum m_fitMany m_fitFirst m_fitSecond)), ((m_a 17), .inl (cI, 25, .inl m_has_c))]) hK hP [0, 1] rfl rfl rfl) rfl rfl hl.1 rfl (lv_room (Nat.le_of_ble_eq_true rfl)) dX12_isChance_2 ⟨Nat.le_of_ble_eq_true rfl, Nat.le_of_ble_eq_true rfl⟩) hS hA hP (fun r2 u2 H locs hw2 hP hS => ?_)
  have hw2_0 := hw2
  rcases hw2_0 with ⟨er2, fc2_0, fc2_1⟩ | er2
  rotate_left 1
  · subst er2
    refine lv_if_eq (tgt := 34) hx hb dX12_isChance_5 (by decide) (fun _ => ?_) (fun c => absurd c (by decide))
    refine lv_iconst (v := 0) hx hb dX12_isChance_34 (by decide) ?_
    subst hQ
    exact W.zret (v := 0) hx hb hr rfl (fun t ht hW => ⟨⟨0, (), rfl, (Or.inr rfl), trivial⟩, hS.F ht⟩) hS.2.2 dX12_isChance_35
  subst er2
  have fc2_0 : 0 ≤ p0.toInt := fc2_0
  have r2_0b : ir p0.toInt 0 2147483647 := ir_leb fc2_0 (ir_c 0) (rg_all p0) (by decide)
  have fc2_1 : p0.toInt ≤ 15 := fc2_1
  have r2_1a : ir p0.toInt 0 15 := ir_lea fc2_1 r2_0b (ir_c 15) (by decide)
  refine lv_if_eq (tgt := 34) hx hb dX12_isChance_5 (by decide) (fun c => absurd c (by decide)) (fun _ => ?_)
  refine lv_iload_n hx hb dX12_isChance_8 rfl (lv_at hl 2 rfl) ?_
  refine lv_i2l (v := p1.toInt64) hx hb dX12_isChance_9 rfl ?_
  refine lv_lconst (v := 1) hx hb dX12_isChance_10 (by decide) ?_
  refine lv_ldc2 (v := 3) hx hb hown (hts (.constantLong RX12 110 (3)) (List.mem_cons_of_mem _ (List.mem_append_left _ (List.mem_of_getElem? (i := 4) rfl)))) dX12_isChance_11 ?_
  refine ro_i (va_runS (As := [.long p1.toInt64, .long 1, .long 3]) (rest := []) ⟨hx, hb, hml, hown, hts⟩ (q_X12_in l g cI cJ cB cZ cL p1.toInt64 p1.toInt 1 1 3 3 H.size (z_i2l rfl) rfl rfl) (va_cwS 3 hts (goodIn_app (g_3 (List.mem_cons_of_mem _ (List.mem_append_left _ (List.mem_of_getElem? (i := 5) rfl))) (List.mem_cons_of_mem _ (List.mem_append_left _ (List.mem_of_getElem? (i := 6) rfl))) (List.mem_cons_of_mem _ (List.mem_append_left _ (List.mem_of_getElem? (i := 3) rfl))) (by decide +kernel)) (goodIn_sub (fun _ h => List.mem_cons_of_mem _ (List.mem_append_right _ (List.mem_append_right _ (List.mem_append_left _ h)))) good_v_X12_in)) rfl rfl rfl (by decide +kernel) ⟨Nat.le_of_ble_eq_true rfl, Nat.le_of_ble_eq_true rfl⟩) (ps_RO (wc := []) hK hP [] rfl) rfl rfl hl.1 rfl (lv_room (Nat.le_of_ble_eq_true rfl)) dX12_isChance_14 ⟨Nat.le_of_ble_eq_true rfl, Nat.le_of_ble_eq_true rfl⟩) hS hA hP (fun r14 u14 H locs hw14 hP hS => ?_)
  have hw14_0 := hw14
  rcases hw14_0 with ⟨er14, fc14_0, fc14_1⟩ | er14
  rotate_left 1
  · subst er14
    refine lv_if_eq (tgt := 34) hx hb dX12_isChance_17 (by decide) (fun _ => ?_) (fun c => absurd c (by decide))
    refine lv_iconst (v := 0) hx hb dX12_isChance_34 (by decide) ?_
    subst hQ
    exact W.zret (v := 0) hx hb hr rfl (fun t ht hW => ⟨⟨0, (), rfl, (Or.inr rfl), trivial⟩, hS.F ht⟩) hS.2.2 dX12_isChance_35
  subst er14
  have fc14_0 : 1 ≤ p1.toInt := fc14_0
  have r14_0b : ir p1.toInt 1 2147483647 := ir_leb fc14_0 (ir_c 1) (rg_all p1) (by decide)
  have fc14_1 : p1.toInt ≤ 3 := fc14_1
  have r14_1a : ir p1.toInt 1 3 := ir_lea fc14_1 r14_0b (ir_c 3) (by decide)
  refine lv_if_eq (tgt := 34) hx hb dX12_isChance_17 (by decide) (fun c => absurd c (by decide)) (fun _ => ?_)
  refine lv_iload_n hx hb dX12_isChance_20 rfl (lv_at hl 3 rfl) ?_
  refine lv_i2l (v := p2.toInt64) hx hb dX12_isChance_21 rfl ?_
  refine lv_lconst (v := 0) hx hb dX12_isChance_22 (by decide) ?_
  refine lv_lconst (v := 1) hx hb dX12_isChance_23 (by decide) ?_
  refine ro_i (va_runS (As := [.long p2.toInt64, .long 0, .long 1]) (rest := []) ⟨hx, hb, hml, hown, hts⟩ (q_X12_in l g cI cJ cB cZ cL p2.toInt64 p2.toInt 0 0 1 1 H.size (z_i2l rfl) rfl rfl) (va_cwS 3 hts (goodIn_app (g_3 (List.mem_cons_of_mem _ (List.mem_append_left _ (List.mem_of_getElem? (i := 5) rfl))) (List.mem_cons_of_mem _ (List.mem_append_left _ (List.mem_of_getElem? (i := 6) rfl))) (List.mem_cons_of_mem _ (List.mem_append_left _ (List.mem_of_getElem? (i := 3) rfl))) (by decide +kernel)) (goodIn_sub (fun _ h => List.mem_cons_of_mem _ (List.mem_append_right _ (List.mem_append_right _ (List.mem_append_left _ h)))) good_v_X12_in)) rfl rfl rfl (by decide +kernel) ⟨Nat.le_of_ble_eq_true rfl, Nat.le_of_ble_eq_true rfl⟩) (ps_RO (wc := []) hK hP [] rfl) rfl rfl hl.1 rfl (lv_room (Nat.le_of_ble_eq_true rfl)) dX12_isChance_24 ⟨Nat.le_of_ble_eq_true rfl, Nat.le_of_ble_eq_true rfl⟩) hS hA hP (fun r24 u24 H locs hw24 hP hS => ?_)
  have hw24_0 := hw24
  rcases hw24_0 with ⟨er24, fc24_0, fc24_1⟩ | er24
  rotate_left 1
  · subst er24
    refine lv_if_eq (tgt := 34) hx hb dX12_isChance_27 (by decide) (fun _ => ?_) (fun c => absurd c (by decide))
    refine lv_iconst (v := 0) hx hb dX12_isChance_34 (by decide) ?_
    subst hQ
    exact W.zret (v := 0) hx hb hr rfl (fun t ht hW => ⟨⟨0, (), rfl, (Or.inr rfl), trivial⟩, hS.F ht⟩) hS.2.2 dX12_isChance_35
  subst er24
  have fc24_0 : 0 ≤ p2.toInt := fc24_0
  have r24_0b : ir p2.toInt 0 2147483647 := ir_leb fc24_0 (ir_c 0) (rg_all p2) (by decide)
  have fc24_1 : p2.toInt ≤ 1 := fc24_1
  have r24_1a : ir p2.toInt 0 1 := ir_lea fc24_1 r24_0b (ir_c 1) (by decide)
  refine lv_if_eq (tgt := 34) hx hb dX12_isChance_27 (by decide) (fun c => absurd c (by decide)) (fun _ => ?_)
  refine lv_iconst (v := 1) hx hb dX12_isChance_30 (by decide) ?_
  refine lv_goto (tgt := 35) hx hb dX12_isChance_31 (by decide) ?_
  subst hQ
  exact W.zret (v := 1) hx hb hr rfl (fun t ht hW => ⟨⟨1, (), rfl, (Or.inl ⟨rfl, (by first | omega | decide), (by first | omega | decide), (by first | omega | decide), (by first | omega | decide)⟩), trivial⟩, hS.F ht⟩) hS.2.2 dX12_isChance_35
def v_X12_isWill : List Cond := .code yX12_isWill cX12_isWill 4 (some .boolean) :: (([.methodLink RX12 281 yX12_isPair, .instanceMethod yX12_isPair, .selects RX12 yX12_isPair yX12_isPair, .initialized RX12, .methodLink RX12 340 yX12_isSide, .static yX12_isSide, .constantLong RX12 485 (12), .methodLink RX12 112 yX12_in, .static yX12_in] : List Cond) ++ (v_X12_isPair ++ (v_X12_isSide ++ (v_X12_in ++ ([] : List Cond)))))
theorem good_v_X12_isWill : v_X12_isWill.all goodWord = true := ga_c (by decide +kernel) (ga_a (by decide +kernel) (ga_a good_v_X12_isPair (ga_a good_v_X12_isSide (ga_a good_v_X12_in rfl))))
set_option maxHeartbeats 4000000 in
set_option maxRecDepth 100000 in
theorem q_X12_isWill (l : Launch) (g : va_G) (cI cJ cB cZ cL : ClassId) (p0 : Int32) (p1 : Int32) (p2 : Int32) (m : Nat) (m_a : Nat → Nat) (m_thrown : Int32) (m_taped : Int32) (m_at : Int32) (m_token : Int32) (m_place : Int32) (m_value : Int32) (m_word : Int64) (m_bad : Int32) (m_badPlace : Int32) (m_fault : Int32) (m_faultPlace : Int32) (m_willing : Int32) (m_will : Int32) (m_forgot : Int32) (m_isDrawn : Int32) (m_x : Int64) (m_begin : Int32) (m_round : Int32) (m_roundCards : Int32) (m_fate : Int32) (m_any : Int64) (m_bothSend : Int64) (m_meanCards : Int64) (m_bestSum : Int32) (m_fitMany : Int32) (m_fitFirst : Int64) (m_fitSecond : Int64) (m_has_c : Nat → Int32) (sz : Nat) (hv_m_taped : ir m_taped.toInt 0 1600) (hv_m_at : ir m_at.toInt 0 1600) (hv_m_will : ir m_will.toInt 0 1) (hv_m_isDrawn : ir m_isDrawn.toInt 0 1) (ha_m_has_c : hasI m_has_c) : Met l yX12_isWill v_X12_isWill ({ frames := 2, cells := 0, slots := 0, locals := 46 }) (va_Pc [.ref m, .int p0, .int p1, .int p2] (pRO g (tyT cI cJ cB cZ cL) [(m, .inr (11, mG m_a m_thrown m_taped m_at m_token m_place m_value m_word m_bad m_badPlace m_fault m_faultPlace m_willing m_will m_forgot m_isDrawn m_x m_begin m_round m_roundCards m_fate m_any m_bothSend m_meanCards m_bestSum m_fitMany m_fitFirst m_fitSecond)), ((m_a 17), .inl (cI, 25, .inl m_has_c))] sz)) (va_Qi (fun (r : Int32) (u : Unit) => ((r = 1 ∧ 0 ≤ p0.toInt ∧ p0.toInt ≤ 15 ∧ 0 ≤ p1.toInt ∧ p1.toInt ≤ 1 ∧ 1 ≤ p2.toInt ∧ p2.toInt ≤ 12) ∨ (r = 0))) (fun (_ : Unit) (_ : State) => True) (va_A [] sz)) 0 0 (va_A [] sz) := by
  refine Met.ofW (cc := cX12_isWill) (maxL := 4) (ret := (some .boolean)) (by decide) rfl ?_
  intro p e s mth args below meth c s₁ B hml hv
  obtain ⟨rfl, hsz, hP, hK⟩ := hv
  have hx := B.exec
  have hb := B.bytes
  have hr := B.returns
  have hts := atoms_spec (ws := v_X12_isWill) B.pre
  have hown : s.vm.findClass RX12 = some mth.cls := findClass_of_methodNamed B.named
  have hlocks := B.notSynchronized
  clear B
  subst hsz
  generalize hAe : (va_A [] s.heap.size) = A
  have hA : ∀ q : Nat, s.heap.size ≤ q → A q := fun q h => by rw [← hAe]; exact Or.inr h
  have hS : va_S A s.heap s.heap [] := va_S.rf
  have hl := lv_entry ([.ref m, .int p0, .int p1, .int p2]) (n := 4) (Nat.le_of_ble_eq_true rfl)
  rw [lg_entry_eq]
  generalize (lg_sl ([.ref m, .int p0, .int p1, .int p2]) ++ List.replicate (4 - (lg_sl ([.ref m, .int p0, .int p1, .int p2])).length) Slot.unset).toArray = ls at hl ⊢
  generalize ([.ref m, .int p0, .int p1, .int p2] : List Value).toArray = av at hts ⊢
  generalize hQ : MQ below _ av s _ _ A = QQ
  have hl : lv_has ls 4 [(0, .ref m), (1, .int p0), (2, .int p1), (3, .int p2)] := hl
  have hP : va_P g vwCl [(m, .inr (11, mG m_a m_thrown m_taped m_at m_token m_place m_value m_word m_bad m_badPlace m_fault m_faultPlace m_willing m_will m_forgot m_isDrawn m_x m_begin m_round m_roundCards m_fate m_any m_bothSend m_meanCards m_bestSum m_fitMany m_fitFirst m_fitSecond)), ((m_a 17), .inl (cI, 25, .inl m_has_c))] s.heap := hP
  refine lv_aload_n hx hb dX12_isWill_0 rfl (lv_at hl 0 rfl) ?_
  refine lv_iload_n hx hb dX12_isWill_1 rfl (lv_at hl 1 rfl) ?_
  refine ro_i (va_runV (As := [.int p0]) (rest := []) ⟨hx, hb, hml, hown, hts⟩ (q_X12_isPair l g cI cJ cB cZ cL p0 m m_a m_thrown m_taped m_at m_token m_place m_value m_word m_bad m_badPlace m_fault m_faultPlace m_willing m_will m_forgot m_isDrawn m_x m_begin m_round m_roundCards m_fate m_any m_bothSend m_meanCards m_bestSum m_fitMany m_fitFirst m_fitSecond m_has_c s.heap.size hv_m_taped hv_m_at hv_m_will hv_m_isDrawn ha_m_has_c) (cwV 1 hts (goodIn_app (g_4 (List.mem_cons_of_mem _ (List.mem_append_left _ (List.mem_of_getElem? (i := 0) rfl))) (List.mem_cons_of_mem _ (List.mem_append_left _ (List.mem_of_getElem? (i := 1) rfl))) (List.mem_cons_of_mem _ (List.mem_append_left _ (List.mem_of_getElem? (i := 2) rfl))) (List.mem_cons_of_mem _ (List.mem_append_left _ (List.mem_of_getElem? (i := 3) rfl))) (by decide +kernel)) (goodIn_sub (fun _ h => List.mem_cons_of_mem _ (List.mem_append_right _ (List.mem_append_left _ h))) good_v_X12_isPair)) rfl rfl rfl (by decide +kernel) ⟨Nat.le_of_ble_eq_true rfl, Nat.le_of_ble_eq_true rfl⟩) (pv_RO (q := (RX12, TX12, 56)) (ci := 11) (q0 := 0) (wc := [(m, .inr (11, mG m_a m_thrown m_taped m_at m_token m_place m_value m_word m_bad m_badPlace m_fault m_faultPlace m_willing m_will m_forgot m_isDrawn m_x m_begin m_round m_roundCards m_fate m_any m_bothSend m_meanCards m_bestSum m_fitMany m_fitFirst m_fitSecond)), ((m_a 17), .inl (cI, 25, .inl m_has_c))]) hK hP [0, 1] rfl rfl rfl) rfl rfl hl.1 rfl (lv_room (Nat.le_of_ble_eq_true rfl)) dX12_isWill_2 ⟨Nat.le_of_ble_eq_true rfl, Nat.le_of_ble_eq_true rfl⟩) hS hA hP (fun r2 u2 H locs hw2 hP hS => ?_)
  have hw2_0 := hw2
  rcases hw2_0 with ⟨er2, fc2_0, fc2_1⟩ | er2
  rotate_left 1
  · subst er2
    refine lv_if_eq (tgt := 31) hx hb dX12_isWill_5 (by decide) (fun _ => ?_) (fun c => absurd c (by decide))
    refine lv_iconst (v := 0) hx hb dX12_isWill_31 (by decide) ?_
    subst hQ
    exact W.zret (v := 0) hx hb hr rfl (fun t ht hW => ⟨⟨0, (), rfl, (Or.inr rfl), trivial⟩, hS.F ht⟩) hS.2.2 dX12_isWill_32
  subst er2
  have fc2_0 : 0 ≤ p0.toInt := fc2_0
  have r2_0b : ir p0.toInt 0 2147483647 := ir_leb fc2_0 (ir_c 0) (rg_all p0) (by decide)
  have fc2_1 : p0.toInt ≤ 15 := fc2_1
  have r2_1a : ir p0.toInt 0 15 := ir_lea fc2_1 r2_0b (ir_c 15) (by decide)
  refine lv_if_eq (tgt := 31) hx hb dX12_isWill_5 (by decide) (fun c => absurd c (by decide)) (fun _ => ?_)
  refine lv_iload_n hx hb dX12_isWill_8 rfl (lv_at hl 2 rfl) ?_
  refine ro_i (va_runS (As := [.int p1]) (rest := []) ⟨hx, hb, hml, hown, hts⟩ (q_X12_isSide l g cI cJ cB cZ cL p1 H.size ) (va_cwS 1 hts (goodIn_app (g_3 (List.mem_cons_of_mem _ (List.mem_append_left _ (List.mem_of_getElem? (i := 4) rfl))) (List.mem_cons_of_mem _ (List.mem_append_left _ (List.mem_of_getElem? (i := 5) rfl))) (List.mem_cons_of_mem _ (List.mem_append_left _ (List.mem_of_getElem? (i := 3) rfl))) (by decide +kernel)) (goodIn_sub (fun _ h => List.mem_cons_of_mem _ (List.mem_append_right _ (List.mem_append_right _ (List.mem_append_left _ h)))) good_v_X12_isSide)) rfl rfl rfl (by decide +kernel) ⟨Nat.le_of_ble_eq_true rfl, Nat.le_of_ble_eq_true rfl⟩) (ps_RO (wc := []) hK hP [] rfl) rfl rfl hl.1 rfl (lv_room (Nat.le_of_ble_eq_true rfl)) dX12_isWill_9 ⟨Nat.le_of_ble_eq_true rfl, Nat.le_of_ble_eq_true rfl⟩) hS hA hP (fun r9 u9 H locs hw9 hP hS => ?_)
  have hw9_0 := hw9
  rcases hw9_0 with ⟨er9, fc9_0, fc9_1⟩ | er9
  rotate_left 1
  · subst er9
    refine lv_if_eq (tgt := 31) hx hb dX12_isWill_12 (by decide) (fun _ => ?_) (fun c => absurd c (by decide))
    refine lv_iconst (v := 0) hx hb dX12_isWill_31 (by decide) ?_
    subst hQ
    exact W.zret (v := 0) hx hb hr rfl (fun t ht hW => ⟨⟨0, (), rfl, (Or.inr rfl), trivial⟩, hS.F ht⟩) hS.2.2 dX12_isWill_32
  subst er9
  have fc9_0 : 0 ≤ p1.toInt := fc9_0
  have r9_0b : ir p1.toInt 0 2147483647 := ir_leb fc9_0 (ir_c 0) (rg_all p1) (by decide)
  have fc9_1 : p1.toInt ≤ 1 := fc9_1
  have r9_1a : ir p1.toInt 0 1 := ir_lea fc9_1 r9_0b (ir_c 1) (by decide)
  refine lv_if_eq (tgt := 31) hx hb dX12_isWill_12 (by decide) (fun c => absurd c (by decide)) (fun _ => ?_)
  refine lv_iload_n hx hb dX12_isWill_15 rfl (lv_at hl 3 rfl) ?_
  refine lv_i2l (v := p2.toInt64) hx hb dX12_isWill_16 rfl ?_
  refine lv_lconst (v := 1) hx hb dX12_isWill_17 (by decide) ?_
  refine lv_ldc2 (v := 12) hx hb hown (hts (.constantLong RX12 485 (12)) (List.mem_cons_of_mem _ (List.mem_append_left _ (List.mem_of_getElem? (i := 6) rfl)))) dX12_isWill_18 ?_
  refine ro_i (va_runS (As := [.long p2.toInt64, .long 1, .long 12]) (rest := []) ⟨hx, hb, hml, hown, hts⟩ (q_X12_in l g cI cJ cB cZ cL p2.toInt64 p2.toInt 1 1 12 12 H.size (z_i2l rfl) rfl rfl) (va_cwS 3 hts (goodIn_app (g_3 (List.mem_cons_of_mem _ (List.mem_append_left _ (List.mem_of_getElem? (i := 7) rfl))) (List.mem_cons_of_mem _ (List.mem_append_left _ (List.mem_of_getElem? (i := 8) rfl))) (List.mem_cons_of_mem _ (List.mem_append_left _ (List.mem_of_getElem? (i := 3) rfl))) (by decide +kernel)) (goodIn_sub (fun _ h => List.mem_cons_of_mem _ (List.mem_append_right _ (List.mem_append_right _ (List.mem_append_right _ (List.mem_append_left _ h))))) good_v_X12_in)) rfl rfl rfl (by decide +kernel) ⟨Nat.le_of_ble_eq_true rfl, Nat.le_of_ble_eq_true rfl⟩) (ps_RO (wc := []) hK hP [] rfl) rfl rfl hl.1 rfl (lv_room (Nat.le_of_ble_eq_true rfl)) dX12_isWill_21 ⟨Nat.le_of_ble_eq_true rfl, Nat.le_of_ble_eq_true rfl⟩) hS hA hP (fun r21 u21 H locs hw21 hP hS => ?_)
  have hw21_0 := hw21
  rcases hw21_0 with ⟨er21, fc21_0, fc21_1⟩ | er21
  rotate_left 1
  · subst er21
    refine lv_if_eq (tgt := 31) hx hb dX12_isWill_24 (by decide) (fun _ => ?_) (fun c => absurd c (by decide))
    refine lv_iconst (v := 0) hx hb dX12_isWill_31 (by decide) ?_
    subst hQ
    exact W.zret (v := 0) hx hb hr rfl (fun t ht hW => ⟨⟨0, (), rfl, (Or.inr rfl), trivial⟩, hS.F ht⟩) hS.2.2 dX12_isWill_32
  subst er21
  have fc21_0 : 1 ≤ p2.toInt := fc21_0
  have r21_0b : ir p2.toInt 1 2147483647 := ir_leb fc21_0 (ir_c 1) (rg_all p2) (by decide)
  have fc21_1 : p2.toInt ≤ 12 := fc21_1
  have r21_1a : ir p2.toInt 1 12 := ir_lea fc21_1 r21_0b (ir_c 12) (by decide)
  refine lv_if_eq (tgt := 31) hx hb dX12_isWill_24 (by decide) (fun c => absurd c (by decide)) (fun _ => ?_)
  refine lv_iconst (v := 1) hx hb dX12_isWill_27 (by decide) ?_
  refine lv_goto (tgt := 32) hx hb dX12_isWill_28 (by decide) ?_
  subst hQ
  exact W.zret (v := 1) hx hb hr rfl (fun t ht hW => ⟨⟨1, (), rfl, (Or.inl ⟨rfl, (by first | omega | decide), (by first | omega | decide), (by first | omega | decide), (by first | omega | decide), (by first | omega | decide), (by first | omega | decide)⟩), trivial⟩, hS.F ht⟩) hS.2.2 dX12_isWill_32
def v_X12_fateNow : List Cond := .code yX12_fateNow cX12_fateNow 2 (some .int) :: (([.fieldLink RX12 397 "CardsAtYuleModel" "fate" "I", .fieldLink RX12 391 "CardsAtYuleModel" "roundCards" "I", .fieldLink RX12 388 "CardsAtYuleModel" "round" "I", .fieldLink RX12 385 "CardsAtYuleModel" "begin" "I"] : List Cond) ++ (wsX120 ++ ([] : List Cond)))
theorem good_v_X12_fateNow : v_X12_fateNow.all goodWord = true := ga_c (by decide +kernel) (ga_a (by decide +kernel) (ga_a good_wsX120 rfl))
set_option maxHeartbeats 4000000 in
set_option maxRecDepth 100000 in
theorem q_X12_fateNow (l : Launch) (g : va_G) (cI cJ cB cZ cL : ClassId) (p0 : Int32) (m : Nat) (m_a : Nat → Nat) (m_thrown : Int32) (m_taped : Int32) (m_at : Int32) (m_token : Int32) (m_place : Int32) (m_value : Int32) (m_word : Int64) (m_bad : Int32) (m_badPlace : Int32) (m_fault : Int32) (m_faultPlace : Int32) (m_willing : Int32) (m_will : Int32) (m_forgot : Int32) (m_isDrawn : Int32) (m_x : Int64) (m_begin : Int32) (m_round : Int32) (m_roundCards : Int32) (m_fate : Int32) (m_any : Int64) (m_bothSend : Int64) (m_meanCards : Int64) (m_bestSum : Int32) (m_fitMany : Int32) (m_fitFirst : Int64) (m_fitSecond : Int64) (sz : Nat) (hv_m_taped : ir m_taped.toInt 0 1600) (hv_m_at : ir m_at.toInt 0 1600) (hv_m_will : ir m_will.toInt 0 1) (hv_m_isDrawn : ir m_isDrawn.toInt 0 1) : Met l yX12_fateNow v_X12_fateNow ({ frames := 0, cells := 0, slots := 0, locals := 0 }) (va_Pc [.ref m, .int p0] (pRO g (tyT cI cJ cB cZ cL) [(m, .inr (11, mG m_a m_thrown m_taped m_at m_token m_place m_value m_word m_bad m_badPlace m_fault m_faultPlace m_willing m_will m_forgot m_isDrawn m_x m_begin m_round m_roundCards m_fate m_any m_bothSend m_meanCards m_bestSum m_fitMany m_fitFirst m_fitSecond))] sz)) (va_Qi (fun (r : Int32) (u : Unit) => True) (fun (_ : Unit) (_ : State) => True) (va_A [] sz)) 0 0 (va_A [] sz) := by
  refine Met.ofW (cc := cX12_fateNow) (maxL := 2) (ret := (some .int)) (by decide) rfl ?_
  intro p e s mth args below meth c s₁ B hml hv
  obtain ⟨rfl, hsz, hP, hK⟩ := hv
  have hx := B.exec
  have hb := B.bytes
  have hr := B.returns
  have hts := atoms_spec (ws := v_X12_fateNow) B.pre
  have hown : s.vm.findClass RX12 = some mth.cls := findClass_of_methodNamed B.named
  have hlocks := B.notSynchronized
  clear B
  subst hsz
  have iX12 : ∀ w ∈ wsX120, w ∈ v_X12_fateNow := (fun _ h => List.mem_cons_of_mem _ (List.mem_append_right _ (List.mem_append_left _ h)))
  generalize hAe : (va_A [] s.heap.size) = A
  have hA : ∀ q : Nat, s.heap.size ≤ q → A q := fun q h => by rw [← hAe]; exact Or.inr h
  have hS : va_S A s.heap s.heap [] := va_S.rf
  have hl := lv_entry ([.ref m, .int p0]) (n := 2) (Nat.le_of_ble_eq_true rfl)
  rw [lg_entry_eq]
  generalize (lg_sl ([.ref m, .int p0]) ++ List.replicate (2 - (lg_sl ([.ref m, .int p0])).length) Slot.unset).toArray = ls at hl ⊢
  generalize ([.ref m, .int p0] : List Value).toArray = av at hts ⊢
  generalize hQ : MQ below _ av s _ _ A = QQ
  have hl : lv_has ls 2 [(0, .ref m), (1, .int p0)] := hl
  have hP : va_P g vwCl [(m, .inr (11, mG m_a m_thrown m_taped m_at m_token m_place m_value m_word m_bad m_badPlace m_fault m_faultPlace m_willing m_will m_forgot m_isDrawn m_x m_begin m_round m_roundCards m_fate m_any m_bothSend m_meanCards m_bestSum m_fitMany m_fitFirst m_fitSecond))] s.heap := hP
  refine lv_iload_n hx hb dX12_fateNow_0 rfl (lv_at hl 1 rfl) ?_
  refine lv_if_ne (tgt := 11) hx hb dX12_fateNow_1 (by decide) (fun c1 => ?_) (fun c1 => ?_)
  rotate_left 1
  · have f1 := (show p0.toInt = 0 from z_eq rfl rfl c1)
    have r1a : ir p0.toInt 0 0 := ir_eqa f1 (rg_all p0) (ir_c 0) (by decide) (by decide)
    refine lv_aload_n hx hb dX12_fateNow_4 rfl (lv_at hl 0 rfl) ?_
    refine va_get (D := g) (ci := 11) (v := .int m_begin) (C := RX12) (T := TX12) (N := 56) hx hb hts iX12 hown hK hP 0 rfl rfl 40 (by decide) (hts (.fieldLink RX12 385 "CardsAtYuleModel" "begin" "I") (List.mem_cons_of_mem _ (List.mem_append_left _ (List.mem_of_getElem? (i := 3) rfl)))) (fun _ h9 => h9) rfl dX12_fateNow_5 ?_
    refine lv_goto (tgt := 39) hx hb dX12_fateNow_8 (by decide) ?_
    subst hQ
    exact W.iret (v := m_begin) hx hb hr (fun t ht hW => ⟨⟨m_begin, (), rfl, trivial, trivial⟩, hS.F ht⟩) hS.2.2 dX12_fateNow_39
  have f1 := (show p0.toInt ≠ 0 from z_ne rfl rfl c1)
  refine lv_iload_n hx hb dX12_fateNow_11 rfl (lv_at hl 1 rfl) ?_
  refine lv_iconst (v := 1) hx hb dX12_fateNow_12 (by decide) ?_
  refine lv_icmp_ne (tgt := 23) hx hb dX12_fateNow_13 (by decide) (fun c13 => ?_) (fun c13 => ?_)
  rotate_left 1
  · have f13 := (show p0.toInt = 1 from z_eq rfl rfl c13)
    have r13a : ir p0.toInt 1 1 := ir_eqa f13 (rg_all p0) (ir_c 1) (by decide) (by decide)
    refine lv_aload_n hx hb dX12_fateNow_16 rfl (lv_at hl 0 rfl) ?_
    refine va_get (D := g) (ci := 11) (v := .int m_round) (C := RX12) (T := TX12) (N := 56) hx hb hts iX12 hown hK hP 0 rfl rfl 41 (by decide) (hts (.fieldLink RX12 388 "CardsAtYuleModel" "round" "I") (List.mem_cons_of_mem _ (List.mem_append_left _ (List.mem_of_getElem? (i := 2) rfl)))) (fun _ h9 => h9) rfl dX12_fateNow_17 ?_
    refine lv_goto (tgt := 39) hx hb dX12_fateNow_20 (by decide) ?_
    subst hQ
    exact W.iret (v := m_round) hx hb hr (fun t ht hW => ⟨⟨m_round, (), rfl, trivial, trivial⟩, hS.F ht⟩) hS.2.2 dX12_fateNow_39
  have f13 := (show p0.toInt ≠ 1 from z_ne rfl rfl c13)
  refine lv_iload_n hx hb dX12_fateNow_23 rfl (lv_at hl 1 rfl) ?_
  refine lv_iconst (v := 2) hx hb dX12_fateNow_24 (by decide) ?_
  refine lv_icmp_ne (tgt := 35) hx hb dX12_fateNow_25 (by decide) (fun c25 => ?_) (fun c25 => ?_)
  · have f25 := (show p0.toInt ≠ 2 from z_ne rfl rfl c25)
    refine lv_aload_n hx hb dX12_fateNow_35 rfl (lv_at hl 0 rfl) ?_
    refine va_get (D := g) (ci := 11) (v := .int m_fate) (C := RX12) (T := TX12) (N := 56) hx hb hts iX12 hown hK hP 0 rfl rfl 43 (by decide) (hts (.fieldLink RX12 397 "CardsAtYuleModel" "fate" "I") (List.mem_cons_of_mem _ (List.mem_append_left _ (List.mem_of_getElem? (i := 0) rfl)))) (fun _ h9 => h9) rfl dX12_fateNow_36 ?_
    subst hQ
    exact W.iret (v := m_fate) hx hb hr (fun t ht hW => ⟨⟨m_fate, (), rfl, trivial, trivial⟩, hS.F ht⟩) hS.2.2 dX12_fateNow_39
  have f25 := (show p0.toInt = 2 from z_eq rfl rfl c25)
  have r25a : ir p0.toInt 2 2 := ir_eqa f25 (rg_all p0) (ir_c 2) (by decide) (by decide)
  refine lv_aload_n hx hb dX12_fateNow_28 rfl (lv_at hl 0 rfl) ?_
  refine va_get (D := g) (ci := 11) (v := .int m_roundCards) (C := RX12) (T := TX12) (N := 56) hx hb hts iX12 hown hK hP 0 rfl rfl 42 (by decide) (hts (.fieldLink RX12 391 "CardsAtYuleModel" "roundCards" "I") (List.mem_cons_of_mem _ (List.mem_append_left _ (List.mem_of_getElem? (i := 1) rfl)))) (fun _ h9 => h9) rfl dX12_fateNow_29 ?_
  refine lv_goto (tgt := 39) hx hb dX12_fateNow_32 (by decide) ?_
  subst hQ
  exact W.iret (v := m_roundCards) hx hb hr (fun t ht hW => ⟨⟨m_roundCards, (), rfl, trivial, trivial⟩, hS.F ht⟩) hS.2.2 dX12_fateNow_39
def v_X12_falls : List Cond := .code yX12_falls cX12_falls 6 none :: (([.methodLink RX12 288 yX12_isBit, .static yX12_isBit, .initialized RX12, .fieldLink RX12 95 "CardsAtYuleModel" "likelyThen" "[J", .fieldLink RX12 439 "CardsAtYuleModel" "any" "J", .fieldLink RX12 442 "CardsAtYuleModel" "bothSend" "J", .fieldLink RX12 445 "CardsAtYuleModel" "meanCards" "J", .methodLink RX12 364 yX12_sizeOf, .static yX12_sizeOf] : List Cond) ++ (v_X12_isBit ++ (v_X12_sizeOf ++ (wsX120 ++ ([] : List Cond)))))
theorem good_v_X12_falls : v_X12_falls.all goodWord = true := ga_c (by decide +kernel) (ga_a (by decide +kernel) (ga_a good_v_X12_isBit (ga_a good_v_X12_sizeOf (ga_a good_wsX120 rfl))))
set_option maxHeartbeats 4000000 in
set_option maxRecDepth 100000 in
theorem q_X12_falls (l : Launch) (g : va_G) (cI cJ cB cZ cL : ClassId) (p0 : Int32) (p1 : Int32) (p2 : Int64) (m : Nat) (m_a : Nat → Nat) (m_thrown : Int32) (m_taped : Int32) (m_at : Int32) (m_token : Int32) (m_place : Int32) (m_value : Int32) (m_word : Int64) (m_bad : Int32) (m_badPlace : Int32) (m_fault : Int32) (m_faultPlace : Int32) (m_willing : Int32) (m_will : Int32) (m_forgot : Int32) (m_isDrawn : Int32) (m_x : Int64) (m_begin : Int32) (m_round : Int32) (m_roundCards : Int32) (m_fate : Int32) (m_any : Int64) (m_bothSend : Int64) (m_meanCards : Int64) (m_bestSum : Int32) (m_fitMany : Int32) (m_fitFirst : Int64) (m_fitSecond : Int64) (m_likelyThen_c : Nat → Int64) (sz : Nat) (hv_p0 : ir p0.toInt 0 15) (hv_m_taped : ir m_taped.toInt 0 1600) (hv_m_at : ir m_at.toInt 0 1600) (hv_m_will : ir m_will.toInt 0 1) (hv_m_isDrawn : ir m_isDrawn.toInt 0 1) : Met l yX12_falls v_X12_falls ({ frames := 1, cells := 0, slots := 0, locals := 22 }) (va_Pc [.ref m, .int p0, .int p1, .long p2] (pRW g (tyT cI cJ cB cZ cL) [(m, .inr (11, mG m_a m_thrown m_taped m_at m_token m_place m_value m_word m_bad m_badPlace m_fault m_faultPlace m_willing m_will m_forgot m_isDrawn m_x m_begin m_round m_roundCards m_fate m_any m_bothSend m_meanCards m_bestSum m_fitMany m_fitFirst m_fitSecond)), ((m_a 45), .inl (cJ, 16, .inr (.inl m_likelyThen_c)))] sz)) (va_Qv (fun (u : Int64 × Int64 × Int64 × (Nat → Int64)) => match u with | (n_m_any, n_m_bothSend, n_m_meanCards, n_m_likelyThen_c) => True) (fun (u : Int64 × Int64 × Int64 × (Nat → Int64)) (t : State) => bRW g (tyT cI cJ cB cZ cL) (va_A [(m, .inr (11, mG m_a m_thrown m_taped m_at m_token m_place m_value m_word m_bad m_badPlace m_fault m_faultPlace m_willing m_will m_forgot m_isDrawn m_x m_begin m_round m_roundCards m_fate m_any m_bothSend m_meanCards m_bestSum m_fitMany m_fitFirst m_fitSecond)), ((m_a 45), .inl (cJ, 16, .inr (.inl m_likelyThen_c)))] sz) (match u with | (n_m_any, n_m_bothSend, n_m_meanCards, n_m_likelyThen_c) => [(m, .inr (11, mG m_a m_thrown m_taped m_at m_token m_place m_value m_word m_bad m_badPlace m_fault m_faultPlace m_willing m_will m_forgot m_isDrawn m_x m_begin m_round m_roundCards m_fate n_m_any n_m_bothSend n_m_meanCards m_bestSum m_fitMany m_fitFirst m_fitSecond)), ((m_a 45), .inl (cJ, 16, .inr (.inl n_m_likelyThen_c)))]) t) (va_A [(m, .inr (11, mG m_a m_thrown m_taped m_at m_token m_place m_value m_word m_bad m_badPlace m_fault m_faultPlace m_willing m_will m_forgot m_isDrawn m_x m_begin m_round m_roundCards m_fate m_any m_bothSend m_meanCards m_bestSum m_fitMany m_fitFirst m_fitSecond)), ((m_a 45), .inl (cJ, 16, .inr (.inl m_likelyThen_c)))] sz)) 0 0 (va_A [(m, .inr (11, mG m_a m_thrown m_taped m_at m_token m_place m_value m_word m_bad m_badPlace m_fault m_faultPlace m_willing m_will m_forgot m_isDrawn m_x m_begin m_round m_roundCards m_fate m_any m_bothSend m_meanCards m_bestSum m_fitMany m_fitFirst m_fitSecond)), ((m_a 45), .inl (cJ, 16, .inr (.inl m_likelyThen_c)))] sz) := by
  refine Met.ofW (cc := cX12_falls) (maxL := 6) (ret := none) (by decide) rfl ?_
  intro p e s mth args below meth c s₁ B hml hv
  obtain ⟨rfl, hsz, hP, hK, hD0⟩ := hv
  have hx := B.exec
  have hb := B.bytes
  have hr := B.returns
  have hts := atoms_spec (ws := v_X12_falls) B.pre
  have hown : s.vm.findClass RX12 = some mth.cls := findClass_of_methodNamed B.named
  have hlocks := B.notSynchronized
  clear B
  subst hsz
  have iX12 : ∀ w ∈ wsX120, w ∈ v_X12_falls := (fun _ h => List.mem_cons_of_mem _ (List.mem_append_right _ (List.mem_append_right _ (List.mem_append_right _ (List.mem_append_left _ h)))))
  have hD := hD0.self (sz := s.heap.size)
  generalize hAe : (va_A [(m, .inr (11, mG m_a m_thrown m_taped m_at m_token m_place m_value m_word m_bad m_badPlace m_fault m_faultPlace m_willing m_will m_forgot m_isDrawn m_x m_begin m_round m_roundCards m_fate m_any m_bothSend m_meanCards m_bestSum m_fitMany m_fitFirst m_fitSecond)), ((m_a 45), .inl (cJ, 16, .inr (.inl m_likelyThen_c)))] s.heap.size) = A at hD ⊢
  have hA : ∀ q : Nat, s.heap.size ≤ q → A q := fun q h => by rw [← hAe]; exact Or.inr h
  have hS : va_S A s.heap s.heap [] := va_S.rf
  have hl := lv_entry ([.ref m, .int p0, .int p1, .long p2]) (n := 6) (Nat.le_of_ble_eq_true rfl)
  rw [lg_entry_eq]
  generalize (lg_sl ([.ref m, .int p0, .int p1, .long p2]) ++ List.replicate (6 - (lg_sl ([.ref m, .int p0, .int p1, .long p2])).length) Slot.unset).toArray = ls at hl ⊢
  generalize ([.ref m, .int p0, .int p1, .long p2] : List Value).toArray = av at hts ⊢
  generalize hQ : MQ below _ av s _ _ A = QQ
  have hl : lv_has ls 6 [(0, .ref m), (1, .int p0), (2, .int p1), (3, .long p2)] := hl
  have hP : va_P g vwCl [(m, .inr (11, mG m_a m_thrown m_taped m_at m_token m_place m_value m_word m_bad m_badPlace m_fault m_faultPlace m_willing m_will m_forgot m_isDrawn m_x m_begin m_round m_roundCards m_fate m_any m_bothSend m_meanCards m_bestSum m_fitMany m_fitFirst m_fitSecond)), ((m_a 45), .inl (cJ, 16, .inr (.inl m_likelyThen_c)))] s.heap := hP
  refine lv_iload_n hx hb dX12_falls_0 rfl (lv_at hl 1 rfl) ?_
  refine lv_iconst (v := 5) hx hb dX12_falls_1 (by decide) ?_
  refine lv_iand hx hb dX12_falls_2 ?_
  refine lv_topi (fun y2 e2 => ?_)
  have r2 : ir y2.toInt 0 5 := by rw [e2]; exact an_y rfl (ir_c 5) (by decide)
  refine lv_iconst (v := 1) hx hb dX12_falls_3 (by decide) ?_
  refine lv_ishl hx hb dX12_falls_4 ?_
  refine lv_topi (fun y4 e4 => ?_)
  have r4 : ir y4.toInt 0 10 := by rw [e4]; exact sl_r 1 rfl r2 (by decide) (by decide) (by decide) (by decide) (by decide)
  refine lv_iload_n hx hb dX12_falls_5 rfl (lv_at hl 2 rfl) ?_
  refine lv_iconst (v := 1) hx hb dX12_falls_6 (by decide) ?_
  refine ro_i (va_runS (As := [.int p1, .int 1]) (rest := [.int y4]) ⟨hx, hb, hml, hown, hts⟩ (q_X12_isBit l g cI cJ cB cZ cL p1 1 s.heap.size ) (va_cwS 2 hts (goodIn_app (g_3 (List.mem_cons_of_mem _ (List.mem_append_left _ (List.mem_of_getElem? (i := 0) rfl))) (List.mem_cons_of_mem _ (List.mem_append_left _ (List.mem_of_getElem? (i := 1) rfl))) (List.mem_cons_of_mem _ (List.mem_append_left _ (List.mem_of_getElem? (i := 2) rfl))) (by decide +kernel)) (goodIn_sub (fun _ h => List.mem_cons_of_mem _ (List.mem_append_right _ (List.mem_append_left _ h))) good_v_X12_isBit)) rfl rfl rfl (by decide +kernel) ⟨Nat.le_of_ble_eq_true rfl, Nat.le_of_ble_eq_true rfl⟩) (ps_RO (wc := []) hK hP [] rfl) rfl rfl hl.1 rfl (lv_room (Nat.le_of_ble_eq_true rfl)) dX12_falls_7 ⟨Nat.le_of_ble_eq_true rfl, Nat.le_of_ble_eq_true rfl⟩) hS hA hP (fun r7 u7 H locs hw7 hP hS => ?_)
  have hw7_0 := hw7
  have J18 : ∀ (j18_s0 : Int32) (H : Heap) (locs : List Loc) (ls : Array Slot), (ir j18_s0.toInt 0 1) → va_P g vwCl [(m, .inr (11, mG m_a m_thrown m_taped m_at m_token m_place m_value m_word m_bad m_badPlace m_fault m_faultPlace m_willing m_will m_forgot m_isDrawn m_x m_begin m_round m_roundCards m_fate m_any m_bothSend m_meanCards m_bestSum m_fitMany m_fitFirst m_fitSecond)), ((m_a 45), .inl (cJ, 16, .inr (.inl m_likelyThen_c)))] H → va_D A [(m, .inr (11, mG m_a m_thrown m_taped m_at m_token m_place m_value m_word m_bad m_badPlace m_fault m_faultPlace m_willing m_will m_forgot m_isDrawn m_x m_begin m_round m_roundCards m_fate m_any m_bothSend m_meanCards m_bestSum m_fitMany m_fitFirst m_fitSecond)), ((m_a 45), .inl (cJ, 16, .inr (.inl m_likelyThen_c)))] → va_S A s.heap H locs → lv_has ls 6 [(0, .ref m), (2, .int p1), (3, .long p2)] → W p l e (headSpec v_X12_falls ({ frames := 1, cells := 0, slots := 0, locals := 22 })).room s mth av below meth c H locs 0 0 QQ (F0 mth 18 ls [.int j18_s0, .int y4]) := by
    intro j18_s0 H locs ls hj18_s0 hP hD hS hl
    refine lv_ior hx hb dX12_falls_18 ?_
    refine lv_topi (fun y18 e18 => ?_)
    have r18 : ir y18.toInt 0 15 := by rw [e18]; exact or_r 4 rfl rfl r4 hj18_s0 (by decide) (by decide) (by decide) (by decide) (by decide)
    refine lv_iload_n hx hb dX12_falls_19 rfl (lv_at hl 1 rfl) ?_
    refine lv_iconst (v := 0) hx hb dX12_falls_20 (by decide) ?_
    refine ro_i (va_runS (As := [.int p1, .int 0]) (rest := [.int y18]) ⟨hx, hb, hml, hown, hts⟩ (q_X12_isBit l g cI cJ cB cZ cL p1 0 H.size ) (va_cwS 2 hts (goodIn_app (g_3 (List.mem_cons_of_mem _ (List.mem_append_left _ (List.mem_of_getElem? (i := 0) rfl))) (List.mem_cons_of_mem _ (List.mem_append_left _ (List.mem_of_getElem? (i := 1) rfl))) (List.mem_cons_of_mem _ (List.mem_append_left _ (List.mem_of_getElem? (i := 2) rfl))) (by decide +kernel)) (goodIn_sub (fun _ h => List.mem_cons_of_mem _ (List.mem_append_right _ (List.mem_append_left _ h))) good_v_X12_isBit)) rfl rfl rfl (by decide +kernel) ⟨Nat.le_of_ble_eq_true rfl, Nat.le_of_ble_eq_true rfl⟩) (ps_RO (wc := []) hK hP [] rfl) rfl rfl hl.1 rfl (lv_room (Nat.le_of_ble_eq_true rfl)) dX12_falls_21 ⟨Nat.le_of_ble_eq_true rfl, Nat.le_of_ble_eq_true rfl⟩) hS hA hP (fun r21 u21 H locs hw21 hP hS => ?_)
    have hw21_0 := hw21
    have J32 : ∀ (j32_s0 : Int32) (H : Heap) (locs : List Loc) (ls : Array Slot), (ir j32_s0.toInt 0 4) → va_P g vwCl [(m, .inr (11, mG m_a m_thrown m_taped m_at m_token m_place m_value m_word m_bad m_badPlace m_fault m_faultPlace m_willing m_will m_forgot m_isDrawn m_x m_begin m_round m_roundCards m_fate m_any m_bothSend m_meanCards m_bestSum m_fitMany m_fitFirst m_fitSecond)), ((m_a 45), .inl (cJ, 16, .inr (.inl m_likelyThen_c)))] H → va_D A [(m, .inr (11, mG m_a m_thrown m_taped m_at m_token m_place m_value m_word m_bad m_badPlace m_fault m_faultPlace m_willing m_will m_forgot m_isDrawn m_x m_begin m_round m_roundCards m_fate m_any m_bothSend m_meanCards m_bestSum m_fitMany m_fitFirst m_fitSecond)), ((m_a 45), .inl (cJ, 16, .inr (.inl m_likelyThen_c)))] → va_S A s.heap H locs → lv_has ls 6 [(0, .ref m), (2, .int p1), (3, .long p2)] → W p l e (headSpec v_X12_falls ({ frames := 1, cells := 0, slots := 0, locals := 22 })).room s mth av below meth c H locs 0 0 QQ (F0 mth 32 ls [.int j32_s0, .int y18]) := by
      intro j32_s0 H locs ls hj32_s0 hP hD hS hl
      refine lv_ior hx hb dX12_falls_32 ?_
      refine lv_topi (fun y32 e32 => ?_)
      have r32 : ir y32.toInt 0 15 := by rw [e32]; exact or_r 4 rfl rfl r18 hj32_s0 (by decide) (by decide) (by decide) (by decide) (by decide)
      refine lv_istore (lv' := [(5, .int y32), (0, .ref m), (2, .int p1), (3, .long p2)]) hx hb dX12_falls_33 hl (by decide) rfl (fun ls hl => ?_)
      refine lv_aload_n hx hb dX12_falls_35 rfl (lv_at hl 1 rfl) ?_
      refine va_get (D := g) (ci := 11) (v := .ref (m_a 45)) (C := RX12) (T := TX12) (N := 56) hx hb hts iX12 hown hK hP 0 rfl rfl 45 (by decide) (hts (.fieldLink RX12 95 "CardsAtYuleModel" "likelyThen" "[J") (List.mem_cons_of_mem _ (List.mem_append_left _ (List.mem_of_getElem? (i := 3) rfl)))) (fun _ h9 => h9) rfl dX12_falls_36 ?_
      refine lv_iload hx hb dX12_falls_39 (lv_at hl 0 rfl) ?_
      refine lv_dup2_11 hx hb dX12_falls_41 rfl rfl ?_
      refine va_lald (D := g) hx hb hK hP 1 1 rfl rfl (vi_rg rfl r32 (by decide) (by decide)) dX12_falls_42 ?_
      refine lv_topl (fun y42 e42 => ?_)
      refine lv_lload_n hx hb dX12_falls_43 rfl (lv_at hl 3 rfl) ?_
      refine lv_ladd hx hb dX12_falls_44 ?_
      refine lv_topl (fun y44 e44 => ?_)
      refine va_last (D := g) hx hb hK hP hD hS 1 1 rfl rfl (vi_rg rfl r32 (by decide) (by decide)) dX12_falls_45 (fun H locs hP hD hS => ?_)
      obtain ⟨g45, e45⟩ : ∃ z, z = vp_updL m_likelyThen_c y32.toNatClampNeg y44 := ⟨_, rfl⟩
      have hP : va_P g vwCl [(m, .inr (11, mG m_a m_thrown m_taped m_at m_token m_place m_value m_word m_bad m_badPlace m_fault m_faultPlace m_willing m_will m_forgot m_isDrawn m_x m_begin m_round m_roundCards m_fate m_any m_bothSend m_meanCards m_bestSum m_fitMany m_fitFirst m_fitSecond)), ((m_a 45), .inl (cJ, 16, .inr (.inl (vp_updL m_likelyThen_c y32.toNatClampNeg y44))))] H := hP
      have hD : va_D A [(m, .inr (11, mG m_a m_thrown m_taped m_at m_token m_place m_value m_word m_bad m_badPlace m_fault m_faultPlace m_willing m_will m_forgot m_isDrawn m_x m_begin m_round m_roundCards m_fate m_any m_bothSend m_meanCards m_bestSum m_fitMany m_fitFirst m_fitSecond)), ((m_a 45), .inl (cJ, 16, .inr (.inl (vp_updL m_likelyThen_c y32.toNatClampNeg y44))))] := hD
      rw [← e45] at hP hD
      refine lv_aload_n hx hb dX12_falls_46 rfl (lv_at hl 1 rfl) ?_
      refine lv_dup hx hb dX12_falls_47 rfl ?_
      refine va_get (D := g) (ci := 11) (v := .long m_any) (C := RX12) (T := TX12) (N := 56) hx hb hts iX12 hown hK hP 0 rfl rfl 46 (by decide) (hts (.fieldLink RX12 439 "CardsAtYuleModel" "any" "J") (List.mem_cons_of_mem _ (List.mem_append_left _ (List.mem_of_getElem? (i := 4) rfl)))) (fun _ h9 => h9) rfl dX12_falls_48 ?_
      refine lv_iload_n hx hb dX12_falls_51 rfl (lv_at hl 2 rfl) ?_
      have J60 : ∀ (j60_s0 : Int64) (H : Heap) (locs : List Loc) (ls : Array Slot), va_P g vwCl [(m, .inr (11, mG m_a m_thrown m_taped m_at m_token m_place m_value m_word m_bad m_badPlace m_fault m_faultPlace m_willing m_will m_forgot m_isDrawn m_x m_begin m_round m_roundCards m_fate m_any m_bothSend m_meanCards m_bestSum m_fitMany m_fitFirst m_fitSecond)), ((m_a 45), .inl (cJ, 16, .inr (.inl g45)))] H → va_D A [(m, .inr (11, mG m_a m_thrown m_taped m_at m_token m_place m_value m_word m_bad m_badPlace m_fault m_faultPlace m_willing m_will m_forgot m_isDrawn m_x m_begin m_round m_roundCards m_fate m_any m_bothSend m_meanCards m_bestSum m_fitMany m_fitFirst m_fitSecond)), ((m_a 45), .inl (cJ, 16, .inr (.inl g45)))] → va_S A s.heap H locs → lv_has ls 6 [(0, .ref m), (2, .int p1), (3, .long p2)] → W p l e (headSpec v_X12_falls ({ frames := 1, cells := 0, slots := 0, locals := 22 })).room s mth av below meth c H locs 0 0 QQ (F0 mth 60 ls [.long j60_s0, .long m_any, .ref m]) := by
        intro j60_s0 H locs ls  hP hD hS hl
        refine lv_ladd hx hb dX12_falls_60 ?_
        refine lv_topl (fun y60 e60 => ?_)
        refine va_put (D := g) (ci := 11) (v := .long y60) (ty := .long) (C := RX12) (T := TX12) (N := 56) hx hb hts iX12 tyX12 tyX12_ok nmX12 hown hK hP hD hS 0 rfl rfl 46 (by decide) (hts (.fieldLink RX12 439 "CardsAtYuleModel" "any" "J") (List.mem_cons_of_mem _ (List.mem_append_left _ (List.mem_of_getElem? (i := 4) rfl)))) (fun _ h9 => h9) rfl (by decide +kernel) rfl rfl (Nat.le_of_ble_eq_true rfl) dX12_falls_61 (fun H locs hP hD hS => ?_)
        have hP : va_P g vwCl [(m, .inr (11, mG m_a m_thrown m_taped m_at m_token m_place m_value m_word m_bad m_badPlace m_fault m_faultPlace m_willing m_will m_forgot m_isDrawn m_x m_begin m_round m_roundCards m_fate y60 m_bothSend m_meanCards m_bestSum m_fitMany m_fitFirst m_fitSecond)), ((m_a 45), .inl (cJ, 16, .inr (.inl g45)))] H := hP
        have hD : va_D A [(m, .inr (11, mG m_a m_thrown m_taped m_at m_token m_place m_value m_word m_bad m_badPlace m_fault m_faultPlace m_willing m_will m_forgot m_isDrawn m_x m_begin m_round m_roundCards m_fate y60 m_bothSend m_meanCards m_bestSum m_fitMany m_fitFirst m_fitSecond)), ((m_a 45), .inl (cJ, 16, .inr (.inl g45)))] := hD
        refine lv_aload_n hx hb dX12_falls_64 rfl (lv_at hl 0 rfl) ?_
        refine lv_dup hx hb dX12_falls_65 rfl ?_
        refine va_get (D := g) (ci := 11) (v := .long m_bothSend) (C := RX12) (T := TX12) (N := 56) hx hb hts iX12 hown hK hP 0 rfl rfl 47 (by decide) (hts (.fieldLink RX12 442 "CardsAtYuleModel" "bothSend" "J") (List.mem_cons_of_mem _ (List.mem_append_left _ (List.mem_of_getElem? (i := 5) rfl)))) (fun _ h9 => h9) rfl dX12_falls_66 ?_
        refine lv_iload_n hx hb dX12_falls_69 rfl (lv_at hl 1 rfl) ?_
        refine lv_iconst (v := 3) hx hb dX12_falls_70 (by decide) ?_
        have J79 : ∀ (j79_s0 : Int64) (H : Heap) (locs : List Loc) (ls : Array Slot), va_P g vwCl [(m, .inr (11, mG m_a m_thrown m_taped m_at m_token m_place m_value m_word m_bad m_badPlace m_fault m_faultPlace m_willing m_will m_forgot m_isDrawn m_x m_begin m_round m_roundCards m_fate y60 m_bothSend m_meanCards m_bestSum m_fitMany m_fitFirst m_fitSecond)), ((m_a 45), .inl (cJ, 16, .inr (.inl g45)))] H → va_D A [(m, .inr (11, mG m_a m_thrown m_taped m_at m_token m_place m_value m_word m_bad m_badPlace m_fault m_faultPlace m_willing m_will m_forgot m_isDrawn m_x m_begin m_round m_roundCards m_fate y60 m_bothSend m_meanCards m_bestSum m_fitMany m_fitFirst m_fitSecond)), ((m_a 45), .inl (cJ, 16, .inr (.inl g45)))] → va_S A s.heap H locs → lv_has ls 6 [(0, .ref m), (2, .int p1), (3, .long p2)] → W p l e (headSpec v_X12_falls ({ frames := 1, cells := 0, slots := 0, locals := 22 })).room s mth av below meth c H locs 0 0 QQ (F0 mth 79 ls [.long j79_s0, .long m_bothSend, .ref m]) := by
          intro j79_s0 H locs ls  hP hD hS hl
          refine lv_ladd hx hb dX12_falls_79 ?_
          refine lv_topl (fun y79 e79 => ?_)
          refine va_put (D := g) (ci := 11) (v := .long y79) (ty := .long) (C := RX12) (T := TX12) (N := 56) hx hb hts iX12 tyX12 tyX12_ok nmX12 hown hK hP hD hS 0 rfl rfl 47 (by decide) (hts (.fieldLink RX12 442 "CardsAtYuleModel" "bothSend" "J") (List.mem_cons_of_mem _ (List.mem_append_left _ (List.mem_of_getElem? (i := 5) rfl)))) (fun _ h9 => h9) rfl (by decide +kernel) rfl rfl (Nat.le_of_ble_eq_true rfl) dX12_falls_80 (fun H locs hP hD hS => ?_)
          have hP : va_P g vwCl [(m, .inr (11, mG m_a m_thrown m_taped m_at m_token m_place m_value m_word m_bad m_badPlace m_fault m_faultPlace m_willing m_will m_forgot m_isDrawn m_x m_begin m_round m_roundCards m_fate y60 y79 m_meanCards m_bestSum m_fitMany m_fitFirst m_fitSecond)), ((m_a 45), .inl (cJ, 16, .inr (.inl g45)))] H := hP
          have hD : va_D A [(m, .inr (11, mG m_a m_thrown m_taped m_at m_token m_place m_value m_word m_bad m_badPlace m_fault m_faultPlace m_willing m_will m_forgot m_isDrawn m_x m_begin m_round m_roundCards m_fate y60 y79 m_meanCards m_bestSum m_fitMany m_fitFirst m_fitSecond)), ((m_a 45), .inl (cJ, 16, .inr (.inl g45)))] := hD
          refine lv_aload_n hx hb dX12_falls_83 rfl (lv_at hl 0 rfl) ?_
          refine lv_dup hx hb dX12_falls_84 rfl ?_
          refine va_get (D := g) (ci := 11) (v := .long m_meanCards) (C := RX12) (T := TX12) (N := 56) hx hb hts iX12 hown hK hP 0 rfl rfl 48 (by decide) (hts (.fieldLink RX12 445 "CardsAtYuleModel" "meanCards" "J") (List.mem_cons_of_mem _ (List.mem_append_left _ (List.mem_of_getElem? (i := 6) rfl)))) (fun _ h9 => h9) rfl dX12_falls_85 ?_
          refine lv_lload_n hx hb dX12_falls_88 rfl (lv_at hl 2 rfl) ?_
          refine lv_iload_n hx hb dX12_falls_89 rfl (lv_at hl 1 rfl) ?_
          refine ro_i (va_runS (As := [.int p1]) (rest := [.long p2, .long m_meanCards, .ref m]) ⟨hx, hb, hml, hown, hts⟩ (q_X12_sizeOf l g cI cJ cB cZ cL p1 H.size ) (va_cwS 1 hts (goodIn_app (g_3 (List.mem_cons_of_mem _ (List.mem_append_left _ (List.mem_of_getElem? (i := 7) rfl))) (List.mem_cons_of_mem _ (List.mem_append_left _ (List.mem_of_getElem? (i := 8) rfl))) (List.mem_cons_of_mem _ (List.mem_append_left _ (List.mem_of_getElem? (i := 2) rfl))) (by decide +kernel)) (goodIn_sub (fun _ h => List.mem_cons_of_mem _ (List.mem_append_right _ (List.mem_append_right _ (List.mem_append_left _ h)))) good_v_X12_sizeOf)) rfl rfl rfl (by decide +kernel) ⟨Nat.le_of_ble_eq_true rfl, Nat.le_of_ble_eq_true rfl⟩) (ps_RO (wc := []) hK hP [] rfl) rfl rfl hl.1 rfl (lv_room (Nat.le_of_ble_eq_true rfl)) dX12_falls_90 ⟨Nat.le_of_ble_eq_true rfl, Nat.le_of_ble_eq_true rfl⟩) hS hA hP (fun r90 u90 H locs hw90 hP hS => ?_)
          refine lv_i2l (v := r90.toInt64) hx hb dX12_falls_93 rfl ?_
          refine lv_lmul hx hb dX12_falls_94 ?_
          refine lv_topl (fun y94 e94 => ?_)
          refine lv_ladd hx hb dX12_falls_95 ?_
          refine lv_topl (fun y95 e95 => ?_)
          refine va_put (D := g) (ci := 11) (v := .long y95) (ty := .long) (C := RX12) (T := TX12) (N := 56) hx hb hts iX12 tyX12 tyX12_ok nmX12 hown hK hP hD hS 0 rfl rfl 48 (by decide) (hts (.fieldLink RX12 445 "CardsAtYuleModel" "meanCards" "J") (List.mem_cons_of_mem _ (List.mem_append_left _ (List.mem_of_getElem? (i := 6) rfl)))) (fun _ h9 => h9) rfl (by decide +kernel) rfl rfl (Nat.le_of_ble_eq_true rfl) dX12_falls_96 (fun H locs hP hD hS => ?_)
          have hP : va_P g vwCl [(m, .inr (11, mG m_a m_thrown m_taped m_at m_token m_place m_value m_word m_bad m_badPlace m_fault m_faultPlace m_willing m_will m_forgot m_isDrawn m_x m_begin m_round m_roundCards m_fate y60 y79 y95 m_bestSum m_fitMany m_fitFirst m_fitSecond)), ((m_a 45), .inl (cJ, 16, .inr (.inl g45)))] H := hP
          have hD : va_D A [(m, .inr (11, mG m_a m_thrown m_taped m_at m_token m_place m_value m_word m_bad m_badPlace m_fault m_faultPlace m_willing m_will m_forgot m_isDrawn m_x m_begin m_round m_roundCards m_fate y60 y79 y95 m_bestSum m_fitMany m_fitFirst m_fitSecond)), ((m_a 45), .inl (cJ, 16, .inr (.inl g45)))] := hD
          subst hQ
          have hP9 := hP.sub (ws' := [(m, .inr (11, mG m_a m_thrown m_taped m_at m_token m_place m_value m_word m_bad m_badPlace m_fault m_faultPlace m_willing m_will m_forgot m_isDrawn m_x m_begin m_round m_roundCards m_fate y60 y79 y95 m_bestSum m_fitMany m_fitFirst m_fitSecond)), ((m_a 45), .inl (cJ, 16, .inr (.inl g45)))]) [0, 1] rfl
          have hD9 := hD.sub (ws' := [(m, .inr (11, mG m_a m_thrown m_taped m_at m_token m_place m_value m_word m_bad m_badPlace m_fault m_faultPlace m_willing m_will m_forgot m_isDrawn m_x m_begin m_round m_roundCards m_fate y60 y79 y95 m_bestSum m_fitMany m_fitFirst m_fitSecond)), ((m_a 45), .inl (cJ, 16, .inr (.inl g45)))]) [0, 1] (by decide) rfl
          exact W.vret hx hb hr (fun t ht hW => ⟨⟨(y60, y79, y95, g45), rfl, trivial, ⟨by rw [ht]; exact hP9, va_K.moved hW.alike hK, hD9⟩⟩, hS.F ht⟩) hS.2.2 dX12_falls_99
        refine lv_icmp_ne (tgt := 78) hx hb dX12_falls_71 (by decide) (fun c71 => ?_) (fun c71 => ?_)
        · have f71 := (show p1.toInt ≠ 3 from z_ne rfl rfl c71)
          refine lv_lconst (v := 0) hx hb dX12_falls_78 (by decide) ?_
          exact J79 0 _ _ _  (hP.sub [0, 1] rfl) (hD.sub [0, 1] (by decide) rfl) hS (lv_sub hl [0, 1, 2] rfl)
        have f71 := (show p1.toInt = 3 from z_eq rfl rfl c71)
        have r71a : ir p1.toInt 3 3 := ir_eqa f71 (rg_all p1) (ir_c 3) (by decide) (by decide)
        refine lv_lload_n hx hb dX12_falls_74 rfl (lv_at hl 2 rfl) ?_
        refine lv_goto (tgt := 79) hx hb dX12_falls_75 (by decide) ?_
        exact J79 p2 _ _ _  (hP.sub [0, 1] rfl) (hD.sub [0, 1] (by decide) rfl) hS (lv_sub hl [0, 1, 2] rfl)
      refine lv_if_le (tgt := 59) hx hb dX12_falls_52 (by decide) (fun c52 => ?_) (fun c52 => ?_)
      · have f52 := (show p1.toInt ≤ 0 from z_le rfl rfl c52)
        have r52a : ir p1.toInt (-2147483648) 0 := ir_lea f52 (rg_all p1) (ir_c 0) (by decide)
        refine lv_lconst (v := 0) hx hb dX12_falls_59 (by decide) ?_
        exact J60 0 _ _ _  (hP.sub [0, 1] rfl) (hD.sub [0, 1] (by decide) rfl) hS (lv_sub hl [1, 2, 3] rfl)
      have f52 := (show 0 < p1.toInt from z_nle rfl rfl c52)
      have r52a : ir p1.toInt 1 2147483647 := ir_ltb f52 (ir_c 0) (rg_all p1) (by decide)
      refine lv_lload_n hx hb dX12_falls_55 rfl (lv_at hl 3 rfl) ?_
      refine lv_goto (tgt := 60) hx hb dX12_falls_56 (by decide) ?_
      exact J60 p2 _ _ _  (hP.sub [0, 1] rfl) (hD.sub [0, 1] (by decide) rfl) hS (lv_sub hl [1, 2, 3] rfl)
    refine lv_if_eq (tgt := 31) hx hb dX12_falls_24 (by decide) (fun c24 => ?_) (fun c24 => ?_)
    · have f24 := (show r21.toInt = 0 from z_eq rfl rfl c24)
      have r24a : ir r21.toInt 0 0 := ir_eqa f24 hw21_0 (ir_c 0) (by decide) (by decide)
      refine lv_iconst (v := 0) hx hb dX12_falls_31 (by decide) ?_
      exact J32 0 _ _ _ (by decide) (hP.sub [0, 1] rfl) (hD.sub [0, 1] (by decide) rfl) hS (lv_sub hl [0, 1, 2] rfl)
    have f24 := (show r21.toInt ≠ 0 from z_ne rfl rfl c24)
    have r24a : ir r21.toInt 1 1 := ir_nel f24 hw21_0 (by decide) (by decide)
    refine lv_iconst (v := 4) hx hb dX12_falls_27 (by decide) ?_
    refine lv_goto (tgt := 32) hx hb dX12_falls_28 (by decide) ?_
    exact J32 4 _ _ _ (by decide) (hP.sub [0, 1] rfl) (hD.sub [0, 1] (by decide) rfl) hS (lv_sub hl [0, 1, 2] rfl)
  refine lv_if_eq (tgt := 17) hx hb dX12_falls_10 (by decide) (fun c10 => ?_) (fun c10 => ?_)
  · have f10 := (show r7.toInt = 0 from z_eq rfl rfl c10)
    have r10a : ir r7.toInt 0 0 := ir_eqa f10 hw7_0 (ir_c 0) (by decide) (by decide)
    refine lv_iconst (v := 0) hx hb dX12_falls_17 (by decide) ?_
    exact J18 0 _ _ _ (by decide) (hP.sub [0, 1] rfl) (hD.sub [0, 1] (by decide) rfl) hS (lv_sub hl [0, 2, 3] rfl)
  have f10 := (show r7.toInt ≠ 0 from z_ne rfl rfl c10)
  have r10a : ir r7.toInt 1 1 := ir_nel f10 hw7_0 (by decide) (by decide)
  refine lv_iconst (v := 1) hx hb dX12_falls_13 (by decide) ?_
  refine lv_goto (tgt := 18) hx hb dX12_falls_14 (by decide) ?_
  exact J18 1 _ _ _ (by decide) (hP.sub [0, 1] rfl) (hD.sub [0, 1] (by decide) rfl) hS (lv_sub hl [0, 2, 3] rfl)
