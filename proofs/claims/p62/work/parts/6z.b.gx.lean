def v_X12_keepF : List Cond := .code yX12_keep cX12_keep 2 (some .int) :: (([.fieldLink RX12 107 "CardsAtYuleModel" "thrown" "I", .constantLong RX12 284 (2), .methodLink RX12 112 yX12_in, .static yX12_in, .initialized RX12, .methodLink RX12 263 yX12_copyLand, .instanceMethod yX12_copyLand, .selects RX12 yX12_copyLand yX12_copyLand, .fieldLink RX12 49 "CardsAtYuleModel" "isKept" "[Z"] : List Cond) ++ (v_X12_inN ++ (v_X12_copyLand ++ (wsX120 ++ ([] : List Cond)))))
theorem good_v_X12_keepF : v_X12_keepF.all goodWord = true := ga_c (by decide +kernel) (ga_a (by decide +kernel) (ga_a good_v_X12_inN (ga_a good_v_X12_copyLand (ga_a good_wsX120 rfl))))
set_option maxHeartbeats 4000000 in
set_option maxRecDepth 100000 in
theorem q_X12_keepF (l : Launch) (g : va_G) (cI cJ cB cZ cL : ClassId) (p0 : Int32) (m : Nat) (m_a : Nat → Nat) (m_thrown : Int32) (m_taped : Int32) (m_at : Int32) (m_token : Int32) (m_place : Int32) (m_value : Int32) (m_word : Int64) (m_bad : Int32) (m_badPlace : Int32) (m_fault : Int32) (m_faultPlace : Int32) (m_willing : Int32) (m_will : Int32) (m_forgot : Int32) (m_isDrawn : Int32) (m_x : Int64) (m_begin : Int32) (m_round : Int32) (m_roundCards : Int32) (m_fate : Int32) (m_any : Int64) (m_bothSend : Int64) (m_meanCards : Int64) (m_bestSum : Int32) (m_fitMany : Int32) (m_fitFirst : Int64) (m_fitSecond : Int64) (m_lines_c : Nat → Int32) (m_has_c : Nat → Int32) (m_person_c : Nat → Int32) (m_pair_c : Nat → Int32) (m_lost_c : Nat → Int64) (m_strikes_c : Nat → Int64) (m_isKept_c : Nat → Int32) (sz : Nat) (hv_m_taped : ir m_taped.toInt 0 1600) (hv_m_at : ir m_at.toInt 0 1600) (hv_m_will : ir m_will.toInt 0 1) (hv_m_isDrawn : ir m_isDrawn.toInt 0 1) (ha_m_has_c : hasI m_has_c) (ha_m_person_c : perI m_person_c) (ha_m_pair_c : ar m_pair_c 240 0 15) (ha_m_isKept_c : ar m_isKept_c 3 0 1) : Met l yX12_keep v_X12_keepF ({ frames := 2, cells := 0, slots := 0, locals := 47 }) (va_Pc [.ref m, .int p0] (pRW g (tyT cI cJ cB cZ cL) [(m, .inr (11, mG m_a m_thrown m_taped m_at m_token m_place m_value m_word m_bad m_badPlace m_fault m_faultPlace m_willing m_will m_forgot m_isDrawn m_x m_begin m_round m_roundCards m_fate m_any m_bothSend m_meanCards m_bestSum m_fitMany m_fitFirst m_fitSecond)), ((m_a 16), .inl (cI, 5, .inl m_lines_c)), ((m_a 17), .inl (cI, 25, .inl m_has_c)), ((m_a 18), .inl (cI, 250, .inl m_person_c)), ((m_a 19), .inl (cI, 240, .inl m_pair_c)), ((m_a 20), .inl (cJ, 160, .inr (.inl m_lost_c))), ((m_a 21), .inl (cJ, 5, .inr (.inl m_strikes_c))), ((m_a 22), .inl (cZ, 3, .inl m_isKept_c))] sz)) (va_Qi (fun (r : Int32) (u : Int32 × (Nat → Int32) × (Nat → Int32) × (Nat → Int32) × (Nat → Int32) × (Nat → Int64) × (Nat → Int64) × (Nat → Int32)) => match u with | (n_m_thrown, n_m_lines_c, n_m_has_c, n_m_person_c, n_m_pair_c, n_m_lost_c, n_m_strikes_c, n_m_isKept_c) => (ir n_m_thrown.toInt 0 0) ∧ (hasI n_m_has_c) ∧ (perI n_m_person_c) ∧ (ar n_m_pair_c 240 0 15) ∧ (ar n_m_isKept_c 3 0 1) ∧ (r = keepV p0) ∧ (n_m_isKept_c = keepU p0 m_isKept_c) ∧ (ir r.toInt (-2) 0)) (fun (u : Int32 × (Nat → Int32) × (Nat → Int32) × (Nat → Int32) × (Nat → Int32) × (Nat → Int64) × (Nat → Int64) × (Nat → Int32)) (t : State) => bRW g (tyT cI cJ cB cZ cL) (va_A [(m, .inr (11, mG m_a m_thrown m_taped m_at m_token m_place m_value m_word m_bad m_badPlace m_fault m_faultPlace m_willing m_will m_forgot m_isDrawn m_x m_begin m_round m_roundCards m_fate m_any m_bothSend m_meanCards m_bestSum m_fitMany m_fitFirst m_fitSecond)), ((m_a 16), .inl (cI, 5, .inl m_lines_c)), ((m_a 17), .inl (cI, 25, .inl m_has_c)), ((m_a 18), .inl (cI, 250, .inl m_person_c)), ((m_a 19), .inl (cI, 240, .inl m_pair_c)), ((m_a 20), .inl (cJ, 160, .inr (.inl m_lost_c))), ((m_a 21), .inl (cJ, 5, .inr (.inl m_strikes_c))), ((m_a 22), .inl (cZ, 3, .inl m_isKept_c))] sz) (match u with | (n_m_thrown, n_m_lines_c, n_m_has_c, n_m_person_c, n_m_pair_c, n_m_lost_c, n_m_strikes_c, n_m_isKept_c) => [(m, .inr (11, mG m_a n_m_thrown m_taped m_at m_token m_place m_value m_word m_bad m_badPlace m_fault m_faultPlace m_willing m_will m_forgot m_isDrawn m_x m_begin m_round m_roundCards m_fate m_any m_bothSend m_meanCards m_bestSum m_fitMany m_fitFirst m_fitSecond)), ((m_a 16), .inl (cI, 5, .inl n_m_lines_c)), ((m_a 17), .inl (cI, 25, .inl n_m_has_c)), ((m_a 18), .inl (cI, 250, .inl n_m_person_c)), ((m_a 19), .inl (cI, 240, .inl n_m_pair_c)), ((m_a 20), .inl (cJ, 160, .inr (.inl n_m_lost_c))), ((m_a 21), .inl (cJ, 5, .inr (.inl n_m_strikes_c))), ((m_a 22), .inl (cZ, 3, .inl n_m_isKept_c))]) t) (va_A [(m, .inr (11, mG m_a m_thrown m_taped m_at m_token m_place m_value m_word m_bad m_badPlace m_fault m_faultPlace m_willing m_will m_forgot m_isDrawn m_x m_begin m_round m_roundCards m_fate m_any m_bothSend m_meanCards m_bestSum m_fitMany m_fitFirst m_fitSecond)), ((m_a 16), .inl (cI, 5, .inl m_lines_c)), ((m_a 17), .inl (cI, 25, .inl m_has_c)), ((m_a 18), .inl (cI, 250, .inl m_person_c)), ((m_a 19), .inl (cI, 240, .inl m_pair_c)), ((m_a 20), .inl (cJ, 160, .inr (.inl m_lost_c))), ((m_a 21), .inl (cJ, 5, .inr (.inl m_strikes_c))), ((m_a 22), .inl (cZ, 3, .inl m_isKept_c))] sz)) 0 0 (va_A [(m, .inr (11, mG m_a m_thrown m_taped m_at m_token m_place m_value m_word m_bad m_badPlace m_fault m_faultPlace m_willing m_will m_forgot m_isDrawn m_x m_begin m_round m_roundCards m_fate m_any m_bothSend m_meanCards m_bestSum m_fitMany m_fitFirst m_fitSecond)), ((m_a 16), .inl (cI, 5, .inl m_lines_c)), ((m_a 17), .inl (cI, 25, .inl m_has_c)), ((m_a 18), .inl (cI, 250, .inl m_person_c)), ((m_a 19), .inl (cI, 240, .inl m_pair_c)), ((m_a 20), .inl (cJ, 160, .inr (.inl m_lost_c))), ((m_a 21), .inl (cJ, 5, .inr (.inl m_strikes_c))), ((m_a 22), .inl (cZ, 3, .inl m_isKept_c))] sz) := by
  refine Met.ofW (cc := cX12_keep) (maxL := 2) (ret := (some .int)) (by decide) rfl ?_
  intro p e s mth args below meth c s₁ B hml hv
  obtain ⟨rfl, hsz, hP, hK, hD0⟩ := hv
  have hx := B.exec
  have hb := B.bytes
  have hr := B.returns
  have hts := atoms_spec (ws := v_X12_keepF) B.pre
  have hown : s.vm.findClass RX12 = some mth.cls := findClass_of_methodNamed B.named
  have hlocks := B.notSynchronized
  clear B
  subst hsz
  have iX12 : ∀ w ∈ wsX120, w ∈ v_X12_keepF := (fun _ h => List.mem_cons_of_mem _ (List.mem_append_right _ (List.mem_append_right _ (List.mem_append_right _ (List.mem_append_left _ h)))))
  have hD := hD0.self (sz := s.heap.size)
  generalize hAe : (va_A [(m, .inr (11, mG m_a m_thrown m_taped m_at m_token m_place m_value m_word m_bad m_badPlace m_fault m_faultPlace m_willing m_will m_forgot m_isDrawn m_x m_begin m_round m_roundCards m_fate m_any m_bothSend m_meanCards m_bestSum m_fitMany m_fitFirst m_fitSecond)), ((m_a 16), .inl (cI, 5, .inl m_lines_c)), ((m_a 17), .inl (cI, 25, .inl m_has_c)), ((m_a 18), .inl (cI, 250, .inl m_person_c)), ((m_a 19), .inl (cI, 240, .inl m_pair_c)), ((m_a 20), .inl (cJ, 160, .inr (.inl m_lost_c))), ((m_a 21), .inl (cJ, 5, .inr (.inl m_strikes_c))), ((m_a 22), .inl (cZ, 3, .inl m_isKept_c))] s.heap.size) = A at hD ⊢
  have hA : ∀ q : Nat, s.heap.size ≤ q → A q := fun q h => by rw [← hAe]; exact Or.inr h
  have hS : va_S A s.heap s.heap [] := va_S.rf
  have hl := lv_entry ([.ref m, .int p0]) (n := 2) (Nat.le_of_ble_eq_true rfl)
  rw [lg_entry_eq]
  generalize (lg_sl ([.ref m, .int p0]) ++ List.replicate (2 - (lg_sl ([.ref m, .int p0])).length) Slot.unset).toArray = ls at hl ⊢
  generalize ([.ref m, .int p0] : List Value).toArray = av at hts ⊢
  generalize hQ : MQ below _ av s _ _ A = QQ
  have hl : lv_has ls 2 [(0, .ref m), (1, .int p0)] := hl
  have hP : va_P g vwCl [(m, .inr (11, mG m_a m_thrown m_taped m_at m_token m_place m_value m_word m_bad m_badPlace m_fault m_faultPlace m_willing m_will m_forgot m_isDrawn m_x m_begin m_round m_roundCards m_fate m_any m_bothSend m_meanCards m_bestSum m_fitMany m_fitFirst m_fitSecond)), ((m_a 16), .inl (cI, 5, .inl m_lines_c)), ((m_a 17), .inl (cI, 25, .inl m_has_c)), ((m_a 18), .inl (cI, 250, .inl m_person_c)), ((m_a 19), .inl (cI, 240, .inl m_pair_c)), ((m_a 20), .inl (cJ, 160, .inr (.inl m_lost_c))), ((m_a 21), .inl (cJ, 5, .inr (.inl m_strikes_c))), ((m_a 22), .inl (cZ, 3, .inl m_isKept_c))] s.heap := hP
  refine lv_aload_n hx hb dX12_keep_0 rfl (lv_at hl 0 rfl) ?_
  refine lv_iconst (v := 0) hx hb dX12_keep_1 (by decide) ?_
  refine va_put (D := g) (ci := 11) (v := .int 0) (ty := .int) (C := RX12) (T := TX12) (N := 56) hx hb hts iX12 tyX12 tyX12_ok nmX12 hown hK hP hD hS 0 rfl rfl 0 (by decide) (hts (.fieldLink RX12 107 "CardsAtYuleModel" "thrown" "I") (List.mem_cons_of_mem _ (List.mem_append_left _ (List.mem_of_getElem? (i := 0) rfl)))) (fun _ h9 => h9) rfl (by decide +kernel) rfl rfl (Nat.le_of_ble_eq_true rfl) dX12_keep_2 (fun H locs hP hD hS => ?_)
  have hP : va_P g vwCl [(m, .inr (11, mG m_a 0 m_taped m_at m_token m_place m_value m_word m_bad m_badPlace m_fault m_faultPlace m_willing m_will m_forgot m_isDrawn m_x m_begin m_round m_roundCards m_fate m_any m_bothSend m_meanCards m_bestSum m_fitMany m_fitFirst m_fitSecond)), ((m_a 16), .inl (cI, 5, .inl m_lines_c)), ((m_a 17), .inl (cI, 25, .inl m_has_c)), ((m_a 18), .inl (cI, 250, .inl m_person_c)), ((m_a 19), .inl (cI, 240, .inl m_pair_c)), ((m_a 20), .inl (cJ, 160, .inr (.inl m_lost_c))), ((m_a 21), .inl (cJ, 5, .inr (.inl m_strikes_c))), ((m_a 22), .inl (cZ, 3, .inl m_isKept_c))] H := hP
  have hD : va_D A [(m, .inr (11, mG m_a 0 m_taped m_at m_token m_place m_value m_word m_bad m_badPlace m_fault m_faultPlace m_willing m_will m_forgot m_isDrawn m_x m_begin m_round m_roundCards m_fate m_any m_bothSend m_meanCards m_bestSum m_fitMany m_fitFirst m_fitSecond)), ((m_a 16), .inl (cI, 5, .inl m_lines_c)), ((m_a 17), .inl (cI, 25, .inl m_has_c)), ((m_a 18), .inl (cI, 250, .inl m_person_c)), ((m_a 19), .inl (cI, 240, .inl m_pair_c)), ((m_a 20), .inl (cJ, 160, .inr (.inl m_lost_c))), ((m_a 21), .inl (cJ, 5, .inr (.inl m_strikes_c))), ((m_a 22), .inl (cZ, 3, .inl m_isKept_c))] := hD
  refine lv_iload_n hx hb dX12_keep_5 rfl (lv_at hl 1 rfl) ?_
  refine lv_i2l (v := p0.toInt64) hx hb dX12_keep_6 rfl ?_
  refine lv_lconst (v := 0) hx hb dX12_keep_7 (by decide) ?_
  refine lv_ldc2 (v := 2) hx hb hown (hts (.constantLong RX12 284 (2)) (List.mem_cons_of_mem _ (List.mem_append_left _ (List.mem_of_getElem? (i := 1) rfl)))) dX12_keep_8 ?_
  refine ro_i (va_runS (As := [.long p0.toInt64, .long 0, .long 2]) (rest := []) ⟨hx, hb, hml, hown, hts⟩ (q_X12_inN l g cI cJ cB cZ cL p0.toInt64 p0.toInt 0 0 2 2 H.size (z_i2l rfl) rfl rfl) (va_cwS 3 hts (goodIn_app (g_3 (List.mem_cons_of_mem _ (List.mem_append_left _ (List.mem_of_getElem? (i := 2) rfl))) (List.mem_cons_of_mem _ (List.mem_append_left _ (List.mem_of_getElem? (i := 3) rfl))) (List.mem_cons_of_mem _ (List.mem_append_left _ (List.mem_of_getElem? (i := 4) rfl))) (by decide +kernel)) (goodIn_sub (fun _ h => List.mem_cons_of_mem _ (List.mem_append_right _ (List.mem_append_left _ h))) good_v_X12_inN)) rfl rfl rfl (by decide +kernel) ⟨Nat.le_of_ble_eq_true rfl, Nat.le_of_ble_eq_true rfl⟩) (ps_RO (wc := []) hK hP [] rfl) rfl rfl hl.1 rfl (lv_room (Nat.le_of_ble_eq_true rfl)) dX12_keep_11 ⟨Nat.le_of_ble_eq_true rfl, Nat.le_of_ble_eq_true rfl⟩) hS hA hP (fun r11 u11 H locs hw11 hP hS => ?_)
  have hw11_0 := hw11
  rcases hw11_0 with ⟨er11, fc11_0, fc11_1⟩ | ⟨er11, fc11_0⟩
  rotate_left 1
  · subst er11
    have fc11_0 : ¬ (0 ≤ p0.toInt ∧ p0.toInt ≤ 2) := fc11_0
    refine lv_if_ne (tgt := 20) hx hb dX12_keep_14 (by decide) (fun c => absurd c (by decide)) (fun _ => ?_)
    refine lv_bipush (v := (-2)) hx hb dX12_keep_17 (by decide) ?_
    subst hQ
    have hP9 := hP.sub (ws' := [(m, .inr (11, mG m_a 0 m_taped m_at m_token m_place m_value m_word m_bad m_badPlace m_fault m_faultPlace m_willing m_will m_forgot m_isDrawn m_x m_begin m_round m_roundCards m_fate m_any m_bothSend m_meanCards m_bestSum m_fitMany m_fitFirst m_fitSecond)), ((m_a 16), .inl (cI, 5, .inl m_lines_c)), ((m_a 17), .inl (cI, 25, .inl m_has_c)), ((m_a 18), .inl (cI, 250, .inl m_person_c)), ((m_a 19), .inl (cI, 240, .inl m_pair_c)), ((m_a 20), .inl (cJ, 160, .inr (.inl m_lost_c))), ((m_a 21), .inl (cJ, 5, .inr (.inl m_strikes_c))), ((m_a 22), .inl (cZ, 3, .inl m_isKept_c))]) [0, 1, 2, 3, 4, 5, 6, 7] rfl
    have hD9 := hD.sub (ws' := [(m, .inr (11, mG m_a 0 m_taped m_at m_token m_place m_value m_word m_bad m_badPlace m_fault m_faultPlace m_willing m_will m_forgot m_isDrawn m_x m_begin m_round m_roundCards m_fate m_any m_bothSend m_meanCards m_bestSum m_fitMany m_fitFirst m_fitSecond)), ((m_a 16), .inl (cI, 5, .inl m_lines_c)), ((m_a 17), .inl (cI, 25, .inl m_has_c)), ((m_a 18), .inl (cI, 250, .inl m_person_c)), ((m_a 19), .inl (cI, 240, .inl m_pair_c)), ((m_a 20), .inl (cJ, 160, .inr (.inl m_lost_c))), ((m_a 21), .inl (cJ, 5, .inr (.inl m_strikes_c))), ((m_a 22), .inl (cZ, 3, .inl m_isKept_c))]) [0, 1, 2, 3, 4, 5, 6, 7] (by decide) rfl
    exact W.iret (v := (-2)) hx hb hr (fun t ht hW => ⟨⟨(-2), (0, m_lines_c, m_has_c, m_person_c, m_pair_c, m_lost_c, m_strikes_c, m_isKept_c), rfl, ⟨(show ir (0 : Int32).toInt 0 0 by decide), ha_m_has_c, ha_m_person_c, ha_m_pair_c, ha_m_isKept_c, (by unfold keepV; first | (rw [if_neg (by omega)]; done) | (rw [if_pos (by omega)]; done)), (by unfold keepU; first | (rw [if_neg (by omega)]; done) | (rw [if_pos (by omega)]; exact e34.trans rfl)), (show ir ((-2) : Int32).toInt (-2) 0 by decide)⟩, ⟨by rw [ht]; exact hP9, va_K.moved hW.alike hK, hD9⟩⟩, hS.F ht⟩) hS.2.2 dX12_keep_19
  subst er11
  have fc11_0 : 0 ≤ p0.toInt := fc11_0
  have r11_0b : ir p0.toInt 0 2147483647 := ir_leb fc11_0 (ir_c 0) (rg_all p0) (by decide)
  have fc11_1 : p0.toInt ≤ 2 := fc11_1
  have r11_1a : ir p0.toInt 0 2 := ir_lea fc11_1 r11_0b (ir_c 2) (by decide)
  refine lv_if_ne (tgt := 20) hx hb dX12_keep_14 (by decide) (fun _ => ?_) (fun c => absurd c (by decide))
  refine lv_aload_n hx hb dX12_keep_20 rfl (lv_at hl 0 rfl) ?_
  refine lv_iconst (v := 0) hx hb dX12_keep_21 (by decide) ?_
  refine lv_iconst (v := 1) hx hb dX12_keep_22 (by decide) ?_
  refine lv_iload_n hx hb dX12_keep_23 rfl (lv_at hl 1 rfl) ?_
  refine lv_iadd hx hb dX12_keep_24 ?_
  refine lv_topi (fun y24 e24 => ?_)
  have q24 : y24.toInt = 1 + p0.toInt := by rw [e24]; exact ad_z rfl rfl (ir_c 1) r11_1a (by decide) (by decide)
  have r24 : ir y24.toInt 1 3 := ad_r q24 (ir_c 1) r11_1a (by decide) (by decide)
  refine rw_v (wr := [((m_a 22), .inl (cZ, 3, .inl m_isKept_c))]) (va_runV (As := [.int 0, .int y24]) (rest := []) ⟨hx, hb, hml, hown, hts⟩ (q_X12_copyLand l g cI cJ cB cZ cL 0 y24 m m_a 0 m_taped m_at m_token m_place m_value m_word m_bad m_badPlace m_fault m_faultPlace m_willing m_will m_forgot m_isDrawn m_x m_begin m_round m_roundCards m_fate m_any m_bothSend m_meanCards m_bestSum m_fitMany m_fitFirst m_fitSecond m_lines_c m_has_c m_person_c m_pair_c m_lost_c m_strikes_c H.size (by decide) (ir_w r24 (by decide) (by decide)) hv_m_taped hv_m_at hv_m_will hv_m_isDrawn ha_m_has_c ha_m_person_c ha_m_pair_c) (cwV 2 hts (goodIn_app (g_4 (List.mem_cons_of_mem _ (List.mem_append_left _ (List.mem_of_getElem? (i := 5) rfl))) (List.mem_cons_of_mem _ (List.mem_append_left _ (List.mem_of_getElem? (i := 6) rfl))) (List.mem_cons_of_mem _ (List.mem_append_left _ (List.mem_of_getElem? (i := 7) rfl))) (List.mem_cons_of_mem _ (List.mem_append_left _ (List.mem_of_getElem? (i := 4) rfl))) (by decide +kernel)) (goodIn_sub (fun _ h => List.mem_cons_of_mem _ (List.mem_append_right _ (List.mem_append_right _ (List.mem_append_left _ h)))) good_v_X12_copyLand)) rfl rfl rfl (by decide +kernel) ⟨Nat.le_of_ble_eq_true rfl, Nat.le_of_ble_eq_true rfl⟩) (pv_RW (q := (RX12, TX12, 56)) (ci := 11) (q0 := 0) (wc := [(m, .inr (11, mG m_a 0 m_taped m_at m_token m_place m_value m_word m_bad m_badPlace m_fault m_faultPlace m_willing m_will m_forgot m_isDrawn m_x m_begin m_round m_roundCards m_fate m_any m_bothSend m_meanCards m_bestSum m_fitMany m_fitFirst m_fitSecond)), ((m_a 16), .inl (cI, 5, .inl m_lines_c)), ((m_a 17), .inl (cI, 25, .inl m_has_c)), ((m_a 18), .inl (cI, 250, .inl m_person_c)), ((m_a 19), .inl (cI, 240, .inl m_pair_c)), ((m_a 20), .inl (cJ, 160, .inr (.inl m_lost_c))), ((m_a 21), .inl (cJ, 5, .inr (.inl m_strikes_c)))]) hK hP hD [0, 1, 2, 3, 4, 5, 6] (by decide) rfl rfl rfl) rfl rfl hl.1 rfl (lv_room (Nat.le_of_ble_eq_true rfl)) dX12_keep_25 ⟨Nat.le_of_ble_eq_true rfl, Nat.le_of_ble_eq_true rfl⟩) hS hA hP hD [0, 1, 2, 3, 4, 5, 6] [7] rfl rfl (by decide) (by decide) (fun u25 H locs hw25 hP hD hS => ?_)
  obtain ⟨n_m_lines_c_25, n_m_has_c_25, n_m_person_c_25, n_m_pair_c_25, n_m_lost_c_25, n_m_strikes_c_25⟩ := u25
  have hP : va_P g vwCl [((m_a 22), .inl (cZ, 3, .inl m_isKept_c)), (m, .inr (11, mG m_a 0 m_taped m_at m_token m_place m_value m_word m_bad m_badPlace m_fault m_faultPlace m_willing m_will m_forgot m_isDrawn m_x m_begin m_round m_roundCards m_fate m_any m_bothSend m_meanCards m_bestSum m_fitMany m_fitFirst m_fitSecond)), ((m_a 16), .inl (cI, 5, .inl n_m_lines_c_25)), ((m_a 17), .inl (cI, 25, .inl n_m_has_c_25)), ((m_a 18), .inl (cI, 250, .inl n_m_person_c_25)), ((m_a 19), .inl (cI, 240, .inl n_m_pair_c_25)), ((m_a 20), .inl (cJ, 160, .inr (.inl n_m_lost_c_25))), ((m_a 21), .inl (cJ, 5, .inr (.inl n_m_strikes_c_25)))] H := hP
  have hD : va_D A [((m_a 22), .inl (cZ, 3, .inl m_isKept_c)), (m, .inr (11, mG m_a 0 m_taped m_at m_token m_place m_value m_word m_bad m_badPlace m_fault m_faultPlace m_willing m_will m_forgot m_isDrawn m_x m_begin m_round m_roundCards m_fate m_any m_bothSend m_meanCards m_bestSum m_fitMany m_fitFirst m_fitSecond)), ((m_a 16), .inl (cI, 5, .inl n_m_lines_c_25)), ((m_a 17), .inl (cI, 25, .inl n_m_has_c_25)), ((m_a 18), .inl (cI, 250, .inl n_m_person_c_25)), ((m_a 19), .inl (cI, 240, .inl n_m_pair_c_25)), ((m_a 20), .inl (cJ, 160, .inr (.inl n_m_lost_c_25))), ((m_a 21), .inl (cJ, 5, .inr (.inl n_m_strikes_c_25)))] := hD
  dsimp only at hw25
  obtain ⟨hw25_0, hw25_1, hw25_2⟩ := hw25
  refine lv_aload_n hx hb dX12_keep_28 rfl (lv_at hl 0 rfl) ?_
  refine va_get (D := g) (ci := 11) (v := .ref (m_a 22)) (C := RX12) (T := TX12) (N := 56) hx hb hts iX12 hown hK hP 1 rfl rfl 22 (by decide) (hts (.fieldLink RX12 49 "CardsAtYuleModel" "isKept" "[Z") (List.mem_cons_of_mem _ (List.mem_append_left _ (List.mem_of_getElem? (i := 8) rfl)))) (fun _ h9 => h9) rfl dX12_keep_29 ?_
  refine lv_iload_n hx hb dX12_keep_32 rfl (lv_at hl 1 rfl) ?_
  refine lv_iconst (v := 1) hx hb dX12_keep_33 (by decide) ?_
  refine va_zast (D := g) hx hb hK hP hD hS 0 3 rfl rfl (vi_rg rfl r11_1a (by decide) (by decide)) dX12_keep_34 (fun H locs hP hD hS => ?_)
  obtain ⟨g34, e34⟩ : ∃ z, z = upd m_isKept_c p0.toNatClampNeg (vp_nar .boolean (1 : Int32)) := ⟨_, rfl⟩
  have hP : va_P g vwCl [((m_a 22), .inl (cZ, 3, .inl (upd m_isKept_c p0.toNatClampNeg (vp_nar .boolean (1 : Int32))))), (m, .inr (11, mG m_a 0 m_taped m_at m_token m_place m_value m_word m_bad m_badPlace m_fault m_faultPlace m_willing m_will m_forgot m_isDrawn m_x m_begin m_round m_roundCards m_fate m_any m_bothSend m_meanCards m_bestSum m_fitMany m_fitFirst m_fitSecond)), ((m_a 16), .inl (cI, 5, .inl n_m_lines_c_25)), ((m_a 17), .inl (cI, 25, .inl n_m_has_c_25)), ((m_a 18), .inl (cI, 250, .inl n_m_person_c_25)), ((m_a 19), .inl (cI, 240, .inl n_m_pair_c_25)), ((m_a 20), .inl (cJ, 160, .inr (.inl n_m_lost_c_25))), ((m_a 21), .inl (cJ, 5, .inr (.inl n_m_strikes_c_25)))] H := hP
  have hD : va_D A [((m_a 22), .inl (cZ, 3, .inl (upd m_isKept_c p0.toNatClampNeg (vp_nar .boolean (1 : Int32))))), (m, .inr (11, mG m_a 0 m_taped m_at m_token m_place m_value m_word m_bad m_badPlace m_fault m_faultPlace m_willing m_will m_forgot m_isDrawn m_x m_begin m_round m_roundCards m_fate m_any m_bothSend m_meanCards m_bestSum m_fitMany m_fitFirst m_fitSecond)), ((m_a 16), .inl (cI, 5, .inl n_m_lines_c_25)), ((m_a 17), .inl (cI, 25, .inl n_m_has_c_25)), ((m_a 18), .inl (cI, 250, .inl n_m_person_c_25)), ((m_a 19), .inl (cI, 240, .inl n_m_pair_c_25)), ((m_a 20), .inl (cJ, 160, .inr (.inl n_m_lost_c_25))), ((m_a 21), .inl (cJ, 5, .inr (.inl n_m_strikes_c_25)))] := hD
  rw [← e34] at hP hD
  have a34 : ar g34 3 0 1 := by rw [e34]; exact ar_u ha_m_isKept_c (bo_r _)
  refine lv_iconst (v := 0) hx hb dX12_keep_35 (by decide) ?_
  subst hQ
  have hP9 := hP.sub (ws' := [(m, .inr (11, mG m_a 0 m_taped m_at m_token m_place m_value m_word m_bad m_badPlace m_fault m_faultPlace m_willing m_will m_forgot m_isDrawn m_x m_begin m_round m_roundCards m_fate m_any m_bothSend m_meanCards m_bestSum m_fitMany m_fitFirst m_fitSecond)), ((m_a 16), .inl (cI, 5, .inl n_m_lines_c_25)), ((m_a 17), .inl (cI, 25, .inl n_m_has_c_25)), ((m_a 18), .inl (cI, 250, .inl n_m_person_c_25)), ((m_a 19), .inl (cI, 240, .inl n_m_pair_c_25)), ((m_a 20), .inl (cJ, 160, .inr (.inl n_m_lost_c_25))), ((m_a 21), .inl (cJ, 5, .inr (.inl n_m_strikes_c_25))), ((m_a 22), .inl (cZ, 3, .inl g34))]) [1, 2, 3, 4, 5, 6, 7, 0] rfl
  have hD9 := hD.sub (ws' := [(m, .inr (11, mG m_a 0 m_taped m_at m_token m_place m_value m_word m_bad m_badPlace m_fault m_faultPlace m_willing m_will m_forgot m_isDrawn m_x m_begin m_round m_roundCards m_fate m_any m_bothSend m_meanCards m_bestSum m_fitMany m_fitFirst m_fitSecond)), ((m_a 16), .inl (cI, 5, .inl n_m_lines_c_25)), ((m_a 17), .inl (cI, 25, .inl n_m_has_c_25)), ((m_a 18), .inl (cI, 250, .inl n_m_person_c_25)), ((m_a 19), .inl (cI, 240, .inl n_m_pair_c_25)), ((m_a 20), .inl (cJ, 160, .inr (.inl n_m_lost_c_25))), ((m_a 21), .inl (cJ, 5, .inr (.inl n_m_strikes_c_25))), ((m_a 22), .inl (cZ, 3, .inl g34))]) [1, 2, 3, 4, 5, 6, 7, 0] (by decide) rfl
  exact W.iret (v := 0) hx hb hr (fun t ht hW => ⟨⟨0, (0, n_m_lines_c_25, n_m_has_c_25, n_m_person_c_25, n_m_pair_c_25, n_m_lost_c_25, n_m_strikes_c_25, g34), rfl, ⟨(show ir (0 : Int32).toInt 0 0 by decide), hw25_0, hw25_1, hw25_2, a34, (by unfold keepV; first | (rw [if_neg (by omega)]; done) | (rw [if_pos (by omega)]; done)), (by unfold keepU; first | (rw [if_neg (by omega)]; done) | (rw [if_pos (by omega)]; exact e34.trans rfl)), (show ir (0 : Int32).toInt (-2) 0 by decide)⟩, ⟨by rw [ht]; exact hP9, va_K.moved hW.alike hK, hD9⟩⟩, hS.F ht⟩) hS.2.2 dX12_keep_36
def v_X12_onF : List Cond := .code yX12_on cX12_on 2 (some .int) :: (([.fieldLink RX12 107 "CardsAtYuleModel" "thrown" "I", .constantLong RX12 284 (2), .methodLink RX12 112 yX12_in, .static yX12_in, .initialized RX12, .fieldLink RX12 49 "CardsAtYuleModel" "isKept" "[Z", .methodLink RX12 263 yX12_copyLand, .instanceMethod yX12_copyLand, .selects RX12 yX12_copyLand yX12_copyLand] : List Cond) ++ (v_X12_inN ++ (v_X12_copyLand ++ (wsX120 ++ ([] : List Cond)))))
theorem good_v_X12_onF : v_X12_onF.all goodWord = true := ga_c (by decide +kernel) (ga_a (by decide +kernel) (ga_a good_v_X12_inN (ga_a good_v_X12_copyLand (ga_a good_wsX120 rfl))))
set_option maxHeartbeats 4000000 in
set_option maxRecDepth 100000 in
theorem q_X12_onF (l : Launch) (g : va_G) (cI cJ cB cZ cL : ClassId) (p0 : Int32) (m : Nat) (m_a : Nat → Nat) (m_thrown : Int32) (m_taped : Int32) (m_at : Int32) (m_token : Int32) (m_place : Int32) (m_value : Int32) (m_word : Int64) (m_bad : Int32) (m_badPlace : Int32) (m_fault : Int32) (m_faultPlace : Int32) (m_willing : Int32) (m_will : Int32) (m_forgot : Int32) (m_isDrawn : Int32) (m_x : Int64) (m_begin : Int32) (m_round : Int32) (m_roundCards : Int32) (m_fate : Int32) (m_any : Int64) (m_bothSend : Int64) (m_meanCards : Int64) (m_bestSum : Int32) (m_fitMany : Int32) (m_fitFirst : Int64) (m_fitSecond : Int64) (m_isKept_c : Nat → Int32) (m_lines_c : Nat → Int32) (m_has_c : Nat → Int32) (m_person_c : Nat → Int32) (m_pair_c : Nat → Int32) (m_lost_c : Nat → Int64) (m_strikes_c : Nat → Int64) (sz : Nat) (hv_m_taped : ir m_taped.toInt 0 1600) (hv_m_at : ir m_at.toInt 0 1600) (hv_m_will : ir m_will.toInt 0 1) (hv_m_isDrawn : ir m_isDrawn.toInt 0 1) (ha_m_isKept_c : ar m_isKept_c 3 0 1) (ha_m_has_c : hasI m_has_c) (ha_m_person_c : perI m_person_c) (ha_m_pair_c : ar m_pair_c 240 0 15) : Met l yX12_on v_X12_onF ({ frames := 2, cells := 0, slots := 0, locals := 47 }) (va_Pc [.ref m, .int p0] (pRW g (tyT cI cJ cB cZ cL) [(m, .inr (11, mG m_a m_thrown m_taped m_at m_token m_place m_value m_word m_bad m_badPlace m_fault m_faultPlace m_willing m_will m_forgot m_isDrawn m_x m_begin m_round m_roundCards m_fate m_any m_bothSend m_meanCards m_bestSum m_fitMany m_fitFirst m_fitSecond)), ((m_a 22), .inl (cZ, 3, .inl m_isKept_c)), ((m_a 16), .inl (cI, 5, .inl m_lines_c)), ((m_a 17), .inl (cI, 25, .inl m_has_c)), ((m_a 18), .inl (cI, 250, .inl m_person_c)), ((m_a 19), .inl (cI, 240, .inl m_pair_c)), ((m_a 20), .inl (cJ, 160, .inr (.inl m_lost_c))), ((m_a 21), .inl (cJ, 5, .inr (.inl m_strikes_c)))] sz)) (va_Qi (fun (r : Int32) (u : Int32 × (Nat → Int32) × (Nat → Int32) × (Nat → Int32) × (Nat → Int32) × (Nat → Int64) × (Nat → Int64)) => match u with | (n_m_thrown, n_m_lines_c, n_m_has_c, n_m_person_c, n_m_pair_c, n_m_lost_c, n_m_strikes_c) => (ir n_m_thrown.toInt 0 0) ∧ (hasI n_m_has_c) ∧ (perI n_m_person_c) ∧ (ar n_m_pair_c 240 0 15) ∧ (r = onV p0.toInt (m_isKept_c p0.toNatClampNeg).toInt) ∧ (ir r.toInt (-6) 0)) (fun (u : Int32 × (Nat → Int32) × (Nat → Int32) × (Nat → Int32) × (Nat → Int32) × (Nat → Int64) × (Nat → Int64)) (t : State) => bRW g (tyT cI cJ cB cZ cL) (va_A [(m, .inr (11, mG m_a m_thrown m_taped m_at m_token m_place m_value m_word m_bad m_badPlace m_fault m_faultPlace m_willing m_will m_forgot m_isDrawn m_x m_begin m_round m_roundCards m_fate m_any m_bothSend m_meanCards m_bestSum m_fitMany m_fitFirst m_fitSecond)), ((m_a 22), .inl (cZ, 3, .inl m_isKept_c)), ((m_a 16), .inl (cI, 5, .inl m_lines_c)), ((m_a 17), .inl (cI, 25, .inl m_has_c)), ((m_a 18), .inl (cI, 250, .inl m_person_c)), ((m_a 19), .inl (cI, 240, .inl m_pair_c)), ((m_a 20), .inl (cJ, 160, .inr (.inl m_lost_c))), ((m_a 21), .inl (cJ, 5, .inr (.inl m_strikes_c)))] sz) (match u with | (n_m_thrown, n_m_lines_c, n_m_has_c, n_m_person_c, n_m_pair_c, n_m_lost_c, n_m_strikes_c) => [(m, .inr (11, mG m_a n_m_thrown m_taped m_at m_token m_place m_value m_word m_bad m_badPlace m_fault m_faultPlace m_willing m_will m_forgot m_isDrawn m_x m_begin m_round m_roundCards m_fate m_any m_bothSend m_meanCards m_bestSum m_fitMany m_fitFirst m_fitSecond)), ((m_a 22), .inl (cZ, 3, .inl m_isKept_c)), ((m_a 16), .inl (cI, 5, .inl n_m_lines_c)), ((m_a 17), .inl (cI, 25, .inl n_m_has_c)), ((m_a 18), .inl (cI, 250, .inl n_m_person_c)), ((m_a 19), .inl (cI, 240, .inl n_m_pair_c)), ((m_a 20), .inl (cJ, 160, .inr (.inl n_m_lost_c))), ((m_a 21), .inl (cJ, 5, .inr (.inl n_m_strikes_c)))]) t) (va_A [(m, .inr (11, mG m_a m_thrown m_taped m_at m_token m_place m_value m_word m_bad m_badPlace m_fault m_faultPlace m_willing m_will m_forgot m_isDrawn m_x m_begin m_round m_roundCards m_fate m_any m_bothSend m_meanCards m_bestSum m_fitMany m_fitFirst m_fitSecond)), ((m_a 22), .inl (cZ, 3, .inl m_isKept_c)), ((m_a 16), .inl (cI, 5, .inl m_lines_c)), ((m_a 17), .inl (cI, 25, .inl m_has_c)), ((m_a 18), .inl (cI, 250, .inl m_person_c)), ((m_a 19), .inl (cI, 240, .inl m_pair_c)), ((m_a 20), .inl (cJ, 160, .inr (.inl m_lost_c))), ((m_a 21), .inl (cJ, 5, .inr (.inl m_strikes_c)))] sz)) 0 0 (va_A [(m, .inr (11, mG m_a m_thrown m_taped m_at m_token m_place m_value m_word m_bad m_badPlace m_fault m_faultPlace m_willing m_will m_forgot m_isDrawn m_x m_begin m_round m_roundCards m_fate m_any m_bothSend m_meanCards m_bestSum m_fitMany m_fitFirst m_fitSecond)), ((m_a 22), .inl (cZ, 3, .inl m_isKept_c)), ((m_a 16), .inl (cI, 5, .inl m_lines_c)), ((m_a 17), .inl (cI, 25, .inl m_has_c)), ((m_a 18), .inl (cI, 250, .inl m_person_c)), ((m_a 19), .inl (cI, 240, .inl m_pair_c)), ((m_a 20), .inl (cJ, 160, .inr (.inl m_lost_c))), ((m_a 21), .inl (cJ, 5, .inr (.inl m_strikes_c)))] sz) := by
  refine Met.ofW (cc := cX12_on) (maxL := 2) (ret := (some .int)) (by decide) rfl ?_
  intro p e s mth args below meth c s₁ B hml hv
  obtain ⟨rfl, hsz, hP, hK, hD0⟩ := hv
  have hx := B.exec
  have hb := B.bytes
  have hr := B.returns
  have hts := atoms_spec (ws := v_X12_onF) B.pre
  have hown : s.vm.findClass RX12 = some mth.cls := findClass_of_methodNamed B.named
  have hlocks := B.notSynchronized
  clear B
  subst hsz
  have iX12 : ∀ w ∈ wsX120, w ∈ v_X12_onF := (fun _ h => List.mem_cons_of_mem _ (List.mem_append_right _ (List.mem_append_right _ (List.mem_append_right _ (List.mem_append_left _ h)))))
  have hD := hD0.self (sz := s.heap.size)
  generalize hAe : (va_A [(m, .inr (11, mG m_a m_thrown m_taped m_at m_token m_place m_value m_word m_bad m_badPlace m_fault m_faultPlace m_willing m_will m_forgot m_isDrawn m_x m_begin m_round m_roundCards m_fate m_any m_bothSend m_meanCards m_bestSum m_fitMany m_fitFirst m_fitSecond)), ((m_a 22), .inl (cZ, 3, .inl m_isKept_c)), ((m_a 16), .inl (cI, 5, .inl m_lines_c)), ((m_a 17), .inl (cI, 25, .inl m_has_c)), ((m_a 18), .inl (cI, 250, .inl m_person_c)), ((m_a 19), .inl (cI, 240, .inl m_pair_c)), ((m_a 20), .inl (cJ, 160, .inr (.inl m_lost_c))), ((m_a 21), .inl (cJ, 5, .inr (.inl m_strikes_c)))] s.heap.size) = A at hD ⊢
  have hA : ∀ q : Nat, s.heap.size ≤ q → A q := fun q h => by rw [← hAe]; exact Or.inr h
  have hS : va_S A s.heap s.heap [] := va_S.rf
  have hl := lv_entry ([.ref m, .int p0]) (n := 2) (Nat.le_of_ble_eq_true rfl)
  rw [lg_entry_eq]
  generalize (lg_sl ([.ref m, .int p0]) ++ List.replicate (2 - (lg_sl ([.ref m, .int p0])).length) Slot.unset).toArray = ls at hl ⊢
  generalize ([.ref m, .int p0] : List Value).toArray = av at hts ⊢
  generalize hQ : MQ below _ av s _ _ A = QQ
  have hl : lv_has ls 2 [(0, .ref m), (1, .int p0)] := hl
  have hP : va_P g vwCl [(m, .inr (11, mG m_a m_thrown m_taped m_at m_token m_place m_value m_word m_bad m_badPlace m_fault m_faultPlace m_willing m_will m_forgot m_isDrawn m_x m_begin m_round m_roundCards m_fate m_any m_bothSend m_meanCards m_bestSum m_fitMany m_fitFirst m_fitSecond)), ((m_a 22), .inl (cZ, 3, .inl m_isKept_c)), ((m_a 16), .inl (cI, 5, .inl m_lines_c)), ((m_a 17), .inl (cI, 25, .inl m_has_c)), ((m_a 18), .inl (cI, 250, .inl m_person_c)), ((m_a 19), .inl (cI, 240, .inl m_pair_c)), ((m_a 20), .inl (cJ, 160, .inr (.inl m_lost_c))), ((m_a 21), .inl (cJ, 5, .inr (.inl m_strikes_c)))] s.heap := hP
  refine lv_aload_n hx hb dX12_on_0 rfl (lv_at hl 0 rfl) ?_
  refine lv_iconst (v := 0) hx hb dX12_on_1 (by decide) ?_
  refine va_put (D := g) (ci := 11) (v := .int 0) (ty := .int) (C := RX12) (T := TX12) (N := 56) hx hb hts iX12 tyX12 tyX12_ok nmX12 hown hK hP hD hS 0 rfl rfl 0 (by decide) (hts (.fieldLink RX12 107 "CardsAtYuleModel" "thrown" "I") (List.mem_cons_of_mem _ (List.mem_append_left _ (List.mem_of_getElem? (i := 0) rfl)))) (fun _ h9 => h9) rfl (by decide +kernel) rfl rfl (Nat.le_of_ble_eq_true rfl) dX12_on_2 (fun H locs hP hD hS => ?_)
  have hP : va_P g vwCl [(m, .inr (11, mG m_a 0 m_taped m_at m_token m_place m_value m_word m_bad m_badPlace m_fault m_faultPlace m_willing m_will m_forgot m_isDrawn m_x m_begin m_round m_roundCards m_fate m_any m_bothSend m_meanCards m_bestSum m_fitMany m_fitFirst m_fitSecond)), ((m_a 22), .inl (cZ, 3, .inl m_isKept_c)), ((m_a 16), .inl (cI, 5, .inl m_lines_c)), ((m_a 17), .inl (cI, 25, .inl m_has_c)), ((m_a 18), .inl (cI, 250, .inl m_person_c)), ((m_a 19), .inl (cI, 240, .inl m_pair_c)), ((m_a 20), .inl (cJ, 160, .inr (.inl m_lost_c))), ((m_a 21), .inl (cJ, 5, .inr (.inl m_strikes_c)))] H := hP
  have hD : va_D A [(m, .inr (11, mG m_a 0 m_taped m_at m_token m_place m_value m_word m_bad m_badPlace m_fault m_faultPlace m_willing m_will m_forgot m_isDrawn m_x m_begin m_round m_roundCards m_fate m_any m_bothSend m_meanCards m_bestSum m_fitMany m_fitFirst m_fitSecond)), ((m_a 22), .inl (cZ, 3, .inl m_isKept_c)), ((m_a 16), .inl (cI, 5, .inl m_lines_c)), ((m_a 17), .inl (cI, 25, .inl m_has_c)), ((m_a 18), .inl (cI, 250, .inl m_person_c)), ((m_a 19), .inl (cI, 240, .inl m_pair_c)), ((m_a 20), .inl (cJ, 160, .inr (.inl m_lost_c))), ((m_a 21), .inl (cJ, 5, .inr (.inl m_strikes_c)))] := hD
  refine lv_iload_n hx hb dX12_on_5 rfl (lv_at hl 1 rfl) ?_
  refine lv_i2l (v := p0.toInt64) hx hb dX12_on_6 rfl ?_
  refine lv_lconst (v := 0) hx hb dX12_on_7 (by decide) ?_
  refine lv_ldc2 (v := 2) hx hb hown (hts (.constantLong RX12 284 (2)) (List.mem_cons_of_mem _ (List.mem_append_left _ (List.mem_of_getElem? (i := 1) rfl)))) dX12_on_8 ?_
  refine ro_i (va_runS (As := [.long p0.toInt64, .long 0, .long 2]) (rest := []) ⟨hx, hb, hml, hown, hts⟩ (q_X12_inN l g cI cJ cB cZ cL p0.toInt64 p0.toInt 0 0 2 2 H.size (z_i2l rfl) rfl rfl) (va_cwS 3 hts (goodIn_app (g_3 (List.mem_cons_of_mem _ (List.mem_append_left _ (List.mem_of_getElem? (i := 2) rfl))) (List.mem_cons_of_mem _ (List.mem_append_left _ (List.mem_of_getElem? (i := 3) rfl))) (List.mem_cons_of_mem _ (List.mem_append_left _ (List.mem_of_getElem? (i := 4) rfl))) (by decide +kernel)) (goodIn_sub (fun _ h => List.mem_cons_of_mem _ (List.mem_append_right _ (List.mem_append_left _ h))) good_v_X12_inN)) rfl rfl rfl (by decide +kernel) ⟨Nat.le_of_ble_eq_true rfl, Nat.le_of_ble_eq_true rfl⟩) (ps_RO (wc := []) hK hP [] rfl) rfl rfl hl.1 rfl (lv_room (Nat.le_of_ble_eq_true rfl)) dX12_on_11 ⟨Nat.le_of_ble_eq_true rfl, Nat.le_of_ble_eq_true rfl⟩) hS hA hP (fun r11 u11 H locs hw11 hP hS => ?_)
  have hw11_0 := hw11
  rcases hw11_0 with ⟨er11, fc11_0, fc11_1⟩ | ⟨er11, fc11_0⟩
  rotate_left 1
  · subst er11
    have fc11_0 : ¬ (0 ≤ p0.toInt ∧ p0.toInt ≤ 2) := fc11_0
    refine lv_if_ne (tgt := 20) hx hb dX12_on_14 (by decide) (fun c => absurd c (by decide)) (fun _ => ?_)
    refine lv_bipush (v := (-2)) hx hb dX12_on_17 (by decide) ?_
    subst hQ
    have hP9 := hP.sub (ws' := [(m, .inr (11, mG m_a 0 m_taped m_at m_token m_place m_value m_word m_bad m_badPlace m_fault m_faultPlace m_willing m_will m_forgot m_isDrawn m_x m_begin m_round m_roundCards m_fate m_any m_bothSend m_meanCards m_bestSum m_fitMany m_fitFirst m_fitSecond)), ((m_a 22), .inl (cZ, 3, .inl m_isKept_c)), ((m_a 16), .inl (cI, 5, .inl m_lines_c)), ((m_a 17), .inl (cI, 25, .inl m_has_c)), ((m_a 18), .inl (cI, 250, .inl m_person_c)), ((m_a 19), .inl (cI, 240, .inl m_pair_c)), ((m_a 20), .inl (cJ, 160, .inr (.inl m_lost_c))), ((m_a 21), .inl (cJ, 5, .inr (.inl m_strikes_c)))]) [0, 1, 2, 3, 4, 5, 6, 7] rfl
    have hD9 := hD.sub (ws' := [(m, .inr (11, mG m_a 0 m_taped m_at m_token m_place m_value m_word m_bad m_badPlace m_fault m_faultPlace m_willing m_will m_forgot m_isDrawn m_x m_begin m_round m_roundCards m_fate m_any m_bothSend m_meanCards m_bestSum m_fitMany m_fitFirst m_fitSecond)), ((m_a 22), .inl (cZ, 3, .inl m_isKept_c)), ((m_a 16), .inl (cI, 5, .inl m_lines_c)), ((m_a 17), .inl (cI, 25, .inl m_has_c)), ((m_a 18), .inl (cI, 250, .inl m_person_c)), ((m_a 19), .inl (cI, 240, .inl m_pair_c)), ((m_a 20), .inl (cJ, 160, .inr (.inl m_lost_c))), ((m_a 21), .inl (cJ, 5, .inr (.inl m_strikes_c)))]) [0, 1, 2, 3, 4, 5, 6, 7] (by decide) rfl
    exact W.iret (v := (-2)) hx hb hr (fun t ht hW => ⟨⟨(-2), (0, m_lines_c, m_has_c, m_person_c, m_pair_c, m_lost_c, m_strikes_c), rfl, ⟨(show ir (0 : Int32).toInt 0 0 by decide), ha_m_has_c, ha_m_person_c, ha_m_pair_c, (by unfold onV; first | (rw [if_neg (by omega)]; done) | (rw [if_pos (by omega), if_pos (by omega)]; done) | (rw [if_pos (by omega), if_neg (by omega)]; done)), (show ir ((-2) : Int32).toInt (-6) 0 by decide)⟩, ⟨by rw [ht]; exact hP9, va_K.moved hW.alike hK, hD9⟩⟩, hS.F ht⟩) hS.2.2 dX12_on_19
  subst er11
  have fc11_0 : 0 ≤ p0.toInt := fc11_0
  have r11_0b : ir p0.toInt 0 2147483647 := ir_leb fc11_0 (ir_c 0) (rg_all p0) (by decide)
  have fc11_1 : p0.toInt ≤ 2 := fc11_1
  have r11_1a : ir p0.toInt 0 2 := ir_lea fc11_1 r11_0b (ir_c 2) (by decide)
  refine lv_if_ne (tgt := 20) hx hb dX12_on_14 (by decide) (fun _ => ?_) (fun c => absurd c (by decide))
  refine lv_aload_n hx hb dX12_on_20 rfl (lv_at hl 0 rfl) ?_
  refine va_get (D := g) (ci := 11) (v := .ref (m_a 22)) (C := RX12) (T := TX12) (N := 56) hx hb hts iX12 hown hK hP 0 rfl rfl 22 (by decide) (hts (.fieldLink RX12 49 "CardsAtYuleModel" "isKept" "[Z") (List.mem_cons_of_mem _ (List.mem_append_left _ (List.mem_of_getElem? (i := 5) rfl)))) (fun _ h9 => h9) rfl dX12_on_21 ?_
  refine lv_iload_n hx hb dX12_on_24 rfl (lv_at hl 1 rfl) ?_
  refine va_zald (D := g) hx hb hK hP 1 3 rfl rfl (vi_rg rfl r11_1a (by decide) (by decide)) dX12_on_25 ?_
  have r25 : ir (m_isKept_c p0.toNatClampNeg).toInt 0 1 := ha_m_isKept_c _ (vi_cl (vi_rg rfl r11_1a (by decide) (by decide)))
  refine lv_if_ne (tgt := 32) hx hb dX12_on_26 (by decide) (fun c26 => ?_) (fun c26 => ?_)
  rotate_left 1
  · have f26 := (show (m_isKept_c p0.toNatClampNeg).toInt = 0 from z_eq rfl rfl c26)
    have r26a : ir (m_isKept_c p0.toNatClampNeg).toInt 0 0 := ir_eqa f26 r25 (ir_c 0) (by decide) (by decide)
    refine lv_bipush (v := (-6)) hx hb dX12_on_29 (by decide) ?_
    subst hQ
    have hP9 := hP.sub (ws' := [(m, .inr (11, mG m_a 0 m_taped m_at m_token m_place m_value m_word m_bad m_badPlace m_fault m_faultPlace m_willing m_will m_forgot m_isDrawn m_x m_begin m_round m_roundCards m_fate m_any m_bothSend m_meanCards m_bestSum m_fitMany m_fitFirst m_fitSecond)), ((m_a 22), .inl (cZ, 3, .inl m_isKept_c)), ((m_a 16), .inl (cI, 5, .inl m_lines_c)), ((m_a 17), .inl (cI, 25, .inl m_has_c)), ((m_a 18), .inl (cI, 250, .inl m_person_c)), ((m_a 19), .inl (cI, 240, .inl m_pair_c)), ((m_a 20), .inl (cJ, 160, .inr (.inl m_lost_c))), ((m_a 21), .inl (cJ, 5, .inr (.inl m_strikes_c)))]) [0, 1, 2, 3, 4, 5, 6, 7] rfl
    have hD9 := hD.sub (ws' := [(m, .inr (11, mG m_a 0 m_taped m_at m_token m_place m_value m_word m_bad m_badPlace m_fault m_faultPlace m_willing m_will m_forgot m_isDrawn m_x m_begin m_round m_roundCards m_fate m_any m_bothSend m_meanCards m_bestSum m_fitMany m_fitFirst m_fitSecond)), ((m_a 22), .inl (cZ, 3, .inl m_isKept_c)), ((m_a 16), .inl (cI, 5, .inl m_lines_c)), ((m_a 17), .inl (cI, 25, .inl m_has_c)), ((m_a 18), .inl (cI, 250, .inl m_person_c)), ((m_a 19), .inl (cI, 240, .inl m_pair_c)), ((m_a 20), .inl (cJ, 160, .inr (.inl m_lost_c))), ((m_a 21), .inl (cJ, 5, .inr (.inl m_strikes_c)))]) [0, 1, 2, 3, 4, 5, 6, 7] (by decide) rfl
    exact W.iret (v := (-6)) hx hb hr (fun t ht hW => ⟨⟨(-6), (0, m_lines_c, m_has_c, m_person_c, m_pair_c, m_lost_c, m_strikes_c), rfl, ⟨(show ir (0 : Int32).toInt 0 0 by decide), ha_m_has_c, ha_m_person_c, ha_m_pair_c, (by unfold onV; first | (rw [if_neg (by omega)]; done) | (rw [if_pos (by omega), if_pos (by omega)]; done) | (rw [if_pos (by omega), if_neg (by omega)]; done)), (show ir ((-6) : Int32).toInt (-6) 0 by decide)⟩, ⟨by rw [ht]; exact hP9, va_K.moved hW.alike hK, hD9⟩⟩, hS.F ht⟩) hS.2.2 dX12_on_31
  have f26 := (show (m_isKept_c p0.toNatClampNeg).toInt ≠ 0 from z_ne rfl rfl c26)
  have r26a : ir (m_isKept_c p0.toNatClampNeg).toInt 1 1 := ir_nel f26 r25 (by decide) (by decide)
  refine lv_aload_n hx hb dX12_on_32 rfl (lv_at hl 0 rfl) ?_
  refine lv_iconst (v := 1) hx hb dX12_on_33 (by decide) ?_
  refine lv_iload_n hx hb dX12_on_34 rfl (lv_at hl 1 rfl) ?_
  refine lv_iadd hx hb dX12_on_35 ?_
  refine lv_topi (fun y35 e35 => ?_)
  have q35 : y35.toInt = 1 + p0.toInt := by rw [e35]; exact ad_z rfl rfl (ir_c 1) r11_1a (by decide) (by decide)
  have r35 : ir y35.toInt 1 3 := ad_r q35 (ir_c 1) r11_1a (by decide) (by decide)
  refine lv_iconst (v := 0) hx hb dX12_on_36 (by decide) ?_
  refine rw_v (wr := [((m_a 22), .inl (cZ, 3, .inl m_isKept_c))]) (va_runV (As := [.int y35, .int 0]) (rest := []) ⟨hx, hb, hml, hown, hts⟩ (q_X12_copyLand l g cI cJ cB cZ cL y35 0 m m_a 0 m_taped m_at m_token m_place m_value m_word m_bad m_badPlace m_fault m_faultPlace m_willing m_will m_forgot m_isDrawn m_x m_begin m_round m_roundCards m_fate m_any m_bothSend m_meanCards m_bestSum m_fitMany m_fitFirst m_fitSecond m_lines_c m_has_c m_person_c m_pair_c m_lost_c m_strikes_c H.size (ir_w r35 (by decide) (by decide)) (by decide) hv_m_taped hv_m_at hv_m_will hv_m_isDrawn ha_m_has_c ha_m_person_c ha_m_pair_c) (cwV 2 hts (goodIn_app (g_4 (List.mem_cons_of_mem _ (List.mem_append_left _ (List.mem_of_getElem? (i := 6) rfl))) (List.mem_cons_of_mem _ (List.mem_append_left _ (List.mem_of_getElem? (i := 7) rfl))) (List.mem_cons_of_mem _ (List.mem_append_left _ (List.mem_of_getElem? (i := 8) rfl))) (List.mem_cons_of_mem _ (List.mem_append_left _ (List.mem_of_getElem? (i := 4) rfl))) (by decide +kernel)) (goodIn_sub (fun _ h => List.mem_cons_of_mem _ (List.mem_append_right _ (List.mem_append_right _ (List.mem_append_left _ h)))) good_v_X12_copyLand)) rfl rfl rfl (by decide +kernel) ⟨Nat.le_of_ble_eq_true rfl, Nat.le_of_ble_eq_true rfl⟩) (pv_RW (q := (RX12, TX12, 56)) (ci := 11) (q0 := 0) (wc := [(m, .inr (11, mG m_a 0 m_taped m_at m_token m_place m_value m_word m_bad m_badPlace m_fault m_faultPlace m_willing m_will m_forgot m_isDrawn m_x m_begin m_round m_roundCards m_fate m_any m_bothSend m_meanCards m_bestSum m_fitMany m_fitFirst m_fitSecond)), ((m_a 16), .inl (cI, 5, .inl m_lines_c)), ((m_a 17), .inl (cI, 25, .inl m_has_c)), ((m_a 18), .inl (cI, 250, .inl m_person_c)), ((m_a 19), .inl (cI, 240, .inl m_pair_c)), ((m_a 20), .inl (cJ, 160, .inr (.inl m_lost_c))), ((m_a 21), .inl (cJ, 5, .inr (.inl m_strikes_c)))]) hK hP hD [0, 2, 3, 4, 5, 6, 7] (by decide) rfl rfl rfl) rfl rfl hl.1 rfl (lv_room (Nat.le_of_ble_eq_true rfl)) dX12_on_37 ⟨Nat.le_of_ble_eq_true rfl, Nat.le_of_ble_eq_true rfl⟩) hS hA hP hD [0, 2, 3, 4, 5, 6, 7] [1] rfl rfl (by decide) (by decide) (fun u37 H locs hw37 hP hD hS => ?_)
  obtain ⟨n_m_lines_c_37, n_m_has_c_37, n_m_person_c_37, n_m_pair_c_37, n_m_lost_c_37, n_m_strikes_c_37⟩ := u37
  have hP : va_P g vwCl [((m_a 22), .inl (cZ, 3, .inl m_isKept_c)), (m, .inr (11, mG m_a 0 m_taped m_at m_token m_place m_value m_word m_bad m_badPlace m_fault m_faultPlace m_willing m_will m_forgot m_isDrawn m_x m_begin m_round m_roundCards m_fate m_any m_bothSend m_meanCards m_bestSum m_fitMany m_fitFirst m_fitSecond)), ((m_a 16), .inl (cI, 5, .inl n_m_lines_c_37)), ((m_a 17), .inl (cI, 25, .inl n_m_has_c_37)), ((m_a 18), .inl (cI, 250, .inl n_m_person_c_37)), ((m_a 19), .inl (cI, 240, .inl n_m_pair_c_37)), ((m_a 20), .inl (cJ, 160, .inr (.inl n_m_lost_c_37))), ((m_a 21), .inl (cJ, 5, .inr (.inl n_m_strikes_c_37)))] H := hP
  have hD : va_D A [((m_a 22), .inl (cZ, 3, .inl m_isKept_c)), (m, .inr (11, mG m_a 0 m_taped m_at m_token m_place m_value m_word m_bad m_badPlace m_fault m_faultPlace m_willing m_will m_forgot m_isDrawn m_x m_begin m_round m_roundCards m_fate m_any m_bothSend m_meanCards m_bestSum m_fitMany m_fitFirst m_fitSecond)), ((m_a 16), .inl (cI, 5, .inl n_m_lines_c_37)), ((m_a 17), .inl (cI, 25, .inl n_m_has_c_37)), ((m_a 18), .inl (cI, 250, .inl n_m_person_c_37)), ((m_a 19), .inl (cI, 240, .inl n_m_pair_c_37)), ((m_a 20), .inl (cJ, 160, .inr (.inl n_m_lost_c_37))), ((m_a 21), .inl (cJ, 5, .inr (.inl n_m_strikes_c_37)))] := hD
  dsimp only at hw37
  obtain ⟨hw37_0, hw37_1, hw37_2⟩ := hw37
  refine lv_iconst (v := 0) hx hb dX12_on_40 (by decide) ?_
  subst hQ
  have hP9 := hP.sub (ws' := [(m, .inr (11, mG m_a 0 m_taped m_at m_token m_place m_value m_word m_bad m_badPlace m_fault m_faultPlace m_willing m_will m_forgot m_isDrawn m_x m_begin m_round m_roundCards m_fate m_any m_bothSend m_meanCards m_bestSum m_fitMany m_fitFirst m_fitSecond)), ((m_a 22), .inl (cZ, 3, .inl m_isKept_c)), ((m_a 16), .inl (cI, 5, .inl n_m_lines_c_37)), ((m_a 17), .inl (cI, 25, .inl n_m_has_c_37)), ((m_a 18), .inl (cI, 250, .inl n_m_person_c_37)), ((m_a 19), .inl (cI, 240, .inl n_m_pair_c_37)), ((m_a 20), .inl (cJ, 160, .inr (.inl n_m_lost_c_37))), ((m_a 21), .inl (cJ, 5, .inr (.inl n_m_strikes_c_37)))]) [1, 0, 2, 3, 4, 5, 6, 7] rfl
  have hD9 := hD.sub (ws' := [(m, .inr (11, mG m_a 0 m_taped m_at m_token m_place m_value m_word m_bad m_badPlace m_fault m_faultPlace m_willing m_will m_forgot m_isDrawn m_x m_begin m_round m_roundCards m_fate m_any m_bothSend m_meanCards m_bestSum m_fitMany m_fitFirst m_fitSecond)), ((m_a 22), .inl (cZ, 3, .inl m_isKept_c)), ((m_a 16), .inl (cI, 5, .inl n_m_lines_c_37)), ((m_a 17), .inl (cI, 25, .inl n_m_has_c_37)), ((m_a 18), .inl (cI, 250, .inl n_m_person_c_37)), ((m_a 19), .inl (cI, 240, .inl n_m_pair_c_37)), ((m_a 20), .inl (cJ, 160, .inr (.inl n_m_lost_c_37))), ((m_a 21), .inl (cJ, 5, .inr (.inl n_m_strikes_c_37)))]) [1, 0, 2, 3, 4, 5, 6, 7] (by decide) rfl
  exact W.iret (v := 0) hx hb hr (fun t ht hW => ⟨⟨0, (0, n_m_lines_c_37, n_m_has_c_37, n_m_person_c_37, n_m_pair_c_37, n_m_lost_c_37, n_m_strikes_c_37), rfl, ⟨(show ir (0 : Int32).toInt 0 0 by decide), hw37_0, hw37_1, hw37_2, (by unfold onV; first | (rw [if_neg (by omega)]; done) | (rw [if_pos (by omega), if_pos (by omega)]; done) | (rw [if_pos (by omega), if_neg (by omega)]; done)), (show ir (0 : Int32).toInt (-6) 0 by decide)⟩, ⟨by rw [ht]; exact hP9, va_K.moved hW.alike hK, hD9⟩⟩, hS.F ht⟩) hS.2.2 dX12_on_41
def v_X12_writeF : List Cond := .code yX12_write cX12_write 5 (some .int) :: (([.fieldLink RX12 107 "CardsAtYuleModel" "thrown" "I", .methodLink RX12 116 yX12_isSlot, .static yX12_isSlot, .initialized RX12, .fieldLink RX12 7 "CardsAtYuleModel" "width" "[I", .fieldLink RX12 13 "CardsAtYuleModel" "many" "[I", .methodLink RX12 112 yX12_in, .static yX12_in, .fieldLink RX12 16 "CardsAtYuleModel" "cells" "[J", .methodLink RX12 120 yX12_cut, .static yX12_cut] : List Cond) ++ (v_X12_isSlotN ++ (v_X12_inN ++ (v_X12_cut ++ (wsX120 ++ ([] : List Cond))))))
theorem good_v_X12_writeF : v_X12_writeF.all goodWord = true := ga_c (by decide +kernel) (ga_a (by decide +kernel) (ga_a good_v_X12_isSlotN (ga_a good_v_X12_inN (ga_a good_v_X12_cut (ga_a good_wsX120 rfl)))))
set_option maxHeartbeats 4000000 in
set_option maxRecDepth 100000 in
theorem q_X12_writeF (l : Launch) (g : va_G) (cI cJ cB cZ cL : ClassId) (p0 : Int32) (p1 : Int32) (p2 : Int64) (m : Nat) (m_a : Nat → Nat) (m_thrown : Int32) (m_taped : Int32) (m_at : Int32) (m_token : Int32) (m_place : Int32) (m_value : Int32) (m_word : Int64) (m_bad : Int32) (m_badPlace : Int32) (m_fault : Int32) (m_faultPlace : Int32) (m_willing : Int32) (m_will : Int32) (m_forgot : Int32) (m_isDrawn : Int32) (m_x : Int64) (m_begin : Int32) (m_round : Int32) (m_roundCards : Int32) (m_fate : Int32) (m_any : Int64) (m_bothSend : Int64) (m_meanCards : Int64) (m_bestSum : Int32) (m_fitMany : Int32) (m_fitFirst : Int64) (m_fitSecond : Int64) (m_width_c : Nat → Int32) (m_many_c : Nat → Int32) (m_cells_c : Nat → Int64) (sz : Nat) (hv_m_taped : ir m_taped.toInt 0 1600) (hv_m_at : ir m_at.toInt 0 1600) (hv_m_will : ir m_will.toInt 0 1) (hv_m_isDrawn : ir m_isDrawn.toInt 0 1) (ha_m_many_c : ar m_many_c 4 0 60) : Met l yX12_write v_X12_writeF ({ frames := 2, cells := 0, slots := 0, locals := 45 }) (va_Pc [.ref m, .int p0, .int p1, .long p2] (pRW g (tyT cI cJ cB cZ cL) [(m, .inr (11, mG m_a m_thrown m_taped m_at m_token m_place m_value m_word m_bad m_badPlace m_fault m_faultPlace m_willing m_will m_forgot m_isDrawn m_x m_begin m_round m_roundCards m_fate m_any m_bothSend m_meanCards m_bestSum m_fitMany m_fitFirst m_fitSecond)), ((m_a 1), .inl (cI, 4, .inl m_width_c)), ((m_a 2), .inl (cI, 4, .inl m_many_c)), ((m_a 3), .inl (cJ, 240, .inr (.inl m_cells_c)))] sz)) (va_Qi (fun (r : Int32) (u : Int32 × (Nat → Int64)) => match u with | (n_m_thrown, n_m_cells_c) => (ir n_m_thrown.toInt 0 0) ∧ (r = wrG p0.toInt p1.toInt (m_many_c p0.toNatClampNeg).toInt (m_width_c p0.toNatClampNeg).toInt) ∧ (ir r.toInt (-7) 0)) (fun (u : Int32 × (Nat → Int64)) (t : State) => bRW g (tyT cI cJ cB cZ cL) (va_A [(m, .inr (11, mG m_a m_thrown m_taped m_at m_token m_place m_value m_word m_bad m_badPlace m_fault m_faultPlace m_willing m_will m_forgot m_isDrawn m_x m_begin m_round m_roundCards m_fate m_any m_bothSend m_meanCards m_bestSum m_fitMany m_fitFirst m_fitSecond)), ((m_a 1), .inl (cI, 4, .inl m_width_c)), ((m_a 2), .inl (cI, 4, .inl m_many_c)), ((m_a 3), .inl (cJ, 240, .inr (.inl m_cells_c)))] sz) (match u with | (n_m_thrown, n_m_cells_c) => [(m, .inr (11, mG m_a n_m_thrown m_taped m_at m_token m_place m_value m_word m_bad m_badPlace m_fault m_faultPlace m_willing m_will m_forgot m_isDrawn m_x m_begin m_round m_roundCards m_fate m_any m_bothSend m_meanCards m_bestSum m_fitMany m_fitFirst m_fitSecond)), ((m_a 1), .inl (cI, 4, .inl m_width_c)), ((m_a 2), .inl (cI, 4, .inl m_many_c)), ((m_a 3), .inl (cJ, 240, .inr (.inl n_m_cells_c)))]) t) (va_A [(m, .inr (11, mG m_a m_thrown m_taped m_at m_token m_place m_value m_word m_bad m_badPlace m_fault m_faultPlace m_willing m_will m_forgot m_isDrawn m_x m_begin m_round m_roundCards m_fate m_any m_bothSend m_meanCards m_bestSum m_fitMany m_fitFirst m_fitSecond)), ((m_a 1), .inl (cI, 4, .inl m_width_c)), ((m_a 2), .inl (cI, 4, .inl m_many_c)), ((m_a 3), .inl (cJ, 240, .inr (.inl m_cells_c)))] sz)) 0 0 (va_A [(m, .inr (11, mG m_a m_thrown m_taped m_at m_token m_place m_value m_word m_bad m_badPlace m_fault m_faultPlace m_willing m_will m_forgot m_isDrawn m_x m_begin m_round m_roundCards m_fate m_any m_bothSend m_meanCards m_bestSum m_fitMany m_fitFirst m_fitSecond)), ((m_a 1), .inl (cI, 4, .inl m_width_c)), ((m_a 2), .inl (cI, 4, .inl m_many_c)), ((m_a 3), .inl (cJ, 240, .inr (.inl m_cells_c)))] sz) := by
  refine Met.ofW (cc := cX12_write) (maxL := 5) (ret := (some .int)) (by decide) rfl ?_
  intro p e s mth args below meth c s₁ B hml hv
  obtain ⟨rfl, hsz, hP, hK, hD0⟩ := hv
  have hx := B.exec
  have hb := B.bytes
  have hr := B.returns
  have hts := atoms_spec (ws := v_X12_writeF) B.pre
  have hown : s.vm.findClass RX12 = some mth.cls := findClass_of_methodNamed B.named
  have hlocks := B.notSynchronized
  clear B
  subst hsz
  have iX12 : ∀ w ∈ wsX120, w ∈ v_X12_writeF := (fun _ h => List.mem_cons_of_mem _ (List.mem_append_right _ (List.mem_append_right _ (List.mem_append_right _ (List.mem_append_right _ (List.mem_append_left _ h))))))
  have hD := hD0.self (sz := s.heap.size)
  generalize hAe : (va_A [(m, .inr (11, mG m_a m_thrown m_taped m_at m_token m_place m_value m_word m_bad m_badPlace m_fault m_faultPlace m_willing m_will m_forgot m_isDrawn m_x m_begin m_round m_roundCards m_fate m_any m_bothSend m_meanCards m_bestSum m_fitMany m_fitFirst m_fitSecond)), ((m_a 1), .inl (cI, 4, .inl m_width_c)), ((m_a 2), .inl (cI, 4, .inl m_many_c)), ((m_a 3), .inl (cJ, 240, .inr (.inl m_cells_c)))] s.heap.size) = A at hD ⊢
  have hA : ∀ q : Nat, s.heap.size ≤ q → A q := fun q h => by rw [← hAe]; exact Or.inr h
  have hS : va_S A s.heap s.heap [] := va_S.rf
  have hl := lv_entry ([.ref m, .int p0, .int p1, .long p2]) (n := 5) (Nat.le_of_ble_eq_true rfl)
  rw [lg_entry_eq]
  generalize (lg_sl ([.ref m, .int p0, .int p1, .long p2]) ++ List.replicate (5 - (lg_sl ([.ref m, .int p0, .int p1, .long p2])).length) Slot.unset).toArray = ls at hl ⊢
  generalize ([.ref m, .int p0, .int p1, .long p2] : List Value).toArray = av at hts ⊢
  generalize hQ : MQ below _ av s _ _ A = QQ
  have hl : lv_has ls 5 [(0, .ref m), (1, .int p0), (2, .int p1), (3, .long p2)] := hl
  have hP : va_P g vwCl [(m, .inr (11, mG m_a m_thrown m_taped m_at m_token m_place m_value m_word m_bad m_badPlace m_fault m_faultPlace m_willing m_will m_forgot m_isDrawn m_x m_begin m_round m_roundCards m_fate m_any m_bothSend m_meanCards m_bestSum m_fitMany m_fitFirst m_fitSecond)), ((m_a 1), .inl (cI, 4, .inl m_width_c)), ((m_a 2), .inl (cI, 4, .inl m_many_c)), ((m_a 3), .inl (cJ, 240, .inr (.inl m_cells_c)))] s.heap := hP
  refine lv_aload_n hx hb dX12_write_0 rfl (lv_at hl 0 rfl) ?_
  refine lv_iconst (v := 0) hx hb dX12_write_1 (by decide) ?_
  refine va_put (D := g) (ci := 11) (v := .int 0) (ty := .int) (C := RX12) (T := TX12) (N := 56) hx hb hts iX12 tyX12 tyX12_ok nmX12 hown hK hP hD hS 0 rfl rfl 0 (by decide) (hts (.fieldLink RX12 107 "CardsAtYuleModel" "thrown" "I") (List.mem_cons_of_mem _ (List.mem_append_left _ (List.mem_of_getElem? (i := 0) rfl)))) (fun _ h9 => h9) rfl (by decide +kernel) rfl rfl (Nat.le_of_ble_eq_true rfl) dX12_write_2 (fun H locs hP hD hS => ?_)
  have hP : va_P g vwCl [(m, .inr (11, mG m_a 0 m_taped m_at m_token m_place m_value m_word m_bad m_badPlace m_fault m_faultPlace m_willing m_will m_forgot m_isDrawn m_x m_begin m_round m_roundCards m_fate m_any m_bothSend m_meanCards m_bestSum m_fitMany m_fitFirst m_fitSecond)), ((m_a 1), .inl (cI, 4, .inl m_width_c)), ((m_a 2), .inl (cI, 4, .inl m_many_c)), ((m_a 3), .inl (cJ, 240, .inr (.inl m_cells_c)))] H := hP
  have hD : va_D A [(m, .inr (11, mG m_a 0 m_taped m_at m_token m_place m_value m_word m_bad m_badPlace m_fault m_faultPlace m_willing m_will m_forgot m_isDrawn m_x m_begin m_round m_roundCards m_fate m_any m_bothSend m_meanCards m_bestSum m_fitMany m_fitFirst m_fitSecond)), ((m_a 1), .inl (cI, 4, .inl m_width_c)), ((m_a 2), .inl (cI, 4, .inl m_many_c)), ((m_a 3), .inl (cJ, 240, .inr (.inl m_cells_c)))] := hD
  refine lv_iload_n hx hb dX12_write_5 rfl (lv_at hl 1 rfl) ?_
  refine ro_i (va_runS (As := [.int p0]) (rest := []) ⟨hx, hb, hml, hown, hts⟩ (q_X12_isSlotN l g cI cJ cB cZ cL p0 H.size ) (va_cwS 1 hts (goodIn_app (g_3 (List.mem_cons_of_mem _ (List.mem_append_left _ (List.mem_of_getElem? (i := 1) rfl))) (List.mem_cons_of_mem _ (List.mem_append_left _ (List.mem_of_getElem? (i := 2) rfl))) (List.mem_cons_of_mem _ (List.mem_append_left _ (List.mem_of_getElem? (i := 3) rfl))) (by decide +kernel)) (goodIn_sub (fun _ h => List.mem_cons_of_mem _ (List.mem_append_right _ (List.mem_append_left _ h))) good_v_X12_isSlotN)) rfl rfl rfl (by decide +kernel) ⟨Nat.le_of_ble_eq_true rfl, Nat.le_of_ble_eq_true rfl⟩) (ps_RO (wc := []) hK hP [] rfl) rfl rfl hl.1 rfl (lv_room (Nat.le_of_ble_eq_true rfl)) dX12_write_6 ⟨Nat.le_of_ble_eq_true rfl, Nat.le_of_ble_eq_true rfl⟩) hS hA hP (fun r6 u6 H locs hw6 hP hS => ?_)
  have hw6_0 := hw6
  rcases hw6_0 with ⟨er6, fc6_0, fc6_1⟩ | ⟨er6, fc6_0⟩
  rotate_left 1
  · subst er6
    have fc6_0 : ¬ (0 ≤ p0.toInt ∧ p0.toInt ≤ 3) := fc6_0
    refine lv_if_ne (tgt := 15) hx hb dX12_write_9 (by decide) (fun c => absurd c (by decide)) (fun _ => ?_)
    refine lv_bipush (v := (-2)) hx hb dX12_write_12 (by decide) ?_
    subst hQ
    have hP9 := hP.sub (ws' := [(m, .inr (11, mG m_a 0 m_taped m_at m_token m_place m_value m_word m_bad m_badPlace m_fault m_faultPlace m_willing m_will m_forgot m_isDrawn m_x m_begin m_round m_roundCards m_fate m_any m_bothSend m_meanCards m_bestSum m_fitMany m_fitFirst m_fitSecond)), ((m_a 1), .inl (cI, 4, .inl m_width_c)), ((m_a 2), .inl (cI, 4, .inl m_many_c)), ((m_a 3), .inl (cJ, 240, .inr (.inl m_cells_c)))]) [0, 1, 2, 3] rfl
    have hD9 := hD.sub (ws' := [(m, .inr (11, mG m_a 0 m_taped m_at m_token m_place m_value m_word m_bad m_badPlace m_fault m_faultPlace m_willing m_will m_forgot m_isDrawn m_x m_begin m_round m_roundCards m_fate m_any m_bothSend m_meanCards m_bestSum m_fitMany m_fitFirst m_fitSecond)), ((m_a 1), .inl (cI, 4, .inl m_width_c)), ((m_a 2), .inl (cI, 4, .inl m_many_c)), ((m_a 3), .inl (cJ, 240, .inr (.inl m_cells_c)))]) [0, 1, 2, 3] (by decide) rfl
    exact W.iret (v := (-2)) hx hb hr (fun t ht hW => ⟨⟨(-2), (0, m_cells_c), rfl, ⟨(show ir (0 : Int32).toInt 0 0 by decide), (by unfold wrG; first | (rw [if_neg (by omega)]; done) | (rw [if_pos (by omega), if_pos (by omega)]; done) | (rw [if_pos (by omega), if_neg (by omega), if_pos (by omega)]; done) | (rw [if_pos (by omega), if_neg (by omega), if_neg (by omega)]; done)), (show ir ((-2) : Int32).toInt (-7) 0 by decide)⟩, ⟨by rw [ht]; exact hP9, va_K.moved hW.alike hK, hD9⟩⟩, hS.F ht⟩) hS.2.2 dX12_write_14
  subst er6
  have fc6_0 : 0 ≤ p0.toInt := fc6_0
  have r6_0b : ir p0.toInt 0 2147483647 := ir_leb fc6_0 (ir_c 0) (rg_all p0) (by decide)
  have fc6_1 : p0.toInt ≤ 3 := fc6_1
  have r6_1a : ir p0.toInt 0 3 := ir_lea fc6_1 r6_0b (ir_c 3) (by decide)
  refine lv_if_ne (tgt := 15) hx hb dX12_write_9 (by decide) (fun _ => ?_) (fun c => absurd c (by decide))
  refine lv_aload_n hx hb dX12_write_15 rfl (lv_at hl 0 rfl) ?_
  refine va_get (D := g) (ci := 11) (v := .ref (m_a 1)) (C := RX12) (T := TX12) (N := 56) hx hb hts iX12 hown hK hP 0 rfl rfl 1 (by decide) (hts (.fieldLink RX12 7 "CardsAtYuleModel" "width" "[I") (List.mem_cons_of_mem _ (List.mem_append_left _ (List.mem_of_getElem? (i := 4) rfl)))) (fun _ h9 => h9) rfl dX12_write_16 ?_
  refine lv_iload_n hx hb dX12_write_19 rfl (lv_at hl 1 rfl) ?_
  refine va_iald (D := g) hx hb hK hP 1 0 rfl rfl (vi_rg rfl r6_1a (by decide) (by decide)) dX12_write_20 ?_
  refine lv_iconst (v := (-1)) hx hb dX12_write_21 (by decide) ?_
  refine lv_icmp_ne (tgt := 28) hx hb dX12_write_22 (by decide) (fun c22 => ?_) (fun c22 => ?_)
  rotate_left 1
  · have f22 := (show (m_width_c p0.toNatClampNeg).toInt = (-1) from z_eq rfl rfl c22)
    have r22a : ir (m_width_c p0.toNatClampNeg).toInt (-1) (-1) := ir_eqa f22 (rg_all (m_width_c p0.toNatClampNeg)) (ir_c (-1)) (by decide) (by decide)
    refine lv_bipush (v := (-6)) hx hb dX12_write_25 (by decide) ?_
    subst hQ
    have hP9 := hP.sub (ws' := [(m, .inr (11, mG m_a 0 m_taped m_at m_token m_place m_value m_word m_bad m_badPlace m_fault m_faultPlace m_willing m_will m_forgot m_isDrawn m_x m_begin m_round m_roundCards m_fate m_any m_bothSend m_meanCards m_bestSum m_fitMany m_fitFirst m_fitSecond)), ((m_a 1), .inl (cI, 4, .inl m_width_c)), ((m_a 2), .inl (cI, 4, .inl m_many_c)), ((m_a 3), .inl (cJ, 240, .inr (.inl m_cells_c)))]) [0, 1, 2, 3] rfl
    have hD9 := hD.sub (ws' := [(m, .inr (11, mG m_a 0 m_taped m_at m_token m_place m_value m_word m_bad m_badPlace m_fault m_faultPlace m_willing m_will m_forgot m_isDrawn m_x m_begin m_round m_roundCards m_fate m_any m_bothSend m_meanCards m_bestSum m_fitMany m_fitFirst m_fitSecond)), ((m_a 1), .inl (cI, 4, .inl m_width_c)), ((m_a 2), .inl (cI, 4, .inl m_many_c)), ((m_a 3), .inl (cJ, 240, .inr (.inl m_cells_c)))]) [0, 1, 2, 3] (by decide) rfl
    exact W.iret (v := (-6)) hx hb hr (fun t ht hW => ⟨⟨(-6), (0, m_cells_c), rfl, ⟨(show ir (0 : Int32).toInt 0 0 by decide), (by unfold wrG; first | (rw [if_neg (by omega)]; done) | (rw [if_pos (by omega), if_pos (by omega)]; done) | (rw [if_pos (by omega), if_neg (by omega), if_pos (by omega)]; done) | (rw [if_pos (by omega), if_neg (by omega), if_neg (by omega)]; done)), (show ir ((-6) : Int32).toInt (-7) 0 by decide)⟩, ⟨by rw [ht]; exact hP9, va_K.moved hW.alike hK, hD9⟩⟩, hS.F ht⟩) hS.2.2 dX12_write_27
  have f22 := (show (m_width_c p0.toNatClampNeg).toInt ≠ (-1) from z_ne rfl rfl c22)
  refine lv_iload_n hx hb dX12_write_28 rfl (lv_at hl 2 rfl) ?_
  refine lv_i2l (v := p1.toInt64) hx hb dX12_write_29 rfl ?_
  refine lv_lconst (v := 0) hx hb dX12_write_30 (by decide) ?_
  refine lv_aload_n hx hb dX12_write_31 rfl (lv_at hl 0 rfl) ?_
  refine va_get (D := g) (ci := 11) (v := .ref (m_a 2)) (C := RX12) (T := TX12) (N := 56) hx hb hts iX12 hown hK hP 0 rfl rfl 2 (by decide) (hts (.fieldLink RX12 13 "CardsAtYuleModel" "many" "[I") (List.mem_cons_of_mem _ (List.mem_append_left _ (List.mem_of_getElem? (i := 5) rfl)))) (fun _ h9 => h9) rfl dX12_write_32 ?_
  refine lv_iload_n hx hb dX12_write_35 rfl (lv_at hl 1 rfl) ?_
  refine va_iald (D := g) hx hb hK hP 2 0 rfl rfl (vi_rg rfl r6_1a (by decide) (by decide)) dX12_write_36 ?_
  have r36 : ir (m_many_c p0.toNatClampNeg).toInt 0 60 := ha_m_many_c _ (vi_cl (vi_rg rfl r6_1a (by decide) (by decide)))
  refine lv_iconst (v := 1) hx hb dX12_write_37 (by decide) ?_
  refine lv_isub hx hb dX12_write_38 ?_
  refine lv_topi (fun y38 e38 => ?_)
  have q38 : y38.toInt = (m_many_c p0.toNatClampNeg).toInt - 1 := by rw [e38]; exact su_z rfl rfl r36 (ir_c 1) (by decide) (by decide)
  have r38 : ir y38.toInt (-1) 59 := su_r q38 r36 (ir_c 1) (by decide) (by decide)
  refine lv_i2l (v := y38.toInt64) hx hb dX12_write_39 rfl ?_
  refine ro_i (va_runS (As := [.long p1.toInt64, .long 0, .long y38.toInt64]) (rest := []) ⟨hx, hb, hml, hown, hts⟩ (q_X12_inN l g cI cJ cB cZ cL p1.toInt64 p1.toInt 0 0 y38.toInt64 y38.toInt H.size (z_i2l rfl) rfl (z_i2l rfl)) (va_cwS 3 hts (goodIn_app (g_3 (List.mem_cons_of_mem _ (List.mem_append_left _ (List.mem_of_getElem? (i := 6) rfl))) (List.mem_cons_of_mem _ (List.mem_append_left _ (List.mem_of_getElem? (i := 7) rfl))) (List.mem_cons_of_mem _ (List.mem_append_left _ (List.mem_of_getElem? (i := 3) rfl))) (by decide +kernel)) (goodIn_sub (fun _ h => List.mem_cons_of_mem _ (List.mem_append_right _ (List.mem_append_right _ (List.mem_append_left _ h)))) good_v_X12_inN)) rfl rfl rfl (by decide +kernel) ⟨Nat.le_of_ble_eq_true rfl, Nat.le_of_ble_eq_true rfl⟩) (ps_RO (wc := []) hK hP [] rfl) rfl rfl hl.1 rfl (lv_room (Nat.le_of_ble_eq_true rfl)) dX12_write_40 ⟨Nat.le_of_ble_eq_true rfl, Nat.le_of_ble_eq_true rfl⟩) hS hA hP (fun r40 u40 H locs hw40 hP hS => ?_)
  have hw40_0 := hw40
  rcases hw40_0 with ⟨er40, fc40_0, fc40_1⟩ | ⟨er40, fc40_0⟩
  rotate_left 1
  · subst er40
    have fc40_0 : ¬ (0 ≤ p1.toInt ∧ p1.toInt ≤ y38.toInt) := fc40_0
    refine lv_if_ne (tgt := 49) hx hb dX12_write_43 (by decide) (fun c => absurd c (by decide)) (fun _ => ?_)
    refine lv_bipush (v := (-7)) hx hb dX12_write_46 (by decide) ?_
    subst hQ
    have hP9 := hP.sub (ws' := [(m, .inr (11, mG m_a 0 m_taped m_at m_token m_place m_value m_word m_bad m_badPlace m_fault m_faultPlace m_willing m_will m_forgot m_isDrawn m_x m_begin m_round m_roundCards m_fate m_any m_bothSend m_meanCards m_bestSum m_fitMany m_fitFirst m_fitSecond)), ((m_a 1), .inl (cI, 4, .inl m_width_c)), ((m_a 2), .inl (cI, 4, .inl m_many_c)), ((m_a 3), .inl (cJ, 240, .inr (.inl m_cells_c)))]) [0, 1, 2, 3] rfl
    have hD9 := hD.sub (ws' := [(m, .inr (11, mG m_a 0 m_taped m_at m_token m_place m_value m_word m_bad m_badPlace m_fault m_faultPlace m_willing m_will m_forgot m_isDrawn m_x m_begin m_round m_roundCards m_fate m_any m_bothSend m_meanCards m_bestSum m_fitMany m_fitFirst m_fitSecond)), ((m_a 1), .inl (cI, 4, .inl m_width_c)), ((m_a 2), .inl (cI, 4, .inl m_many_c)), ((m_a 3), .inl (cJ, 240, .inr (.inl m_cells_c)))]) [0, 1, 2, 3] (by decide) rfl
    exact W.iret (v := (-7)) hx hb hr (fun t ht hW => ⟨⟨(-7), (0, m_cells_c), rfl, ⟨(show ir (0 : Int32).toInt 0 0 by decide), (by unfold wrG; first | (rw [if_neg (by omega)]; done) | (rw [if_pos (by omega), if_pos (by omega)]; done) | (rw [if_pos (by omega), if_neg (by omega), if_pos (by omega)]; done) | (rw [if_pos (by omega), if_neg (by omega), if_neg (by omega)]; done)), (show ir ((-7) : Int32).toInt (-7) 0 by decide)⟩, ⟨by rw [ht]; exact hP9, va_K.moved hW.alike hK, hD9⟩⟩, hS.F ht⟩) hS.2.2 dX12_write_48
  subst er40
  have fc40_0 : 0 ≤ p1.toInt := fc40_0
  have r40_0b : ir p1.toInt 0 2147483647 := ir_leb fc40_0 (ir_c 0) (rg_all p1) (by decide)
  have fc40_1 : p1.toInt ≤ y38.toInt := fc40_1
  have r40_1a : ir p1.toInt 0 59 := ir_lea fc40_1 r40_0b r38 (by decide)
  have r40_1b : ir y38.toInt 0 59 := ir_leb fc40_1 r40_0b r38 (by decide)
  refine lv_if_ne (tgt := 49) hx hb dX12_write_43 (by decide) (fun _ => ?_) (fun c => absurd c (by decide))
  refine lv_aload_n hx hb dX12_write_49 rfl (lv_at hl 0 rfl) ?_
  refine va_get (D := g) (ci := 11) (v := .ref (m_a 3)) (C := RX12) (T := TX12) (N := 56) hx hb hts iX12 hown hK hP 0 rfl rfl 3 (by decide) (hts (.fieldLink RX12 16 "CardsAtYuleModel" "cells" "[J") (List.mem_cons_of_mem _ (List.mem_append_left _ (List.mem_of_getElem? (i := 8) rfl)))) (fun _ h9 => h9) rfl dX12_write_50 ?_
  refine lv_bipush (v := 60) hx hb dX12_write_53 (by decide) ?_
  refine lv_iload_n hx hb dX12_write_55 rfl (lv_at hl 1 rfl) ?_
  refine lv_imul hx hb dX12_write_56 ?_
  refine lv_topi (fun y56 e56 => ?_)
  have q56 : y56.toInt = 60 * p0.toInt := by rw [e56]; exact mu_z rfl rfl (ir_c 60) r6_1a (by decide) (by decide) (by decide)
  have r56 : ir y56.toInt 0 180 := mu_r q56 (ir_c 60) r6_1a (by decide) (by decide) (by decide) (by decide)
  refine lv_iload_n hx hb dX12_write_57 rfl (lv_at hl 2 rfl) ?_
  refine lv_iadd hx hb dX12_write_58 ?_
  refine lv_topi (fun y58 e58 => ?_)
  have q58 : y58.toInt = y56.toInt + p1.toInt := by rw [e58]; exact ad_z rfl rfl r56 r40_1a (by decide) (by decide)
  have r58 : ir y58.toInt 0 239 := ad_r q58 r56 r40_1a (by decide) (by decide)
  refine lv_lload_n hx hb dX12_write_59 rfl (lv_at hl 3 rfl) ?_
  refine lv_aload_n hx hb dX12_write_60 rfl (lv_at hl 0 rfl) ?_
  refine va_get (D := g) (ci := 11) (v := .ref (m_a 1)) (C := RX12) (T := TX12) (N := 56) hx hb hts iX12 hown hK hP 0 rfl rfl 1 (by decide) (hts (.fieldLink RX12 7 "CardsAtYuleModel" "width" "[I") (List.mem_cons_of_mem _ (List.mem_append_left _ (List.mem_of_getElem? (i := 4) rfl)))) (fun _ h9 => h9) rfl dX12_write_61 ?_
  refine lv_iload_n hx hb dX12_write_64 rfl (lv_at hl 1 rfl) ?_
  refine va_iald (D := g) hx hb hK hP 1 0 rfl rfl (vi_rg rfl r6_1a (by decide) (by decide)) dX12_write_65 ?_
  refine ro_l (va_runS (As := [.long p2, .int (m_width_c p0.toNatClampNeg)]) (rest := [.int y58, .ref (m_a 3)]) ⟨hx, hb, hml, hown, hts⟩ (q_X12_cut l g cI cJ cB cZ cL p2 (m_width_c p0.toNatClampNeg) H.size ) (va_cwS 2 hts (goodIn_app (g_3 (List.mem_cons_of_mem _ (List.mem_append_left _ (List.mem_of_getElem? (i := 9) rfl))) (List.mem_cons_of_mem _ (List.mem_append_left _ (List.mem_of_getElem? (i := 10) rfl))) (List.mem_cons_of_mem _ (List.mem_append_left _ (List.mem_of_getElem? (i := 3) rfl))) (by decide +kernel)) (goodIn_sub (fun _ h => List.mem_cons_of_mem _ (List.mem_append_right _ (List.mem_append_right _ (List.mem_append_right _ (List.mem_append_left _ h))))) good_v_X12_cut)) rfl rfl rfl (by decide +kernel) ⟨Nat.le_of_ble_eq_true rfl, Nat.le_of_ble_eq_true rfl⟩) (ps_RO (wc := []) hK hP [] rfl) rfl rfl hl.1 rfl (lv_room (Nat.le_of_ble_eq_true rfl)) dX12_write_66 ⟨Nat.le_of_ble_eq_true rfl, Nat.le_of_ble_eq_true rfl⟩) hS hA hP (fun r66 u66 H locs hw66 hP hS => ?_)
  refine va_last (D := g) hx hb hK hP hD hS 3 1 rfl rfl (vi_rg rfl r58 (by decide) (by decide)) dX12_write_69 (fun H locs hP hD hS => ?_)
  obtain ⟨g69, e69⟩ : ∃ z, z = vp_updL m_cells_c y58.toNatClampNeg r66 := ⟨_, rfl⟩
  have hP : va_P g vwCl [(m, .inr (11, mG m_a 0 m_taped m_at m_token m_place m_value m_word m_bad m_badPlace m_fault m_faultPlace m_willing m_will m_forgot m_isDrawn m_x m_begin m_round m_roundCards m_fate m_any m_bothSend m_meanCards m_bestSum m_fitMany m_fitFirst m_fitSecond)), ((m_a 1), .inl (cI, 4, .inl m_width_c)), ((m_a 2), .inl (cI, 4, .inl m_many_c)), ((m_a 3), .inl (cJ, 240, .inr (.inl (vp_updL m_cells_c y58.toNatClampNeg r66))))] H := hP
  have hD : va_D A [(m, .inr (11, mG m_a 0 m_taped m_at m_token m_place m_value m_word m_bad m_badPlace m_fault m_faultPlace m_willing m_will m_forgot m_isDrawn m_x m_begin m_round m_roundCards m_fate m_any m_bothSend m_meanCards m_bestSum m_fitMany m_fitFirst m_fitSecond)), ((m_a 1), .inl (cI, 4, .inl m_width_c)), ((m_a 2), .inl (cI, 4, .inl m_many_c)), ((m_a 3), .inl (cJ, 240, .inr (.inl (vp_updL m_cells_c y58.toNatClampNeg r66))))] := hD
  rw [← e69] at hP hD
  refine lv_iconst (v := 0) hx hb dX12_write_70 (by decide) ?_
  subst hQ
  have hP9 := hP.sub (ws' := [(m, .inr (11, mG m_a 0 m_taped m_at m_token m_place m_value m_word m_bad m_badPlace m_fault m_faultPlace m_willing m_will m_forgot m_isDrawn m_x m_begin m_round m_roundCards m_fate m_any m_bothSend m_meanCards m_bestSum m_fitMany m_fitFirst m_fitSecond)), ((m_a 1), .inl (cI, 4, .inl m_width_c)), ((m_a 2), .inl (cI, 4, .inl m_many_c)), ((m_a 3), .inl (cJ, 240, .inr (.inl g69)))]) [0, 1, 2, 3] rfl
  have hD9 := hD.sub (ws' := [(m, .inr (11, mG m_a 0 m_taped m_at m_token m_place m_value m_word m_bad m_badPlace m_fault m_faultPlace m_willing m_will m_forgot m_isDrawn m_x m_begin m_round m_roundCards m_fate m_any m_bothSend m_meanCards m_bestSum m_fitMany m_fitFirst m_fitSecond)), ((m_a 1), .inl (cI, 4, .inl m_width_c)), ((m_a 2), .inl (cI, 4, .inl m_many_c)), ((m_a 3), .inl (cJ, 240, .inr (.inl g69)))]) [0, 1, 2, 3] (by decide) rfl
  exact W.iret (v := 0) hx hb hr (fun t ht hW => ⟨⟨0, (0, g69), rfl, ⟨(show ir (0 : Int32).toInt 0 0 by decide), (by unfold wrG; first | (rw [if_neg (by omega)]; done) | (rw [if_pos (by omega), if_pos (by omega)]; done) | (rw [if_pos (by omega), if_neg (by omega), if_pos (by omega)]; done) | (rw [if_pos (by omega), if_neg (by omega), if_neg (by omega)]; done)), (show ir (0 : Int32).toInt (-7) 0 by decide)⟩, ⟨by rw [ht]; exact hP9, va_K.moved hW.alike hK, hD9⟩⟩, hS.F ht⟩) hS.2.2 dX12_write_71
def v_X12_pasteF : List Cond := .code yX12_paste cX12_paste 7 (some .int) :: (([.fieldLink RX12 107 "CardsAtYuleModel" "thrown" "I", .methodLink RX12 116 yX12_isSlot, .static yX12_isSlot, .initialized RX12, .fieldLink RX12 7 "CardsAtYuleModel" "width" "[I", .fieldLink RX12 13 "CardsAtYuleModel" "many" "[I", .fieldLink RX12 16 "CardsAtYuleModel" "cells" "[J", .fieldLink RX12 20 "CardsAtYuleModel" "moved" "[J"] : List Cond) ++ (v_X12_isSlotN ++ (wsX120 ++ ([] : List Cond))))
theorem good_v_X12_pasteF : v_X12_pasteF.all goodWord = true := ga_c (by decide +kernel) (ga_a (by decide +kernel) (ga_a good_v_X12_isSlotN (ga_a good_wsX120 rfl)))
set_option maxHeartbeats 4000000 in
set_option maxRecDepth 100000 in
theorem q_X12_pasteF (l : Launch) (g : va_G) (cI cJ cB cZ cL : ClassId) (p0 : Int32) (p1 : Int32) (p2 : Int32) (p3 : Int32) (p4 : Int32) (m : Nat) (m_a : Nat → Nat) (m_thrown : Int32) (m_taped : Int32) (m_at : Int32) (m_token : Int32) (m_place : Int32) (m_value : Int32) (m_word : Int64) (m_bad : Int32) (m_badPlace : Int32) (m_fault : Int32) (m_faultPlace : Int32) (m_willing : Int32) (m_will : Int32) (m_forgot : Int32) (m_isDrawn : Int32) (m_x : Int64) (m_begin : Int32) (m_round : Int32) (m_roundCards : Int32) (m_fate : Int32) (m_any : Int64) (m_bothSend : Int64) (m_meanCards : Int64) (m_bestSum : Int32) (m_fitMany : Int32) (m_fitFirst : Int64) (m_fitSecond : Int64) (m_width_c : Nat → Int32) (m_many_c : Nat → Int32) (m_cells_c : Nat → Int64) (m_moved_c : Nat → Int64) (sz : Nat) (hv_m_taped : ir m_taped.toInt 0 1600) (hv_m_at : ir m_at.toInt 0 1600) (hv_m_will : ir m_will.toInt 0 1) (hv_m_isDrawn : ir m_isDrawn.toInt 0 1) (ha_m_many_c : ar m_many_c 4 0 60) : Met l yX12_paste v_X12_pasteF ({ frames := 2, cells := 0, slots := 0, locals := 45 }) (va_Pc [.ref m, .int p0, .int p1, .int p2, .int p3, .int p4] (pRW g (tyT cI cJ cB cZ cL) [(m, .inr (11, mG m_a m_thrown m_taped m_at m_token m_place m_value m_word m_bad m_badPlace m_fault m_faultPlace m_willing m_will m_forgot m_isDrawn m_x m_begin m_round m_roundCards m_fate m_any m_bothSend m_meanCards m_bestSum m_fitMany m_fitFirst m_fitSecond)), ((m_a 1), .inl (cI, 4, .inl m_width_c)), ((m_a 2), .inl (cI, 4, .inl m_many_c)), ((m_a 3), .inl (cJ, 240, .inr (.inl m_cells_c))), ((m_a 4), .inl (cJ, 60, .inr (.inl m_moved_c)))] sz)) (va_Qi (fun (r : Int32) (u : Int32 × (Nat → Int64) × (Nat → Int64)) => match u with | (n_m_thrown, n_m_cells_c, n_m_moved_c) => (ir n_m_thrown.toInt 0 0) ∧ (r = paG p0.toInt p2.toInt p1.toInt p3.toInt p4.toInt (m_width_c p0.toNatClampNeg).toInt (m_width_c p2.toNatClampNeg).toInt (m_many_c p0.toNatClampNeg).toInt (m_many_c p2.toNatClampNeg).toInt (m_width_c p0.toNatClampNeg).toInt (m_width_c p2.toNatClampNeg).toInt) ∧ (ir r.toInt (-8) 0)) (fun (u : Int32 × (Nat → Int64) × (Nat → Int64)) (t : State) => bRW g (tyT cI cJ cB cZ cL) (va_A [(m, .inr (11, mG m_a m_thrown m_taped m_at m_token m_place m_value m_word m_bad m_badPlace m_fault m_faultPlace m_willing m_will m_forgot m_isDrawn m_x m_begin m_round m_roundCards m_fate m_any m_bothSend m_meanCards m_bestSum m_fitMany m_fitFirst m_fitSecond)), ((m_a 1), .inl (cI, 4, .inl m_width_c)), ((m_a 2), .inl (cI, 4, .inl m_many_c)), ((m_a 3), .inl (cJ, 240, .inr (.inl m_cells_c))), ((m_a 4), .inl (cJ, 60, .inr (.inl m_moved_c)))] sz) (match u with | (n_m_thrown, n_m_cells_c, n_m_moved_c) => [(m, .inr (11, mG m_a n_m_thrown m_taped m_at m_token m_place m_value m_word m_bad m_badPlace m_fault m_faultPlace m_willing m_will m_forgot m_isDrawn m_x m_begin m_round m_roundCards m_fate m_any m_bothSend m_meanCards m_bestSum m_fitMany m_fitFirst m_fitSecond)), ((m_a 1), .inl (cI, 4, .inl m_width_c)), ((m_a 2), .inl (cI, 4, .inl m_many_c)), ((m_a 3), .inl (cJ, 240, .inr (.inl n_m_cells_c))), ((m_a 4), .inl (cJ, 60, .inr (.inl n_m_moved_c)))]) t) (va_A [(m, .inr (11, mG m_a m_thrown m_taped m_at m_token m_place m_value m_word m_bad m_badPlace m_fault m_faultPlace m_willing m_will m_forgot m_isDrawn m_x m_begin m_round m_roundCards m_fate m_any m_bothSend m_meanCards m_bestSum m_fitMany m_fitFirst m_fitSecond)), ((m_a 1), .inl (cI, 4, .inl m_width_c)), ((m_a 2), .inl (cI, 4, .inl m_many_c)), ((m_a 3), .inl (cJ, 240, .inr (.inl m_cells_c))), ((m_a 4), .inl (cJ, 60, .inr (.inl m_moved_c)))] sz)) 0 0 (va_A [(m, .inr (11, mG m_a m_thrown m_taped m_at m_token m_place m_value m_word m_bad m_badPlace m_fault m_faultPlace m_willing m_will m_forgot m_isDrawn m_x m_begin m_round m_roundCards m_fate m_any m_bothSend m_meanCards m_bestSum m_fitMany m_fitFirst m_fitSecond)), ((m_a 1), .inl (cI, 4, .inl m_width_c)), ((m_a 2), .inl (cI, 4, .inl m_many_c)), ((m_a 3), .inl (cJ, 240, .inr (.inl m_cells_c))), ((m_a 4), .inl (cJ, 60, .inr (.inl m_moved_c)))] sz) := by
  refine Met.ofW (cc := cX12_paste) (maxL := 7) (ret := (some .int)) (by decide) rfl ?_
  intro p e s mth args below meth c s₁ B hml hv
  obtain ⟨rfl, hsz, hP, hK, hD0⟩ := hv
  have hx := B.exec
  have hb := B.bytes
  have hr := B.returns
  have hts := atoms_spec (ws := v_X12_pasteF) B.pre
  have hown : s.vm.findClass RX12 = some mth.cls := findClass_of_methodNamed B.named
  have hlocks := B.notSynchronized
  clear B
  subst hsz
  have iX12 : ∀ w ∈ wsX120, w ∈ v_X12_pasteF := (fun _ h => List.mem_cons_of_mem _ (List.mem_append_right _ (List.mem_append_right _ (List.mem_append_left _ h))))
  have hD := hD0.self (sz := s.heap.size)
  generalize hAe : (va_A [(m, .inr (11, mG m_a m_thrown m_taped m_at m_token m_place m_value m_word m_bad m_badPlace m_fault m_faultPlace m_willing m_will m_forgot m_isDrawn m_x m_begin m_round m_roundCards m_fate m_any m_bothSend m_meanCards m_bestSum m_fitMany m_fitFirst m_fitSecond)), ((m_a 1), .inl (cI, 4, .inl m_width_c)), ((m_a 2), .inl (cI, 4, .inl m_many_c)), ((m_a 3), .inl (cJ, 240, .inr (.inl m_cells_c))), ((m_a 4), .inl (cJ, 60, .inr (.inl m_moved_c)))] s.heap.size) = A at hD ⊢
  have hA : ∀ q : Nat, s.heap.size ≤ q → A q := fun q h => by rw [← hAe]; exact Or.inr h
  have hS : va_S A s.heap s.heap [] := va_S.rf
  have hl := lv_entry ([.ref m, .int p0, .int p1, .int p2, .int p3, .int p4]) (n := 7) (Nat.le_of_ble_eq_true rfl)
  rw [lg_entry_eq]
  generalize (lg_sl ([.ref m, .int p0, .int p1, .int p2, .int p3, .int p4]) ++ List.replicate (7 - (lg_sl ([.ref m, .int p0, .int p1, .int p2, .int p3, .int p4])).length) Slot.unset).toArray = ls at hl ⊢
  generalize ([.ref m, .int p0, .int p1, .int p2, .int p3, .int p4] : List Value).toArray = av at hts ⊢
  generalize hQ : MQ below _ av s _ _ A = QQ
  have hl : lv_has ls 7 [(0, .ref m), (1, .int p0), (2, .int p1), (3, .int p2), (4, .int p3), (5, .int p4)] := hl
  have hP : va_P g vwCl [(m, .inr (11, mG m_a m_thrown m_taped m_at m_token m_place m_value m_word m_bad m_badPlace m_fault m_faultPlace m_willing m_will m_forgot m_isDrawn m_x m_begin m_round m_roundCards m_fate m_any m_bothSend m_meanCards m_bestSum m_fitMany m_fitFirst m_fitSecond)), ((m_a 1), .inl (cI, 4, .inl m_width_c)), ((m_a 2), .inl (cI, 4, .inl m_many_c)), ((m_a 3), .inl (cJ, 240, .inr (.inl m_cells_c))), ((m_a 4), .inl (cJ, 60, .inr (.inl m_moved_c)))] s.heap := hP
  refine lv_aload_n hx hb dX12_paste_0 rfl (lv_at hl 0 rfl) ?_
  refine lv_iconst (v := 0) hx hb dX12_paste_1 (by decide) ?_
  refine va_put (D := g) (ci := 11) (v := .int 0) (ty := .int) (C := RX12) (T := TX12) (N := 56) hx hb hts iX12 tyX12 tyX12_ok nmX12 hown hK hP hD hS 0 rfl rfl 0 (by decide) (hts (.fieldLink RX12 107 "CardsAtYuleModel" "thrown" "I") (List.mem_cons_of_mem _ (List.mem_append_left _ (List.mem_of_getElem? (i := 0) rfl)))) (fun _ h9 => h9) rfl (by decide +kernel) rfl rfl (Nat.le_of_ble_eq_true rfl) dX12_paste_2 (fun H locs hP hD hS => ?_)
  have hP : va_P g vwCl [(m, .inr (11, mG m_a 0 m_taped m_at m_token m_place m_value m_word m_bad m_badPlace m_fault m_faultPlace m_willing m_will m_forgot m_isDrawn m_x m_begin m_round m_roundCards m_fate m_any m_bothSend m_meanCards m_bestSum m_fitMany m_fitFirst m_fitSecond)), ((m_a 1), .inl (cI, 4, .inl m_width_c)), ((m_a 2), .inl (cI, 4, .inl m_many_c)), ((m_a 3), .inl (cJ, 240, .inr (.inl m_cells_c))), ((m_a 4), .inl (cJ, 60, .inr (.inl m_moved_c)))] H := hP
  have hD : va_D A [(m, .inr (11, mG m_a 0 m_taped m_at m_token m_place m_value m_word m_bad m_badPlace m_fault m_faultPlace m_willing m_will m_forgot m_isDrawn m_x m_begin m_round m_roundCards m_fate m_any m_bothSend m_meanCards m_bestSum m_fitMany m_fitFirst m_fitSecond)), ((m_a 1), .inl (cI, 4, .inl m_width_c)), ((m_a 2), .inl (cI, 4, .inl m_many_c)), ((m_a 3), .inl (cJ, 240, .inr (.inl m_cells_c))), ((m_a 4), .inl (cJ, 60, .inr (.inl m_moved_c)))] := hD
  refine lv_iload_n hx hb dX12_paste_5 rfl (lv_at hl 1 rfl) ?_
  refine ro_i (va_runS (As := [.int p0]) (rest := []) ⟨hx, hb, hml, hown, hts⟩ (q_X12_isSlotN l g cI cJ cB cZ cL p0 H.size ) (va_cwS 1 hts (goodIn_app (g_3 (List.mem_cons_of_mem _ (List.mem_append_left _ (List.mem_of_getElem? (i := 1) rfl))) (List.mem_cons_of_mem _ (List.mem_append_left _ (List.mem_of_getElem? (i := 2) rfl))) (List.mem_cons_of_mem _ (List.mem_append_left _ (List.mem_of_getElem? (i := 3) rfl))) (by decide +kernel)) (goodIn_sub (fun _ h => List.mem_cons_of_mem _ (List.mem_append_right _ (List.mem_append_left _ h))) good_v_X12_isSlotN)) rfl rfl rfl (by decide +kernel) ⟨Nat.le_of_ble_eq_true rfl, Nat.le_of_ble_eq_true rfl⟩) (ps_RO (wc := []) hK hP [] rfl) rfl rfl hl.1 rfl (lv_room (Nat.le_of_ble_eq_true rfl)) dX12_paste_6 ⟨Nat.le_of_ble_eq_true rfl, Nat.le_of_ble_eq_true rfl⟩) hS hA hP (fun r6 u6 H locs hw6 hP hS => ?_)
  have hw6_0 := hw6
  rcases hw6_0 with ⟨er6, fc6_0, fc6_1⟩ | ⟨er6, fc6_0⟩
  rotate_left 1
  · subst er6
    have fc6_0 : ¬ (0 ≤ p0.toInt ∧ p0.toInt ≤ 3) := fc6_0
    refine lv_if_eq (tgt := 19) hx hb dX12_paste_9 (by decide) (fun _ => ?_) (fun c => absurd c (by decide))
    refine lv_bipush (v := (-2)) hx hb dX12_paste_19 (by decide) ?_
    subst hQ
    have hP9 := hP.sub (ws' := [(m, .inr (11, mG m_a 0 m_taped m_at m_token m_place m_value m_word m_bad m_badPlace m_fault m_faultPlace m_willing m_will m_forgot m_isDrawn m_x m_begin m_round m_roundCards m_fate m_any m_bothSend m_meanCards m_bestSum m_fitMany m_fitFirst m_fitSecond)), ((m_a 1), .inl (cI, 4, .inl m_width_c)), ((m_a 2), .inl (cI, 4, .inl m_many_c)), ((m_a 3), .inl (cJ, 240, .inr (.inl m_cells_c))), ((m_a 4), .inl (cJ, 60, .inr (.inl m_moved_c)))]) [0, 1, 2, 3, 4] rfl
    have hD9 := hD.sub (ws' := [(m, .inr (11, mG m_a 0 m_taped m_at m_token m_place m_value m_word m_bad m_badPlace m_fault m_faultPlace m_willing m_will m_forgot m_isDrawn m_x m_begin m_round m_roundCards m_fate m_any m_bothSend m_meanCards m_bestSum m_fitMany m_fitFirst m_fitSecond)), ((m_a 1), .inl (cI, 4, .inl m_width_c)), ((m_a 2), .inl (cI, 4, .inl m_many_c)), ((m_a 3), .inl (cJ, 240, .inr (.inl m_cells_c))), ((m_a 4), .inl (cJ, 60, .inr (.inl m_moved_c)))]) [0, 1, 2, 3, 4] (by decide) rfl
    exact W.iret (v := (-2)) hx hb hr (fun t ht hW => ⟨⟨(-2), (0, m_cells_c, m_moved_c), rfl, ⟨(show ir (0 : Int32).toInt 0 0 by decide), (by unfold paG; first | (rw [if_neg (by omega)]; done) | (rw [if_pos (by omega), if_pos (by omega)]; done) | (rw [if_pos (by omega), if_neg (by omega), if_neg (by omega)]; done) | (rw [if_pos (by omega), if_neg (by omega), if_pos (by omega), if_pos (by omega)]; done) | (rw [if_pos (by omega), if_neg (by omega), if_pos (by omega), if_neg (by omega)]; done)), (show ir ((-2) : Int32).toInt (-8) 0 by decide)⟩, ⟨by rw [ht]; exact hP9, va_K.moved hW.alike hK, hD9⟩⟩, hS.F ht⟩) hS.2.2 dX12_paste_21
  subst er6
  have fc6_0 : 0 ≤ p0.toInt := fc6_0
  have r6_0b : ir p0.toInt 0 2147483647 := ir_leb fc6_0 (ir_c 0) (rg_all p0) (by decide)
  have fc6_1 : p0.toInt ≤ 3 := fc6_1
  have r6_1a : ir p0.toInt 0 3 := ir_lea fc6_1 r6_0b (ir_c 3) (by decide)
  refine lv_if_eq (tgt := 19) hx hb dX12_paste_9 (by decide) (fun c => absurd c (by decide)) (fun _ => ?_)
  refine lv_iload_n hx hb dX12_paste_12 rfl (lv_at hl 3 rfl) ?_
  refine ro_i (va_runS (As := [.int p2]) (rest := []) ⟨hx, hb, hml, hown, hts⟩ (q_X12_isSlotN l g cI cJ cB cZ cL p2 H.size ) (va_cwS 1 hts (goodIn_app (g_3 (List.mem_cons_of_mem _ (List.mem_append_left _ (List.mem_of_getElem? (i := 1) rfl))) (List.mem_cons_of_mem _ (List.mem_append_left _ (List.mem_of_getElem? (i := 2) rfl))) (List.mem_cons_of_mem _ (List.mem_append_left _ (List.mem_of_getElem? (i := 3) rfl))) (by decide +kernel)) (goodIn_sub (fun _ h => List.mem_cons_of_mem _ (List.mem_append_right _ (List.mem_append_left _ h))) good_v_X12_isSlotN)) rfl rfl rfl (by decide +kernel) ⟨Nat.le_of_ble_eq_true rfl, Nat.le_of_ble_eq_true rfl⟩) (ps_RO (wc := []) hK hP [] rfl) rfl rfl hl.1 rfl (lv_room (Nat.le_of_ble_eq_true rfl)) dX12_paste_13 ⟨Nat.le_of_ble_eq_true rfl, Nat.le_of_ble_eq_true rfl⟩) hS hA hP (fun r13 u13 H locs hw13 hP hS => ?_)
  have hw13_0 := hw13
  rcases hw13_0 with ⟨er13, fc13_0, fc13_1⟩ | ⟨er13, fc13_0⟩
  rotate_left 1
  · subst er13
    have fc13_0 : ¬ (0 ≤ p2.toInt ∧ p2.toInt ≤ 3) := fc13_0
    refine lv_if_ne (tgt := 22) hx hb dX12_paste_16 (by decide) (fun c => absurd c (by decide)) (fun _ => ?_)
    refine lv_bipush (v := (-2)) hx hb dX12_paste_19 (by decide) ?_
    subst hQ
    have hP9 := hP.sub (ws' := [(m, .inr (11, mG m_a 0 m_taped m_at m_token m_place m_value m_word m_bad m_badPlace m_fault m_faultPlace m_willing m_will m_forgot m_isDrawn m_x m_begin m_round m_roundCards m_fate m_any m_bothSend m_meanCards m_bestSum m_fitMany m_fitFirst m_fitSecond)), ((m_a 1), .inl (cI, 4, .inl m_width_c)), ((m_a 2), .inl (cI, 4, .inl m_many_c)), ((m_a 3), .inl (cJ, 240, .inr (.inl m_cells_c))), ((m_a 4), .inl (cJ, 60, .inr (.inl m_moved_c)))]) [0, 1, 2, 3, 4] rfl
    have hD9 := hD.sub (ws' := [(m, .inr (11, mG m_a 0 m_taped m_at m_token m_place m_value m_word m_bad m_badPlace m_fault m_faultPlace m_willing m_will m_forgot m_isDrawn m_x m_begin m_round m_roundCards m_fate m_any m_bothSend m_meanCards m_bestSum m_fitMany m_fitFirst m_fitSecond)), ((m_a 1), .inl (cI, 4, .inl m_width_c)), ((m_a 2), .inl (cI, 4, .inl m_many_c)), ((m_a 3), .inl (cJ, 240, .inr (.inl m_cells_c))), ((m_a 4), .inl (cJ, 60, .inr (.inl m_moved_c)))]) [0, 1, 2, 3, 4] (by decide) rfl
    exact W.iret (v := (-2)) hx hb hr (fun t ht hW => ⟨⟨(-2), (0, m_cells_c, m_moved_c), rfl, ⟨(show ir (0 : Int32).toInt 0 0 by decide), (by unfold paG; first | (rw [if_neg (by omega)]; done) | (rw [if_pos (by omega), if_pos (by omega)]; done) | (rw [if_pos (by omega), if_neg (by omega), if_neg (by omega)]; done) | (rw [if_pos (by omega), if_neg (by omega), if_pos (by omega), if_pos (by omega)]; done) | (rw [if_pos (by omega), if_neg (by omega), if_pos (by omega), if_neg (by omega)]; done)), (show ir ((-2) : Int32).toInt (-8) 0 by decide)⟩, ⟨by rw [ht]; exact hP9, va_K.moved hW.alike hK, hD9⟩⟩, hS.F ht⟩) hS.2.2 dX12_paste_21
  subst er13
  have fc13_0 : 0 ≤ p2.toInt := fc13_0
  have r13_0b : ir p2.toInt 0 2147483647 := ir_leb fc13_0 (ir_c 0) (rg_all p2) (by decide)
  have fc13_1 : p2.toInt ≤ 3 := fc13_1
  have r13_1a : ir p2.toInt 0 3 := ir_lea fc13_1 r13_0b (ir_c 3) (by decide)
  refine lv_if_ne (tgt := 22) hx hb dX12_paste_16 (by decide) (fun _ => ?_) (fun c => absurd c (by decide))
  refine lv_aload_n hx hb dX12_paste_22 rfl (lv_at hl 0 rfl) ?_
  refine va_get (D := g) (ci := 11) (v := .ref (m_a 1)) (C := RX12) (T := TX12) (N := 56) hx hb hts iX12 hown hK hP 0 rfl rfl 1 (by decide) (hts (.fieldLink RX12 7 "CardsAtYuleModel" "width" "[I") (List.mem_cons_of_mem _ (List.mem_append_left _ (List.mem_of_getElem? (i := 4) rfl)))) (fun _ h9 => h9) rfl dX12_paste_23 ?_
  refine lv_iload_n hx hb dX12_paste_26 rfl (lv_at hl 1 rfl) ?_
  refine va_iald (D := g) hx hb hK hP 1 0 rfl rfl (vi_rg rfl r6_1a (by decide) (by decide)) dX12_paste_27 ?_
  refine lv_iconst (v := (-1)) hx hb dX12_paste_28 (by decide) ?_
  refine lv_icmp_eq (tgt := 42) hx hb dX12_paste_29 (by decide) (fun c29 => ?_) (fun c29 => ?_)
  · have f29 := (show (m_width_c p0.toNatClampNeg).toInt = (-1) from z_eq rfl rfl c29)
    have r29a : ir (m_width_c p0.toNatClampNeg).toInt (-1) (-1) := ir_eqa f29 (rg_all (m_width_c p0.toNatClampNeg)) (ir_c (-1)) (by decide) (by decide)
    refine lv_bipush (v := (-6)) hx hb dX12_paste_42 (by decide) ?_
    subst hQ
    have hP9 := hP.sub (ws' := [(m, .inr (11, mG m_a 0 m_taped m_at m_token m_place m_value m_word m_bad m_badPlace m_fault m_faultPlace m_willing m_will m_forgot m_isDrawn m_x m_begin m_round m_roundCards m_fate m_any m_bothSend m_meanCards m_bestSum m_fitMany m_fitFirst m_fitSecond)), ((m_a 1), .inl (cI, 4, .inl m_width_c)), ((m_a 2), .inl (cI, 4, .inl m_many_c)), ((m_a 3), .inl (cJ, 240, .inr (.inl m_cells_c))), ((m_a 4), .inl (cJ, 60, .inr (.inl m_moved_c)))]) [0, 1, 2, 3, 4] rfl
    have hD9 := hD.sub (ws' := [(m, .inr (11, mG m_a 0 m_taped m_at m_token m_place m_value m_word m_bad m_badPlace m_fault m_faultPlace m_willing m_will m_forgot m_isDrawn m_x m_begin m_round m_roundCards m_fate m_any m_bothSend m_meanCards m_bestSum m_fitMany m_fitFirst m_fitSecond)), ((m_a 1), .inl (cI, 4, .inl m_width_c)), ((m_a 2), .inl (cI, 4, .inl m_many_c)), ((m_a 3), .inl (cJ, 240, .inr (.inl m_cells_c))), ((m_a 4), .inl (cJ, 60, .inr (.inl m_moved_c)))]) [0, 1, 2, 3, 4] (by decide) rfl
    exact W.iret (v := (-6)) hx hb hr (fun t ht hW => ⟨⟨(-6), (0, m_cells_c, m_moved_c), rfl, ⟨(show ir (0 : Int32).toInt 0 0 by decide), (by unfold paG; first | (rw [if_neg (by omega)]; done) | (rw [if_pos (by omega), if_pos (by omega)]; done) | (rw [if_pos (by omega), if_neg (by omega), if_neg (by omega)]; done) | (rw [if_pos (by omega), if_neg (by omega), if_pos (by omega), if_pos (by omega)]; done) | (rw [if_pos (by omega), if_neg (by omega), if_pos (by omega), if_neg (by omega)]; done)), (show ir ((-6) : Int32).toInt (-8) 0 by decide)⟩, ⟨by rw [ht]; exact hP9, va_K.moved hW.alike hK, hD9⟩⟩, hS.F ht⟩) hS.2.2 dX12_paste_44
  have f29 := (show (m_width_c p0.toNatClampNeg).toInt ≠ (-1) from z_ne rfl rfl c29)
  refine lv_aload_n hx hb dX12_paste_32 rfl (lv_at hl 0 rfl) ?_
  refine va_get (D := g) (ci := 11) (v := .ref (m_a 1)) (C := RX12) (T := TX12) (N := 56) hx hb hts iX12 hown hK hP 0 rfl rfl 1 (by decide) (hts (.fieldLink RX12 7 "CardsAtYuleModel" "width" "[I") (List.mem_cons_of_mem _ (List.mem_append_left _ (List.mem_of_getElem? (i := 4) rfl)))) (fun _ h9 => h9) rfl dX12_paste_33 ?_
  refine lv_iload_n hx hb dX12_paste_36 rfl (lv_at hl 3 rfl) ?_
  refine va_iald (D := g) hx hb hK hP 1 0 rfl rfl (vi_rg rfl r13_1a (by decide) (by decide)) dX12_paste_37 ?_
  refine lv_iconst (v := (-1)) hx hb dX12_paste_38 (by decide) ?_
  refine lv_icmp_ne (tgt := 45) hx hb dX12_paste_39 (by decide) (fun c39 => ?_) (fun c39 => ?_)
  rotate_left 1
  · have f39 := (show (m_width_c p2.toNatClampNeg).toInt = (-1) from z_eq rfl rfl c39)
    have r39a : ir (m_width_c p2.toNatClampNeg).toInt (-1) (-1) := ir_eqa f39 (rg_all (m_width_c p2.toNatClampNeg)) (ir_c (-1)) (by decide) (by decide)
    refine lv_bipush (v := (-6)) hx hb dX12_paste_42 (by decide) ?_
    subst hQ
    have hP9 := hP.sub (ws' := [(m, .inr (11, mG m_a 0 m_taped m_at m_token m_place m_value m_word m_bad m_badPlace m_fault m_faultPlace m_willing m_will m_forgot m_isDrawn m_x m_begin m_round m_roundCards m_fate m_any m_bothSend m_meanCards m_bestSum m_fitMany m_fitFirst m_fitSecond)), ((m_a 1), .inl (cI, 4, .inl m_width_c)), ((m_a 2), .inl (cI, 4, .inl m_many_c)), ((m_a 3), .inl (cJ, 240, .inr (.inl m_cells_c))), ((m_a 4), .inl (cJ, 60, .inr (.inl m_moved_c)))]) [0, 1, 2, 3, 4] rfl
    have hD9 := hD.sub (ws' := [(m, .inr (11, mG m_a 0 m_taped m_at m_token m_place m_value m_word m_bad m_badPlace m_fault m_faultPlace m_willing m_will m_forgot m_isDrawn m_x m_begin m_round m_roundCards m_fate m_any m_bothSend m_meanCards m_bestSum m_fitMany m_fitFirst m_fitSecond)), ((m_a 1), .inl (cI, 4, .inl m_width_c)), ((m_a 2), .inl (cI, 4, .inl m_many_c)), ((m_a 3), .inl (cJ, 240, .inr (.inl m_cells_c))), ((m_a 4), .inl (cJ, 60, .inr (.inl m_moved_c)))]) [0, 1, 2, 3, 4] (by decide) rfl
    exact W.iret (v := (-6)) hx hb hr (fun t ht hW => ⟨⟨(-6), (0, m_cells_c, m_moved_c), rfl, ⟨(show ir (0 : Int32).toInt 0 0 by decide), (by unfold paG; first | (rw [if_neg (by omega)]; done) | (rw [if_pos (by omega), if_pos (by omega)]; done) | (rw [if_pos (by omega), if_neg (by omega), if_neg (by omega)]; done) | (rw [if_pos (by omega), if_neg (by omega), if_pos (by omega), if_pos (by omega)]; done) | (rw [if_pos (by omega), if_neg (by omega), if_pos (by omega), if_neg (by omega)]; done)), (show ir ((-6) : Int32).toInt (-8) 0 by decide)⟩, ⟨by rw [ht]; exact hP9, va_K.moved hW.alike hK, hD9⟩⟩, hS.F ht⟩) hS.2.2 dX12_paste_44
  have f39 := (show (m_width_c p2.toNatClampNeg).toInt ≠ (-1) from z_ne rfl rfl c39)
  refine lv_aload_n hx hb dX12_paste_45 rfl (lv_at hl 0 rfl) ?_
  refine va_get (D := g) (ci := 11) (v := .ref (m_a 1)) (C := RX12) (T := TX12) (N := 56) hx hb hts iX12 hown hK hP 0 rfl rfl 1 (by decide) (hts (.fieldLink RX12 7 "CardsAtYuleModel" "width" "[I") (List.mem_cons_of_mem _ (List.mem_append_left _ (List.mem_of_getElem? (i := 4) rfl)))) (fun _ h9 => h9) rfl dX12_paste_46 ?_
  refine lv_iload_n hx hb dX12_paste_49 rfl (lv_at hl 1 rfl) ?_
  refine va_iald (D := g) hx hb hK hP 1 0 rfl rfl (vi_rg rfl r6_1a (by decide) (by decide)) dX12_paste_50 ?_
  refine lv_aload_n hx hb dX12_paste_51 rfl (lv_at hl 0 rfl) ?_
  refine va_get (D := g) (ci := 11) (v := .ref (m_a 1)) (C := RX12) (T := TX12) (N := 56) hx hb hts iX12 hown hK hP 0 rfl rfl 1 (by decide) (hts (.fieldLink RX12 7 "CardsAtYuleModel" "width" "[I") (List.mem_cons_of_mem _ (List.mem_append_left _ (List.mem_of_getElem? (i := 4) rfl)))) (fun _ h9 => h9) rfl dX12_paste_52 ?_
  refine lv_iload_n hx hb dX12_paste_55 rfl (lv_at hl 3 rfl) ?_
  refine va_iald (D := g) hx hb hK hP 1 0 rfl rfl (vi_rg rfl r13_1a (by decide) (by decide)) dX12_paste_56 ?_
  refine lv_icmp_eq (tgt := 63) hx hb dX12_paste_57 (by decide) (fun c57 => ?_) (fun c57 => ?_)
  rotate_left 1
  · have f57 := (show (m_width_c p0.toNatClampNeg).toInt ≠ (m_width_c p2.toNatClampNeg).toInt from z_ne rfl rfl c57)
    refine lv_bipush (v := (-8)) hx hb dX12_paste_60 (by decide) ?_
    subst hQ
    have hP9 := hP.sub (ws' := [(m, .inr (11, mG m_a 0 m_taped m_at m_token m_place m_value m_word m_bad m_badPlace m_fault m_faultPlace m_willing m_will m_forgot m_isDrawn m_x m_begin m_round m_roundCards m_fate m_any m_bothSend m_meanCards m_bestSum m_fitMany m_fitFirst m_fitSecond)), ((m_a 1), .inl (cI, 4, .inl m_width_c)), ((m_a 2), .inl (cI, 4, .inl m_many_c)), ((m_a 3), .inl (cJ, 240, .inr (.inl m_cells_c))), ((m_a 4), .inl (cJ, 60, .inr (.inl m_moved_c)))]) [0, 1, 2, 3, 4] rfl
    have hD9 := hD.sub (ws' := [(m, .inr (11, mG m_a 0 m_taped m_at m_token m_place m_value m_word m_bad m_badPlace m_fault m_faultPlace m_willing m_will m_forgot m_isDrawn m_x m_begin m_round m_roundCards m_fate m_any m_bothSend m_meanCards m_bestSum m_fitMany m_fitFirst m_fitSecond)), ((m_a 1), .inl (cI, 4, .inl m_width_c)), ((m_a 2), .inl (cI, 4, .inl m_many_c)), ((m_a 3), .inl (cJ, 240, .inr (.inl m_cells_c))), ((m_a 4), .inl (cJ, 60, .inr (.inl m_moved_c)))]) [0, 1, 2, 3, 4] (by decide) rfl
    exact W.iret (v := (-8)) hx hb hr (fun t ht hW => ⟨⟨(-8), (0, m_cells_c, m_moved_c), rfl, ⟨(show ir (0 : Int32).toInt 0 0 by decide), (by unfold paG; first | (rw [if_neg (by omega)]; done) | (rw [if_pos (by omega), if_pos (by omega)]; done) | (rw [if_pos (by omega), if_neg (by omega), if_neg (by omega)]; done) | (rw [if_pos (by omega), if_neg (by omega), if_pos (by omega), if_pos (by omega)]; done) | (rw [if_pos (by omega), if_neg (by omega), if_pos (by omega), if_neg (by omega)]; done)), (show ir ((-8) : Int32).toInt (-8) 0 by decide)⟩, ⟨by rw [ht]; exact hP9, va_K.moved hW.alike hK, hD9⟩⟩, hS.F ht⟩) hS.2.2 dX12_paste_62
  have f57 := (show (m_width_c p0.toNatClampNeg).toInt = (m_width_c p2.toNatClampNeg).toInt from z_eq rfl rfl c57)
  refine lv_iload_n hx hb dX12_paste_63 rfl (lv_at hl 2 rfl) ?_
  refine lv_if_lt (tgt := 112) hx hb dX12_paste_64 (by decide) (fun c64 => ?_) (fun c64 => ?_)
  · have f64 := (show p1.toInt < 0 from z_lt rfl rfl c64)
    have r64a : ir p1.toInt (-2147483648) (-1) := ir_lta f64 (rg_all p1) (ir_c 0) (by decide)
    refine lv_bipush (v := (-7)) hx hb dX12_paste_112 (by decide) ?_
    subst hQ
    have hP9 := hP.sub (ws' := [(m, .inr (11, mG m_a 0 m_taped m_at m_token m_place m_value m_word m_bad m_badPlace m_fault m_faultPlace m_willing m_will m_forgot m_isDrawn m_x m_begin m_round m_roundCards m_fate m_any m_bothSend m_meanCards m_bestSum m_fitMany m_fitFirst m_fitSecond)), ((m_a 1), .inl (cI, 4, .inl m_width_c)), ((m_a 2), .inl (cI, 4, .inl m_many_c)), ((m_a 3), .inl (cJ, 240, .inr (.inl m_cells_c))), ((m_a 4), .inl (cJ, 60, .inr (.inl m_moved_c)))]) [0, 1, 2, 3, 4] rfl
    have hD9 := hD.sub (ws' := [(m, .inr (11, mG m_a 0 m_taped m_at m_token m_place m_value m_word m_bad m_badPlace m_fault m_faultPlace m_willing m_will m_forgot m_isDrawn m_x m_begin m_round m_roundCards m_fate m_any m_bothSend m_meanCards m_bestSum m_fitMany m_fitFirst m_fitSecond)), ((m_a 1), .inl (cI, 4, .inl m_width_c)), ((m_a 2), .inl (cI, 4, .inl m_many_c)), ((m_a 3), .inl (cJ, 240, .inr (.inl m_cells_c))), ((m_a 4), .inl (cJ, 60, .inr (.inl m_moved_c)))]) [0, 1, 2, 3, 4] (by decide) rfl
    exact W.iret (v := (-7)) hx hb hr (fun t ht hW => ⟨⟨(-7), (0, m_cells_c, m_moved_c), rfl, ⟨(show ir (0 : Int32).toInt 0 0 by decide), (by unfold paG; first | (rw [if_neg (by omega)]; done) | (rw [if_pos (by omega), if_pos (by omega)]; done) | (rw [if_pos (by omega), if_neg (by omega), if_neg (by omega)]; done) | (rw [if_pos (by omega), if_neg (by omega), if_pos (by omega), if_pos (by omega)]; done) | (rw [if_pos (by omega), if_neg (by omega), if_pos (by omega), if_neg (by omega)]; done)), (show ir ((-7) : Int32).toInt (-8) 0 by decide)⟩, ⟨by rw [ht]; exact hP9, va_K.moved hW.alike hK, hD9⟩⟩, hS.F ht⟩) hS.2.2 dX12_paste_114
  have f64 := (show 0 ≤ p1.toInt from z_nlt rfl rfl c64)
  have r64a : ir p1.toInt 0 2147483647 := ir_leb f64 (ir_c 0) (rg_all p1) (by decide)
  refine lv_iload hx hb dX12_paste_67 (lv_at hl 4 rfl) ?_
  refine lv_if_lt (tgt := 112) hx hb dX12_paste_69 (by decide) (fun c69 => ?_) (fun c69 => ?_)
  · have f69 := (show p3.toInt < 0 from z_lt rfl rfl c69)
    have r69a : ir p3.toInt (-2147483648) (-1) := ir_lta f69 (rg_all p3) (ir_c 0) (by decide)
    refine lv_bipush (v := (-7)) hx hb dX12_paste_112 (by decide) ?_
    subst hQ
    have hP9 := hP.sub (ws' := [(m, .inr (11, mG m_a 0 m_taped m_at m_token m_place m_value m_word m_bad m_badPlace m_fault m_faultPlace m_willing m_will m_forgot m_isDrawn m_x m_begin m_round m_roundCards m_fate m_any m_bothSend m_meanCards m_bestSum m_fitMany m_fitFirst m_fitSecond)), ((m_a 1), .inl (cI, 4, .inl m_width_c)), ((m_a 2), .inl (cI, 4, .inl m_many_c)), ((m_a 3), .inl (cJ, 240, .inr (.inl m_cells_c))), ((m_a 4), .inl (cJ, 60, .inr (.inl m_moved_c)))]) [0, 1, 2, 3, 4] rfl
    have hD9 := hD.sub (ws' := [(m, .inr (11, mG m_a 0 m_taped m_at m_token m_place m_value m_word m_bad m_badPlace m_fault m_faultPlace m_willing m_will m_forgot m_isDrawn m_x m_begin m_round m_roundCards m_fate m_any m_bothSend m_meanCards m_bestSum m_fitMany m_fitFirst m_fitSecond)), ((m_a 1), .inl (cI, 4, .inl m_width_c)), ((m_a 2), .inl (cI, 4, .inl m_many_c)), ((m_a 3), .inl (cJ, 240, .inr (.inl m_cells_c))), ((m_a 4), .inl (cJ, 60, .inr (.inl m_moved_c)))]) [0, 1, 2, 3, 4] (by decide) rfl
    exact W.iret (v := (-7)) hx hb hr (fun t ht hW => ⟨⟨(-7), (0, m_cells_c, m_moved_c), rfl, ⟨(show ir (0 : Int32).toInt 0 0 by decide), (by unfold paG; first | (rw [if_neg (by omega)]; done) | (rw [if_pos (by omega), if_pos (by omega)]; done) | (rw [if_pos (by omega), if_neg (by omega), if_neg (by omega)]; done) | (rw [if_pos (by omega), if_neg (by omega), if_pos (by omega), if_pos (by omega)]; done) | (rw [if_pos (by omega), if_neg (by omega), if_pos (by omega), if_neg (by omega)]; done)), (show ir ((-7) : Int32).toInt (-8) 0 by decide)⟩, ⟨by rw [ht]; exact hP9, va_K.moved hW.alike hK, hD9⟩⟩, hS.F ht⟩) hS.2.2 dX12_paste_114
  have f69 := (show 0 ≤ p3.toInt from z_nlt rfl rfl c69)
  have r69a : ir p3.toInt 0 2147483647 := ir_leb f69 (ir_c 0) (rg_all p3) (by decide)
  refine lv_iload hx hb dX12_paste_72 (lv_at hl 5 rfl) ?_
  refine lv_if_lt (tgt := 112) hx hb dX12_paste_74 (by decide) (fun c74 => ?_) (fun c74 => ?_)
  · have f74 := (show p4.toInt < 0 from z_lt rfl rfl c74)
    have r74a : ir p4.toInt (-2147483648) (-1) := ir_lta f74 (rg_all p4) (ir_c 0) (by decide)
    refine lv_bipush (v := (-7)) hx hb dX12_paste_112 (by decide) ?_
    subst hQ
    have hP9 := hP.sub (ws' := [(m, .inr (11, mG m_a 0 m_taped m_at m_token m_place m_value m_word m_bad m_badPlace m_fault m_faultPlace m_willing m_will m_forgot m_isDrawn m_x m_begin m_round m_roundCards m_fate m_any m_bothSend m_meanCards m_bestSum m_fitMany m_fitFirst m_fitSecond)), ((m_a 1), .inl (cI, 4, .inl m_width_c)), ((m_a 2), .inl (cI, 4, .inl m_many_c)), ((m_a 3), .inl (cJ, 240, .inr (.inl m_cells_c))), ((m_a 4), .inl (cJ, 60, .inr (.inl m_moved_c)))]) [0, 1, 2, 3, 4] rfl
    have hD9 := hD.sub (ws' := [(m, .inr (11, mG m_a 0 m_taped m_at m_token m_place m_value m_word m_bad m_badPlace m_fault m_faultPlace m_willing m_will m_forgot m_isDrawn m_x m_begin m_round m_roundCards m_fate m_any m_bothSend m_meanCards m_bestSum m_fitMany m_fitFirst m_fitSecond)), ((m_a 1), .inl (cI, 4, .inl m_width_c)), ((m_a 2), .inl (cI, 4, .inl m_many_c)), ((m_a 3), .inl (cJ, 240, .inr (.inl m_cells_c))), ((m_a 4), .inl (cJ, 60, .inr (.inl m_moved_c)))]) [0, 1, 2, 3, 4] (by decide) rfl
    exact W.iret (v := (-7)) hx hb hr (fun t ht hW => ⟨⟨(-7), (0, m_cells_c, m_moved_c), rfl, ⟨(show ir (0 : Int32).toInt 0 0 by decide), (by unfold paG; first | (rw [if_neg (by omega)]; done) | (rw [if_pos (by omega), if_pos (by omega)]; done) | (rw [if_pos (by omega), if_neg (by omega), if_neg (by omega)]; done) | (rw [if_pos (by omega), if_neg (by omega), if_pos (by omega), if_pos (by omega)]; done) | (rw [if_pos (by omega), if_neg (by omega), if_pos (by omega), if_neg (by omega)]; done)), (show ir ((-7) : Int32).toInt (-8) 0 by decide)⟩, ⟨by rw [ht]; exact hP9, va_K.moved hW.alike hK, hD9⟩⟩, hS.F ht⟩) hS.2.2 dX12_paste_114
  have f74 := (show 0 ≤ p4.toInt from z_nlt rfl rfl c74)
  have r74a : ir p4.toInt 0 2147483647 := ir_leb f74 (ir_c 0) (rg_all p4) (by decide)
  refine lv_iload_n hx hb dX12_paste_77 rfl (lv_at hl 2 rfl) ?_
  refine lv_i2l (v := p1.toInt64) hx hb dX12_paste_78 rfl ?_
  refine lv_iload hx hb dX12_paste_79 (lv_at hl 5 rfl) ?_
  refine lv_i2l (v := p4.toInt64) hx hb dX12_paste_81 rfl ?_
  refine lv_ladd hx hb dX12_paste_82 ?_
  refine lv_topl (fun y82 e82 => ?_)
  have q82 : y82.toInt = p1.toInt + p4.toInt := by rw [e82]; exact lad_z (z_i2l rfl) (z_i2l rfl) r64a r74a (by decide) (by decide)
  have r82 : ir y82.toInt 0 4294967294 := ad_r q82 r64a r74a (by decide) (by decide)
  refine lv_aload_n hx hb dX12_paste_83 rfl (lv_at hl 0 rfl) ?_
  refine va_get (D := g) (ci := 11) (v := .ref (m_a 2)) (C := RX12) (T := TX12) (N := 56) hx hb hts iX12 hown hK hP 0 rfl rfl 2 (by decide) (hts (.fieldLink RX12 13 "CardsAtYuleModel" "many" "[I") (List.mem_cons_of_mem _ (List.mem_append_left _ (List.mem_of_getElem? (i := 5) rfl)))) (fun _ h9 => h9) rfl dX12_paste_84 ?_
  refine lv_iload_n hx hb dX12_paste_87 rfl (lv_at hl 1 rfl) ?_
  refine va_iald (D := g) hx hb hK hP 2 0 rfl rfl (vi_rg rfl r6_1a (by decide) (by decide)) dX12_paste_88 ?_
  have r88 : ir (m_many_c p0.toNatClampNeg).toInt 0 60 := ha_m_many_c _ (vi_cl (vi_rg rfl r6_1a (by decide) (by decide)))
  refine lv_i2l (v := (m_many_c p0.toNatClampNeg).toInt64) hx hb dX12_paste_89 rfl ?_
  refine W.lcmp hx hb dX12_paste_90 ?_
  refine lv_if_gt (tgt := 112) hx hb dX12_paste_91 (by decide) (fun c91 => ?_) (fun c91 => ?_)
  · have f91 := (show (m_many_c p0.toNatClampNeg).toInt < y82.toInt from y_gt rfl (z_i2l rfl) c91)
    have r91a : ir y82.toInt 1 4294967294 := ir_ltb f91 r88 r82 (by decide)
    refine lv_bipush (v := (-7)) hx hb dX12_paste_112 (by decide) ?_
    subst hQ
    have hP9 := hP.sub (ws' := [(m, .inr (11, mG m_a 0 m_taped m_at m_token m_place m_value m_word m_bad m_badPlace m_fault m_faultPlace m_willing m_will m_forgot m_isDrawn m_x m_begin m_round m_roundCards m_fate m_any m_bothSend m_meanCards m_bestSum m_fitMany m_fitFirst m_fitSecond)), ((m_a 1), .inl (cI, 4, .inl m_width_c)), ((m_a 2), .inl (cI, 4, .inl m_many_c)), ((m_a 3), .inl (cJ, 240, .inr (.inl m_cells_c))), ((m_a 4), .inl (cJ, 60, .inr (.inl m_moved_c)))]) [0, 1, 2, 3, 4] rfl
    have hD9 := hD.sub (ws' := [(m, .inr (11, mG m_a 0 m_taped m_at m_token m_place m_value m_word m_bad m_badPlace m_fault m_faultPlace m_willing m_will m_forgot m_isDrawn m_x m_begin m_round m_roundCards m_fate m_any m_bothSend m_meanCards m_bestSum m_fitMany m_fitFirst m_fitSecond)), ((m_a 1), .inl (cI, 4, .inl m_width_c)), ((m_a 2), .inl (cI, 4, .inl m_many_c)), ((m_a 3), .inl (cJ, 240, .inr (.inl m_cells_c))), ((m_a 4), .inl (cJ, 60, .inr (.inl m_moved_c)))]) [0, 1, 2, 3, 4] (by decide) rfl
    exact W.iret (v := (-7)) hx hb hr (fun t ht hW => ⟨⟨(-7), (0, m_cells_c, m_moved_c), rfl, ⟨(show ir (0 : Int32).toInt 0 0 by decide), (by unfold paG; first | (rw [if_neg (by omega)]; done) | (rw [if_pos (by omega), if_pos (by omega)]; done) | (rw [if_pos (by omega), if_neg (by omega), if_neg (by omega)]; done) | (rw [if_pos (by omega), if_neg (by omega), if_pos (by omega), if_pos (by omega)]; done) | (rw [if_pos (by omega), if_neg (by omega), if_pos (by omega), if_neg (by omega)]; done)), (show ir ((-7) : Int32).toInt (-8) 0 by decide)⟩, ⟨by rw [ht]; exact hP9, va_K.moved hW.alike hK, hD9⟩⟩, hS.F ht⟩) hS.2.2 dX12_paste_114
  have f91 := (show y82.toInt ≤ (m_many_c p0.toNatClampNeg).toInt from y_ngt rfl (z_i2l rfl) c91)
  have r91a : ir y82.toInt 0 60 := ir_lea f91 r82 r88 (by decide)
  refine lv_iload hx hb dX12_paste_94 (lv_at hl 4 rfl) ?_
  refine lv_i2l (v := p3.toInt64) hx hb dX12_paste_96 rfl ?_
  refine lv_iload hx hb dX12_paste_97 (lv_at hl 5 rfl) ?_
  refine lv_i2l (v := p4.toInt64) hx hb dX12_paste_99 rfl ?_
  refine lv_ladd hx hb dX12_paste_100 ?_
  refine lv_topl (fun y100 e100 => ?_)
  have q100 : y100.toInt = p3.toInt + p4.toInt := by rw [e100]; exact lad_z (z_i2l rfl) (z_i2l rfl) r69a r74a (by decide) (by decide)
  have r100 : ir y100.toInt 0 4294967294 := ad_r q100 r69a r74a (by decide) (by decide)
  refine lv_aload_n hx hb dX12_paste_101 rfl (lv_at hl 0 rfl) ?_
  refine va_get (D := g) (ci := 11) (v := .ref (m_a 2)) (C := RX12) (T := TX12) (N := 56) hx hb hts iX12 hown hK hP 0 rfl rfl 2 (by decide) (hts (.fieldLink RX12 13 "CardsAtYuleModel" "many" "[I") (List.mem_cons_of_mem _ (List.mem_append_left _ (List.mem_of_getElem? (i := 5) rfl)))) (fun _ h9 => h9) rfl dX12_paste_102 ?_
  refine lv_iload_n hx hb dX12_paste_105 rfl (lv_at hl 3 rfl) ?_
  refine va_iald (D := g) hx hb hK hP 2 0 rfl rfl (vi_rg rfl r13_1a (by decide) (by decide)) dX12_paste_106 ?_
  have r106 : ir (m_many_c p2.toNatClampNeg).toInt 0 60 := ha_m_many_c _ (vi_cl (vi_rg rfl r13_1a (by decide) (by decide)))
  refine lv_i2l (v := (m_many_c p2.toNatClampNeg).toInt64) hx hb dX12_paste_107 rfl ?_
  refine W.lcmp hx hb dX12_paste_108 ?_
  refine lv_if_le (tgt := 115) hx hb dX12_paste_109 (by decide) (fun c109 => ?_) (fun c109 => ?_)
  rotate_left 1
  · have f109 := (show (m_many_c p2.toNatClampNeg).toInt < y100.toInt from y_nle rfl (z_i2l rfl) c109)
    have r109a : ir y100.toInt 1 4294967294 := ir_ltb f109 r106 r100 (by decide)
    refine lv_bipush (v := (-7)) hx hb dX12_paste_112 (by decide) ?_
    subst hQ
    have hP9 := hP.sub (ws' := [(m, .inr (11, mG m_a 0 m_taped m_at m_token m_place m_value m_word m_bad m_badPlace m_fault m_faultPlace m_willing m_will m_forgot m_isDrawn m_x m_begin m_round m_roundCards m_fate m_any m_bothSend m_meanCards m_bestSum m_fitMany m_fitFirst m_fitSecond)), ((m_a 1), .inl (cI, 4, .inl m_width_c)), ((m_a 2), .inl (cI, 4, .inl m_many_c)), ((m_a 3), .inl (cJ, 240, .inr (.inl m_cells_c))), ((m_a 4), .inl (cJ, 60, .inr (.inl m_moved_c)))]) [0, 1, 2, 3, 4] rfl
    have hD9 := hD.sub (ws' := [(m, .inr (11, mG m_a 0 m_taped m_at m_token m_place m_value m_word m_bad m_badPlace m_fault m_faultPlace m_willing m_will m_forgot m_isDrawn m_x m_begin m_round m_roundCards m_fate m_any m_bothSend m_meanCards m_bestSum m_fitMany m_fitFirst m_fitSecond)), ((m_a 1), .inl (cI, 4, .inl m_width_c)), ((m_a 2), .inl (cI, 4, .inl m_many_c)), ((m_a 3), .inl (cJ, 240, .inr (.inl m_cells_c))), ((m_a 4), .inl (cJ, 60, .inr (.inl m_moved_c)))]) [0, 1, 2, 3, 4] (by decide) rfl
    exact W.iret (v := (-7)) hx hb hr (fun t ht hW => ⟨⟨(-7), (0, m_cells_c, m_moved_c), rfl, ⟨(show ir (0 : Int32).toInt 0 0 by decide), (by unfold paG; first | (rw [if_neg (by omega)]; done) | (rw [if_pos (by omega), if_pos (by omega)]; done) | (rw [if_pos (by omega), if_neg (by omega), if_neg (by omega)]; done) | (rw [if_pos (by omega), if_neg (by omega), if_pos (by omega), if_pos (by omega)]; done) | (rw [if_pos (by omega), if_neg (by omega), if_pos (by omega), if_neg (by omega)]; done)), (show ir ((-7) : Int32).toInt (-8) 0 by decide)⟩, ⟨by rw [ht]; exact hP9, va_K.moved hW.alike hK, hD9⟩⟩, hS.F ht⟩) hS.2.2 dX12_paste_114
  have f109 := (show y100.toInt ≤ (m_many_c p2.toNatClampNeg).toInt from y_le rfl (z_i2l rfl) c109)
  have r109a : ir y100.toInt 0 60 := ir_lea f109 r100 r106 (by decide)
  have rw115_l2 : ir p1.toInt 0 60 := by omega
  have rw115_l4 : ir p3.toInt 0 60 := by omega
  have rw115_l5 : ir p4.toInt 0 60 := by omega
  refine lv_iconst (v := 0) hx hb dX12_paste_115 (by decide) ?_
  refine lv_istore (lv' := [(6, .int 0), (0, .ref m), (1, .int p0), (2, .int p1), (3, .int p2), (4, .int p3), (5, .int p4)]) hx hb dX12_paste_116 hl (by decide) rfl (fun ls hl => ?_)
  have J118 : ∀ (n118 : Nat) (j118_l6 : Int32) (j118_m_a4_c : Nat → Int64) (H : Heap) (locs : List Loc) (ls : Array Slot), (61 - j118_l6.toInt).toNat < n118 → (ir j118_l6.toInt 0 60) → va_P g vwCl [(m, .inr (11, mG m_a 0 m_taped m_at m_token m_place m_value m_word m_bad m_badPlace m_fault m_faultPlace m_willing m_will m_forgot m_isDrawn m_x m_begin m_round m_roundCards m_fate m_any m_bothSend m_meanCards m_bestSum m_fitMany m_fitFirst m_fitSecond)), ((m_a 1), .inl (cI, 4, .inl m_width_c)), ((m_a 2), .inl (cI, 4, .inl m_many_c)), ((m_a 3), .inl (cJ, 240, .inr (.inl m_cells_c))), ((m_a 4), .inl (cJ, 60, .inr (.inl j118_m_a4_c)))] H → va_D A [(m, .inr (11, mG m_a 0 m_taped m_at m_token m_place m_value m_word m_bad m_badPlace m_fault m_faultPlace m_willing m_will m_forgot m_isDrawn m_x m_begin m_round m_roundCards m_fate m_any m_bothSend m_meanCards m_bestSum m_fitMany m_fitFirst m_fitSecond)), ((m_a 1), .inl (cI, 4, .inl m_width_c)), ((m_a 2), .inl (cI, 4, .inl m_many_c)), ((m_a 3), .inl (cJ, 240, .inr (.inl m_cells_c))), ((m_a 4), .inl (cJ, 60, .inr (.inl j118_m_a4_c)))] → va_S A s.heap H locs → lv_has ls 7 [(0, .ref m), (1, .int p0), (2, .int p1), (3, .int p2), (4, .int p3), (5, .int p4), (6, .int j118_l6)] → W p l e (headSpec v_X12_pasteF ({ frames := 2, cells := 0, slots := 0, locals := 45 })).room s mth av below meth c H locs 0 0 QQ (F0 mth 118 ls []) := by
    intro n118
    induction n118 with
    | zero => exact fun j118_l6 j118_m_a4_c H locs ls hn => absurd hn (Nat.not_lt_zero _)
    | succ n118 ih118 =>
      intro j118_l6 j118_m_a4_c H locs ls hn118 hj118_l6 hP hD hS hl
      refine lv_iload hx hb dX12_paste_118 (lv_at hl 6 rfl) ?_
      refine lv_iload hx hb dX12_paste_120 (lv_at hl 5 rfl) ?_
      refine lv_icmp_ge (tgt := 152) hx hb dX12_paste_122 (by decide) (fun c122 => ?_) (fun c122 => ?_)
      rotate_left 1
      · have f122 := (show j118_l6.toInt < p4.toInt from z_nle rfl rfl c122)
        have r122a : ir j118_l6.toInt 0 59 := ir_lta f122 hj118_l6 rw115_l5 (by decide)
        have r122b : ir p4.toInt 1 60 := ir_ltb f122 hj118_l6 rw115_l5 (by decide)
        refine lv_aload_n hx hb dX12_paste_125 rfl (lv_at hl 0 rfl) ?_
        refine va_get (D := g) (ci := 11) (v := .ref (m_a 4)) (C := RX12) (T := TX12) (N := 56) hx hb hts iX12 hown hK hP 0 rfl rfl 4 (by decide) (hts (.fieldLink RX12 20 "CardsAtYuleModel" "moved" "[J") (List.mem_cons_of_mem _ (List.mem_append_left _ (List.mem_of_getElem? (i := 7) rfl)))) (fun _ h9 => h9) rfl dX12_paste_126 ?_
        refine lv_iload hx hb dX12_paste_129 (lv_at hl 6 rfl) ?_
        refine lv_aload_n hx hb dX12_paste_131 rfl (lv_at hl 0 rfl) ?_
        refine va_get (D := g) (ci := 11) (v := .ref (m_a 3)) (C := RX12) (T := TX12) (N := 56) hx hb hts iX12 hown hK hP 0 rfl rfl 3 (by decide) (hts (.fieldLink RX12 16 "CardsAtYuleModel" "cells" "[J") (List.mem_cons_of_mem _ (List.mem_append_left _ (List.mem_of_getElem? (i := 6) rfl)))) (fun _ h9 => h9) rfl dX12_paste_132 ?_
        refine lv_bipush (v := 60) hx hb dX12_paste_135 (by decide) ?_
        refine lv_iload_n hx hb dX12_paste_137 rfl (lv_at hl 1 rfl) ?_
        refine lv_imul hx hb dX12_paste_138 ?_
        refine lv_topi (fun y138 e138 => ?_)
        have q138 : y138.toInt = 60 * p0.toInt := by rw [e138]; exact mu_z rfl rfl (ir_c 60) r6_1a (by decide) (by decide) (by decide)
        have r138 : ir y138.toInt 0 180 := mu_r q138 (ir_c 60) r6_1a (by decide) (by decide) (by decide) (by decide)
        refine lv_iload_n hx hb dX12_paste_139 rfl (lv_at hl 2 rfl) ?_
        refine lv_iadd hx hb dX12_paste_140 ?_
        refine lv_topi (fun y140 e140 => ?_)
        have q140 : y140.toInt = y138.toInt + p1.toInt := by rw [e140]; exact ad_z rfl rfl r138 rw115_l2 (by decide) (by decide)
        have r140 : ir y140.toInt 0 240 := ad_r q140 r138 rw115_l2 (by decide) (by decide)
        refine lv_iload hx hb dX12_paste_141 (lv_at hl 6 rfl) ?_
        refine lv_iadd hx hb dX12_paste_143 ?_
        refine lv_topi (fun y143 e143 => ?_)
        have q143 : y143.toInt = y140.toInt + j118_l6.toInt := by rw [e143]; exact ad_z rfl rfl r140 r122a (by decide) (by decide)
        have r143 : ir y143.toInt 0 299 := ad_r q143 r140 r122a (by decide) (by decide)
        refine va_lald (D := g) hx hb hK hP 3 1 rfl rfl (vi_in rfl (by omega) (by omega)) dX12_paste_144 ?_
        refine va_last (D := g) hx hb hK hP hD hS 4 1 rfl rfl (vi_rg rfl r122a (by decide) (by decide)) dX12_paste_145 (fun H locs hP hD hS => ?_)
        obtain ⟨g145, e145⟩ : ∃ z, z = vp_updL j118_m_a4_c j118_l6.toNatClampNeg (m_cells_c y143.toNatClampNeg) := ⟨_, rfl⟩
        have hP : va_P g vwCl [(m, .inr (11, mG m_a 0 m_taped m_at m_token m_place m_value m_word m_bad m_badPlace m_fault m_faultPlace m_willing m_will m_forgot m_isDrawn m_x m_begin m_round m_roundCards m_fate m_any m_bothSend m_meanCards m_bestSum m_fitMany m_fitFirst m_fitSecond)), ((m_a 1), .inl (cI, 4, .inl m_width_c)), ((m_a 2), .inl (cI, 4, .inl m_many_c)), ((m_a 3), .inl (cJ, 240, .inr (.inl m_cells_c))), ((m_a 4), .inl (cJ, 60, .inr (.inl (vp_updL j118_m_a4_c j118_l6.toNatClampNeg (m_cells_c y143.toNatClampNeg)))))] H := hP
        have hD : va_D A [(m, .inr (11, mG m_a 0 m_taped m_at m_token m_place m_value m_word m_bad m_badPlace m_fault m_faultPlace m_willing m_will m_forgot m_isDrawn m_x m_begin m_round m_roundCards m_fate m_any m_bothSend m_meanCards m_bestSum m_fitMany m_fitFirst m_fitSecond)), ((m_a 1), .inl (cI, 4, .inl m_width_c)), ((m_a 2), .inl (cI, 4, .inl m_many_c)), ((m_a 3), .inl (cJ, 240, .inr (.inl m_cells_c))), ((m_a 4), .inl (cJ, 60, .inr (.inl (vp_updL j118_m_a4_c j118_l6.toNatClampNeg (m_cells_c y143.toNatClampNeg)))))] := hD
        rw [← e145] at hP hD
        obtain ⟨y146, e146⟩ : ∃ y : Int32, y = j118_l6 + 1 := ⟨_, rfl⟩
        have q146 : y146.toInt = j118_l6.toInt + 1 := by rw [e146]; exact ad_z rfl rfl r122a (ir_c 1) (by decide) (by decide)
        have r146 : ir y146.toInt 1 60 := ad_r q146 r122a (ir_c 1) (by decide) (by decide)
        refine lv_iinc (v := y146) (lv' := [(6, .int y146), (0, .ref m), (1, .int p0), (2, .int p1), (3, .int p2), (4, .int p3), (5, .int p4)]) hx hb dX12_paste_146 hl (k := 6) rfl e146.symm (by decide) rfl (fun ls hl => ?_)
        refine lv_goto (tgt := 118) hx hb dX12_paste_149 (by decide) ?_
        exact ih118 y146 g145 _ _ _ (by omega) (ir_w r146 (by decide) (by decide)) (hP.sub [0, 1, 2, 3, 4] rfl) (hD.sub [0, 1, 2, 3, 4] (by decide) rfl) hS (lv_sub hl [1, 2, 3, 4, 5, 6, 0] rfl)
      have f122 := (show p4.toInt ≤ j118_l6.toInt from z_le rfl rfl c122)
      refine lv_iconst (v := 0) hx hb dX12_paste_152 (by decide) ?_
      refine lv_istore (lv' := [(6, .int 0), (0, .ref m), (1, .int p0), (2, .int p1), (3, .int p2), (4, .int p3), (5, .int p4)]) hx hb dX12_paste_153 hl (by decide) rfl (fun ls hl => ?_)
      have J155 : ∀ (n155 : Nat) (j155_l6 : Int32) (j155_m_a3_c : Nat → Int64) (H : Heap) (locs : List Loc) (ls : Array Slot), (61 - j155_l6.toInt).toNat < n155 → (ir j155_l6.toInt 0 60) → va_P g vwCl [(m, .inr (11, mG m_a 0 m_taped m_at m_token m_place m_value m_word m_bad m_badPlace m_fault m_faultPlace m_willing m_will m_forgot m_isDrawn m_x m_begin m_round m_roundCards m_fate m_any m_bothSend m_meanCards m_bestSum m_fitMany m_fitFirst m_fitSecond)), ((m_a 1), .inl (cI, 4, .inl m_width_c)), ((m_a 2), .inl (cI, 4, .inl m_many_c)), ((m_a 3), .inl (cJ, 240, .inr (.inl j155_m_a3_c))), ((m_a 4), .inl (cJ, 60, .inr (.inl j118_m_a4_c)))] H → va_D A [(m, .inr (11, mG m_a 0 m_taped m_at m_token m_place m_value m_word m_bad m_badPlace m_fault m_faultPlace m_willing m_will m_forgot m_isDrawn m_x m_begin m_round m_roundCards m_fate m_any m_bothSend m_meanCards m_bestSum m_fitMany m_fitFirst m_fitSecond)), ((m_a 1), .inl (cI, 4, .inl m_width_c)), ((m_a 2), .inl (cI, 4, .inl m_many_c)), ((m_a 3), .inl (cJ, 240, .inr (.inl j155_m_a3_c))), ((m_a 4), .inl (cJ, 60, .inr (.inl j118_m_a4_c)))] → va_S A s.heap H locs → lv_has ls 7 [(0, .ref m), (3, .int p2), (4, .int p3), (5, .int p4), (6, .int j155_l6)] → W p l e (headSpec v_X12_pasteF ({ frames := 2, cells := 0, slots := 0, locals := 45 })).room s mth av below meth c H locs 0 0 QQ (F0 mth 155 ls []) := by
        intro n155
        induction n155 with
        | zero => exact fun j155_l6 j155_m_a3_c H locs ls hn => absurd hn (Nat.not_lt_zero _)
        | succ n155 ih155 =>
          intro j155_l6 j155_m_a3_c H locs ls hn155 hj155_l6 hP hD hS hl
          refine lv_iload hx hb dX12_paste_155 (lv_at hl 4 rfl) ?_
          refine lv_iload hx hb dX12_paste_157 (lv_at hl 3 rfl) ?_
          refine lv_icmp_ge (tgt := 190) hx hb dX12_paste_159 (by decide) (fun c159 => ?_) (fun c159 => ?_)
          · have f159 := (show p4.toInt ≤ j155_l6.toInt from z_le rfl rfl c159)
            refine lv_iconst (v := 0) hx hb dX12_paste_190 (by decide) ?_
            subst hQ
            have hP9 := hP.sub (ws' := [(m, .inr (11, mG m_a 0 m_taped m_at m_token m_place m_value m_word m_bad m_badPlace m_fault m_faultPlace m_willing m_will m_forgot m_isDrawn m_x m_begin m_round m_roundCards m_fate m_any m_bothSend m_meanCards m_bestSum m_fitMany m_fitFirst m_fitSecond)), ((m_a 1), .inl (cI, 4, .inl m_width_c)), ((m_a 2), .inl (cI, 4, .inl m_many_c)), ((m_a 3), .inl (cJ, 240, .inr (.inl j155_m_a3_c))), ((m_a 4), .inl (cJ, 60, .inr (.inl j118_m_a4_c)))]) [0, 1, 2, 3, 4] rfl
            have hD9 := hD.sub (ws' := [(m, .inr (11, mG m_a 0 m_taped m_at m_token m_place m_value m_word m_bad m_badPlace m_fault m_faultPlace m_willing m_will m_forgot m_isDrawn m_x m_begin m_round m_roundCards m_fate m_any m_bothSend m_meanCards m_bestSum m_fitMany m_fitFirst m_fitSecond)), ((m_a 1), .inl (cI, 4, .inl m_width_c)), ((m_a 2), .inl (cI, 4, .inl m_many_c)), ((m_a 3), .inl (cJ, 240, .inr (.inl j155_m_a3_c))), ((m_a 4), .inl (cJ, 60, .inr (.inl j118_m_a4_c)))]) [0, 1, 2, 3, 4] (by decide) rfl
            exact W.iret (v := 0) hx hb hr (fun t ht hW => ⟨⟨0, (0, j155_m_a3_c, j118_m_a4_c), rfl, ⟨(show ir (0 : Int32).toInt 0 0 by decide), (by unfold paG; first | (rw [if_neg (by omega)]; done) | (rw [if_pos (by omega), if_pos (by omega)]; done) | (rw [if_pos (by omega), if_neg (by omega), if_neg (by omega)]; done) | (rw [if_pos (by omega), if_neg (by omega), if_pos (by omega), if_pos (by omega)]; done) | (rw [if_pos (by omega), if_neg (by omega), if_pos (by omega), if_neg (by omega)]; done)), (show ir (0 : Int32).toInt (-8) 0 by decide)⟩, ⟨by rw [ht]; exact hP9, va_K.moved hW.alike hK, hD9⟩⟩, hS.F ht⟩) hS.2.2 dX12_paste_191
          have f159 := (show j155_l6.toInt < p4.toInt from z_nle rfl rfl c159)
          have r159a : ir j155_l6.toInt 0 59 := ir_lta f159 hj155_l6 rw115_l5 (by decide)
          have r159b : ir p4.toInt 1 60 := ir_ltb f159 hj155_l6 rw115_l5 (by decide)
          refine lv_aload_n hx hb dX12_paste_162 rfl (lv_at hl 0 rfl) ?_
          refine va_get (D := g) (ci := 11) (v := .ref (m_a 3)) (C := RX12) (T := TX12) (N := 56) hx hb hts iX12 hown hK hP 0 rfl rfl 3 (by decide) (hts (.fieldLink RX12 16 "CardsAtYuleModel" "cells" "[J") (List.mem_cons_of_mem _ (List.mem_append_left _ (List.mem_of_getElem? (i := 6) rfl)))) (fun _ h9 => h9) rfl dX12_paste_163 ?_
          refine lv_bipush (v := 60) hx hb dX12_paste_166 (by decide) ?_
          refine lv_iload_n hx hb dX12_paste_168 rfl (lv_at hl 1 rfl) ?_
          refine lv_imul hx hb dX12_paste_169 ?_
          refine lv_topi (fun y169 e169 => ?_)
          have q169 : y169.toInt = 60 * p2.toInt := by rw [e169]; exact mu_z rfl rfl (ir_c 60) r13_1a (by decide) (by decide) (by decide)
          have r169 : ir y169.toInt 0 180 := mu_r q169 (ir_c 60) r13_1a (by decide) (by decide) (by decide) (by decide)
          refine lv_iload hx hb dX12_paste_170 (lv_at hl 2 rfl) ?_
          refine lv_iadd hx hb dX12_paste_172 ?_
          refine lv_topi (fun y172 e172 => ?_)
          have q172 : y172.toInt = y169.toInt + p3.toInt := by rw [e172]; exact ad_z rfl rfl r169 rw115_l4 (by decide) (by decide)
          have r172 : ir y172.toInt 0 240 := ad_r q172 r169 rw115_l4 (by decide) (by decide)
          refine lv_iload hx hb dX12_paste_173 (lv_at hl 4 rfl) ?_
          refine lv_iadd hx hb dX12_paste_175 ?_
          refine lv_topi (fun y175 e175 => ?_)
          have q175 : y175.toInt = y172.toInt + j155_l6.toInt := by rw [e175]; exact ad_z rfl rfl r172 r159a (by decide) (by decide)
          have r175 : ir y175.toInt 0 299 := ad_r q175 r172 r159a (by decide) (by decide)
          refine lv_aload_n hx hb dX12_paste_176 rfl (lv_at hl 0 rfl) ?_
          refine va_get (D := g) (ci := 11) (v := .ref (m_a 4)) (C := RX12) (T := TX12) (N := 56) hx hb hts iX12 hown hK hP 0 rfl rfl 4 (by decide) (hts (.fieldLink RX12 20 "CardsAtYuleModel" "moved" "[J") (List.mem_cons_of_mem _ (List.mem_append_left _ (List.mem_of_getElem? (i := 7) rfl)))) (fun _ h9 => h9) rfl dX12_paste_177 ?_
          refine lv_iload hx hb dX12_paste_180 (lv_at hl 4 rfl) ?_
          refine va_lald (D := g) hx hb hK hP 4 1 rfl rfl (vi_rg rfl r159a (by decide) (by decide)) dX12_paste_182 ?_
          refine va_last (D := g) hx hb hK hP hD hS 3 1 rfl rfl (vi_in rfl (by omega) (by omega)) dX12_paste_183 (fun H locs hP hD hS => ?_)
          obtain ⟨g183, e183⟩ : ∃ z, z = vp_updL j155_m_a3_c y175.toNatClampNeg (j118_m_a4_c j155_l6.toNatClampNeg) := ⟨_, rfl⟩
          have hP : va_P g vwCl [(m, .inr (11, mG m_a 0 m_taped m_at m_token m_place m_value m_word m_bad m_badPlace m_fault m_faultPlace m_willing m_will m_forgot m_isDrawn m_x m_begin m_round m_roundCards m_fate m_any m_bothSend m_meanCards m_bestSum m_fitMany m_fitFirst m_fitSecond)), ((m_a 1), .inl (cI, 4, .inl m_width_c)), ((m_a 2), .inl (cI, 4, .inl m_many_c)), ((m_a 3), .inl (cJ, 240, .inr (.inl (vp_updL j155_m_a3_c y175.toNatClampNeg (j118_m_a4_c j155_l6.toNatClampNeg))))), ((m_a 4), .inl (cJ, 60, .inr (.inl j118_m_a4_c)))] H := hP
          have hD : va_D A [(m, .inr (11, mG m_a 0 m_taped m_at m_token m_place m_value m_word m_bad m_badPlace m_fault m_faultPlace m_willing m_will m_forgot m_isDrawn m_x m_begin m_round m_roundCards m_fate m_any m_bothSend m_meanCards m_bestSum m_fitMany m_fitFirst m_fitSecond)), ((m_a 1), .inl (cI, 4, .inl m_width_c)), ((m_a 2), .inl (cI, 4, .inl m_many_c)), ((m_a 3), .inl (cJ, 240, .inr (.inl (vp_updL j155_m_a3_c y175.toNatClampNeg (j118_m_a4_c j155_l6.toNatClampNeg))))), ((m_a 4), .inl (cJ, 60, .inr (.inl j118_m_a4_c)))] := hD
          rw [← e183] at hP hD
          obtain ⟨y184, e184⟩ : ∃ y : Int32, y = j155_l6 + 1 := ⟨_, rfl⟩
          have q184 : y184.toInt = j155_l6.toInt + 1 := by rw [e184]; exact ad_z rfl rfl r159a (ir_c 1) (by decide) (by decide)
          have r184 : ir y184.toInt 1 60 := ad_r q184 r159a (ir_c 1) (by decide) (by decide)
          refine lv_iinc (v := y184) (lv' := [(6, .int y184), (0, .ref m), (3, .int p2), (4, .int p3), (5, .int p4)]) hx hb dX12_paste_184 hl (k := 4) rfl e184.symm (by decide) rfl (fun ls hl => ?_)
          refine lv_goto (tgt := 155) hx hb dX12_paste_187 (by decide) ?_
          exact ih155 y184 g183 _ _ _ (by omega) (ir_w r184 (by decide) (by decide)) (hP.sub [0, 1, 2, 3, 4] rfl) (hD.sub [0, 1, 2, 3, 4] (by decide) rfl) hS (lv_sub hl [1, 2, 3, 4, 0] rfl)
      exact J155 _ 0 m_cells_c _ _ _ (Nat.lt_succ_self _) (by decide) (hP.sub [0, 1, 2, 3, 4] rfl) (hD.sub [0, 1, 2, 3, 4] (by decide) rfl) hS (lv_sub hl [1, 4, 5, 6, 0] rfl)
  exact J118 _ 0 m_moved_c _ _ _ (Nat.lt_succ_self _) (by decide) (hP.sub [0, 1, 2, 3, 4] rfl) (hD.sub [0, 1, 2, 3, 4] (by decide) rfl) hS (lv_sub hl [1, 2, 3, 4, 5, 6, 0] rfl)
