def v_X12_pair : List Cond := .code yX12_pair cX12_pair 3 (some .int) :: (([.fieldLink RX12 107 "CardsAtYuleModel" "thrown" "I", .methodLink RX12 281 yX12_isPair, .instanceMethod yX12_isPair, .selects RX12 yX12_isPair yX12_isPair, .initialized RX12, .constantLong RX12 284 (2), .methodLink RX12 112 yX12_in, .static yX12_in, .fieldLink RX12 40 "CardsAtYuleModel" "pair" "[I"] : List Cond) ++ (v_X12_isPair ++ (v_X12_in ++ (wsX120 ++ ([] : List Cond)))))
theorem good_v_X12_pair : v_X12_pair.all goodWord = true := ga_c (by decide +kernel) (ga_a (by decide +kernel) (ga_a good_v_X12_isPair (ga_a good_v_X12_in (ga_a good_wsX120 rfl))))
set_option maxHeartbeats 4000000 in
set_option maxRecDepth 100000 in
theorem q_X12_pair (l : Launch) (g : va_G) (cI cJ cB cZ cL : ClassId) (p0 : Int32) (p1 : Int32) (m : Nat) (m_a : Nat → Nat) (m_thrown : Int32) (m_taped : Int32) (m_at : Int32) (m_token : Int32) (m_place : Int32) (m_value : Int32) (m_word : Int64) (m_bad : Int32) (m_badPlace : Int32) (m_fault : Int32) (m_faultPlace : Int32) (m_willing : Int32) (m_will : Int32) (m_forgot : Int32) (m_isDrawn : Int32) (m_x : Int64) (m_begin : Int32) (m_round : Int32) (m_roundCards : Int32) (m_fate : Int32) (m_any : Int64) (m_bothSend : Int64) (m_meanCards : Int64) (m_bestSum : Int32) (m_fitMany : Int32) (m_fitFirst : Int64) (m_fitSecond : Int64) (m_has_c : Nat → Int32) (m_pair_c : Nat → Int32) (sz : Nat) (hv_m_taped : ir m_taped.toInt 0 1600) (hv_m_at : ir m_at.toInt 0 1600) (hv_m_will : ir m_will.toInt 0 1) (hv_m_isDrawn : ir m_isDrawn.toInt 0 1) (ha_m_has_c : hasI m_has_c) (ha_m_pair_c : ar m_pair_c 240 0 15) : Met l yX12_pair v_X12_pair ({ frames := 2, cells := 0, slots := 0, locals := 46 }) (va_Pc [.ref m, .int p0, .int p1] (pRW g (tyT cI cJ cB cZ cL) [(m, .inr (11, mG m_a m_thrown m_taped m_at m_token m_place m_value m_word m_bad m_badPlace m_fault m_faultPlace m_willing m_will m_forgot m_isDrawn m_x m_begin m_round m_roundCards m_fate m_any m_bothSend m_meanCards m_bestSum m_fitMany m_fitFirst m_fitSecond)), ((m_a 17), .inl (cI, 25, .inl m_has_c)), ((m_a 19), .inl (cI, 240, .inl m_pair_c))] sz)) (va_Qi (fun (r : Int32) (u : Int32) => match u with | n_m_thrown => (ir n_m_thrown.toInt 0 0) ∧ (ir r.toInt (-2) 15)) (fun (u : Int32) (t : State) => bRW g (tyT cI cJ cB cZ cL) (va_A [(m, .inr (11, mG m_a m_thrown m_taped m_at m_token m_place m_value m_word m_bad m_badPlace m_fault m_faultPlace m_willing m_will m_forgot m_isDrawn m_x m_begin m_round m_roundCards m_fate m_any m_bothSend m_meanCards m_bestSum m_fitMany m_fitFirst m_fitSecond)), ((m_a 17), .inl (cI, 25, .inl m_has_c)), ((m_a 19), .inl (cI, 240, .inl m_pair_c))] sz) (match u with | n_m_thrown => [(m, .inr (11, mG m_a n_m_thrown m_taped m_at m_token m_place m_value m_word m_bad m_badPlace m_fault m_faultPlace m_willing m_will m_forgot m_isDrawn m_x m_begin m_round m_roundCards m_fate m_any m_bothSend m_meanCards m_bestSum m_fitMany m_fitFirst m_fitSecond)), ((m_a 17), .inl (cI, 25, .inl m_has_c)), ((m_a 19), .inl (cI, 240, .inl m_pair_c))]) t) (va_A [(m, .inr (11, mG m_a m_thrown m_taped m_at m_token m_place m_value m_word m_bad m_badPlace m_fault m_faultPlace m_willing m_will m_forgot m_isDrawn m_x m_begin m_round m_roundCards m_fate m_any m_bothSend m_meanCards m_bestSum m_fitMany m_fitFirst m_fitSecond)), ((m_a 17), .inl (cI, 25, .inl m_has_c)), ((m_a 19), .inl (cI, 240, .inl m_pair_c))] sz)) 0 0 (va_A [(m, .inr (11, mG m_a m_thrown m_taped m_at m_token m_place m_value m_word m_bad m_badPlace m_fault m_faultPlace m_willing m_will m_forgot m_isDrawn m_x m_begin m_round m_roundCards m_fate m_any m_bothSend m_meanCards m_bestSum m_fitMany m_fitFirst m_fitSecond)), ((m_a 17), .inl (cI, 25, .inl m_has_c)), ((m_a 19), .inl (cI, 240, .inl m_pair_c))] sz) := by
  refine Met.ofW (cc := cX12_pair) (maxL := 3) (ret := (some .int)) (by decide) rfl ?_
  intro p e s mth args below meth c s₁ B hml hv
  obtain ⟨rfl, hsz, hP, hK, hD0⟩ := hv
  have hx := B.exec
  have hb := B.bytes
  have hr := B.returns
  have hts := atoms_spec (ws := v_X12_pair) B.pre
  have hown : s.vm.findClass RX12 = some mth.cls := findClass_of_methodNamed B.named
  have hlocks := B.notSynchronized
  clear B
  subst hsz
  have iX12 : ∀ w ∈ wsX120, w ∈ v_X12_pair := (fun _ h => List.mem_cons_of_mem _ (List.mem_append_right _ (List.mem_append_right _ (List.mem_append_right _ (List.mem_append_left _ h)))))
  have hD := hD0.self (sz := s.heap.size)
  generalize hAe : (va_A [(m, .inr (11, mG m_a m_thrown m_taped m_at m_token m_place m_value m_word m_bad m_badPlace m_fault m_faultPlace m_willing m_will m_forgot m_isDrawn m_x m_begin m_round m_roundCards m_fate m_any m_bothSend m_meanCards m_bestSum m_fitMany m_fitFirst m_fitSecond)), ((m_a 17), .inl (cI, 25, .inl m_has_c)), ((m_a 19), .inl (cI, 240, .inl m_pair_c))] s.heap.size) = A at hD ⊢
  have hA : ∀ q : Nat, s.heap.size ≤ q → A q := fun q h => by rw [← hAe]; exact Or.inr h
  have hS : va_S A s.heap s.heap [] := va_S.rf
  have hl := lv_entry ([.ref m, .int p0, .int p1]) (n := 3) (Nat.le_of_ble_eq_true rfl)
  rw [lg_entry_eq]
  generalize (lg_sl ([.ref m, .int p0, .int p1]) ++ List.replicate (3 - (lg_sl ([.ref m, .int p0, .int p1])).length) Slot.unset).toArray = ls at hl ⊢
  generalize ([.ref m, .int p0, .int p1] : List Value).toArray = av at hts ⊢
  generalize hQ : MQ below _ av s _ _ A = QQ
  have hl : lv_has ls 3 [(0, .ref m), (1, .int p0), (2, .int p1)] := hl
  have hP : va_P g vwCl [(m, .inr (11, mG m_a m_thrown m_taped m_at m_token m_place m_value m_word m_bad m_badPlace m_fault m_faultPlace m_willing m_will m_forgot m_isDrawn m_x m_begin m_round m_roundCards m_fate m_any m_bothSend m_meanCards m_bestSum m_fitMany m_fitFirst m_fitSecond)), ((m_a 17), .inl (cI, 25, .inl m_has_c)), ((m_a 19), .inl (cI, 240, .inl m_pair_c))] s.heap := hP
  refine lv_aload_n hx hb dX12_pair_0 rfl (lv_at hl 0 rfl) ?_
  refine lv_iconst (v := 0) hx hb dX12_pair_1 (by decide) ?_
  refine va_put (D := g) (ci := 11) (v := .int 0) (ty := .int) (C := RX12) (T := TX12) (N := 56) hx hb hts iX12 tyX12 tyX12_ok nmX12 hown hK hP hD hS 0 rfl rfl 0 (by decide) (hts (.fieldLink RX12 107 "CardsAtYuleModel" "thrown" "I") (List.mem_cons_of_mem _ (List.mem_append_left _ (List.mem_of_getElem? (i := 0) rfl)))) (fun _ h9 => h9) rfl (by decide +kernel) rfl rfl (Nat.le_of_ble_eq_true rfl) dX12_pair_2 (fun H locs hP hD hS => ?_)
  have hP : va_P g vwCl [(m, .inr (11, mG m_a 0 m_taped m_at m_token m_place m_value m_word m_bad m_badPlace m_fault m_faultPlace m_willing m_will m_forgot m_isDrawn m_x m_begin m_round m_roundCards m_fate m_any m_bothSend m_meanCards m_bestSum m_fitMany m_fitFirst m_fitSecond)), ((m_a 17), .inl (cI, 25, .inl m_has_c)), ((m_a 19), .inl (cI, 240, .inl m_pair_c))] H := hP
  have hD : va_D A [(m, .inr (11, mG m_a 0 m_taped m_at m_token m_place m_value m_word m_bad m_badPlace m_fault m_faultPlace m_willing m_will m_forgot m_isDrawn m_x m_begin m_round m_roundCards m_fate m_any m_bothSend m_meanCards m_bestSum m_fitMany m_fitFirst m_fitSecond)), ((m_a 17), .inl (cI, 25, .inl m_has_c)), ((m_a 19), .inl (cI, 240, .inl m_pair_c))] := hD
  refine lv_aload_n hx hb dX12_pair_5 rfl (lv_at hl 0 rfl) ?_
  refine lv_iload_n hx hb dX12_pair_6 rfl (lv_at hl 1 rfl) ?_
  refine ro_i (va_runV (As := [.int p0]) (rest := []) ⟨hx, hb, hml, hown, hts⟩ (q_X12_isPair l g cI cJ cB cZ cL p0 m m_a 0 m_taped m_at m_token m_place m_value m_word m_bad m_badPlace m_fault m_faultPlace m_willing m_will m_forgot m_isDrawn m_x m_begin m_round m_roundCards m_fate m_any m_bothSend m_meanCards m_bestSum m_fitMany m_fitFirst m_fitSecond m_has_c H.size hv_m_taped hv_m_at hv_m_will hv_m_isDrawn ha_m_has_c) (cwV 1 hts (goodIn_app (g_4 (List.mem_cons_of_mem _ (List.mem_append_left _ (List.mem_of_getElem? (i := 1) rfl))) (List.mem_cons_of_mem _ (List.mem_append_left _ (List.mem_of_getElem? (i := 2) rfl))) (List.mem_cons_of_mem _ (List.mem_append_left _ (List.mem_of_getElem? (i := 3) rfl))) (List.mem_cons_of_mem _ (List.mem_append_left _ (List.mem_of_getElem? (i := 4) rfl))) (by decide +kernel)) (goodIn_sub (fun _ h => List.mem_cons_of_mem _ (List.mem_append_right _ (List.mem_append_left _ h))) good_v_X12_isPair)) rfl rfl rfl (by decide +kernel) ⟨Nat.le_of_ble_eq_true rfl, Nat.le_of_ble_eq_true rfl⟩) (pv_RO (q := (RX12, TX12, 56)) (ci := 11) (q0 := 0) (wc := [(m, .inr (11, mG m_a 0 m_taped m_at m_token m_place m_value m_word m_bad m_badPlace m_fault m_faultPlace m_willing m_will m_forgot m_isDrawn m_x m_begin m_round m_roundCards m_fate m_any m_bothSend m_meanCards m_bestSum m_fitMany m_fitFirst m_fitSecond)), ((m_a 17), .inl (cI, 25, .inl m_has_c))]) hK hP [0, 1] rfl rfl rfl) rfl rfl hl.1 rfl (lv_room (Nat.le_of_ble_eq_true rfl)) dX12_pair_7 ⟨Nat.le_of_ble_eq_true rfl, Nat.le_of_ble_eq_true rfl⟩) hS hA hP (fun r7 u7 H locs hw7 hP hS => ?_)
  have hw7_0 := hw7
  rcases hw7_0 with ⟨er7, fc7_0, fc7_1⟩ | er7
  rotate_left 1
  · subst er7
    refine lv_if_eq (tgt := 38) hx hb dX12_pair_10 (by decide) (fun _ => ?_) (fun c => absurd c (by decide))
    refine lv_bipush (v := (-2)) hx hb dX12_pair_38 (by decide) ?_
    subst hQ
    have hP9 := hP.sub (ws' := [(m, .inr (11, mG m_a 0 m_taped m_at m_token m_place m_value m_word m_bad m_badPlace m_fault m_faultPlace m_willing m_will m_forgot m_isDrawn m_x m_begin m_round m_roundCards m_fate m_any m_bothSend m_meanCards m_bestSum m_fitMany m_fitFirst m_fitSecond)), ((m_a 17), .inl (cI, 25, .inl m_has_c)), ((m_a 19), .inl (cI, 240, .inl m_pair_c))]) [0, 1, 2] rfl
    have hD9 := hD.sub (ws' := [(m, .inr (11, mG m_a 0 m_taped m_at m_token m_place m_value m_word m_bad m_badPlace m_fault m_faultPlace m_willing m_will m_forgot m_isDrawn m_x m_begin m_round m_roundCards m_fate m_any m_bothSend m_meanCards m_bestSum m_fitMany m_fitFirst m_fitSecond)), ((m_a 17), .inl (cI, 25, .inl m_has_c)), ((m_a 19), .inl (cI, 240, .inl m_pair_c))]) [0, 1, 2] (by decide) rfl
    exact W.iret (v := (-2)) hx hb hr (fun t ht hW => ⟨⟨(-2), 0, rfl, ⟨(show ir (0 : Int32).toInt 0 0 by decide), (show ir ((-2) : Int32).toInt (-2) 15 by decide)⟩, ⟨by rw [ht]; exact hP9, va_K.moved hW.alike hK, hD9⟩⟩, hS.F ht⟩) hS.2.2 dX12_pair_40
  subst er7
  have fc7_0 : 0 ≤ p0.toInt := fc7_0
  have r7_0b : ir p0.toInt 0 2147483647 := ir_leb fc7_0 (ir_c 0) (rg_all p0) (by decide)
  have fc7_1 : p0.toInt ≤ 15 := fc7_1
  have r7_1a : ir p0.toInt 0 15 := ir_lea fc7_1 r7_0b (ir_c 15) (by decide)
  refine lv_if_eq (tgt := 38) hx hb dX12_pair_10 (by decide) (fun c => absurd c (by decide)) (fun _ => ?_)
  refine lv_iload_n hx hb dX12_pair_13 rfl (lv_at hl 2 rfl) ?_
  refine lv_i2l (v := p1.toInt64) hx hb dX12_pair_14 rfl ?_
  refine lv_lconst (v := 0) hx hb dX12_pair_15 (by decide) ?_
  refine lv_ldc2 (v := 2) hx hb hown (hts (.constantLong RX12 284 (2)) (List.mem_cons_of_mem _ (List.mem_append_left _ (List.mem_of_getElem? (i := 5) rfl)))) dX12_pair_16 ?_
  refine ro_i (va_runS (As := [.long p1.toInt64, .long 0, .long 2]) (rest := []) ⟨hx, hb, hml, hown, hts⟩ (q_X12_in l g cI cJ cB cZ cL p1.toInt64 p1.toInt 0 0 2 2 H.size (z_i2l rfl) rfl rfl) (va_cwS 3 hts (goodIn_app (g_3 (List.mem_cons_of_mem _ (List.mem_append_left _ (List.mem_of_getElem? (i := 6) rfl))) (List.mem_cons_of_mem _ (List.mem_append_left _ (List.mem_of_getElem? (i := 7) rfl))) (List.mem_cons_of_mem _ (List.mem_append_left _ (List.mem_of_getElem? (i := 4) rfl))) (by decide +kernel)) (goodIn_sub (fun _ h => List.mem_cons_of_mem _ (List.mem_append_right _ (List.mem_append_right _ (List.mem_append_left _ h)))) good_v_X12_in)) rfl rfl rfl (by decide +kernel) ⟨Nat.le_of_ble_eq_true rfl, Nat.le_of_ble_eq_true rfl⟩) (ps_RO (wc := []) hK hP [] rfl) rfl rfl hl.1 rfl (lv_room (Nat.le_of_ble_eq_true rfl)) dX12_pair_19 ⟨Nat.le_of_ble_eq_true rfl, Nat.le_of_ble_eq_true rfl⟩) hS hA hP (fun r19 u19 H locs hw19 hP hS => ?_)
  have hw19_0 := hw19
  rcases hw19_0 with ⟨er19, fc19_0, fc19_1⟩ | er19
  rotate_left 1
  · subst er19
    refine lv_if_eq (tgt := 38) hx hb dX12_pair_22 (by decide) (fun _ => ?_) (fun c => absurd c (by decide))
    refine lv_bipush (v := (-2)) hx hb dX12_pair_38 (by decide) ?_
    subst hQ
    have hP9 := hP.sub (ws' := [(m, .inr (11, mG m_a 0 m_taped m_at m_token m_place m_value m_word m_bad m_badPlace m_fault m_faultPlace m_willing m_will m_forgot m_isDrawn m_x m_begin m_round m_roundCards m_fate m_any m_bothSend m_meanCards m_bestSum m_fitMany m_fitFirst m_fitSecond)), ((m_a 17), .inl (cI, 25, .inl m_has_c)), ((m_a 19), .inl (cI, 240, .inl m_pair_c))]) [0, 1, 2] rfl
    have hD9 := hD.sub (ws' := [(m, .inr (11, mG m_a 0 m_taped m_at m_token m_place m_value m_word m_bad m_badPlace m_fault m_faultPlace m_willing m_will m_forgot m_isDrawn m_x m_begin m_round m_roundCards m_fate m_any m_bothSend m_meanCards m_bestSum m_fitMany m_fitFirst m_fitSecond)), ((m_a 17), .inl (cI, 25, .inl m_has_c)), ((m_a 19), .inl (cI, 240, .inl m_pair_c))]) [0, 1, 2] (by decide) rfl
    exact W.iret (v := (-2)) hx hb hr (fun t ht hW => ⟨⟨(-2), 0, rfl, ⟨(show ir (0 : Int32).toInt 0 0 by decide), (show ir ((-2) : Int32).toInt (-2) 15 by decide)⟩, ⟨by rw [ht]; exact hP9, va_K.moved hW.alike hK, hD9⟩⟩, hS.F ht⟩) hS.2.2 dX12_pair_40
  subst er19
  have fc19_0 : 0 ≤ p1.toInt := fc19_0
  have r19_0b : ir p1.toInt 0 2147483647 := ir_leb fc19_0 (ir_c 0) (rg_all p1) (by decide)
  have fc19_1 : p1.toInt ≤ 2 := fc19_1
  have r19_1a : ir p1.toInt 0 2 := ir_lea fc19_1 r19_0b (ir_c 2) (by decide)
  refine lv_if_eq (tgt := 38) hx hb dX12_pair_22 (by decide) (fun c => absurd c (by decide)) (fun _ => ?_)
  refine lv_aload_n hx hb dX12_pair_25 rfl (lv_at hl 0 rfl) ?_
  refine va_get (D := g) (ci := 11) (v := .ref (m_a 19)) (C := RX12) (T := TX12) (N := 56) hx hb hts iX12 hown hK hP 0 rfl rfl 19 (by decide) (hts (.fieldLink RX12 40 "CardsAtYuleModel" "pair" "[I") (List.mem_cons_of_mem _ (List.mem_append_left _ (List.mem_of_getElem? (i := 8) rfl)))) (fun _ h9 => h9) rfl dX12_pair_26 ?_
  refine lv_iconst (v := 3) hx hb dX12_pair_29 (by decide) ?_
  refine lv_iload_n hx hb dX12_pair_30 rfl (lv_at hl 1 rfl) ?_
  refine lv_imul hx hb dX12_pair_31 ?_
  refine lv_topi (fun y31 e31 => ?_)
  have q31 : y31.toInt = 3 * p0.toInt := by rw [e31]; exact mu_z rfl rfl (ir_c 3) r7_1a (by decide) (by decide) (by decide)
  have r31 : ir y31.toInt 0 45 := mu_r q31 (ir_c 3) r7_1a (by decide) (by decide) (by decide) (by decide)
  refine lv_iload_n hx hb dX12_pair_32 rfl (lv_at hl 2 rfl) ?_
  refine lv_iadd hx hb dX12_pair_33 ?_
  refine lv_topi (fun y33 e33 => ?_)
  have q33 : y33.toInt = y31.toInt + p1.toInt := by rw [e33]; exact ad_z rfl rfl r31 r19_1a (by decide) (by decide)
  have r33 : ir y33.toInt 0 47 := ad_r q33 r31 r19_1a (by decide) (by decide)
  refine va_iald (D := g) hx hb hK hP 2 0 rfl rfl (vi_rg rfl r33 (by decide) (by decide)) dX12_pair_34 ?_
  refine lv_topi (fun y34 e34 => ?_)
  have r34 : ir y34.toInt 0 15 := by rw [e34]; exact ha_m_pair_c _ (vi_cl (vi_rg rfl r33 (by decide) (by decide)))
  refine lv_goto (tgt := 40) hx hb dX12_pair_35 (by decide) ?_
  subst hQ
  have hP9 := hP.sub (ws' := [(m, .inr (11, mG m_a 0 m_taped m_at m_token m_place m_value m_word m_bad m_badPlace m_fault m_faultPlace m_willing m_will m_forgot m_isDrawn m_x m_begin m_round m_roundCards m_fate m_any m_bothSend m_meanCards m_bestSum m_fitMany m_fitFirst m_fitSecond)), ((m_a 17), .inl (cI, 25, .inl m_has_c)), ((m_a 19), .inl (cI, 240, .inl m_pair_c))]) [0, 1, 2] rfl
  have hD9 := hD.sub (ws' := [(m, .inr (11, mG m_a 0 m_taped m_at m_token m_place m_value m_word m_bad m_badPlace m_fault m_faultPlace m_willing m_will m_forgot m_isDrawn m_x m_begin m_round m_roundCards m_fate m_any m_bothSend m_meanCards m_bestSum m_fitMany m_fitFirst m_fitSecond)), ((m_a 17), .inl (cI, 25, .inl m_has_c)), ((m_a 19), .inl (cI, 240, .inl m_pair_c))]) [0, 1, 2] (by decide) rfl
  exact W.iret (v := y34) hx hb hr (fun t ht hW => ⟨⟨y34, 0, rfl, ⟨(show ir (0 : Int32).toInt 0 0 by decide), (ir_w r34 (by decide) (by decide))⟩, ⟨by rw [ht]; exact hP9, va_K.moved hW.alike hK, hD9⟩⟩, hS.F ht⟩) hS.2.2 dX12_pair_40
def v_X12_of : List Cond := .code yX12_of cX12_of 3 (some .int) :: (([.fieldLink RX12 107 "CardsAtYuleModel" "thrown" "I", .methodLink RX12 276 yX12_isPerson, .instanceMethod yX12_isPerson, .selects RX12 yX12_isPerson yX12_isPerson, .initialized RX12, .methodLink RX12 210 yX12_pairOf, .instanceMethod yX12_pairOf, .selects RX12 yX12_pairOf yX12_pairOf] : List Cond) ++ (v_X12_isPerson ++ (v_X12_pairOf ++ (wsX120 ++ ([] : List Cond)))))
theorem good_v_X12_of : v_X12_of.all goodWord = true := ga_c (by decide +kernel) (ga_a (by decide +kernel) (ga_a good_v_X12_isPerson (ga_a good_v_X12_pairOf (ga_a good_wsX120 rfl))))
set_option maxHeartbeats 4000000 in
set_option maxRecDepth 100000 in
theorem q_X12_of (l : Launch) (g : va_G) (cI cJ cB cZ cL : ClassId) (p0 : Int32) (p1 : Int32) (m : Nat) (m_a : Nat → Nat) (m_thrown : Int32) (m_taped : Int32) (m_at : Int32) (m_token : Int32) (m_place : Int32) (m_value : Int32) (m_word : Int64) (m_bad : Int32) (m_badPlace : Int32) (m_fault : Int32) (m_faultPlace : Int32) (m_willing : Int32) (m_will : Int32) (m_forgot : Int32) (m_isDrawn : Int32) (m_x : Int64) (m_begin : Int32) (m_round : Int32) (m_roundCards : Int32) (m_fate : Int32) (m_any : Int64) (m_bothSend : Int64) (m_meanCards : Int64) (m_bestSum : Int32) (m_fitMany : Int32) (m_fitFirst : Int64) (m_fitSecond : Int64) (m_has_c : Nat → Int32) (m_pair_c : Nat → Int32) (sz : Nat) (hv_m_taped : ir m_taped.toInt 0 1600) (hv_m_at : ir m_at.toInt 0 1600) (hv_m_will : ir m_will.toInt 0 1) (hv_m_isDrawn : ir m_isDrawn.toInt 0 1) (ha_m_has_c : hasI m_has_c) (ha_m_pair_c : ar m_pair_c 240 0 15) : Met l yX12_of v_X12_of ({ frames := 2, cells := 0, slots := 0, locals := 46 }) (va_Pc [.ref m, .int p0, .int p1] (pRW g (tyT cI cJ cB cZ cL) [(m, .inr (11, mG m_a m_thrown m_taped m_at m_token m_place m_value m_word m_bad m_badPlace m_fault m_faultPlace m_willing m_will m_forgot m_isDrawn m_x m_begin m_round m_roundCards m_fate m_any m_bothSend m_meanCards m_bestSum m_fitMany m_fitFirst m_fitSecond)), ((m_a 17), .inl (cI, 25, .inl m_has_c)), ((m_a 19), .inl (cI, 240, .inl m_pair_c))] sz)) (va_Qi (fun (r : Int32) (u : Int32) => match u with | n_m_thrown => (ir n_m_thrown.toInt 0 0) ∧ (ir r.toInt (-2) 15)) (fun (u : Int32) (t : State) => bRW g (tyT cI cJ cB cZ cL) (va_A [(m, .inr (11, mG m_a m_thrown m_taped m_at m_token m_place m_value m_word m_bad m_badPlace m_fault m_faultPlace m_willing m_will m_forgot m_isDrawn m_x m_begin m_round m_roundCards m_fate m_any m_bothSend m_meanCards m_bestSum m_fitMany m_fitFirst m_fitSecond)), ((m_a 17), .inl (cI, 25, .inl m_has_c)), ((m_a 19), .inl (cI, 240, .inl m_pair_c))] sz) (match u with | n_m_thrown => [(m, .inr (11, mG m_a n_m_thrown m_taped m_at m_token m_place m_value m_word m_bad m_badPlace m_fault m_faultPlace m_willing m_will m_forgot m_isDrawn m_x m_begin m_round m_roundCards m_fate m_any m_bothSend m_meanCards m_bestSum m_fitMany m_fitFirst m_fitSecond)), ((m_a 17), .inl (cI, 25, .inl m_has_c)), ((m_a 19), .inl (cI, 240, .inl m_pair_c))]) t) (va_A [(m, .inr (11, mG m_a m_thrown m_taped m_at m_token m_place m_value m_word m_bad m_badPlace m_fault m_faultPlace m_willing m_will m_forgot m_isDrawn m_x m_begin m_round m_roundCards m_fate m_any m_bothSend m_meanCards m_bestSum m_fitMany m_fitFirst m_fitSecond)), ((m_a 17), .inl (cI, 25, .inl m_has_c)), ((m_a 19), .inl (cI, 240, .inl m_pair_c))] sz)) 0 0 (va_A [(m, .inr (11, mG m_a m_thrown m_taped m_at m_token m_place m_value m_word m_bad m_badPlace m_fault m_faultPlace m_willing m_will m_forgot m_isDrawn m_x m_begin m_round m_roundCards m_fate m_any m_bothSend m_meanCards m_bestSum m_fitMany m_fitFirst m_fitSecond)), ((m_a 17), .inl (cI, 25, .inl m_has_c)), ((m_a 19), .inl (cI, 240, .inl m_pair_c))] sz) := by
  refine Met.ofW (cc := cX12_of) (maxL := 3) (ret := (some .int)) (by decide) rfl ?_
  intro p e s mth args below meth c s₁ B hml hv
  obtain ⟨rfl, hsz, hP, hK, hD0⟩ := hv
  have hx := B.exec
  have hb := B.bytes
  have hr := B.returns
  have hts := atoms_spec (ws := v_X12_of) B.pre
  have hown : s.vm.findClass RX12 = some mth.cls := findClass_of_methodNamed B.named
  have hlocks := B.notSynchronized
  clear B
  subst hsz
  have iX12 : ∀ w ∈ wsX120, w ∈ v_X12_of := (fun _ h => List.mem_cons_of_mem _ (List.mem_append_right _ (List.mem_append_right _ (List.mem_append_right _ (List.mem_append_left _ h)))))
  have hD := hD0.self (sz := s.heap.size)
  generalize hAe : (va_A [(m, .inr (11, mG m_a m_thrown m_taped m_at m_token m_place m_value m_word m_bad m_badPlace m_fault m_faultPlace m_willing m_will m_forgot m_isDrawn m_x m_begin m_round m_roundCards m_fate m_any m_bothSend m_meanCards m_bestSum m_fitMany m_fitFirst m_fitSecond)), ((m_a 17), .inl (cI, 25, .inl m_has_c)), ((m_a 19), .inl (cI, 240, .inl m_pair_c))] s.heap.size) = A at hD ⊢
  have hA : ∀ q : Nat, s.heap.size ≤ q → A q := fun q h => by rw [← hAe]; exact Or.inr h
  have hS : va_S A s.heap s.heap [] := va_S.rf
  have hl := lv_entry ([.ref m, .int p0, .int p1]) (n := 3) (Nat.le_of_ble_eq_true rfl)
  rw [lg_entry_eq]
  generalize (lg_sl ([.ref m, .int p0, .int p1]) ++ List.replicate (3 - (lg_sl ([.ref m, .int p0, .int p1])).length) Slot.unset).toArray = ls at hl ⊢
  generalize ([.ref m, .int p0, .int p1] : List Value).toArray = av at hts ⊢
  generalize hQ : MQ below _ av s _ _ A = QQ
  have hl : lv_has ls 3 [(0, .ref m), (1, .int p0), (2, .int p1)] := hl
  have hP : va_P g vwCl [(m, .inr (11, mG m_a m_thrown m_taped m_at m_token m_place m_value m_word m_bad m_badPlace m_fault m_faultPlace m_willing m_will m_forgot m_isDrawn m_x m_begin m_round m_roundCards m_fate m_any m_bothSend m_meanCards m_bestSum m_fitMany m_fitFirst m_fitSecond)), ((m_a 17), .inl (cI, 25, .inl m_has_c)), ((m_a 19), .inl (cI, 240, .inl m_pair_c))] s.heap := hP
  refine lv_aload_n hx hb dX12_of_0 rfl (lv_at hl 0 rfl) ?_
  refine lv_iconst (v := 0) hx hb dX12_of_1 (by decide) ?_
  refine va_put (D := g) (ci := 11) (v := .int 0) (ty := .int) (C := RX12) (T := TX12) (N := 56) hx hb hts iX12 tyX12 tyX12_ok nmX12 hown hK hP hD hS 0 rfl rfl 0 (by decide) (hts (.fieldLink RX12 107 "CardsAtYuleModel" "thrown" "I") (List.mem_cons_of_mem _ (List.mem_append_left _ (List.mem_of_getElem? (i := 0) rfl)))) (fun _ h9 => h9) rfl (by decide +kernel) rfl rfl (Nat.le_of_ble_eq_true rfl) dX12_of_2 (fun H locs hP hD hS => ?_)
  have hP : va_P g vwCl [(m, .inr (11, mG m_a 0 m_taped m_at m_token m_place m_value m_word m_bad m_badPlace m_fault m_faultPlace m_willing m_will m_forgot m_isDrawn m_x m_begin m_round m_roundCards m_fate m_any m_bothSend m_meanCards m_bestSum m_fitMany m_fitFirst m_fitSecond)), ((m_a 17), .inl (cI, 25, .inl m_has_c)), ((m_a 19), .inl (cI, 240, .inl m_pair_c))] H := hP
  have hD : va_D A [(m, .inr (11, mG m_a 0 m_taped m_at m_token m_place m_value m_word m_bad m_badPlace m_fault m_faultPlace m_willing m_will m_forgot m_isDrawn m_x m_begin m_round m_roundCards m_fate m_any m_bothSend m_meanCards m_bestSum m_fitMany m_fitFirst m_fitSecond)), ((m_a 17), .inl (cI, 25, .inl m_has_c)), ((m_a 19), .inl (cI, 240, .inl m_pair_c))] := hD
  refine lv_aload_n hx hb dX12_of_5 rfl (lv_at hl 0 rfl) ?_
  refine lv_iload_n hx hb dX12_of_6 rfl (lv_at hl 1 rfl) ?_
  refine ro_i (va_runV (As := [.int p0]) (rest := []) ⟨hx, hb, hml, hown, hts⟩ (q_X12_isPerson l g cI cJ cB cZ cL p0 m m_a 0 m_taped m_at m_token m_place m_value m_word m_bad m_badPlace m_fault m_faultPlace m_willing m_will m_forgot m_isDrawn m_x m_begin m_round m_roundCards m_fate m_any m_bothSend m_meanCards m_bestSum m_fitMany m_fitFirst m_fitSecond m_has_c H.size hv_m_taped hv_m_at hv_m_will hv_m_isDrawn ha_m_has_c) (cwV 1 hts (goodIn_app (g_4 (List.mem_cons_of_mem _ (List.mem_append_left _ (List.mem_of_getElem? (i := 1) rfl))) (List.mem_cons_of_mem _ (List.mem_append_left _ (List.mem_of_getElem? (i := 2) rfl))) (List.mem_cons_of_mem _ (List.mem_append_left _ (List.mem_of_getElem? (i := 3) rfl))) (List.mem_cons_of_mem _ (List.mem_append_left _ (List.mem_of_getElem? (i := 4) rfl))) (by decide +kernel)) (goodIn_sub (fun _ h => List.mem_cons_of_mem _ (List.mem_append_right _ (List.mem_append_left _ h))) good_v_X12_isPerson)) rfl rfl rfl (by decide +kernel) ⟨Nat.le_of_ble_eq_true rfl, Nat.le_of_ble_eq_true rfl⟩) (pv_RO (q := (RX12, TX12, 56)) (ci := 11) (q0 := 0) (wc := [(m, .inr (11, mG m_a 0 m_taped m_at m_token m_place m_value m_word m_bad m_badPlace m_fault m_faultPlace m_willing m_will m_forgot m_isDrawn m_x m_begin m_round m_roundCards m_fate m_any m_bothSend m_meanCards m_bestSum m_fitMany m_fitFirst m_fitSecond)), ((m_a 17), .inl (cI, 25, .inl m_has_c))]) hK hP [0, 1] rfl rfl rfl) rfl rfl hl.1 rfl (lv_room (Nat.le_of_ble_eq_true rfl)) dX12_of_7 ⟨Nat.le_of_ble_eq_true rfl, Nat.le_of_ble_eq_true rfl⟩) hS hA hP (fun r7 u7 H locs hw7 hP hS => ?_)
  have hw7_0 := hw7
  rcases hw7_0 with ⟨er7, fc7_0, fc7_1⟩ | er7
  rotate_left 1
  · subst er7
    refine lv_if_eq (tgt := 36) hx hb dX12_of_10 (by decide) (fun _ => ?_) (fun c => absurd c (by decide))
    refine lv_bipush (v := (-2)) hx hb dX12_of_36 (by decide) ?_
    subst hQ
    have hP9 := hP.sub (ws' := [(m, .inr (11, mG m_a 0 m_taped m_at m_token m_place m_value m_word m_bad m_badPlace m_fault m_faultPlace m_willing m_will m_forgot m_isDrawn m_x m_begin m_round m_roundCards m_fate m_any m_bothSend m_meanCards m_bestSum m_fitMany m_fitFirst m_fitSecond)), ((m_a 17), .inl (cI, 25, .inl m_has_c)), ((m_a 19), .inl (cI, 240, .inl m_pair_c))]) [0, 1, 2] rfl
    have hD9 := hD.sub (ws' := [(m, .inr (11, mG m_a 0 m_taped m_at m_token m_place m_value m_word m_bad m_badPlace m_fault m_faultPlace m_willing m_will m_forgot m_isDrawn m_x m_begin m_round m_roundCards m_fate m_any m_bothSend m_meanCards m_bestSum m_fitMany m_fitFirst m_fitSecond)), ((m_a 17), .inl (cI, 25, .inl m_has_c)), ((m_a 19), .inl (cI, 240, .inl m_pair_c))]) [0, 1, 2] (by decide) rfl
    exact W.iret (v := (-2)) hx hb hr (fun t ht hW => ⟨⟨(-2), 0, rfl, ⟨(show ir (0 : Int32).toInt 0 0 by decide), (show ir ((-2) : Int32).toInt (-2) 15 by decide)⟩, ⟨by rw [ht]; exact hP9, va_K.moved hW.alike hK, hD9⟩⟩, hS.F ht⟩) hS.2.2 dX12_of_38
  subst er7
  have fc7_0 : 0 ≤ p0.toInt := fc7_0
  have r7_0b : ir p0.toInt 0 2147483647 := ir_leb fc7_0 (ir_c 0) (rg_all p0) (by decide)
  have fc7_1 : p0.toInt ≤ 9 := fc7_1
  have r7_1a : ir p0.toInt 0 9 := ir_lea fc7_1 r7_0b (ir_c 9) (by decide)
  refine lv_if_eq (tgt := 36) hx hb dX12_of_10 (by decide) (fun c => absurd c (by decide)) (fun _ => ?_)
  refine lv_aload_n hx hb dX12_of_13 rfl (lv_at hl 0 rfl) ?_
  refine lv_iload_n hx hb dX12_of_14 rfl (lv_at hl 2 rfl) ?_
  refine ro_i (va_runV (As := [.int p1]) (rest := []) ⟨hx, hb, hml, hown, hts⟩ (q_X12_isPerson l g cI cJ cB cZ cL p1 m m_a 0 m_taped m_at m_token m_place m_value m_word m_bad m_badPlace m_fault m_faultPlace m_willing m_will m_forgot m_isDrawn m_x m_begin m_round m_roundCards m_fate m_any m_bothSend m_meanCards m_bestSum m_fitMany m_fitFirst m_fitSecond m_has_c H.size hv_m_taped hv_m_at hv_m_will hv_m_isDrawn ha_m_has_c) (cwV 1 hts (goodIn_app (g_4 (List.mem_cons_of_mem _ (List.mem_append_left _ (List.mem_of_getElem? (i := 1) rfl))) (List.mem_cons_of_mem _ (List.mem_append_left _ (List.mem_of_getElem? (i := 2) rfl))) (List.mem_cons_of_mem _ (List.mem_append_left _ (List.mem_of_getElem? (i := 3) rfl))) (List.mem_cons_of_mem _ (List.mem_append_left _ (List.mem_of_getElem? (i := 4) rfl))) (by decide +kernel)) (goodIn_sub (fun _ h => List.mem_cons_of_mem _ (List.mem_append_right _ (List.mem_append_left _ h))) good_v_X12_isPerson)) rfl rfl rfl (by decide +kernel) ⟨Nat.le_of_ble_eq_true rfl, Nat.le_of_ble_eq_true rfl⟩) (pv_RO (q := (RX12, TX12, 56)) (ci := 11) (q0 := 0) (wc := [(m, .inr (11, mG m_a 0 m_taped m_at m_token m_place m_value m_word m_bad m_badPlace m_fault m_faultPlace m_willing m_will m_forgot m_isDrawn m_x m_begin m_round m_roundCards m_fate m_any m_bothSend m_meanCards m_bestSum m_fitMany m_fitFirst m_fitSecond)), ((m_a 17), .inl (cI, 25, .inl m_has_c))]) hK hP [0, 1] rfl rfl rfl) rfl rfl hl.1 rfl (lv_room (Nat.le_of_ble_eq_true rfl)) dX12_of_15 ⟨Nat.le_of_ble_eq_true rfl, Nat.le_of_ble_eq_true rfl⟩) hS hA hP (fun r15 u15 H locs hw15 hP hS => ?_)
  have hw15_0 := hw15
  rcases hw15_0 with ⟨er15, fc15_0, fc15_1⟩ | er15
  rotate_left 1
  · subst er15
    refine lv_if_eq (tgt := 36) hx hb dX12_of_18 (by decide) (fun _ => ?_) (fun c => absurd c (by decide))
    refine lv_bipush (v := (-2)) hx hb dX12_of_36 (by decide) ?_
    subst hQ
    have hP9 := hP.sub (ws' := [(m, .inr (11, mG m_a 0 m_taped m_at m_token m_place m_value m_word m_bad m_badPlace m_fault m_faultPlace m_willing m_will m_forgot m_isDrawn m_x m_begin m_round m_roundCards m_fate m_any m_bothSend m_meanCards m_bestSum m_fitMany m_fitFirst m_fitSecond)), ((m_a 17), .inl (cI, 25, .inl m_has_c)), ((m_a 19), .inl (cI, 240, .inl m_pair_c))]) [0, 1, 2] rfl
    have hD9 := hD.sub (ws' := [(m, .inr (11, mG m_a 0 m_taped m_at m_token m_place m_value m_word m_bad m_badPlace m_fault m_faultPlace m_willing m_will m_forgot m_isDrawn m_x m_begin m_round m_roundCards m_fate m_any m_bothSend m_meanCards m_bestSum m_fitMany m_fitFirst m_fitSecond)), ((m_a 17), .inl (cI, 25, .inl m_has_c)), ((m_a 19), .inl (cI, 240, .inl m_pair_c))]) [0, 1, 2] (by decide) rfl
    exact W.iret (v := (-2)) hx hb hr (fun t ht hW => ⟨⟨(-2), 0, rfl, ⟨(show ir (0 : Int32).toInt 0 0 by decide), (show ir ((-2) : Int32).toInt (-2) 15 by decide)⟩, ⟨by rw [ht]; exact hP9, va_K.moved hW.alike hK, hD9⟩⟩, hS.F ht⟩) hS.2.2 dX12_of_38
  subst er15
  have fc15_0 : 0 ≤ p1.toInt := fc15_0
  have r15_0b : ir p1.toInt 0 2147483647 := ir_leb fc15_0 (ir_c 0) (rg_all p1) (by decide)
  have fc15_1 : p1.toInt ≤ 9 := fc15_1
  have r15_1a : ir p1.toInt 0 9 := ir_lea fc15_1 r15_0b (ir_c 9) (by decide)
  refine lv_if_eq (tgt := 36) hx hb dX12_of_18 (by decide) (fun c => absurd c (by decide)) (fun _ => ?_)
  refine lv_iload_n hx hb dX12_of_21 rfl (lv_at hl 1 rfl) ?_
  refine lv_iload_n hx hb dX12_of_22 rfl (lv_at hl 2 rfl) ?_
  refine lv_icmp_eq (tgt := 36) hx hb dX12_of_23 (by decide) (fun c23 => ?_) (fun c23 => ?_)
  · have f23 := (show p0.toInt = p1.toInt from z_eq rfl rfl c23)
    refine lv_bipush (v := (-2)) hx hb dX12_of_36 (by decide) ?_
    subst hQ
    have hP9 := hP.sub (ws' := [(m, .inr (11, mG m_a 0 m_taped m_at m_token m_place m_value m_word m_bad m_badPlace m_fault m_faultPlace m_willing m_will m_forgot m_isDrawn m_x m_begin m_round m_roundCards m_fate m_any m_bothSend m_meanCards m_bestSum m_fitMany m_fitFirst m_fitSecond)), ((m_a 17), .inl (cI, 25, .inl m_has_c)), ((m_a 19), .inl (cI, 240, .inl m_pair_c))]) [0, 1, 2] rfl
    have hD9 := hD.sub (ws' := [(m, .inr (11, mG m_a 0 m_taped m_at m_token m_place m_value m_word m_bad m_badPlace m_fault m_faultPlace m_willing m_will m_forgot m_isDrawn m_x m_begin m_round m_roundCards m_fate m_any m_bothSend m_meanCards m_bestSum m_fitMany m_fitFirst m_fitSecond)), ((m_a 17), .inl (cI, 25, .inl m_has_c)), ((m_a 19), .inl (cI, 240, .inl m_pair_c))]) [0, 1, 2] (by decide) rfl
    exact W.iret (v := (-2)) hx hb hr (fun t ht hW => ⟨⟨(-2), 0, rfl, ⟨(show ir (0 : Int32).toInt 0 0 by decide), (show ir ((-2) : Int32).toInt (-2) 15 by decide)⟩, ⟨by rw [ht]; exact hP9, va_K.moved hW.alike hK, hD9⟩⟩, hS.F ht⟩) hS.2.2 dX12_of_38
  have f23 := (show p0.toInt ≠ p1.toInt from z_ne rfl rfl c23)
  refine lv_aload_n hx hb dX12_of_26 rfl (lv_at hl 0 rfl) ?_
  refine lv_iconst (v := 0) hx hb dX12_of_27 (by decide) ?_
  refine lv_iload_n hx hb dX12_of_28 rfl (lv_at hl 1 rfl) ?_
  refine lv_iload_n hx hb dX12_of_29 rfl (lv_at hl 2 rfl) ?_
  refine ro_i (va_runV (As := [.int 0, .int p0, .int p1]) (rest := []) ⟨hx, hb, hml, hown, hts⟩ (q_X12_pairOf l g cI cJ cB cZ cL 0 p0 p1 m m_a 0 m_taped m_at m_token m_place m_value m_word m_bad m_badPlace m_fault m_faultPlace m_willing m_will m_forgot m_isDrawn m_x m_begin m_round m_roundCards m_fate m_any m_bothSend m_meanCards m_bestSum m_fitMany m_fitFirst m_fitSecond m_has_c m_pair_c H.size (by decide) hv_m_taped hv_m_at hv_m_will hv_m_isDrawn ha_m_has_c ha_m_pair_c) (cwV 3 hts (goodIn_app (g_4 (List.mem_cons_of_mem _ (List.mem_append_left _ (List.mem_of_getElem? (i := 5) rfl))) (List.mem_cons_of_mem _ (List.mem_append_left _ (List.mem_of_getElem? (i := 6) rfl))) (List.mem_cons_of_mem _ (List.mem_append_left _ (List.mem_of_getElem? (i := 7) rfl))) (List.mem_cons_of_mem _ (List.mem_append_left _ (List.mem_of_getElem? (i := 4) rfl))) (by decide +kernel)) (goodIn_sub (fun _ h => List.mem_cons_of_mem _ (List.mem_append_right _ (List.mem_append_right _ (List.mem_append_left _ h)))) good_v_X12_pairOf)) rfl rfl rfl (by decide +kernel) ⟨Nat.le_of_ble_eq_true rfl, Nat.le_of_ble_eq_true rfl⟩) (pv_RO (q := (RX12, TX12, 56)) (ci := 11) (q0 := 0) (wc := [(m, .inr (11, mG m_a 0 m_taped m_at m_token m_place m_value m_word m_bad m_badPlace m_fault m_faultPlace m_willing m_will m_forgot m_isDrawn m_x m_begin m_round m_roundCards m_fate m_any m_bothSend m_meanCards m_bestSum m_fitMany m_fitFirst m_fitSecond)), ((m_a 17), .inl (cI, 25, .inl m_has_c)), ((m_a 19), .inl (cI, 240, .inl m_pair_c))]) hK hP [0, 1, 2] rfl rfl rfl) rfl rfl hl.1 rfl (lv_room (Nat.le_of_ble_eq_true rfl)) dX12_of_30 ⟨Nat.le_of_ble_eq_true rfl, Nat.le_of_ble_eq_true rfl⟩) hS hA hP (fun r30 u30 H locs hw30 hP hS => ?_)
  have hw30_0 := hw30
  refine lv_goto (tgt := 38) hx hb dX12_of_33 (by decide) ?_
  subst hQ
  have hP9 := hP.sub (ws' := [(m, .inr (11, mG m_a 0 m_taped m_at m_token m_place m_value m_word m_bad m_badPlace m_fault m_faultPlace m_willing m_will m_forgot m_isDrawn m_x m_begin m_round m_roundCards m_fate m_any m_bothSend m_meanCards m_bestSum m_fitMany m_fitFirst m_fitSecond)), ((m_a 17), .inl (cI, 25, .inl m_has_c)), ((m_a 19), .inl (cI, 240, .inl m_pair_c))]) [0, 1, 2] rfl
  have hD9 := hD.sub (ws' := [(m, .inr (11, mG m_a 0 m_taped m_at m_token m_place m_value m_word m_bad m_badPlace m_fault m_faultPlace m_willing m_will m_forgot m_isDrawn m_x m_begin m_round m_roundCards m_fate m_any m_bothSend m_meanCards m_bestSum m_fitMany m_fitFirst m_fitSecond)), ((m_a 17), .inl (cI, 25, .inl m_has_c)), ((m_a 19), .inl (cI, 240, .inl m_pair_c))]) [0, 1, 2] (by decide) rfl
  exact W.iret (v := r30) hx hb hr (fun t ht hW => ⟨⟨r30, 0, rfl, ⟨(show ir (0 : Int32).toInt 0 0 by decide), (ir_w hw30_0 (by decide) (by decide))⟩, ⟨by rw [ht]; exact hP9, va_K.moved hW.alike hK, hD9⟩⟩, hS.F ht⟩) hS.2.2 dX12_of_38
def v_X12_does : List Cond := .code yX12_does cX12_does 4 (some .int) :: (([.fieldLink RX12 107 "CardsAtYuleModel" "thrown" "I", .constantLong RX12 286 (15), .methodLink RX12 112 yX12_in, .static yX12_in, .initialized RX12] : List Cond) ++ (v_X12_in ++ (wsX120 ++ ([] : List Cond))))
theorem good_v_X12_does : v_X12_does.all goodWord = true := ga_c (by decide +kernel) (ga_a (by decide +kernel) (ga_a good_v_X12_in (ga_a good_wsX120 rfl)))
set_option maxHeartbeats 4000000 in
set_option maxRecDepth 100000 in
theorem q_X12_does (l : Launch) (g : va_G) (cI cJ cB cZ cL : ClassId) (p0 : Int32) (p1 : Int32) (p2 : Int32) (m : Nat) (m_a : Nat → Nat) (m_thrown : Int32) (m_taped : Int32) (m_at : Int32) (m_token : Int32) (m_place : Int32) (m_value : Int32) (m_word : Int64) (m_bad : Int32) (m_badPlace : Int32) (m_fault : Int32) (m_faultPlace : Int32) (m_willing : Int32) (m_will : Int32) (m_forgot : Int32) (m_isDrawn : Int32) (m_x : Int64) (m_begin : Int32) (m_round : Int32) (m_roundCards : Int32) (m_fate : Int32) (m_any : Int64) (m_bothSend : Int64) (m_meanCards : Int64) (m_bestSum : Int32) (m_fitMany : Int32) (m_fitFirst : Int64) (m_fitSecond : Int64) (sz : Nat) (hv_m_taped : ir m_taped.toInt 0 1600) (hv_m_at : ir m_at.toInt 0 1600) (hv_m_will : ir m_will.toInt 0 1) (hv_m_isDrawn : ir m_isDrawn.toInt 0 1) : Met l yX12_does v_X12_does ({ frames := 1, cells := 0, slots := 0, locals := 25 }) (va_Pc [.ref m, .int p0, .int p1, .int p2] (pRW g (tyT cI cJ cB cZ cL) [(m, .inr (11, mG m_a m_thrown m_taped m_at m_token m_place m_value m_word m_bad m_badPlace m_fault m_faultPlace m_willing m_will m_forgot m_isDrawn m_x m_begin m_round m_roundCards m_fate m_any m_bothSend m_meanCards m_bestSum m_fitMany m_fitFirst m_fitSecond))] sz)) (va_Qi (fun (r : Int32) (u : Int32) => match u with | n_m_thrown => (ir n_m_thrown.toInt 0 0) ∧ (ir r.toInt (-2) 1)) (fun (u : Int32) (t : State) => bRW g (tyT cI cJ cB cZ cL) (va_A [(m, .inr (11, mG m_a m_thrown m_taped m_at m_token m_place m_value m_word m_bad m_badPlace m_fault m_faultPlace m_willing m_will m_forgot m_isDrawn m_x m_begin m_round m_roundCards m_fate m_any m_bothSend m_meanCards m_bestSum m_fitMany m_fitFirst m_fitSecond))] sz) (match u with | n_m_thrown => [(m, .inr (11, mG m_a n_m_thrown m_taped m_at m_token m_place m_value m_word m_bad m_badPlace m_fault m_faultPlace m_willing m_will m_forgot m_isDrawn m_x m_begin m_round m_roundCards m_fate m_any m_bothSend m_meanCards m_bestSum m_fitMany m_fitFirst m_fitSecond))]) t) (va_A [(m, .inr (11, mG m_a m_thrown m_taped m_at m_token m_place m_value m_word m_bad m_badPlace m_fault m_faultPlace m_willing m_will m_forgot m_isDrawn m_x m_begin m_round m_roundCards m_fate m_any m_bothSend m_meanCards m_bestSum m_fitMany m_fitFirst m_fitSecond))] sz)) 0 0 (va_A [(m, .inr (11, mG m_a m_thrown m_taped m_at m_token m_place m_value m_word m_bad m_badPlace m_fault m_faultPlace m_willing m_will m_forgot m_isDrawn m_x m_begin m_round m_roundCards m_fate m_any m_bothSend m_meanCards m_bestSum m_fitMany m_fitFirst m_fitSecond))] sz) := by
  refine Met.ofW (cc := cX12_does) (maxL := 4) (ret := (some .int)) (by decide) rfl ?_
  intro p e s mth args below meth c s₁ B hml hv
  obtain ⟨rfl, hsz, hP, hK, hD0⟩ := hv
  have hx := B.exec
  have hb := B.bytes
  have hr := B.returns
  have hts := atoms_spec (ws := v_X12_does) B.pre
  have hown : s.vm.findClass RX12 = some mth.cls := findClass_of_methodNamed B.named
  have hlocks := B.notSynchronized
  clear B
  subst hsz
  have iX12 : ∀ w ∈ wsX120, w ∈ v_X12_does := (fun _ h => List.mem_cons_of_mem _ (List.mem_append_right _ (List.mem_append_right _ (List.mem_append_left _ h))))
  have hD := hD0.self (sz := s.heap.size)
  generalize hAe : (va_A [(m, .inr (11, mG m_a m_thrown m_taped m_at m_token m_place m_value m_word m_bad m_badPlace m_fault m_faultPlace m_willing m_will m_forgot m_isDrawn m_x m_begin m_round m_roundCards m_fate m_any m_bothSend m_meanCards m_bestSum m_fitMany m_fitFirst m_fitSecond))] s.heap.size) = A at hD ⊢
  have hA : ∀ q : Nat, s.heap.size ≤ q → A q := fun q h => by rw [← hAe]; exact Or.inr h
  have hS : va_S A s.heap s.heap [] := va_S.rf
  have hl := lv_entry ([.ref m, .int p0, .int p1, .int p2]) (n := 4) (Nat.le_of_ble_eq_true rfl)
  rw [lg_entry_eq]
  generalize (lg_sl ([.ref m, .int p0, .int p1, .int p2]) ++ List.replicate (4 - (lg_sl ([.ref m, .int p0, .int p1, .int p2])).length) Slot.unset).toArray = ls at hl ⊢
  generalize ([.ref m, .int p0, .int p1, .int p2] : List Value).toArray = av at hts ⊢
  generalize hQ : MQ below _ av s _ _ A = QQ
  have hl : lv_has ls 4 [(0, .ref m), (1, .int p0), (2, .int p1), (3, .int p2)] := hl
  have hP : va_P g vwCl [(m, .inr (11, mG m_a m_thrown m_taped m_at m_token m_place m_value m_word m_bad m_badPlace m_fault m_faultPlace m_willing m_will m_forgot m_isDrawn m_x m_begin m_round m_roundCards m_fate m_any m_bothSend m_meanCards m_bestSum m_fitMany m_fitFirst m_fitSecond))] s.heap := hP
  refine lv_aload_n hx hb dX12_does_0 rfl (lv_at hl 0 rfl) ?_
  refine lv_iconst (v := 0) hx hb dX12_does_1 (by decide) ?_
  refine va_put (D := g) (ci := 11) (v := .int 0) (ty := .int) (C := RX12) (T := TX12) (N := 56) hx hb hts iX12 tyX12 tyX12_ok nmX12 hown hK hP hD hS 0 rfl rfl 0 (by decide) (hts (.fieldLink RX12 107 "CardsAtYuleModel" "thrown" "I") (List.mem_cons_of_mem _ (List.mem_append_left _ (List.mem_of_getElem? (i := 0) rfl)))) (fun _ h9 => h9) rfl (by decide +kernel) rfl rfl (Nat.le_of_ble_eq_true rfl) dX12_does_2 (fun H locs hP hD hS => ?_)
  have hP : va_P g vwCl [(m, .inr (11, mG m_a 0 m_taped m_at m_token m_place m_value m_word m_bad m_badPlace m_fault m_faultPlace m_willing m_will m_forgot m_isDrawn m_x m_begin m_round m_roundCards m_fate m_any m_bothSend m_meanCards m_bestSum m_fitMany m_fitFirst m_fitSecond))] H := hP
  have hD : va_D A [(m, .inr (11, mG m_a 0 m_taped m_at m_token m_place m_value m_word m_bad m_badPlace m_fault m_faultPlace m_willing m_will m_forgot m_isDrawn m_x m_begin m_round m_roundCards m_fate m_any m_bothSend m_meanCards m_bestSum m_fitMany m_fitFirst m_fitSecond))] := hD
  refine lv_iload_n hx hb dX12_does_5 rfl (lv_at hl 1 rfl) ?_
  refine lv_i2l (v := p0.toInt64) hx hb dX12_does_6 rfl ?_
  refine lv_lconst (v := 0) hx hb dX12_does_7 (by decide) ?_
  refine lv_ldc2 (v := 15) hx hb hown (hts (.constantLong RX12 286 (15)) (List.mem_cons_of_mem _ (List.mem_append_left _ (List.mem_of_getElem? (i := 1) rfl)))) dX12_does_8 ?_
  refine ro_i (va_runS (As := [.long p0.toInt64, .long 0, .long 15]) (rest := []) ⟨hx, hb, hml, hown, hts⟩ (q_X12_in l g cI cJ cB cZ cL p0.toInt64 p0.toInt 0 0 15 15 H.size (z_i2l rfl) rfl rfl) (va_cwS 3 hts (goodIn_app (g_3 (List.mem_cons_of_mem _ (List.mem_append_left _ (List.mem_of_getElem? (i := 2) rfl))) (List.mem_cons_of_mem _ (List.mem_append_left _ (List.mem_of_getElem? (i := 3) rfl))) (List.mem_cons_of_mem _ (List.mem_append_left _ (List.mem_of_getElem? (i := 4) rfl))) (by decide +kernel)) (goodIn_sub (fun _ h => List.mem_cons_of_mem _ (List.mem_append_right _ (List.mem_append_left _ h))) good_v_X12_in)) rfl rfl rfl (by decide +kernel) ⟨Nat.le_of_ble_eq_true rfl, Nat.le_of_ble_eq_true rfl⟩) (ps_RO (wc := []) hK hP [] rfl) rfl rfl hl.1 rfl (lv_room (Nat.le_of_ble_eq_true rfl)) dX12_does_11 ⟨Nat.le_of_ble_eq_true rfl, Nat.le_of_ble_eq_true rfl⟩) hS hA hP (fun r11 u11 H locs hw11 hP hS => ?_)
  have hw11_0 := hw11
  rcases hw11_0 with ⟨er11, fc11_0, fc11_1⟩ | er11
  rotate_left 1
  · subst er11
    refine lv_if_eq (tgt := 49) hx hb dX12_does_14 (by decide) (fun _ => ?_) (fun c => absurd c (by decide))
    refine lv_bipush (v := (-2)) hx hb dX12_does_49 (by decide) ?_
    subst hQ
    have hP9 := hP.sub (ws' := [(m, .inr (11, mG m_a 0 m_taped m_at m_token m_place m_value m_word m_bad m_badPlace m_fault m_faultPlace m_willing m_will m_forgot m_isDrawn m_x m_begin m_round m_roundCards m_fate m_any m_bothSend m_meanCards m_bestSum m_fitMany m_fitFirst m_fitSecond))]) [0] rfl
    have hD9 := hD.sub (ws' := [(m, .inr (11, mG m_a 0 m_taped m_at m_token m_place m_value m_word m_bad m_badPlace m_fault m_faultPlace m_willing m_will m_forgot m_isDrawn m_x m_begin m_round m_roundCards m_fate m_any m_bothSend m_meanCards m_bestSum m_fitMany m_fitFirst m_fitSecond))]) [0] (by decide) rfl
    exact W.iret (v := (-2)) hx hb hr (fun t ht hW => ⟨⟨(-2), 0, rfl, ⟨(show ir (0 : Int32).toInt 0 0 by decide), (show ir ((-2) : Int32).toInt (-2) 1 by decide)⟩, ⟨by rw [ht]; exact hP9, va_K.moved hW.alike hK, hD9⟩⟩, hS.F ht⟩) hS.2.2 dX12_does_51
  subst er11
  have fc11_0 : 0 ≤ p0.toInt := fc11_0
  have r11_0b : ir p0.toInt 0 2147483647 := ir_leb fc11_0 (ir_c 0) (rg_all p0) (by decide)
  have fc11_1 : p0.toInt ≤ 15 := fc11_1
  have r11_1a : ir p0.toInt 0 15 := ir_lea fc11_1 r11_0b (ir_c 15) (by decide)
  refine lv_if_eq (tgt := 49) hx hb dX12_does_14 (by decide) (fun c => absurd c (by decide)) (fun _ => ?_)
  refine lv_iload_n hx hb dX12_does_17 rfl (lv_at hl 2 rfl) ?_
  refine lv_i2l (v := p1.toInt64) hx hb dX12_does_18 rfl ?_
  refine lv_lconst (v := 0) hx hb dX12_does_19 (by decide) ?_
  refine lv_lconst (v := 1) hx hb dX12_does_20 (by decide) ?_
  refine ro_i (va_runS (As := [.long p1.toInt64, .long 0, .long 1]) (rest := []) ⟨hx, hb, hml, hown, hts⟩ (q_X12_in l g cI cJ cB cZ cL p1.toInt64 p1.toInt 0 0 1 1 H.size (z_i2l rfl) rfl rfl) (va_cwS 3 hts (goodIn_app (g_3 (List.mem_cons_of_mem _ (List.mem_append_left _ (List.mem_of_getElem? (i := 2) rfl))) (List.mem_cons_of_mem _ (List.mem_append_left _ (List.mem_of_getElem? (i := 3) rfl))) (List.mem_cons_of_mem _ (List.mem_append_left _ (List.mem_of_getElem? (i := 4) rfl))) (by decide +kernel)) (goodIn_sub (fun _ h => List.mem_cons_of_mem _ (List.mem_append_right _ (List.mem_append_left _ h))) good_v_X12_in)) rfl rfl rfl (by decide +kernel) ⟨Nat.le_of_ble_eq_true rfl, Nat.le_of_ble_eq_true rfl⟩) (ps_RO (wc := []) hK hP [] rfl) rfl rfl hl.1 rfl (lv_room (Nat.le_of_ble_eq_true rfl)) dX12_does_21 ⟨Nat.le_of_ble_eq_true rfl, Nat.le_of_ble_eq_true rfl⟩) hS hA hP (fun r21 u21 H locs hw21 hP hS => ?_)
  have hw21_0 := hw21
  rcases hw21_0 with ⟨er21, fc21_0, fc21_1⟩ | er21
  rotate_left 1
  · subst er21
    refine lv_if_eq (tgt := 49) hx hb dX12_does_24 (by decide) (fun _ => ?_) (fun c => absurd c (by decide))
    refine lv_bipush (v := (-2)) hx hb dX12_does_49 (by decide) ?_
    subst hQ
    have hP9 := hP.sub (ws' := [(m, .inr (11, mG m_a 0 m_taped m_at m_token m_place m_value m_word m_bad m_badPlace m_fault m_faultPlace m_willing m_will m_forgot m_isDrawn m_x m_begin m_round m_roundCards m_fate m_any m_bothSend m_meanCards m_bestSum m_fitMany m_fitFirst m_fitSecond))]) [0] rfl
    have hD9 := hD.sub (ws' := [(m, .inr (11, mG m_a 0 m_taped m_at m_token m_place m_value m_word m_bad m_badPlace m_fault m_faultPlace m_willing m_will m_forgot m_isDrawn m_x m_begin m_round m_roundCards m_fate m_any m_bothSend m_meanCards m_bestSum m_fitMany m_fitFirst m_fitSecond))]) [0] (by decide) rfl
    exact W.iret (v := (-2)) hx hb hr (fun t ht hW => ⟨⟨(-2), 0, rfl, ⟨(show ir (0 : Int32).toInt 0 0 by decide), (show ir ((-2) : Int32).toInt (-2) 1 by decide)⟩, ⟨by rw [ht]; exact hP9, va_K.moved hW.alike hK, hD9⟩⟩, hS.F ht⟩) hS.2.2 dX12_does_51
  subst er21
  have fc21_0 : 0 ≤ p1.toInt := fc21_0
  have r21_0b : ir p1.toInt 0 2147483647 := ir_leb fc21_0 (ir_c 0) (rg_all p1) (by decide)
  have fc21_1 : p1.toInt ≤ 1 := fc21_1
  have r21_1a : ir p1.toInt 0 1 := ir_lea fc21_1 r21_0b (ir_c 1) (by decide)
  refine lv_if_eq (tgt := 49) hx hb dX12_does_24 (by decide) (fun c => absurd c (by decide)) (fun _ => ?_)
  refine lv_iload_n hx hb dX12_does_27 rfl (lv_at hl 3 rfl) ?_
  refine lv_i2l (v := p2.toInt64) hx hb dX12_does_28 rfl ?_
  refine lv_lconst (v := 0) hx hb dX12_does_29 (by decide) ?_
  refine lv_lconst (v := 1) hx hb dX12_does_30 (by decide) ?_
  refine ro_i (va_runS (As := [.long p2.toInt64, .long 0, .long 1]) (rest := []) ⟨hx, hb, hml, hown, hts⟩ (q_X12_in l g cI cJ cB cZ cL p2.toInt64 p2.toInt 0 0 1 1 H.size (z_i2l rfl) rfl rfl) (va_cwS 3 hts (goodIn_app (g_3 (List.mem_cons_of_mem _ (List.mem_append_left _ (List.mem_of_getElem? (i := 2) rfl))) (List.mem_cons_of_mem _ (List.mem_append_left _ (List.mem_of_getElem? (i := 3) rfl))) (List.mem_cons_of_mem _ (List.mem_append_left _ (List.mem_of_getElem? (i := 4) rfl))) (by decide +kernel)) (goodIn_sub (fun _ h => List.mem_cons_of_mem _ (List.mem_append_right _ (List.mem_append_left _ h))) good_v_X12_in)) rfl rfl rfl (by decide +kernel) ⟨Nat.le_of_ble_eq_true rfl, Nat.le_of_ble_eq_true rfl⟩) (ps_RO (wc := []) hK hP [] rfl) rfl rfl hl.1 rfl (lv_room (Nat.le_of_ble_eq_true rfl)) dX12_does_31 ⟨Nat.le_of_ble_eq_true rfl, Nat.le_of_ble_eq_true rfl⟩) hS hA hP (fun r31 u31 H locs hw31 hP hS => ?_)
  have hw31_0 := hw31
  rcases hw31_0 with ⟨er31, fc31_0, fc31_1⟩ | er31
  rotate_left 1
  · subst er31
    refine lv_if_eq (tgt := 49) hx hb dX12_does_34 (by decide) (fun _ => ?_) (fun c => absurd c (by decide))
    refine lv_bipush (v := (-2)) hx hb dX12_does_49 (by decide) ?_
    subst hQ
    have hP9 := hP.sub (ws' := [(m, .inr (11, mG m_a 0 m_taped m_at m_token m_place m_value m_word m_bad m_badPlace m_fault m_faultPlace m_willing m_will m_forgot m_isDrawn m_x m_begin m_round m_roundCards m_fate m_any m_bothSend m_meanCards m_bestSum m_fitMany m_fitFirst m_fitSecond))]) [0] rfl
    have hD9 := hD.sub (ws' := [(m, .inr (11, mG m_a 0 m_taped m_at m_token m_place m_value m_word m_bad m_badPlace m_fault m_faultPlace m_willing m_will m_forgot m_isDrawn m_x m_begin m_round m_roundCards m_fate m_any m_bothSend m_meanCards m_bestSum m_fitMany m_fitFirst m_fitSecond))]) [0] (by decide) rfl
    exact W.iret (v := (-2)) hx hb hr (fun t ht hW => ⟨⟨(-2), 0, rfl, ⟨(show ir (0 : Int32).toInt 0 0 by decide), (show ir ((-2) : Int32).toInt (-2) 1 by decide)⟩, ⟨by rw [ht]; exact hP9, va_K.moved hW.alike hK, hD9⟩⟩, hS.F ht⟩) hS.2.2 dX12_does_51
  subst er31
  have fc31_0 : 0 ≤ p2.toInt := fc31_0
  have r31_0b : ir p2.toInt 0 2147483647 := ir_leb fc31_0 (ir_c 0) (rg_all p2) (by decide)
  have fc31_1 : p2.toInt ≤ 1 := fc31_1
  have r31_1a : ir p2.toInt 0 1 := ir_lea fc31_1 r31_0b (ir_c 1) (by decide)
  refine lv_if_eq (tgt := 49) hx hb dX12_does_34 (by decide) (fun c => absurd c (by decide)) (fun _ => ?_)
  refine lv_iload_n hx hb dX12_does_37 rfl (lv_at hl 1 rfl) ?_
  refine lv_iload_n hx hb dX12_does_38 rfl (lv_at hl 2 rfl) ?_
  refine lv_iconst (v := 2) hx hb dX12_does_39 (by decide) ?_
  refine lv_iload_n hx hb dX12_does_40 rfl (lv_at hl 3 rfl) ?_
  refine lv_imul hx hb dX12_does_41 ?_
  refine lv_topi (fun y41 e41 => ?_)
  have q41 : y41.toInt = 2 * p2.toInt := by rw [e41]; exact mu_z rfl rfl (ir_c 2) r31_1a (by decide) (by decide) (by decide)
  have r41 : ir y41.toInt 0 2 := mu_r q41 (ir_c 2) r31_1a (by decide) (by decide) (by decide) (by decide)
  refine lv_iadd hx hb dX12_does_42 ?_
  refine lv_topi (fun y42 e42 => ?_)
  have q42 : y42.toInt = p1.toInt + y41.toInt := by rw [e42]; exact ad_z rfl rfl r21_1a r41 (by decide) (by decide)
  have r42 : ir y42.toInt 0 3 := ad_r q42 r21_1a r41 (by decide) (by decide)
  refine lv_ishr hx hb dX12_does_43 ?_
  refine lv_topi (fun y43 e43 => ?_)
  refine lv_iconst (v := 1) hx hb dX12_does_44 (by decide) ?_
  refine lv_iand hx hb dX12_does_45 ?_
  refine lv_topi (fun y45 e45 => ?_)
  have r45 : ir y45.toInt 0 1 := by rw [e45]; exact an_y rfl (ir_c 1) (by decide)
  refine lv_goto (tgt := 51) hx hb dX12_does_46 (by decide) ?_
  subst hQ
  have hP9 := hP.sub (ws' := [(m, .inr (11, mG m_a 0 m_taped m_at m_token m_place m_value m_word m_bad m_badPlace m_fault m_faultPlace m_willing m_will m_forgot m_isDrawn m_x m_begin m_round m_roundCards m_fate m_any m_bothSend m_meanCards m_bestSum m_fitMany m_fitFirst m_fitSecond))]) [0] rfl
  have hD9 := hD.sub (ws' := [(m, .inr (11, mG m_a 0 m_taped m_at m_token m_place m_value m_word m_bad m_badPlace m_fault m_faultPlace m_willing m_will m_forgot m_isDrawn m_x m_begin m_round m_roundCards m_fate m_any m_bothSend m_meanCards m_bestSum m_fitMany m_fitFirst m_fitSecond))]) [0] (by decide) rfl
  exact W.iret (v := y45) hx hb hr (fun t ht hW => ⟨⟨y45, 0, rfl, ⟨(show ir (0 : Int32).toInt 0 0 by decide), (ir_w r45 (by decide) (by decide))⟩, ⟨by rw [ht]; exact hP9, va_K.moved hW.alike hK, hD9⟩⟩, hS.F ht⟩) hS.2.2 dX12_does_51
def v_X12_wouldSend : List Cond := .code yX12_wouldSend cX12_wouldSend 4 (some .boolean) :: (([.fieldLink RX12 53 "CardsAtYuleModel" "ruleNow" "[I", .methodLink RX12 288 yX12_isBit, .static yX12_isBit, .initialized RX12] : List Cond) ++ (v_X12_isBit ++ (wsX120 ++ ([] : List Cond))))
theorem good_v_X12_wouldSend : v_X12_wouldSend.all goodWord = true := ga_c (by decide +kernel) (ga_a (by decide +kernel) (ga_a good_v_X12_isBit (ga_a good_wsX120 rfl)))
set_option maxHeartbeats 4000000 in
set_option maxRecDepth 100000 in
theorem q_X12_wouldSend (l : Launch) (g : va_G) (cI cJ cB cZ cL : ClassId) (p0 : Int32) (p1 : Int32) (m : Nat) (m_a : Nat → Nat) (m_thrown : Int32) (m_taped : Int32) (m_at : Int32) (m_token : Int32) (m_place : Int32) (m_value : Int32) (m_word : Int64) (m_bad : Int32) (m_badPlace : Int32) (m_fault : Int32) (m_faultPlace : Int32) (m_willing : Int32) (m_will : Int32) (m_forgot : Int32) (m_isDrawn : Int32) (m_x : Int64) (m_begin : Int32) (m_round : Int32) (m_roundCards : Int32) (m_fate : Int32) (m_any : Int64) (m_bothSend : Int64) (m_meanCards : Int64) (m_bestSum : Int32) (m_fitMany : Int32) (m_fitFirst : Int64) (m_fitSecond : Int64) (m_ruleNow_c : Nat → Int32) (sz : Nat) (hv_p0 : ir p0.toInt 0 1) (hv_m_taped : ir m_taped.toInt 0 1600) (hv_m_at : ir m_at.toInt 0 1600) (hv_m_will : ir m_will.toInt 0 1) (hv_m_isDrawn : ir m_isDrawn.toInt 0 1) : Met l yX12_wouldSend v_X12_wouldSend ({ frames := 1, cells := 0, slots := 0, locals := 21 }) (va_Pc [.ref m, .int p0, .int p1] (pRO g (tyT cI cJ cB cZ cL) [(m, .inr (11, mG m_a m_thrown m_taped m_at m_token m_place m_value m_word m_bad m_badPlace m_fault m_faultPlace m_willing m_will m_forgot m_isDrawn m_x m_begin m_round m_roundCards m_fate m_any m_bothSend m_meanCards m_bestSum m_fitMany m_fitFirst m_fitSecond)), ((m_a 23), .inl (cI, 2, .inl m_ruleNow_c))] sz)) (va_Qi (fun (r : Int32) (u : Unit) => (ir r.toInt 0 1)) (fun (_ : Unit) (_ : State) => True) (va_A [] sz)) 0 0 (va_A [] sz) := by
  refine Met.ofW (cc := cX12_wouldSend) (maxL := 4) (ret := (some .boolean)) (by decide) rfl ?_
  intro p e s mth args below meth c s₁ B hml hv
  obtain ⟨rfl, hsz, hP, hK⟩ := hv
  have hx := B.exec
  have hb := B.bytes
  have hr := B.returns
  have hts := atoms_spec (ws := v_X12_wouldSend) B.pre
  have hown : s.vm.findClass RX12 = some mth.cls := findClass_of_methodNamed B.named
  have hlocks := B.notSynchronized
  clear B
  subst hsz
  have iX12 : ∀ w ∈ wsX120, w ∈ v_X12_wouldSend := (fun _ h => List.mem_cons_of_mem _ (List.mem_append_right _ (List.mem_append_right _ (List.mem_append_left _ h))))
  generalize hAe : (va_A [] s.heap.size) = A
  have hA : ∀ q : Nat, s.heap.size ≤ q → A q := fun q h => by rw [← hAe]; exact Or.inr h
  have hS : va_S A s.heap s.heap [] := va_S.rf
  have hl := lv_entry ([.ref m, .int p0, .int p1]) (n := 4) (Nat.le_of_ble_eq_true rfl)
  rw [lg_entry_eq]
  generalize (lg_sl ([.ref m, .int p0, .int p1]) ++ List.replicate (4 - (lg_sl ([.ref m, .int p0, .int p1])).length) Slot.unset).toArray = ls at hl ⊢
  generalize ([.ref m, .int p0, .int p1] : List Value).toArray = av at hts ⊢
  generalize hQ : MQ below _ av s _ _ A = QQ
  have hl : lv_has ls 4 [(0, .ref m), (1, .int p0), (2, .int p1)] := hl
  have hP : va_P g vwCl [(m, .inr (11, mG m_a m_thrown m_taped m_at m_token m_place m_value m_word m_bad m_badPlace m_fault m_faultPlace m_willing m_will m_forgot m_isDrawn m_x m_begin m_round m_roundCards m_fate m_any m_bothSend m_meanCards m_bestSum m_fitMany m_fitFirst m_fitSecond)), ((m_a 23), .inl (cI, 2, .inl m_ruleNow_c))] s.heap := hP
  refine lv_iload_n hx hb dX12_wouldSend_0 rfl (lv_at hl 2 rfl) ?_
  refine lv_iconst (v := 2) hx hb dX12_wouldSend_1 (by decide) ?_
  refine lv_iload_n hx hb dX12_wouldSend_2 rfl (lv_at hl 1 rfl) ?_
  refine lv_imul hx hb dX12_wouldSend_3 ?_
  refine lv_topi (fun y3 e3 => ?_)
  have q3 : y3.toInt = 2 * p0.toInt := by rw [e3]; exact mu_z rfl rfl (ir_c 2) hv_p0 (by decide) (by decide) (by decide)
  have r3 : ir y3.toInt 0 2 := mu_r q3 (ir_c 2) hv_p0 (by decide) (by decide) (by decide) (by decide)
  refine lv_ishr hx hb dX12_wouldSend_4 ?_
  refine lv_topi (fun y4 e4 => ?_)
  refine lv_iconst (v := 3) hx hb dX12_wouldSend_5 (by decide) ?_
  refine lv_iand hx hb dX12_wouldSend_6 ?_
  refine lv_topi (fun y6 e6 => ?_)
  have r6 : ir y6.toInt 0 3 := by rw [e6]; exact an_y rfl (ir_c 3) (by decide)
  refine lv_istore_n (lv' := [(3, .int y6), (0, .ref m), (1, .int p0), (2, .int p1)]) hx hb dX12_wouldSend_7 rfl hl (by decide) rfl (fun ls hl => ?_)
  refine lv_aload_n hx hb dX12_wouldSend_8 rfl (lv_at hl 1 rfl) ?_
  refine va_get (D := g) (ci := 11) (v := .ref (m_a 23)) (C := RX12) (T := TX12) (N := 56) hx hb hts iX12 hown hK hP 0 rfl rfl 23 (by decide) (hts (.fieldLink RX12 53 "CardsAtYuleModel" "ruleNow" "[I") (List.mem_cons_of_mem _ (List.mem_append_left _ (List.mem_of_getElem? (i := 0) rfl)))) (fun _ h9 => h9) rfl dX12_wouldSend_9 ?_
  refine lv_iload_n hx hb dX12_wouldSend_12 rfl (lv_at hl 2 rfl) ?_
  refine va_iald (D := g) hx hb hK hP 1 0 rfl rfl (vi_rg rfl hv_p0 (by decide) (by decide)) dX12_wouldSend_13 ?_
  refine lv_topi (fun y13 e13 => ?_)
  refine lv_bipush (v := 15) hx hb dX12_wouldSend_14 (by decide) ?_
  refine lv_iand hx hb dX12_wouldSend_16 ?_
  refine lv_topi (fun y16 e16 => ?_)
  have r16 : ir y16.toInt 0 15 := by rw [e16]; exact an_y rfl (ir_c 15) (by decide)
  refine lv_iload_n hx hb dX12_wouldSend_17 rfl (lv_at hl 0 rfl) ?_
  refine ro_i (va_runS (As := [.int y16, .int y6]) (rest := []) ⟨hx, hb, hml, hown, hts⟩ (q_X12_isBit l g cI cJ cB cZ cL y16 y6 s.heap.size ) (va_cwS 2 hts (goodIn_app (g_3 (List.mem_cons_of_mem _ (List.mem_append_left _ (List.mem_of_getElem? (i := 1) rfl))) (List.mem_cons_of_mem _ (List.mem_append_left _ (List.mem_of_getElem? (i := 2) rfl))) (List.mem_cons_of_mem _ (List.mem_append_left _ (List.mem_of_getElem? (i := 3) rfl))) (by decide +kernel)) (goodIn_sub (fun _ h => List.mem_cons_of_mem _ (List.mem_append_right _ (List.mem_append_left _ h))) good_v_X12_isBit)) rfl rfl rfl (by decide +kernel) ⟨Nat.le_of_ble_eq_true rfl, Nat.le_of_ble_eq_true rfl⟩) (ps_RO (wc := []) hK hP [] rfl) rfl rfl hl.1 rfl (lv_room (Nat.le_of_ble_eq_true rfl)) dX12_wouldSend_18 ⟨Nat.le_of_ble_eq_true rfl, Nat.le_of_ble_eq_true rfl⟩) hS hA hP (fun r18 u18 H locs hw18 hP hS => ?_)
  have hw18_0 := hw18
  subst hQ
  exact W.zret (v := r18) hx hb hr (bo_n hw18_0) (fun t ht hW => ⟨⟨r18, (), rfl, hw18_0, trivial⟩, hS.F ht⟩) hS.2.2 dX12_wouldSend_21
def v_X12_isForgotten : List Cond := .code yX12_isForgotten cX12_isForgotten 3 (some .boolean) :: (([.fieldLink RX12 292 "CardsAtYuleModel" "isDrawn" "Z", .constantLong RX12 296 (1103515245), .fieldLink RX12 298 "CardsAtYuleModel" "x" "J", .constantLong RX12 301 (12345), .constantLong RX12 303 (2147483648), .constantLong RX12 305 (65536), .constantLong RX12 307 (100), .fieldLink RX12 71 "CardsAtYuleModel" "oddsNow" "[I", .fieldLink RX12 309 "CardsAtYuleModel" "forgot" "I"] : List Cond) ++ (wsX120 ++ ([] : List Cond)))
theorem good_v_X12_isForgotten : v_X12_isForgotten.all goodWord = true := ga_c (by decide +kernel) (ga_a (by decide +kernel) (ga_a good_wsX120 rfl))
set_option maxHeartbeats 4000000 in
set_option maxRecDepth 100000 in
theorem q_X12_isForgotten (l : Launch) (g : va_G) (cI cJ cB cZ cL : ClassId) (p0 : Int32) (m : Nat) (m_a : Nat → Nat) (m_thrown : Int32) (m_taped : Int32) (m_at : Int32) (m_token : Int32) (m_place : Int32) (m_value : Int32) (m_word : Int64) (m_bad : Int32) (m_badPlace : Int32) (m_fault : Int32) (m_faultPlace : Int32) (m_willing : Int32) (m_will : Int32) (m_forgot : Int32) (m_isDrawn : Int32) (m_x : Int64) (m_begin : Int32) (m_round : Int32) (m_roundCards : Int32) (m_fate : Int32) (m_any : Int64) (m_bothSend : Int64) (m_meanCards : Int64) (m_bestSum : Int32) (m_fitMany : Int32) (m_fitFirst : Int64) (m_fitSecond : Int64) (m_oddsNow_c : Nat → Int32) (sz : Nat) (hv_p0 : ir p0.toInt 0 1) (hv_m_taped : ir m_taped.toInt 0 1600) (hv_m_at : ir m_at.toInt 0 1600) (hv_m_will : ir m_will.toInt 0 1) (hv_m_isDrawn : ir m_isDrawn.toInt 0 1) : Met l yX12_isForgotten v_X12_isForgotten ({ frames := 0, cells := 0, slots := 0, locals := 0 }) (va_Pc [.ref m, .int p0] (pRW g (tyT cI cJ cB cZ cL) [(m, .inr (11, mG m_a m_thrown m_taped m_at m_token m_place m_value m_word m_bad m_badPlace m_fault m_faultPlace m_willing m_will m_forgot m_isDrawn m_x m_begin m_round m_roundCards m_fate m_any m_bothSend m_meanCards m_bestSum m_fitMany m_fitFirst m_fitSecond)), ((m_a 33), .inl (cI, 2, .inl m_oddsNow_c))] sz)) (va_Qi (fun (r : Int32) (u : Int32 × Int64) => match u with | (n_m_forgot, n_m_x) => (ir r.toInt 0 1)) (fun (u : Int32 × Int64) (t : State) => bRW g (tyT cI cJ cB cZ cL) (va_A [(m, .inr (11, mG m_a m_thrown m_taped m_at m_token m_place m_value m_word m_bad m_badPlace m_fault m_faultPlace m_willing m_will m_forgot m_isDrawn m_x m_begin m_round m_roundCards m_fate m_any m_bothSend m_meanCards m_bestSum m_fitMany m_fitFirst m_fitSecond)), ((m_a 33), .inl (cI, 2, .inl m_oddsNow_c))] sz) (match u with | (n_m_forgot, n_m_x) => [(m, .inr (11, mG m_a m_thrown m_taped m_at m_token m_place m_value m_word m_bad m_badPlace m_fault m_faultPlace m_willing m_will n_m_forgot m_isDrawn n_m_x m_begin m_round m_roundCards m_fate m_any m_bothSend m_meanCards m_bestSum m_fitMany m_fitFirst m_fitSecond)), ((m_a 33), .inl (cI, 2, .inl m_oddsNow_c))]) t) (va_A [(m, .inr (11, mG m_a m_thrown m_taped m_at m_token m_place m_value m_word m_bad m_badPlace m_fault m_faultPlace m_willing m_will m_forgot m_isDrawn m_x m_begin m_round m_roundCards m_fate m_any m_bothSend m_meanCards m_bestSum m_fitMany m_fitFirst m_fitSecond)), ((m_a 33), .inl (cI, 2, .inl m_oddsNow_c))] sz)) 0 0 (va_A [(m, .inr (11, mG m_a m_thrown m_taped m_at m_token m_place m_value m_word m_bad m_badPlace m_fault m_faultPlace m_willing m_will m_forgot m_isDrawn m_x m_begin m_round m_roundCards m_fate m_any m_bothSend m_meanCards m_bestSum m_fitMany m_fitFirst m_fitSecond)), ((m_a 33), .inl (cI, 2, .inl m_oddsNow_c))] sz) := by
  refine Met.ofW (cc := cX12_isForgotten) (maxL := 3) (ret := (some .boolean)) (by decide) rfl ?_
  intro p e s mth args below meth c s₁ B hml hv
  obtain ⟨rfl, hsz, hP, hK, hD0⟩ := hv
  have hx := B.exec
  have hb := B.bytes
  have hr := B.returns
  have hts := atoms_spec (ws := v_X12_isForgotten) B.pre
  have hown : s.vm.findClass RX12 = some mth.cls := findClass_of_methodNamed B.named
  have hlocks := B.notSynchronized
  clear B
  subst hsz
  have iX12 : ∀ w ∈ wsX120, w ∈ v_X12_isForgotten := (fun _ h => List.mem_cons_of_mem _ (List.mem_append_right _ (List.mem_append_left _ h)))
  have hD := hD0.self (sz := s.heap.size)
  generalize hAe : (va_A [(m, .inr (11, mG m_a m_thrown m_taped m_at m_token m_place m_value m_word m_bad m_badPlace m_fault m_faultPlace m_willing m_will m_forgot m_isDrawn m_x m_begin m_round m_roundCards m_fate m_any m_bothSend m_meanCards m_bestSum m_fitMany m_fitFirst m_fitSecond)), ((m_a 33), .inl (cI, 2, .inl m_oddsNow_c))] s.heap.size) = A at hD ⊢
  have hA : ∀ q : Nat, s.heap.size ≤ q → A q := fun q h => by rw [← hAe]; exact Or.inr h
  have hS : va_S A s.heap s.heap [] := va_S.rf
  have hl := lv_entry ([.ref m, .int p0]) (n := 3) (Nat.le_of_ble_eq_true rfl)
  rw [lg_entry_eq]
  generalize (lg_sl ([.ref m, .int p0]) ++ List.replicate (3 - (lg_sl ([.ref m, .int p0])).length) Slot.unset).toArray = ls at hl ⊢
  generalize ([.ref m, .int p0] : List Value).toArray = av at hts ⊢
  generalize hQ : MQ below _ av s _ _ A = QQ
  have hl : lv_has ls 3 [(0, .ref m), (1, .int p0)] := hl
  have hP : va_P g vwCl [(m, .inr (11, mG m_a m_thrown m_taped m_at m_token m_place m_value m_word m_bad m_badPlace m_fault m_faultPlace m_willing m_will m_forgot m_isDrawn m_x m_begin m_round m_roundCards m_fate m_any m_bothSend m_meanCards m_bestSum m_fitMany m_fitFirst m_fitSecond)), ((m_a 33), .inl (cI, 2, .inl m_oddsNow_c))] s.heap := hP
  refine lv_aload_n hx hb dX12_isForgotten_0 rfl (lv_at hl 0 rfl) ?_
  refine va_get (D := g) (ci := 11) (v := .int m_isDrawn) (C := RX12) (T := TX12) (N := 56) hx hb hts iX12 hown hK hP 0 rfl rfl 31 (by decide) (hts (.fieldLink RX12 292 "CardsAtYuleModel" "isDrawn" "Z") (List.mem_cons_of_mem _ (List.mem_append_left _ (List.mem_of_getElem? (i := 0) rfl)))) (fun _ h9 => h9) rfl dX12_isForgotten_1 ?_
  refine lv_if_ne (tgt := 9) hx hb dX12_isForgotten_4 (by decide) (fun c4 => ?_) (fun c4 => ?_)
  rotate_left 1
  · have f4 := (show m_isDrawn.toInt = 0 from z_eq rfl rfl c4)
    have r4a : ir m_isDrawn.toInt 0 0 := ir_eqa f4 hv_m_isDrawn (ir_c 0) (by decide) (by decide)
    refine lv_iconst (v := 0) hx hb dX12_isForgotten_7 (by decide) ?_
    subst hQ
    have hP9 := hP.sub (ws' := [(m, .inr (11, mG m_a m_thrown m_taped m_at m_token m_place m_value m_word m_bad m_badPlace m_fault m_faultPlace m_willing m_will m_forgot m_isDrawn m_x m_begin m_round m_roundCards m_fate m_any m_bothSend m_meanCards m_bestSum m_fitMany m_fitFirst m_fitSecond)), ((m_a 33), .inl (cI, 2, .inl m_oddsNow_c))]) [0, 1] rfl
    have hD9 := hD.sub (ws' := [(m, .inr (11, mG m_a m_thrown m_taped m_at m_token m_place m_value m_word m_bad m_badPlace m_fault m_faultPlace m_willing m_will m_forgot m_isDrawn m_x m_begin m_round m_roundCards m_fate m_any m_bothSend m_meanCards m_bestSum m_fitMany m_fitFirst m_fitSecond)), ((m_a 33), .inl (cI, 2, .inl m_oddsNow_c))]) [0, 1] (by decide) rfl
    exact W.zret (v := 0) hx hb hr rfl (fun t ht hW => ⟨⟨0, (m_forgot, m_x), rfl, (show ir (0 : Int32).toInt 0 1 by decide), ⟨by rw [ht]; exact hP9, va_K.moved hW.alike hK, hD9⟩⟩, hS.F ht⟩) hS.2.2 dX12_isForgotten_8
  have f4 := (show m_isDrawn.toInt ≠ 0 from z_ne rfl rfl c4)
  have r4a : ir m_isDrawn.toInt 1 1 := ir_nel f4 hv_m_isDrawn (by decide) (by decide)
  refine lv_aload_n hx hb dX12_isForgotten_9 rfl (lv_at hl 0 rfl) ?_
  refine lv_ldc2 (v := 1103515245) hx hb hown (hts (.constantLong RX12 296 (1103515245)) (List.mem_cons_of_mem _ (List.mem_append_left _ (List.mem_of_getElem? (i := 1) rfl)))) dX12_isForgotten_10 ?_
  refine lv_aload_n hx hb dX12_isForgotten_13 rfl (lv_at hl 0 rfl) ?_
  refine va_get (D := g) (ci := 11) (v := .long m_x) (C := RX12) (T := TX12) (N := 56) hx hb hts iX12 hown hK hP 0 rfl rfl 32 (by decide) (hts (.fieldLink RX12 298 "CardsAtYuleModel" "x" "J") (List.mem_cons_of_mem _ (List.mem_append_left _ (List.mem_of_getElem? (i := 2) rfl)))) (fun _ h9 => h9) rfl dX12_isForgotten_14 ?_
  refine lv_lmul hx hb dX12_isForgotten_17 ?_
  refine lv_topl (fun y17 e17 => ?_)
  refine lv_ldc2 (v := 12345) hx hb hown (hts (.constantLong RX12 301 (12345)) (List.mem_cons_of_mem _ (List.mem_append_left _ (List.mem_of_getElem? (i := 3) rfl)))) dX12_isForgotten_18 ?_
  refine lv_ladd hx hb dX12_isForgotten_21 ?_
  refine lv_topl (fun y21 e21 => ?_)
  refine lv_ldc2 (v := 2147483648) hx hb hown (hts (.constantLong RX12 303 (2147483648)) (List.mem_cons_of_mem _ (List.mem_append_left _ (List.mem_of_getElem? (i := 4) rfl)))) dX12_isForgotten_22 ?_
  refine lv_lrem hx hb dX12_isForgotten_25 (by decide) ?_
  refine lv_topl (fun y25 e25 => ?_)
  refine va_put (D := g) (ci := 11) (v := .long y25) (ty := .long) (C := RX12) (T := TX12) (N := 56) hx hb hts iX12 tyX12 tyX12_ok nmX12 hown hK hP hD hS 0 rfl rfl 32 (by decide) (hts (.fieldLink RX12 298 "CardsAtYuleModel" "x" "J") (List.mem_cons_of_mem _ (List.mem_append_left _ (List.mem_of_getElem? (i := 2) rfl)))) (fun _ h9 => h9) rfl (by decide +kernel) rfl rfl (Nat.le_of_ble_eq_true rfl) dX12_isForgotten_26 (fun H locs hP hD hS => ?_)
  have hP : va_P g vwCl [(m, .inr (11, mG m_a m_thrown m_taped m_at m_token m_place m_value m_word m_bad m_badPlace m_fault m_faultPlace m_willing m_will m_forgot m_isDrawn y25 m_begin m_round m_roundCards m_fate m_any m_bothSend m_meanCards m_bestSum m_fitMany m_fitFirst m_fitSecond)), ((m_a 33), .inl (cI, 2, .inl m_oddsNow_c))] H := hP
  have hD : va_D A [(m, .inr (11, mG m_a m_thrown m_taped m_at m_token m_place m_value m_word m_bad m_badPlace m_fault m_faultPlace m_willing m_will m_forgot m_isDrawn y25 m_begin m_round m_roundCards m_fate m_any m_bothSend m_meanCards m_bestSum m_fitMany m_fitFirst m_fitSecond)), ((m_a 33), .inl (cI, 2, .inl m_oddsNow_c))] := hD
  refine lv_aload_n hx hb dX12_isForgotten_29 rfl (lv_at hl 0 rfl) ?_
  refine va_get (D := g) (ci := 11) (v := .long y25) (C := RX12) (T := TX12) (N := 56) hx hb hts iX12 hown hK hP 0 rfl rfl 32 (by decide) (hts (.fieldLink RX12 298 "CardsAtYuleModel" "x" "J") (List.mem_cons_of_mem _ (List.mem_append_left _ (List.mem_of_getElem? (i := 2) rfl)))) (fun _ h9 => h9) rfl dX12_isForgotten_30 ?_
  refine lv_ldc2 (v := 65536) hx hb hown (hts (.constantLong RX12 305 (65536)) (List.mem_cons_of_mem _ (List.mem_append_left _ (List.mem_of_getElem? (i := 5) rfl)))) dX12_isForgotten_33 ?_
  refine lv_ldiv hx hb dX12_isForgotten_36 (by decide) ?_
  refine lv_topl (fun y36 e36 => ?_)
  refine lv_ldc2 (v := 100) hx hb hown (hts (.constantLong RX12 307 (100)) (List.mem_cons_of_mem _ (List.mem_append_left _ (List.mem_of_getElem? (i := 6) rfl)))) dX12_isForgotten_37 ?_
  refine lv_lrem hx hb dX12_isForgotten_40 (by decide) ?_
  refine lv_topl (fun y40 e40 => ?_)
  refine lv_aload_n hx hb dX12_isForgotten_41 rfl (lv_at hl 0 rfl) ?_
  refine va_get (D := g) (ci := 11) (v := .ref (m_a 33)) (C := RX12) (T := TX12) (N := 56) hx hb hts iX12 hown hK hP 0 rfl rfl 33 (by decide) (hts (.fieldLink RX12 71 "CardsAtYuleModel" "oddsNow" "[I") (List.mem_cons_of_mem _ (List.mem_append_left _ (List.mem_of_getElem? (i := 7) rfl)))) (fun _ h9 => h9) rfl dX12_isForgotten_42 ?_
  refine lv_iload_n hx hb dX12_isForgotten_45 rfl (lv_at hl 1 rfl) ?_
  refine va_iald (D := g) hx hb hK hP 1 0 rfl rfl (vi_rg rfl hv_p0 (by decide) (by decide)) dX12_isForgotten_46 ?_
  refine lv_topi (fun y46 e46 => ?_)
  refine lv_i2l (v := y46.toInt64) hx hb dX12_isForgotten_47 rfl ?_
  refine W.lcmp hx hb dX12_isForgotten_48 ?_
  have J57 : ∀ (j57_s0 : Int32) (H : Heap) (locs : List Loc) (ls : Array Slot), (ir j57_s0.toInt 0 1) → (ir y40.toInt (-9223372036854775808) 9223372036854775807) → va_P g vwCl [(m, .inr (11, mG m_a m_thrown m_taped m_at m_token m_place m_value m_word m_bad m_badPlace m_fault m_faultPlace m_willing m_will m_forgot m_isDrawn y25 m_begin m_round m_roundCards m_fate m_any m_bothSend m_meanCards m_bestSum m_fitMany m_fitFirst m_fitSecond)), ((m_a 33), .inl (cI, 2, .inl m_oddsNow_c))] H → va_D A [(m, .inr (11, mG m_a m_thrown m_taped m_at m_token m_place m_value m_word m_bad m_badPlace m_fault m_faultPlace m_willing m_will m_forgot m_isDrawn y25 m_begin m_round m_roundCards m_fate m_any m_bothSend m_meanCards m_bestSum m_fitMany m_fitFirst m_fitSecond)), ((m_a 33), .inl (cI, 2, .inl m_oddsNow_c))] → va_S A s.heap H locs → lv_has ls 3 [(0, .ref m)] → W p l e (headSpec v_X12_isForgotten ({ frames := 0, cells := 0, slots := 0, locals := 0 })).room s mth av below meth c H locs 0 0 QQ (F0 mth 57 ls [.int j57_s0]) := by
    intro j57_s0 H locs ls hj57_s0 t57_1 hP hD hS hl
    refine lv_istore_n (lv' := [(2, .int j57_s0), (0, .ref m)]) hx hb dX12_isForgotten_57 rfl hl (by decide) rfl (fun ls hl => ?_)
    refine lv_aload_n hx hb dX12_isForgotten_58 rfl (lv_at hl 1 rfl) ?_
    refine lv_dup hx hb dX12_isForgotten_59 rfl ?_
    refine va_get (D := g) (ci := 11) (v := .int m_forgot) (C := RX12) (T := TX12) (N := 56) hx hb hts iX12 hown hK hP 0 rfl rfl 30 (by decide) (hts (.fieldLink RX12 309 "CardsAtYuleModel" "forgot" "I") (List.mem_cons_of_mem _ (List.mem_append_left _ (List.mem_of_getElem? (i := 8) rfl)))) (fun _ h9 => h9) rfl dX12_isForgotten_60 ?_
    refine lv_iload_n hx hb dX12_isForgotten_63 rfl (lv_at hl 0 rfl) ?_
    refine lv_if_eq (tgt := 71) hx hb dX12_isForgotten_64 (by decide) (fun c64 => ?_) (fun c64 => ?_)
    · have f64 := (show j57_s0.toInt = 0 from z_eq rfl rfl c64)
      have r64a : ir j57_s0.toInt 0 0 := ir_eqa f64 hj57_s0 (ir_c 0) (by decide) (by decide)
      refine lv_iconst (v := 0) hx hb dX12_isForgotten_71 (by decide) ?_
      refine lv_iadd hx hb dX12_isForgotten_72 ?_
      refine lv_topi (fun y72 e72 => ?_)
      refine va_put (D := g) (ci := 11) (v := .int y72) (ty := .int) (C := RX12) (T := TX12) (N := 56) hx hb hts iX12 tyX12 tyX12_ok nmX12 hown hK hP hD hS 0 rfl rfl 30 (by decide) (hts (.fieldLink RX12 309 "CardsAtYuleModel" "forgot" "I") (List.mem_cons_of_mem _ (List.mem_append_left _ (List.mem_of_getElem? (i := 8) rfl)))) (fun _ h9 => h9) rfl (by decide +kernel) rfl rfl (Nat.le_of_ble_eq_true rfl) dX12_isForgotten_73 (fun H locs hP hD hS => ?_)
      have hP : va_P g vwCl [(m, .inr (11, mG m_a m_thrown m_taped m_at m_token m_place m_value m_word m_bad m_badPlace m_fault m_faultPlace m_willing m_will y72 m_isDrawn y25 m_begin m_round m_roundCards m_fate m_any m_bothSend m_meanCards m_bestSum m_fitMany m_fitFirst m_fitSecond)), ((m_a 33), .inl (cI, 2, .inl m_oddsNow_c))] H := hP
      have hD : va_D A [(m, .inr (11, mG m_a m_thrown m_taped m_at m_token m_place m_value m_word m_bad m_badPlace m_fault m_faultPlace m_willing m_will y72 m_isDrawn y25 m_begin m_round m_roundCards m_fate m_any m_bothSend m_meanCards m_bestSum m_fitMany m_fitFirst m_fitSecond)), ((m_a 33), .inl (cI, 2, .inl m_oddsNow_c))] := hD
      refine lv_iload_n hx hb dX12_isForgotten_76 rfl (lv_at hl 0 rfl) ?_
      subst hQ
      have hP9 := hP.sub (ws' := [(m, .inr (11, mG m_a m_thrown m_taped m_at m_token m_place m_value m_word m_bad m_badPlace m_fault m_faultPlace m_willing m_will y72 m_isDrawn y25 m_begin m_round m_roundCards m_fate m_any m_bothSend m_meanCards m_bestSum m_fitMany m_fitFirst m_fitSecond)), ((m_a 33), .inl (cI, 2, .inl m_oddsNow_c))]) [0, 1] rfl
      have hD9 := hD.sub (ws' := [(m, .inr (11, mG m_a m_thrown m_taped m_at m_token m_place m_value m_word m_bad m_badPlace m_fault m_faultPlace m_willing m_will y72 m_isDrawn y25 m_begin m_round m_roundCards m_fate m_any m_bothSend m_meanCards m_bestSum m_fitMany m_fitFirst m_fitSecond)), ((m_a 33), .inl (cI, 2, .inl m_oddsNow_c))]) [0, 1] (by decide) rfl
      exact W.zret (v := j57_s0) hx hb hr (bo_n (ir_w r64a (by decide) (by decide))) (fun t ht hW => ⟨⟨j57_s0, (y72, y25), rfl, (ir_w r64a (by decide) (by decide)), ⟨by rw [ht]; exact hP9, va_K.moved hW.alike hK, hD9⟩⟩, hS.F ht⟩) hS.2.2 dX12_isForgotten_77
    have f64 := (show j57_s0.toInt ≠ 0 from z_ne rfl rfl c64)
    have r64a : ir j57_s0.toInt 1 1 := ir_nel f64 hj57_s0 (by decide) (by decide)
    refine lv_iconst (v := 1) hx hb dX12_isForgotten_67 (by decide) ?_
    refine lv_goto (tgt := 72) hx hb dX12_isForgotten_68 (by decide) ?_
    refine lv_iadd hx hb dX12_isForgotten_72 ?_
    refine lv_topi (fun y72 e72 => ?_)
    refine va_put (D := g) (ci := 11) (v := .int y72) (ty := .int) (C := RX12) (T := TX12) (N := 56) hx hb hts iX12 tyX12 tyX12_ok nmX12 hown hK hP hD hS 0 rfl rfl 30 (by decide) (hts (.fieldLink RX12 309 "CardsAtYuleModel" "forgot" "I") (List.mem_cons_of_mem _ (List.mem_append_left _ (List.mem_of_getElem? (i := 8) rfl)))) (fun _ h9 => h9) rfl (by decide +kernel) rfl rfl (Nat.le_of_ble_eq_true rfl) dX12_isForgotten_73 (fun H locs hP hD hS => ?_)
    have hP : va_P g vwCl [(m, .inr (11, mG m_a m_thrown m_taped m_at m_token m_place m_value m_word m_bad m_badPlace m_fault m_faultPlace m_willing m_will y72 m_isDrawn y25 m_begin m_round m_roundCards m_fate m_any m_bothSend m_meanCards m_bestSum m_fitMany m_fitFirst m_fitSecond)), ((m_a 33), .inl (cI, 2, .inl m_oddsNow_c))] H := hP
    have hD : va_D A [(m, .inr (11, mG m_a m_thrown m_taped m_at m_token m_place m_value m_word m_bad m_badPlace m_fault m_faultPlace m_willing m_will y72 m_isDrawn y25 m_begin m_round m_roundCards m_fate m_any m_bothSend m_meanCards m_bestSum m_fitMany m_fitFirst m_fitSecond)), ((m_a 33), .inl (cI, 2, .inl m_oddsNow_c))] := hD
    refine lv_iload_n hx hb dX12_isForgotten_76 rfl (lv_at hl 0 rfl) ?_
    subst hQ
    have hP9 := hP.sub (ws' := [(m, .inr (11, mG m_a m_thrown m_taped m_at m_token m_place m_value m_word m_bad m_badPlace m_fault m_faultPlace m_willing m_will y72 m_isDrawn y25 m_begin m_round m_roundCards m_fate m_any m_bothSend m_meanCards m_bestSum m_fitMany m_fitFirst m_fitSecond)), ((m_a 33), .inl (cI, 2, .inl m_oddsNow_c))]) [0, 1] rfl
    have hD9 := hD.sub (ws' := [(m, .inr (11, mG m_a m_thrown m_taped m_at m_token m_place m_value m_word m_bad m_badPlace m_fault m_faultPlace m_willing m_will y72 m_isDrawn y25 m_begin m_round m_roundCards m_fate m_any m_bothSend m_meanCards m_bestSum m_fitMany m_fitFirst m_fitSecond)), ((m_a 33), .inl (cI, 2, .inl m_oddsNow_c))]) [0, 1] (by decide) rfl
    exact W.zret (v := j57_s0) hx hb hr (bo_n (ir_w r64a (by decide) (by decide))) (fun t ht hW => ⟨⟨j57_s0, (y72, y25), rfl, (ir_w r64a (by decide) (by decide)), ⟨by rw [ht]; exact hP9, va_K.moved hW.alike hK, hD9⟩⟩, hS.F ht⟩) hS.2.2 dX12_isForgotten_77
  refine lv_if_ge (tgt := 56) hx hb dX12_isForgotten_49 (by decide) (fun c49 => ?_) (fun c49 => ?_)
  · have f49 := (show y46.toInt ≤ y40.toInt from y_ge rfl (z_i2l rfl) c49)
    have r49a : ir y40.toInt (-2147483648) 9223372036854775807 := ir_leb f49 (rg_all y46) (rl_all y40) (by decide)
    refine lv_iconst (v := 0) hx hb dX12_isForgotten_56 (by decide) ?_
    exact J57 0 _ _ _ (by decide) (ir_w r49a (by decide) (by decide)) (hP.sub [0, 1] rfl) (hD.sub [0, 1] (by decide) rfl) hS (lv_sub hl [0] rfl)
  have f49 := (show y40.toInt < y46.toInt from y_nge rfl (z_i2l rfl) c49)
  have r49a : ir y40.toInt (-9223372036854775808) 2147483646 := ir_lta f49 (rl_all y40) (rg_all y46) (by decide)
  refine lv_iconst (v := 1) hx hb dX12_isForgotten_52 (by decide) ?_
  refine lv_goto (tgt := 57) hx hb dX12_isForgotten_53 (by decide) ?_
  exact J57 1 _ _ _ (by decide) (ir_w r49a (by decide) (by decide)) (hP.sub [0, 1] rfl) (hD.sub [0, 1] (by decide) rfl) hS (lv_sub hl [0] rfl)
def v_X12_yearOf : List Cond := .code yX12_yearOf cX12_yearOf 5 (some .int) :: (([.fieldLink RX12 74 "CardsAtYuleModel" "cameFirst" "[Z", .fieldLink RX12 65 "CardsAtYuleModel" "gets" "[Z", .fieldLink RX12 62 "CardsAtYuleModel" "sent" "[I", .fieldLink RX12 59 "CardsAtYuleModel" "maycome" "[Z", .fieldLink RX12 68 "CardsAtYuleModel" "willing" "I", .fieldLink RX12 56 "CardsAtYuleModel" "maySend" "[Z", .fieldLink RX12 53 "CardsAtYuleModel" "ruleNow" "[I", .methodLink RX12 318 yX12_isForgotten, .instanceMethod yX12_isForgotten, .selects RX12 yX12_isForgotten yX12_isForgotten, .initialized RX12, .methodLink RX12 315 yX12_wouldSend, .instanceMethod yX12_wouldSend, .selects RX12 yX12_wouldSend yX12_wouldSend, .fieldLink RX12 312 "CardsAtYuleModel" "will" "Z"] : List Cond) ++ (v_X12_isForgotten ++ (v_X12_wouldSend ++ (wsX120 ++ ([] : List Cond)))))
theorem good_v_X12_yearOf : v_X12_yearOf.all goodWord = true := ga_c (by decide +kernel) (ga_a (by decide +kernel) (ga_a good_v_X12_isForgotten (ga_a good_v_X12_wouldSend (ga_a good_wsX120 rfl))))
set_option maxHeartbeats 4000000 in
set_option maxRecDepth 100000 in
theorem q_X12_yearOf (l : Launch) (g : va_G) (cI cJ cB cZ cL : ClassId) (p0 : Int32) (m : Nat) (m_a : Nat → Nat) (m_thrown : Int32) (m_taped : Int32) (m_at : Int32) (m_token : Int32) (m_place : Int32) (m_value : Int32) (m_word : Int64) (m_bad : Int32) (m_badPlace : Int32) (m_fault : Int32) (m_faultPlace : Int32) (m_willing : Int32) (m_will : Int32) (m_forgot : Int32) (m_isDrawn : Int32) (m_x : Int64) (m_begin : Int32) (m_round : Int32) (m_roundCards : Int32) (m_fate : Int32) (m_any : Int64) (m_bothSend : Int64) (m_meanCards : Int64) (m_bestSum : Int32) (m_fitMany : Int32) (m_fitFirst : Int64) (m_fitSecond : Int64) (m_gets_c : Nat → Int32) (m_maySend_c : Nat → Int32) (m_ruleNow_c : Nat → Int32) (m_oddsNow_c : Nat → Int32) (m_sent_c : Nat → Int32) (m_maycome_c : Nat → Int32) (m_cameFirst_c : Nat → Int32) (sz : Nat) (hv_m_taped : ir m_taped.toInt 0 1600) (hv_m_at : ir m_at.toInt 0 1600) (hv_m_will : ir m_will.toInt 0 1) (hv_m_isDrawn : ir m_isDrawn.toInt 0 1) : Met l yX12_yearOf v_X12_yearOf ({ frames := 2, cells := 0, slots := 0, locals := 44 }) (va_Pc [.ref m, .int p0] (pRW g (tyT cI cJ cB cZ cL) [(m, .inr (11, mG m_a m_thrown m_taped m_at m_token m_place m_value m_word m_bad m_badPlace m_fault m_faultPlace m_willing m_will m_forgot m_isDrawn m_x m_begin m_round m_roundCards m_fate m_any m_bothSend m_meanCards m_bestSum m_fitMany m_fitFirst m_fitSecond)), ((m_a 27), .inl (cZ, 2, .inl m_gets_c)), ((m_a 24), .inl (cZ, 2, .inl m_maySend_c)), ((m_a 23), .inl (cI, 2, .inl m_ruleNow_c)), ((m_a 33), .inl (cI, 2, .inl m_oddsNow_c)), ((m_a 26), .inl (cI, 2, .inl m_sent_c)), ((m_a 25), .inl (cZ, 2, .inl m_maycome_c)), ((m_a 34), .inl (cZ, 2, .inl m_cameFirst_c))] sz)) (va_Qi (fun (r : Int32) (u : Int32 × Int64 × (Nat → Int32) × (Nat → Int32) × (Nat → Int32)) => match u with | (n_m_forgot, n_m_x, n_m_gets_c, n_m_sent_c, n_m_cameFirst_c) => (ir r.toInt 0 15)) (fun (u : Int32 × Int64 × (Nat → Int32) × (Nat → Int32) × (Nat → Int32)) (t : State) => bRW g (tyT cI cJ cB cZ cL) (va_A [(m, .inr (11, mG m_a m_thrown m_taped m_at m_token m_place m_value m_word m_bad m_badPlace m_fault m_faultPlace m_willing m_will m_forgot m_isDrawn m_x m_begin m_round m_roundCards m_fate m_any m_bothSend m_meanCards m_bestSum m_fitMany m_fitFirst m_fitSecond)), ((m_a 27), .inl (cZ, 2, .inl m_gets_c)), ((m_a 24), .inl (cZ, 2, .inl m_maySend_c)), ((m_a 23), .inl (cI, 2, .inl m_ruleNow_c)), ((m_a 33), .inl (cI, 2, .inl m_oddsNow_c)), ((m_a 26), .inl (cI, 2, .inl m_sent_c)), ((m_a 25), .inl (cZ, 2, .inl m_maycome_c)), ((m_a 34), .inl (cZ, 2, .inl m_cameFirst_c))] sz) (match u with | (n_m_forgot, n_m_x, n_m_gets_c, n_m_sent_c, n_m_cameFirst_c) => [(m, .inr (11, mG m_a m_thrown m_taped m_at m_token m_place m_value m_word m_bad m_badPlace m_fault m_faultPlace m_willing m_will n_m_forgot m_isDrawn n_m_x m_begin m_round m_roundCards m_fate m_any m_bothSend m_meanCards m_bestSum m_fitMany m_fitFirst m_fitSecond)), ((m_a 27), .inl (cZ, 2, .inl n_m_gets_c)), ((m_a 24), .inl (cZ, 2, .inl m_maySend_c)), ((m_a 23), .inl (cI, 2, .inl m_ruleNow_c)), ((m_a 33), .inl (cI, 2, .inl m_oddsNow_c)), ((m_a 26), .inl (cI, 2, .inl n_m_sent_c)), ((m_a 25), .inl (cZ, 2, .inl m_maycome_c)), ((m_a 34), .inl (cZ, 2, .inl n_m_cameFirst_c))]) t) (va_A [(m, .inr (11, mG m_a m_thrown m_taped m_at m_token m_place m_value m_word m_bad m_badPlace m_fault m_faultPlace m_willing m_will m_forgot m_isDrawn m_x m_begin m_round m_roundCards m_fate m_any m_bothSend m_meanCards m_bestSum m_fitMany m_fitFirst m_fitSecond)), ((m_a 27), .inl (cZ, 2, .inl m_gets_c)), ((m_a 24), .inl (cZ, 2, .inl m_maySend_c)), ((m_a 23), .inl (cI, 2, .inl m_ruleNow_c)), ((m_a 33), .inl (cI, 2, .inl m_oddsNow_c)), ((m_a 26), .inl (cI, 2, .inl m_sent_c)), ((m_a 25), .inl (cZ, 2, .inl m_maycome_c)), ((m_a 34), .inl (cZ, 2, .inl m_cameFirst_c))] sz)) 0 0 (va_A [(m, .inr (11, mG m_a m_thrown m_taped m_at m_token m_place m_value m_word m_bad m_badPlace m_fault m_faultPlace m_willing m_will m_forgot m_isDrawn m_x m_begin m_round m_roundCards m_fate m_any m_bothSend m_meanCards m_bestSum m_fitMany m_fitFirst m_fitSecond)), ((m_a 27), .inl (cZ, 2, .inl m_gets_c)), ((m_a 24), .inl (cZ, 2, .inl m_maySend_c)), ((m_a 23), .inl (cI, 2, .inl m_ruleNow_c)), ((m_a 33), .inl (cI, 2, .inl m_oddsNow_c)), ((m_a 26), .inl (cI, 2, .inl m_sent_c)), ((m_a 25), .inl (cZ, 2, .inl m_maycome_c)), ((m_a 34), .inl (cZ, 2, .inl m_cameFirst_c))] sz) := by
  refine Met.ofW (cc := cX12_yearOf) (maxL := 5) (ret := (some .int)) (by decide) rfl ?_
  intro p e s mth args below meth c s₁ B hml hv
  obtain ⟨rfl, hsz, hP, hK, hD0⟩ := hv
  have hx := B.exec
  have hb := B.bytes
  have hr := B.returns
  have hts := atoms_spec (ws := v_X12_yearOf) B.pre
  have hown : s.vm.findClass RX12 = some mth.cls := findClass_of_methodNamed B.named
  have hlocks := B.notSynchronized
  clear B
  subst hsz
  have iX12 : ∀ w ∈ wsX120, w ∈ v_X12_yearOf := (fun _ h => List.mem_cons_of_mem _ (List.mem_append_right _ (List.mem_append_right _ (List.mem_append_right _ (List.mem_append_left _ h)))))
  have hD := hD0.self (sz := s.heap.size)
  generalize hAe : (va_A [(m, .inr (11, mG m_a m_thrown m_taped m_at m_token m_place m_value m_word m_bad m_badPlace m_fault m_faultPlace m_willing m_will m_forgot m_isDrawn m_x m_begin m_round m_roundCards m_fate m_any m_bothSend m_meanCards m_bestSum m_fitMany m_fitFirst m_fitSecond)), ((m_a 27), .inl (cZ, 2, .inl m_gets_c)), ((m_a 24), .inl (cZ, 2, .inl m_maySend_c)), ((m_a 23), .inl (cI, 2, .inl m_ruleNow_c)), ((m_a 33), .inl (cI, 2, .inl m_oddsNow_c)), ((m_a 26), .inl (cI, 2, .inl m_sent_c)), ((m_a 25), .inl (cZ, 2, .inl m_maycome_c)), ((m_a 34), .inl (cZ, 2, .inl m_cameFirst_c))] s.heap.size) = A at hD ⊢
  have hA : ∀ q : Nat, s.heap.size ≤ q → A q := fun q h => by rw [← hAe]; exact Or.inr h
  have hS : va_S A s.heap s.heap [] := va_S.rf
  have hl := lv_entry ([.ref m, .int p0]) (n := 5) (Nat.le_of_ble_eq_true rfl)
  rw [lg_entry_eq]
  generalize (lg_sl ([.ref m, .int p0]) ++ List.replicate (5 - (lg_sl ([.ref m, .int p0])).length) Slot.unset).toArray = ls at hl ⊢
  generalize ([.ref m, .int p0] : List Value).toArray = av at hts ⊢
  generalize hQ : MQ below _ av s _ _ A = QQ
  have hl : lv_has ls 5 [(0, .ref m), (1, .int p0)] := hl
  have hP : va_P g vwCl [(m, .inr (11, mG m_a m_thrown m_taped m_at m_token m_place m_value m_word m_bad m_badPlace m_fault m_faultPlace m_willing m_will m_forgot m_isDrawn m_x m_begin m_round m_roundCards m_fate m_any m_bothSend m_meanCards m_bestSum m_fitMany m_fitFirst m_fitSecond)), ((m_a 27), .inl (cZ, 2, .inl m_gets_c)), ((m_a 24), .inl (cZ, 2, .inl m_maySend_c)), ((m_a 23), .inl (cI, 2, .inl m_ruleNow_c)), ((m_a 33), .inl (cI, 2, .inl m_oddsNow_c)), ((m_a 26), .inl (cI, 2, .inl m_sent_c)), ((m_a 25), .inl (cZ, 2, .inl m_maycome_c)), ((m_a 34), .inl (cZ, 2, .inl m_cameFirst_c))] s.heap := hP
  refine lv_iconst (v := 0) hx hb dX12_yearOf_0 (by decide) ?_
  refine lv_istore_n (lv' := [(2, .int 0), (0, .ref m), (1, .int p0)]) hx hb dX12_yearOf_1 rfl hl (by decide) rfl (fun ls hl => ?_)
  have J2 : ∀ (n2 : Nat) (j2_l2 : Int32) (j2_m_a27_c : Nat → Int32) (j2_m_forgot : Int32) (j2_m_x : Int64) (j2_m_a26_c : Nat → Int32) (H : Heap) (locs : List Loc) (ls : Array Slot), (3 - j2_l2.toInt).toNat < n2 → (ir j2_l2.toInt 0 2) → va_P g vwCl [(m, .inr (11, mG m_a m_thrown m_taped m_at m_token m_place m_value m_word m_bad m_badPlace m_fault m_faultPlace m_willing m_will j2_m_forgot m_isDrawn j2_m_x m_begin m_round m_roundCards m_fate m_any m_bothSend m_meanCards m_bestSum m_fitMany m_fitFirst m_fitSecond)), ((m_a 27), .inl (cZ, 2, .inl j2_m_a27_c)), ((m_a 24), .inl (cZ, 2, .inl m_maySend_c)), ((m_a 23), .inl (cI, 2, .inl m_ruleNow_c)), ((m_a 33), .inl (cI, 2, .inl m_oddsNow_c)), ((m_a 26), .inl (cI, 2, .inl j2_m_a26_c)), ((m_a 25), .inl (cZ, 2, .inl m_maycome_c)), ((m_a 34), .inl (cZ, 2, .inl m_cameFirst_c))] H → va_D A [(m, .inr (11, mG m_a m_thrown m_taped m_at m_token m_place m_value m_word m_bad m_badPlace m_fault m_faultPlace m_willing m_will j2_m_forgot m_isDrawn j2_m_x m_begin m_round m_roundCards m_fate m_any m_bothSend m_meanCards m_bestSum m_fitMany m_fitFirst m_fitSecond)), ((m_a 27), .inl (cZ, 2, .inl j2_m_a27_c)), ((m_a 24), .inl (cZ, 2, .inl m_maySend_c)), ((m_a 23), .inl (cI, 2, .inl m_ruleNow_c)), ((m_a 33), .inl (cI, 2, .inl m_oddsNow_c)), ((m_a 26), .inl (cI, 2, .inl j2_m_a26_c)), ((m_a 25), .inl (cZ, 2, .inl m_maycome_c)), ((m_a 34), .inl (cZ, 2, .inl m_cameFirst_c))] → va_S A s.heap H locs → lv_has ls 5 [(0, .ref m), (1, .int p0), (2, .int j2_l2)] → W p l e (headSpec v_X12_yearOf ({ frames := 2, cells := 0, slots := 0, locals := 44 })).room s mth av below meth c H locs 0 0 QQ (F0 mth 2 ls []) := by
    intro n2
    induction n2 with
    | zero => exact fun j2_l2 j2_m_a27_c j2_m_forgot j2_m_x j2_m_a26_c H locs ls hn => absurd hn (Nat.not_lt_zero _)
    | succ n2 ih2 =>
      intro j2_l2 j2_m_a27_c j2_m_forgot j2_m_x j2_m_a26_c H locs ls hn2 hj2_l2 hP hD hS hl
      refine lv_iload_n hx hb dX12_yearOf_2 rfl (lv_at hl 2 rfl) ?_
      refine lv_iconst (v := 2) hx hb dX12_yearOf_3 (by decide) ?_
      refine lv_icmp_ge (tgt := 82) hx hb dX12_yearOf_4 (by decide) (fun c4 => ?_) (fun c4 => ?_)
      rotate_left 1
      · have f4 := (show j2_l2.toInt < 2 from z_nle rfl rfl c4)
        have r4a : ir j2_l2.toInt 0 1 := ir_lta f4 hj2_l2 (ir_c 2) (by decide)
        refine lv_aload_n hx hb dX12_yearOf_7 rfl (lv_at hl 0 rfl) ?_
        refine va_get (D := g) (ci := 11) (v := .ref (m_a 27)) (C := RX12) (T := TX12) (N := 56) hx hb hts iX12 hown hK hP 0 rfl rfl 27 (by decide) (hts (.fieldLink RX12 65 "CardsAtYuleModel" "gets" "[Z") (List.mem_cons_of_mem _ (List.mem_append_left _ (List.mem_of_getElem? (i := 1) rfl)))) (fun _ h9 => h9) rfl dX12_yearOf_8 ?_
        refine lv_iload_n hx hb dX12_yearOf_11 rfl (lv_at hl 2 rfl) ?_
        refine lv_iconst (v := 0) hx hb dX12_yearOf_12 (by decide) ?_
        refine va_zast (D := g) hx hb hK hP hD hS 1 3 rfl rfl (vi_rg rfl r4a (by decide) (by decide)) dX12_yearOf_13 (fun H locs hP hD hS => ?_)
        obtain ⟨g13, e13⟩ : ∃ z, z = upd j2_m_a27_c j2_l2.toNatClampNeg (vp_nar .boolean (0 : Int32)) := ⟨_, rfl⟩
        have hP : va_P g vwCl [(m, .inr (11, mG m_a m_thrown m_taped m_at m_token m_place m_value m_word m_bad m_badPlace m_fault m_faultPlace m_willing m_will j2_m_forgot m_isDrawn j2_m_x m_begin m_round m_roundCards m_fate m_any m_bothSend m_meanCards m_bestSum m_fitMany m_fitFirst m_fitSecond)), ((m_a 27), .inl (cZ, 2, .inl (upd j2_m_a27_c j2_l2.toNatClampNeg (vp_nar .boolean (0 : Int32))))), ((m_a 24), .inl (cZ, 2, .inl m_maySend_c)), ((m_a 23), .inl (cI, 2, .inl m_ruleNow_c)), ((m_a 33), .inl (cI, 2, .inl m_oddsNow_c)), ((m_a 26), .inl (cI, 2, .inl j2_m_a26_c)), ((m_a 25), .inl (cZ, 2, .inl m_maycome_c)), ((m_a 34), .inl (cZ, 2, .inl m_cameFirst_c))] H := hP
        have hD : va_D A [(m, .inr (11, mG m_a m_thrown m_taped m_at m_token m_place m_value m_word m_bad m_badPlace m_fault m_faultPlace m_willing m_will j2_m_forgot m_isDrawn j2_m_x m_begin m_round m_roundCards m_fate m_any m_bothSend m_meanCards m_bestSum m_fitMany m_fitFirst m_fitSecond)), ((m_a 27), .inl (cZ, 2, .inl (upd j2_m_a27_c j2_l2.toNatClampNeg (vp_nar .boolean (0 : Int32))))), ((m_a 24), .inl (cZ, 2, .inl m_maySend_c)), ((m_a 23), .inl (cI, 2, .inl m_ruleNow_c)), ((m_a 33), .inl (cI, 2, .inl m_oddsNow_c)), ((m_a 26), .inl (cI, 2, .inl j2_m_a26_c)), ((m_a 25), .inl (cZ, 2, .inl m_maycome_c)), ((m_a 34), .inl (cZ, 2, .inl m_cameFirst_c))] := hD
        rw [← e13] at hP hD
        refine lv_iload_n hx hb dX12_yearOf_14 rfl (lv_at hl 2 rfl) ?_
        refine lv_aload_n hx hb dX12_yearOf_15 rfl (lv_at hl 0 rfl) ?_
        refine va_get (D := g) (ci := 11) (v := .int m_willing) (C := RX12) (T := TX12) (N := 56) hx hb hts iX12 hown hK hP 0 rfl rfl 28 (by decide) (hts (.fieldLink RX12 68 "CardsAtYuleModel" "willing" "I") (List.mem_cons_of_mem _ (List.mem_append_left _ (List.mem_of_getElem? (i := 4) rfl)))) (fun _ h9 => h9) rfl dX12_yearOf_16 ?_
        have J60 : ∀ (j60_s0 : Int32) (j60_m_forgot : Int32) (j60_m_x : Int64) (H : Heap) (locs : List Loc) (ls : Array Slot), (ir j60_s0.toInt 0 1) → va_P g vwCl [(m, .inr (11, mG m_a m_thrown m_taped m_at m_token m_place m_value m_word m_bad m_badPlace m_fault m_faultPlace m_willing m_will j60_m_forgot m_isDrawn j60_m_x m_begin m_round m_roundCards m_fate m_any m_bothSend m_meanCards m_bestSum m_fitMany m_fitFirst m_fitSecond)), ((m_a 27), .inl (cZ, 2, .inl g13)), ((m_a 24), .inl (cZ, 2, .inl m_maySend_c)), ((m_a 23), .inl (cI, 2, .inl m_ruleNow_c)), ((m_a 33), .inl (cI, 2, .inl m_oddsNow_c)), ((m_a 26), .inl (cI, 2, .inl j2_m_a26_c)), ((m_a 25), .inl (cZ, 2, .inl m_maycome_c)), ((m_a 34), .inl (cZ, 2, .inl m_cameFirst_c))] H → va_D A [(m, .inr (11, mG m_a m_thrown m_taped m_at m_token m_place m_value m_word m_bad m_badPlace m_fault m_faultPlace m_willing m_will j60_m_forgot m_isDrawn j60_m_x m_begin m_round m_roundCards m_fate m_any m_bothSend m_meanCards m_bestSum m_fitMany m_fitFirst m_fitSecond)), ((m_a 27), .inl (cZ, 2, .inl g13)), ((m_a 24), .inl (cZ, 2, .inl m_maySend_c)), ((m_a 23), .inl (cI, 2, .inl m_ruleNow_c)), ((m_a 33), .inl (cI, 2, .inl m_oddsNow_c)), ((m_a 26), .inl (cI, 2, .inl j2_m_a26_c)), ((m_a 25), .inl (cZ, 2, .inl m_maycome_c)), ((m_a 34), .inl (cZ, 2, .inl m_cameFirst_c))] → va_S A s.heap H locs → lv_has ls 5 [(0, .ref m), (1, .int p0), (2, .int j2_l2)] → W p l e (headSpec v_X12_yearOf ({ frames := 2, cells := 0, slots := 0, locals := 44 })).room s mth av below meth c H locs 0 0 QQ (F0 mth 60 ls [.int j60_s0]) := by
          intro j60_s0 j60_m_forgot j60_m_x H locs ls hj60_s0 hP hD hS hl
          refine lv_istore_n (lv' := [(3, .int j60_s0), (0, .ref m), (1, .int p0), (2, .int j2_l2)]) hx hb dX12_yearOf_60 rfl hl (by decide) rfl (fun ls hl => ?_)
          refine lv_aload_n hx hb dX12_yearOf_61 rfl (lv_at hl 1 rfl) ?_
          refine va_get (D := g) (ci := 11) (v := .ref (m_a 26)) (C := RX12) (T := TX12) (N := 56) hx hb hts iX12 hown hK hP 0 rfl rfl 26 (by decide) (hts (.fieldLink RX12 62 "CardsAtYuleModel" "sent" "[I") (List.mem_cons_of_mem _ (List.mem_append_left _ (List.mem_of_getElem? (i := 2) rfl)))) (fun _ h9 => h9) rfl dX12_yearOf_62 ?_
          refine lv_iload_n hx hb dX12_yearOf_65 rfl (lv_at hl 3 rfl) ?_
          refine lv_iload_n hx hb dX12_yearOf_66 rfl (lv_at hl 0 rfl) ?_
          have J75 : ∀ (j75_s0 : Int32) (H : Heap) (locs : List Loc) (ls : Array Slot), (ir j75_s0.toInt 0 1) → va_P g vwCl [(m, .inr (11, mG m_a m_thrown m_taped m_at m_token m_place m_value m_word m_bad m_badPlace m_fault m_faultPlace m_willing m_will j60_m_forgot m_isDrawn j60_m_x m_begin m_round m_roundCards m_fate m_any m_bothSend m_meanCards m_bestSum m_fitMany m_fitFirst m_fitSecond)), ((m_a 27), .inl (cZ, 2, .inl g13)), ((m_a 24), .inl (cZ, 2, .inl m_maySend_c)), ((m_a 23), .inl (cI, 2, .inl m_ruleNow_c)), ((m_a 33), .inl (cI, 2, .inl m_oddsNow_c)), ((m_a 26), .inl (cI, 2, .inl j2_m_a26_c)), ((m_a 25), .inl (cZ, 2, .inl m_maycome_c)), ((m_a 34), .inl (cZ, 2, .inl m_cameFirst_c))] H → va_D A [(m, .inr (11, mG m_a m_thrown m_taped m_at m_token m_place m_value m_word m_bad m_badPlace m_fault m_faultPlace m_willing m_will j60_m_forgot m_isDrawn j60_m_x m_begin m_round m_roundCards m_fate m_any m_bothSend m_meanCards m_bestSum m_fitMany m_fitFirst m_fitSecond)), ((m_a 27), .inl (cZ, 2, .inl g13)), ((m_a 24), .inl (cZ, 2, .inl m_maySend_c)), ((m_a 23), .inl (cI, 2, .inl m_ruleNow_c)), ((m_a 33), .inl (cI, 2, .inl m_oddsNow_c)), ((m_a 26), .inl (cI, 2, .inl j2_m_a26_c)), ((m_a 25), .inl (cZ, 2, .inl m_maycome_c)), ((m_a 34), .inl (cZ, 2, .inl m_cameFirst_c))] → va_S A s.heap H locs → lv_has ls 5 [(0, .ref m), (1, .int p0), (2, .int j2_l2)] → W p l e (headSpec v_X12_yearOf ({ frames := 2, cells := 0, slots := 0, locals := 44 })).room s mth av below meth c H locs 0 0 QQ (F0 mth 75 ls [.int j75_s0, .int j2_l2, .ref (m_a 26)]) := by
            intro j75_s0 H locs ls hj75_s0 hP hD hS hl
            refine va_iast (D := g) hx hb hK hP hD hS 5 0 rfl rfl (vi_rg rfl r4a (by decide) (by decide)) dX12_yearOf_75 (fun H locs hP hD hS => ?_)
            obtain ⟨g75, e75⟩ : ∃ z, z = upd j2_m_a26_c j2_l2.toNatClampNeg j75_s0 := ⟨_, rfl⟩
            have hP : va_P g vwCl [(m, .inr (11, mG m_a m_thrown m_taped m_at m_token m_place m_value m_word m_bad m_badPlace m_fault m_faultPlace m_willing m_will j60_m_forgot m_isDrawn j60_m_x m_begin m_round m_roundCards m_fate m_any m_bothSend m_meanCards m_bestSum m_fitMany m_fitFirst m_fitSecond)), ((m_a 27), .inl (cZ, 2, .inl g13)), ((m_a 24), .inl (cZ, 2, .inl m_maySend_c)), ((m_a 23), .inl (cI, 2, .inl m_ruleNow_c)), ((m_a 33), .inl (cI, 2, .inl m_oddsNow_c)), ((m_a 26), .inl (cI, 2, .inl (upd j2_m_a26_c j2_l2.toNatClampNeg j75_s0))), ((m_a 25), .inl (cZ, 2, .inl m_maycome_c)), ((m_a 34), .inl (cZ, 2, .inl m_cameFirst_c))] H := hP
            have hD : va_D A [(m, .inr (11, mG m_a m_thrown m_taped m_at m_token m_place m_value m_word m_bad m_badPlace m_fault m_faultPlace m_willing m_will j60_m_forgot m_isDrawn j60_m_x m_begin m_round m_roundCards m_fate m_any m_bothSend m_meanCards m_bestSum m_fitMany m_fitFirst m_fitSecond)), ((m_a 27), .inl (cZ, 2, .inl g13)), ((m_a 24), .inl (cZ, 2, .inl m_maySend_c)), ((m_a 23), .inl (cI, 2, .inl m_ruleNow_c)), ((m_a 33), .inl (cI, 2, .inl m_oddsNow_c)), ((m_a 26), .inl (cI, 2, .inl (upd j2_m_a26_c j2_l2.toNatClampNeg j75_s0))), ((m_a 25), .inl (cZ, 2, .inl m_maycome_c)), ((m_a 34), .inl (cZ, 2, .inl m_cameFirst_c))] := hD
            rw [← e75] at hP hD
            obtain ⟨y76, e76⟩ : ∃ y : Int32, y = j2_l2 + 1 := ⟨_, rfl⟩
            have q76 : y76.toInt = j2_l2.toInt + 1 := by rw [e76]; exact ad_z rfl rfl r4a (ir_c 1) (by decide) (by decide)
            have r76 : ir y76.toInt 1 2 := ad_r q76 r4a (ir_c 1) (by decide) (by decide)
            refine lv_iinc (v := y76) (lv' := [(2, .int y76), (0, .ref m), (1, .int p0)]) hx hb dX12_yearOf_76 hl (k := 2) rfl e76.symm (by decide) rfl (fun ls hl => ?_)
            refine lv_goto (tgt := 2) hx hb dX12_yearOf_79 (by decide) ?_
            exact ih2 y76 g13 j60_m_forgot j60_m_x g75 _ _ _ (by omega) (ir_w r76 (by decide) (by decide)) (hP.sub [0, 1, 2, 3, 4, 5, 6, 7] rfl) (hD.sub [0, 1, 2, 3, 4, 5, 6, 7] (by decide) rfl) hS (lv_sub hl [1, 2, 0] rfl)
          refine lv_if_eq (tgt := 74) hx hb dX12_yearOf_67 (by decide) (fun c67 => ?_) (fun c67 => ?_)
          · have f67 := (show j60_s0.toInt = 0 from z_eq rfl rfl c67)
            have r67a : ir j60_s0.toInt 0 0 := ir_eqa f67 hj60_s0 (ir_c 0) (by decide) (by decide)
            refine lv_iconst (v := 0) hx hb dX12_yearOf_74 (by decide) ?_
            exact J75 0 _ _ _ (by decide) (hP.sub [0, 1, 2, 3, 4, 5, 6, 7] rfl) (hD.sub [0, 1, 2, 3, 4, 5, 6, 7] (by decide) rfl) hS (lv_sub hl [1, 2, 3] rfl)
          have f67 := (show j60_s0.toInt ≠ 0 from z_ne rfl rfl c67)
          have r67a : ir j60_s0.toInt 1 1 := ir_nel f67 hj60_s0 (by decide) (by decide)
          refine lv_iconst (v := 1) hx hb dX12_yearOf_70 (by decide) ?_
          refine lv_goto (tgt := 75) hx hb dX12_yearOf_71 (by decide) ?_
          exact J75 1 _ _ _ (by decide) (hP.sub [0, 1, 2, 3, 4, 5, 6, 7] rfl) (hD.sub [0, 1, 2, 3, 4, 5, 6, 7] (by decide) rfl) hS (lv_sub hl [1, 2, 3] rfl)
        refine lv_icmp_ne (tgt := 29) hx hb dX12_yearOf_19 (by decide) (fun c19 => ?_) (fun c19 => ?_)
        rotate_left 1
        · have f19 := (show j2_l2.toInt = m_willing.toInt from z_eq rfl rfl c19)
          have r19b : ir m_willing.toInt 0 1 := ir_eqb f19 r4a (rg_all m_willing) (by decide) (by decide)
          refine lv_aload_n hx hb dX12_yearOf_22 rfl (lv_at hl 0 rfl) ?_
          refine va_get (D := g) (ci := 11) (v := .int m_will) (C := RX12) (T := TX12) (N := 56) hx hb hts iX12 hown hK hP 0 rfl rfl 29 (by decide) (hts (.fieldLink RX12 312 "CardsAtYuleModel" "will" "Z") (List.mem_cons_of_mem _ (List.mem_append_left _ (List.mem_of_getElem? (i := 14) rfl)))) (fun _ h9 => h9) rfl dX12_yearOf_23 ?_
          refine lv_goto (tgt := 60) hx hb dX12_yearOf_26 (by decide) ?_
          exact J60 m_will j2_m_forgot j2_m_x _ _ _ hv_m_will (hP.sub [0, 1, 2, 3, 4, 5, 6, 7] rfl) (hD.sub [0, 1, 2, 3, 4, 5, 6, 7] (by decide) rfl) hS (lv_sub hl [0, 1, 2] rfl)
        have f19 := (show j2_l2.toInt ≠ m_willing.toInt from z_ne rfl rfl c19)
        refine lv_aload_n hx hb dX12_yearOf_29 rfl (lv_at hl 0 rfl) ?_
        refine va_get (D := g) (ci := 11) (v := .ref (m_a 24)) (C := RX12) (T := TX12) (N := 56) hx hb hts iX12 hown hK hP 0 rfl rfl 24 (by decide) (hts (.fieldLink RX12 56 "CardsAtYuleModel" "maySend" "[Z") (List.mem_cons_of_mem _ (List.mem_append_left _ (List.mem_of_getElem? (i := 5) rfl)))) (fun _ h9 => h9) rfl dX12_yearOf_30 ?_
        refine lv_iload_n hx hb dX12_yearOf_33 rfl (lv_at hl 2 rfl) ?_
        refine va_zald (D := g) hx hb hK hP 2 3 rfl rfl (vi_rg rfl r4a (by decide) (by decide)) dX12_yearOf_34 ?_
        refine lv_topi (fun y34 e34 => ?_)
        have J59 : ∀ (j59_m_forgot : Int32) (j59_m_x : Int64) (H : Heap) (locs : List Loc) (ls : Array Slot), va_P g vwCl [(m, .inr (11, mG m_a m_thrown m_taped m_at m_token m_place m_value m_word m_bad m_badPlace m_fault m_faultPlace m_willing m_will j59_m_forgot m_isDrawn j59_m_x m_begin m_round m_roundCards m_fate m_any m_bothSend m_meanCards m_bestSum m_fitMany m_fitFirst m_fitSecond)), ((m_a 27), .inl (cZ, 2, .inl g13)), ((m_a 24), .inl (cZ, 2, .inl m_maySend_c)), ((m_a 23), .inl (cI, 2, .inl m_ruleNow_c)), ((m_a 33), .inl (cI, 2, .inl m_oddsNow_c)), ((m_a 26), .inl (cI, 2, .inl j2_m_a26_c)), ((m_a 25), .inl (cZ, 2, .inl m_maycome_c)), ((m_a 34), .inl (cZ, 2, .inl m_cameFirst_c))] H → va_D A [(m, .inr (11, mG m_a m_thrown m_taped m_at m_token m_place m_value m_word m_bad m_badPlace m_fault m_faultPlace m_willing m_will j59_m_forgot m_isDrawn j59_m_x m_begin m_round m_roundCards m_fate m_any m_bothSend m_meanCards m_bestSum m_fitMany m_fitFirst m_fitSecond)), ((m_a 27), .inl (cZ, 2, .inl g13)), ((m_a 24), .inl (cZ, 2, .inl m_maySend_c)), ((m_a 23), .inl (cI, 2, .inl m_ruleNow_c)), ((m_a 33), .inl (cI, 2, .inl m_oddsNow_c)), ((m_a 26), .inl (cI, 2, .inl j2_m_a26_c)), ((m_a 25), .inl (cZ, 2, .inl m_maycome_c)), ((m_a 34), .inl (cZ, 2, .inl m_cameFirst_c))] → va_S A s.heap H locs → lv_has ls 5 [(0, .ref m), (1, .int p0), (2, .int j2_l2)] → W p l e (headSpec v_X12_yearOf ({ frames := 2, cells := 0, slots := 0, locals := 44 })).room s mth av below meth c H locs 0 0 QQ (F0 mth 59 ls []) := by
          intro j59_m_forgot j59_m_x H locs ls  hP hD hS hl
          refine lv_iconst (v := 0) hx hb dX12_yearOf_59 (by decide) ?_
          exact J60 0 j59_m_forgot j59_m_x _ _ _ (by decide) (hP.sub [0, 1, 2, 3, 4, 5, 6, 7] rfl) (hD.sub [0, 1, 2, 3, 4, 5, 6, 7] (by decide) rfl) hS (lv_sub hl [0, 1, 2] rfl)
        refine lv_if_eq (tgt := 59) hx hb dX12_yearOf_35 (by decide) (fun c35 => ?_) (fun c35 => ?_)
        · have f35 := (show y34.toInt = 0 from z_eq rfl rfl c35)
          have r35a : ir y34.toInt 0 0 := ir_eqa f35 (rg_all y34) (ir_c 0) (by decide) (by decide)
          exact J59 j2_m_forgot j2_m_x _ _ _  (hP.sub [0, 1, 2, 3, 4, 5, 6, 7] rfl) (hD.sub [0, 1, 2, 3, 4, 5, 6, 7] (by decide) rfl) hS (lv_sub hl [0, 1, 2] rfl)
        have f35 := (show y34.toInt ≠ 0 from z_ne rfl rfl c35)
        refine lv_aload_n hx hb dX12_yearOf_38 rfl (lv_at hl 0 rfl) ?_
        refine lv_iload_n hx hb dX12_yearOf_39 rfl (lv_at hl 2 rfl) ?_
        refine lv_iload_n hx hb dX12_yearOf_40 rfl (lv_at hl 1 rfl) ?_
        refine ro_i (va_runV (As := [.int j2_l2, .int p0]) (rest := []) ⟨hx, hb, hml, hown, hts⟩ (q_X12_wouldSend l g cI cJ cB cZ cL j2_l2 p0 m m_a m_thrown m_taped m_at m_token m_place m_value m_word m_bad m_badPlace m_fault m_faultPlace m_willing m_will j2_m_forgot m_isDrawn j2_m_x m_begin m_round m_roundCards m_fate m_any m_bothSend m_meanCards m_bestSum m_fitMany m_fitFirst m_fitSecond m_ruleNow_c H.size r4a hv_m_taped hv_m_at hv_m_will hv_m_isDrawn) (cwV 2 hts (goodIn_app (g_4 (List.mem_cons_of_mem _ (List.mem_append_left _ (List.mem_of_getElem? (i := 11) rfl))) (List.mem_cons_of_mem _ (List.mem_append_left _ (List.mem_of_getElem? (i := 12) rfl))) (List.mem_cons_of_mem _ (List.mem_append_left _ (List.mem_of_getElem? (i := 13) rfl))) (List.mem_cons_of_mem _ (List.mem_append_left _ (List.mem_of_getElem? (i := 10) rfl))) (by decide +kernel)) (goodIn_sub (fun _ h => List.mem_cons_of_mem _ (List.mem_append_right _ (List.mem_append_right _ (List.mem_append_left _ h)))) good_v_X12_wouldSend)) rfl rfl rfl (by decide +kernel) ⟨Nat.le_of_ble_eq_true rfl, Nat.le_of_ble_eq_true rfl⟩) (pv_RO (q := (RX12, TX12, 56)) (ci := 11) (q0 := 0) (wc := [(m, .inr (11, mG m_a m_thrown m_taped m_at m_token m_place m_value m_word m_bad m_badPlace m_fault m_faultPlace m_willing m_will j2_m_forgot m_isDrawn j2_m_x m_begin m_round m_roundCards m_fate m_any m_bothSend m_meanCards m_bestSum m_fitMany m_fitFirst m_fitSecond)), ((m_a 23), .inl (cI, 2, .inl m_ruleNow_c))]) hK hP [0, 3] rfl rfl rfl) rfl rfl hl.1 rfl (lv_room (Nat.le_of_ble_eq_true rfl)) dX12_yearOf_41 ⟨Nat.le_of_ble_eq_true rfl, Nat.le_of_ble_eq_true rfl⟩) hS hA hP (fun r41 u41 H locs hw41 hP hS => ?_)
        have hw41_0 := hw41
        refine lv_if_eq (tgt := 59) hx hb dX12_yearOf_44 (by decide) (fun c44 => ?_) (fun c44 => ?_)
        · have f44 := (show r41.toInt = 0 from z_eq rfl rfl c44)
          have r44a : ir r41.toInt 0 0 := ir_eqa f44 hw41_0 (ir_c 0) (by decide) (by decide)
          exact J59 j2_m_forgot j2_m_x _ _ _  (hP.sub [0, 1, 2, 3, 4, 5, 6, 7] rfl) (hD.sub [0, 1, 2, 3, 4, 5, 6, 7] (by decide) rfl) hS (lv_sub hl [0, 1, 2] rfl)
        have f44 := (show r41.toInt ≠ 0 from z_ne rfl rfl c44)
        have r44a : ir r41.toInt 1 1 := ir_nel f44 hw41_0 (by decide) (by decide)
        refine lv_aload_n hx hb dX12_yearOf_47 rfl (lv_at hl 0 rfl) ?_
        refine lv_iload_n hx hb dX12_yearOf_48 rfl (lv_at hl 2 rfl) ?_
        refine rw_i (wr := [((m_a 27), .inl (cZ, 2, .inl g13)), ((m_a 24), .inl (cZ, 2, .inl m_maySend_c)), ((m_a 23), .inl (cI, 2, .inl m_ruleNow_c)), ((m_a 26), .inl (cI, 2, .inl j2_m_a26_c)), ((m_a 25), .inl (cZ, 2, .inl m_maycome_c)), ((m_a 34), .inl (cZ, 2, .inl m_cameFirst_c))]) (va_runV (As := [.int j2_l2]) (rest := []) ⟨hx, hb, hml, hown, hts⟩ (q_X12_isForgotten l g cI cJ cB cZ cL j2_l2 m m_a m_thrown m_taped m_at m_token m_place m_value m_word m_bad m_badPlace m_fault m_faultPlace m_willing m_will j2_m_forgot m_isDrawn j2_m_x m_begin m_round m_roundCards m_fate m_any m_bothSend m_meanCards m_bestSum m_fitMany m_fitFirst m_fitSecond m_oddsNow_c H.size r4a hv_m_taped hv_m_at hv_m_will hv_m_isDrawn) (cwV 1 hts (goodIn_app (g_4 (List.mem_cons_of_mem _ (List.mem_append_left _ (List.mem_of_getElem? (i := 7) rfl))) (List.mem_cons_of_mem _ (List.mem_append_left _ (List.mem_of_getElem? (i := 8) rfl))) (List.mem_cons_of_mem _ (List.mem_append_left _ (List.mem_of_getElem? (i := 9) rfl))) (List.mem_cons_of_mem _ (List.mem_append_left _ (List.mem_of_getElem? (i := 10) rfl))) (by decide +kernel)) (goodIn_sub (fun _ h => List.mem_cons_of_mem _ (List.mem_append_right _ (List.mem_append_left _ h))) good_v_X12_isForgotten)) rfl rfl rfl (by decide +kernel) ⟨Nat.le_of_ble_eq_true rfl, Nat.le_of_ble_eq_true rfl⟩) (pv_RW (q := (RX12, TX12, 56)) (ci := 11) (q0 := 0) (wc := [(m, .inr (11, mG m_a m_thrown m_taped m_at m_token m_place m_value m_word m_bad m_badPlace m_fault m_faultPlace m_willing m_will j2_m_forgot m_isDrawn j2_m_x m_begin m_round m_roundCards m_fate m_any m_bothSend m_meanCards m_bestSum m_fitMany m_fitFirst m_fitSecond)), ((m_a 33), .inl (cI, 2, .inl m_oddsNow_c))]) hK hP hD [0, 4] (by decide) rfl rfl rfl) rfl rfl hl.1 rfl (lv_room (Nat.le_of_ble_eq_true rfl)) dX12_yearOf_49 ⟨Nat.le_of_ble_eq_true rfl, Nat.le_of_ble_eq_true rfl⟩) hS hA hP hD [0, 4] [1, 2, 3, 5, 6, 7] rfl rfl (by decide) (by decide) (fun r49 u49 H locs hw49 hP hD hS => ?_)
        obtain ⟨n_m_forgot_49, n_m_x_49⟩ := u49
        have hP : va_P g vwCl [((m_a 27), .inl (cZ, 2, .inl g13)), ((m_a 24), .inl (cZ, 2, .inl m_maySend_c)), ((m_a 23), .inl (cI, 2, .inl m_ruleNow_c)), ((m_a 26), .inl (cI, 2, .inl j2_m_a26_c)), ((m_a 25), .inl (cZ, 2, .inl m_maycome_c)), ((m_a 34), .inl (cZ, 2, .inl m_cameFirst_c)), (m, .inr (11, mG m_a m_thrown m_taped m_at m_token m_place m_value m_word m_bad m_badPlace m_fault m_faultPlace m_willing m_will n_m_forgot_49 m_isDrawn n_m_x_49 m_begin m_round m_roundCards m_fate m_any m_bothSend m_meanCards m_bestSum m_fitMany m_fitFirst m_fitSecond)), ((m_a 33), .inl (cI, 2, .inl m_oddsNow_c))] H := hP
        have hD : va_D A [((m_a 27), .inl (cZ, 2, .inl g13)), ((m_a 24), .inl (cZ, 2, .inl m_maySend_c)), ((m_a 23), .inl (cI, 2, .inl m_ruleNow_c)), ((m_a 26), .inl (cI, 2, .inl j2_m_a26_c)), ((m_a 25), .inl (cZ, 2, .inl m_maycome_c)), ((m_a 34), .inl (cZ, 2, .inl m_cameFirst_c)), (m, .inr (11, mG m_a m_thrown m_taped m_at m_token m_place m_value m_word m_bad m_badPlace m_fault m_faultPlace m_willing m_will n_m_forgot_49 m_isDrawn n_m_x_49 m_begin m_round m_roundCards m_fate m_any m_bothSend m_meanCards m_bestSum m_fitMany m_fitFirst m_fitSecond)), ((m_a 33), .inl (cI, 2, .inl m_oddsNow_c))] := hD
        dsimp only at hw49
        have hw49_0 := hw49
        refine lv_if_ne (tgt := 59) hx hb dX12_yearOf_52 (by decide) (fun c52 => ?_) (fun c52 => ?_)
        · have f52 := (show r49.toInt ≠ 0 from z_ne rfl rfl c52)
          have r52a : ir r49.toInt 1 1 := ir_nel f52 hw49_0 (by decide) (by decide)
          exact J59 n_m_forgot_49 n_m_x_49 _ _ _  (hP.sub [6, 0, 1, 2, 7, 3, 4, 5] rfl) (hD.sub [6, 0, 1, 2, 7, 3, 4, 5] (by decide) rfl) hS (lv_sub hl [0, 1, 2] rfl)
        have f52 := (show r49.toInt = 0 from z_eq rfl rfl c52)
        have r52a : ir r49.toInt 0 0 := ir_eqa f52 hw49_0 (ir_c 0) (by decide) (by decide)
        refine lv_iconst (v := 1) hx hb dX12_yearOf_55 (by decide) ?_
        refine lv_goto (tgt := 60) hx hb dX12_yearOf_56 (by decide) ?_
        exact J60 1 n_m_forgot_49 n_m_x_49 _ _ _ (by decide) (hP.sub [6, 0, 1, 2, 7, 3, 4, 5] rfl) (hD.sub [6, 0, 1, 2, 7, 3, 4, 5] (by decide) rfl) hS (lv_sub hl [0, 1, 2] rfl)
      have f4 := (show 2 ≤ j2_l2.toInt from z_le rfl rfl c4)
      have r4a : ir j2_l2.toInt 2 2 := ir_leb f4 (ir_c 2) hj2_l2 (by decide)
      refine lv_aload_n hx hb dX12_yearOf_82 rfl (lv_at hl 0 rfl) ?_
      refine va_get (D := g) (ci := 11) (v := .ref (m_a 34)) (C := RX12) (T := TX12) (N := 56) hx hb hts iX12 hown hK hP 0 rfl rfl 34 (by decide) (hts (.fieldLink RX12 74 "CardsAtYuleModel" "cameFirst" "[Z") (List.mem_cons_of_mem _ (List.mem_append_left _ (List.mem_of_getElem? (i := 0) rfl)))) (fun _ h9 => h9) rfl dX12_yearOf_83 ?_
      refine lv_astore_n (lv' := [(2, .ref (m_a 34)), (0, .ref m), (1, .int p0)]) hx hb dX12_yearOf_86 rfl hl (by decide) rfl (fun ls hl => ?_)
      refine lv_iconst (v := 0) hx hb dX12_yearOf_87 (by decide) ?_
      refine lv_istore_n (lv' := [(3, .int 0), (2, .ref (m_a 34)), (0, .ref m), (1, .int p0)]) hx hb dX12_yearOf_88 rfl hl (by decide) rfl (fun ls hl => ?_)
      have J89 : ∀ (n89 : Nat) (j89_l3 : Int32) (j89_m_a34_c : Nat → Int32) (H : Heap) (locs : List Loc) (ls : Array Slot), (3 - j89_l3.toInt).toNat < n89 → (ir j89_l3.toInt 0 2) → va_P g vwCl [(m, .inr (11, mG m_a m_thrown m_taped m_at m_token m_place m_value m_word m_bad m_badPlace m_fault m_faultPlace m_willing m_will j2_m_forgot m_isDrawn j2_m_x m_begin m_round m_roundCards m_fate m_any m_bothSend m_meanCards m_bestSum m_fitMany m_fitFirst m_fitSecond)), ((m_a 27), .inl (cZ, 2, .inl j2_m_a27_c)), ((m_a 24), .inl (cZ, 2, .inl m_maySend_c)), ((m_a 23), .inl (cI, 2, .inl m_ruleNow_c)), ((m_a 33), .inl (cI, 2, .inl m_oddsNow_c)), ((m_a 26), .inl (cI, 2, .inl j2_m_a26_c)), ((m_a 25), .inl (cZ, 2, .inl m_maycome_c)), ((m_a 34), .inl (cZ, 2, .inl j89_m_a34_c))] H → va_D A [(m, .inr (11, mG m_a m_thrown m_taped m_at m_token m_place m_value m_word m_bad m_badPlace m_fault m_faultPlace m_willing m_will j2_m_forgot m_isDrawn j2_m_x m_begin m_round m_roundCards m_fate m_any m_bothSend m_meanCards m_bestSum m_fitMany m_fitFirst m_fitSecond)), ((m_a 27), .inl (cZ, 2, .inl j2_m_a27_c)), ((m_a 24), .inl (cZ, 2, .inl m_maySend_c)), ((m_a 23), .inl (cI, 2, .inl m_ruleNow_c)), ((m_a 33), .inl (cI, 2, .inl m_oddsNow_c)), ((m_a 26), .inl (cI, 2, .inl j2_m_a26_c)), ((m_a 25), .inl (cZ, 2, .inl m_maycome_c)), ((m_a 34), .inl (cZ, 2, .inl j89_m_a34_c))] → va_S A s.heap H locs → lv_has ls 5 [(0, .ref m), (1, .int p0), (2, .ref (m_a 34)), (3, .int j89_l3)] → W p l e (headSpec v_X12_yearOf ({ frames := 2, cells := 0, slots := 0, locals := 44 })).room s mth av below meth c H locs 0 0 QQ (F0 mth 89 ls []) := by
        intro n89
        induction n89 with
        | zero => exact fun j89_l3 j89_m_a34_c H locs ls hn => absurd hn (Nat.not_lt_zero _)
        | succ n89 ih89 =>
          intro j89_l3 j89_m_a34_c H locs ls hn89 hj89_l3 hP hD hS hl
          refine lv_iload_n hx hb dX12_yearOf_89 rfl (lv_at hl 3 rfl) ?_
          refine lv_iconst (v := 2) hx hb dX12_yearOf_90 (by decide) ?_
          refine lv_icmp_ge (tgt := 131) hx hb dX12_yearOf_91 (by decide) (fun c91 => ?_) (fun c91 => ?_)
          rotate_left 1
          · have f91 := (show j89_l3.toInt < 2 from z_nle rfl rfl c91)
            have r91a : ir j89_l3.toInt 0 1 := ir_lta f91 hj89_l3 (ir_c 2) (by decide)
            refine lv_aload_n hx hb dX12_yearOf_94 rfl (lv_at hl 2 rfl) ?_
            refine lv_iload_n hx hb dX12_yearOf_95 rfl (lv_at hl 3 rfl) ?_
            refine lv_aload_n hx hb dX12_yearOf_96 rfl (lv_at hl 0 rfl) ?_
            refine va_get (D := g) (ci := 11) (v := .ref (m_a 26)) (C := RX12) (T := TX12) (N := 56) hx hb hts iX12 hown hK hP 0 rfl rfl 26 (by decide) (hts (.fieldLink RX12 62 "CardsAtYuleModel" "sent" "[I") (List.mem_cons_of_mem _ (List.mem_append_left _ (List.mem_of_getElem? (i := 2) rfl)))) (fun _ h9 => h9) rfl dX12_yearOf_97 ?_
            refine lv_iconst (v := 1) hx hb dX12_yearOf_100 (by decide) ?_
            refine lv_iload_n hx hb dX12_yearOf_101 rfl (lv_at hl 3 rfl) ?_
            refine lv_isub hx hb dX12_yearOf_102 ?_
            refine lv_topi (fun y102 e102 => ?_)
            have q102 : y102.toInt = 1 - j89_l3.toInt := by rw [e102]; exact su_z rfl rfl (ir_c 1) r91a (by decide) (by decide)
            have r102 : ir y102.toInt 0 1 := su_r q102 (ir_c 1) r91a (by decide) (by decide)
            refine va_iald (D := g) hx hb hK hP 5 0 rfl rfl (vi_rg rfl r102 (by decide) (by decide)) dX12_yearOf_103 ?_
            refine lv_topi (fun y103 e103 => ?_)
            refine lv_iconst (v := 1) hx hb dX12_yearOf_104 (by decide) ?_
            have J124 : ∀ (j124_s0 : Int32) (H : Heap) (locs : List Loc) (ls : Array Slot), (ir j124_s0.toInt 0 1) → va_P g vwCl [(m, .inr (11, mG m_a m_thrown m_taped m_at m_token m_place m_value m_word m_bad m_badPlace m_fault m_faultPlace m_willing m_will j2_m_forgot m_isDrawn j2_m_x m_begin m_round m_roundCards m_fate m_any m_bothSend m_meanCards m_bestSum m_fitMany m_fitFirst m_fitSecond)), ((m_a 27), .inl (cZ, 2, .inl j2_m_a27_c)), ((m_a 24), .inl (cZ, 2, .inl m_maySend_c)), ((m_a 23), .inl (cI, 2, .inl m_ruleNow_c)), ((m_a 33), .inl (cI, 2, .inl m_oddsNow_c)), ((m_a 26), .inl (cI, 2, .inl j2_m_a26_c)), ((m_a 25), .inl (cZ, 2, .inl m_maycome_c)), ((m_a 34), .inl (cZ, 2, .inl j89_m_a34_c))] H → va_D A [(m, .inr (11, mG m_a m_thrown m_taped m_at m_token m_place m_value m_word m_bad m_badPlace m_fault m_faultPlace m_willing m_will j2_m_forgot m_isDrawn j2_m_x m_begin m_round m_roundCards m_fate m_any m_bothSend m_meanCards m_bestSum m_fitMany m_fitFirst m_fitSecond)), ((m_a 27), .inl (cZ, 2, .inl j2_m_a27_c)), ((m_a 24), .inl (cZ, 2, .inl m_maySend_c)), ((m_a 23), .inl (cI, 2, .inl m_ruleNow_c)), ((m_a 33), .inl (cI, 2, .inl m_oddsNow_c)), ((m_a 26), .inl (cI, 2, .inl j2_m_a26_c)), ((m_a 25), .inl (cZ, 2, .inl m_maycome_c)), ((m_a 34), .inl (cZ, 2, .inl j89_m_a34_c))] → va_S A s.heap H locs → lv_has ls 5 [(0, .ref m), (1, .int p0), (2, .ref (m_a 34)), (3, .int j89_l3)] → W p l e (headSpec v_X12_yearOf ({ frames := 2, cells := 0, slots := 0, locals := 44 })).room s mth av below meth c H locs 0 0 QQ (F0 mth 124 ls [.int j124_s0, .int j89_l3, .ref (m_a 34)]) := by
              intro j124_s0 H locs ls hj124_s0 hP hD hS hl
              refine va_zast (D := g) hx hb hK hP hD hS 7 3 rfl rfl (vi_rg rfl r91a (by decide) (by decide)) dX12_yearOf_124 (fun H locs hP hD hS => ?_)
              obtain ⟨g124, e124⟩ : ∃ z, z = upd j89_m_a34_c j89_l3.toNatClampNeg (vp_nar .boolean j124_s0) := ⟨_, rfl⟩
              have hP : va_P g vwCl [(m, .inr (11, mG m_a m_thrown m_taped m_at m_token m_place m_value m_word m_bad m_badPlace m_fault m_faultPlace m_willing m_will j2_m_forgot m_isDrawn j2_m_x m_begin m_round m_roundCards m_fate m_any m_bothSend m_meanCards m_bestSum m_fitMany m_fitFirst m_fitSecond)), ((m_a 27), .inl (cZ, 2, .inl j2_m_a27_c)), ((m_a 24), .inl (cZ, 2, .inl m_maySend_c)), ((m_a 23), .inl (cI, 2, .inl m_ruleNow_c)), ((m_a 33), .inl (cI, 2, .inl m_oddsNow_c)), ((m_a 26), .inl (cI, 2, .inl j2_m_a26_c)), ((m_a 25), .inl (cZ, 2, .inl m_maycome_c)), ((m_a 34), .inl (cZ, 2, .inl (upd j89_m_a34_c j89_l3.toNatClampNeg (vp_nar .boolean j124_s0))))] H := hP
              have hD : va_D A [(m, .inr (11, mG m_a m_thrown m_taped m_at m_token m_place m_value m_word m_bad m_badPlace m_fault m_faultPlace m_willing m_will j2_m_forgot m_isDrawn j2_m_x m_begin m_round m_roundCards m_fate m_any m_bothSend m_meanCards m_bestSum m_fitMany m_fitFirst m_fitSecond)), ((m_a 27), .inl (cZ, 2, .inl j2_m_a27_c)), ((m_a 24), .inl (cZ, 2, .inl m_maySend_c)), ((m_a 23), .inl (cI, 2, .inl m_ruleNow_c)), ((m_a 33), .inl (cI, 2, .inl m_oddsNow_c)), ((m_a 26), .inl (cI, 2, .inl j2_m_a26_c)), ((m_a 25), .inl (cZ, 2, .inl m_maycome_c)), ((m_a 34), .inl (cZ, 2, .inl (upd j89_m_a34_c j89_l3.toNatClampNeg (vp_nar .boolean j124_s0))))] := hD
              rw [← e124] at hP hD
              obtain ⟨y125, e125⟩ : ∃ y : Int32, y = j89_l3 + 1 := ⟨_, rfl⟩
              have q125 : y125.toInt = j89_l3.toInt + 1 := by rw [e125]; exact ad_z rfl rfl r91a (ir_c 1) (by decide) (by decide)
              have r125 : ir y125.toInt 1 2 := ad_r q125 r91a (ir_c 1) (by decide) (by decide)
              refine lv_iinc (v := y125) (lv' := [(3, .int y125), (0, .ref m), (1, .int p0), (2, .ref (m_a 34))]) hx hb dX12_yearOf_125 hl (k := 3) rfl e125.symm (by decide) rfl (fun ls hl => ?_)
              refine lv_goto (tgt := 89) hx hb dX12_yearOf_128 (by decide) ?_
              exact ih89 y125 g124 _ _ _ (by omega) (ir_w r125 (by decide) (by decide)) (hP.sub [0, 1, 2, 3, 4, 5, 6, 7] rfl) (hD.sub [0, 1, 2, 3, 4, 5, 6, 7] (by decide) rfl) hS (lv_sub hl [1, 2, 3, 0] rfl)
            have J123 : ∀  (H : Heap) (locs : List Loc) (ls : Array Slot), va_P g vwCl [(m, .inr (11, mG m_a m_thrown m_taped m_at m_token m_place m_value m_word m_bad m_badPlace m_fault m_faultPlace m_willing m_will j2_m_forgot m_isDrawn j2_m_x m_begin m_round m_roundCards m_fate m_any m_bothSend m_meanCards m_bestSum m_fitMany m_fitFirst m_fitSecond)), ((m_a 27), .inl (cZ, 2, .inl j2_m_a27_c)), ((m_a 24), .inl (cZ, 2, .inl m_maySend_c)), ((m_a 23), .inl (cI, 2, .inl m_ruleNow_c)), ((m_a 33), .inl (cI, 2, .inl m_oddsNow_c)), ((m_a 26), .inl (cI, 2, .inl j2_m_a26_c)), ((m_a 25), .inl (cZ, 2, .inl m_maycome_c)), ((m_a 34), .inl (cZ, 2, .inl j89_m_a34_c))] H → va_D A [(m, .inr (11, mG m_a m_thrown m_taped m_at m_token m_place m_value m_word m_bad m_badPlace m_fault m_faultPlace m_willing m_will j2_m_forgot m_isDrawn j2_m_x m_begin m_round m_roundCards m_fate m_any m_bothSend m_meanCards m_bestSum m_fitMany m_fitFirst m_fitSecond)), ((m_a 27), .inl (cZ, 2, .inl j2_m_a27_c)), ((m_a 24), .inl (cZ, 2, .inl m_maySend_c)), ((m_a 23), .inl (cI, 2, .inl m_ruleNow_c)), ((m_a 33), .inl (cI, 2, .inl m_oddsNow_c)), ((m_a 26), .inl (cI, 2, .inl j2_m_a26_c)), ((m_a 25), .inl (cZ, 2, .inl m_maycome_c)), ((m_a 34), .inl (cZ, 2, .inl j89_m_a34_c))] → va_S A s.heap H locs → lv_has ls 5 [(0, .ref m), (1, .int p0), (2, .ref (m_a 34)), (3, .int j89_l3)] → W p l e (headSpec v_X12_yearOf ({ frames := 2, cells := 0, slots := 0, locals := 44 })).room s mth av below meth c H locs 0 0 QQ (F0 mth 123 ls [.int j89_l3, .ref (m_a 34)]) := by
              intro  H locs ls  hP hD hS hl
              refine lv_iconst (v := 0) hx hb dX12_yearOf_123 (by decide) ?_
              exact J124 0 _ _ _ (by decide) (hP.sub [0, 1, 2, 3, 4, 5, 6, 7] rfl) (hD.sub [0, 1, 2, 3, 4, 5, 6, 7] (by decide) rfl) hS (lv_sub hl [0, 1, 2, 3] rfl)
            refine lv_icmp_ne (tgt := 123) hx hb dX12_yearOf_105 (by decide) (fun c105 => ?_) (fun c105 => ?_)
            · have f105 := (show y103.toInt ≠ 1 from z_ne rfl rfl c105)
              exact J123  _ _ _  (hP.sub [0, 1, 2, 3, 4, 5, 6, 7] rfl) (hD.sub [0, 1, 2, 3, 4, 5, 6, 7] (by decide) rfl) hS (lv_sub hl [0, 1, 2, 3] rfl)
            have f105 := (show y103.toInt = 1 from z_eq rfl rfl c105)
            have r105a : ir y103.toInt 1 1 := ir_eqa f105 (rg_all y103) (ir_c 1) (by decide) (by decide)
            refine lv_aload_n hx hb dX12_yearOf_108 rfl (lv_at hl 0 rfl) ?_
            refine va_get (D := g) (ci := 11) (v := .ref (m_a 25)) (C := RX12) (T := TX12) (N := 56) hx hb hts iX12 hown hK hP 0 rfl rfl 25 (by decide) (hts (.fieldLink RX12 59 "CardsAtYuleModel" "maycome" "[Z") (List.mem_cons_of_mem _ (List.mem_append_left _ (List.mem_of_getElem? (i := 3) rfl)))) (fun _ h9 => h9) rfl dX12_yearOf_109 ?_
            refine lv_iconst (v := 1) hx hb dX12_yearOf_112 (by decide) ?_
            refine lv_iload_n hx hb dX12_yearOf_113 rfl (lv_at hl 3 rfl) ?_
            refine lv_isub hx hb dX12_yearOf_114 ?_
            refine lv_topi (fun y114 e114 => ?_)
            have q114 : y114.toInt = 1 - j89_l3.toInt := by rw [e114]; exact su_z rfl rfl (ir_c 1) r91a (by decide) (by decide)
            have r114 : ir y114.toInt 0 1 := su_r q114 (ir_c 1) r91a (by decide) (by decide)
            refine va_zald (D := g) hx hb hK hP 6 3 rfl rfl (vi_rg rfl r114 (by decide) (by decide)) dX12_yearOf_115 ?_
            refine lv_topi (fun y115 e115 => ?_)
            refine lv_if_eq (tgt := 123) hx hb dX12_yearOf_116 (by decide) (fun c116 => ?_) (fun c116 => ?_)
            · have f116 := (show y115.toInt = 0 from z_eq rfl rfl c116)
              have r116a : ir y115.toInt 0 0 := ir_eqa f116 (rg_all y115) (ir_c 0) (by decide) (by decide)
              exact J123  _ _ _  (hP.sub [0, 1, 2, 3, 4, 5, 6, 7] rfl) (hD.sub [0, 1, 2, 3, 4, 5, 6, 7] (by decide) rfl) hS (lv_sub hl [0, 1, 2, 3] rfl)
            have f116 := (show y115.toInt ≠ 0 from z_ne rfl rfl c116)
            refine lv_iconst (v := 1) hx hb dX12_yearOf_119 (by decide) ?_
            refine lv_goto (tgt := 124) hx hb dX12_yearOf_120 (by decide) ?_
            exact J124 1 _ _ _ (by decide) (hP.sub [0, 1, 2, 3, 4, 5, 6, 7] rfl) (hD.sub [0, 1, 2, 3, 4, 5, 6, 7] (by decide) rfl) hS (lv_sub hl [0, 1, 2, 3] rfl)
          have f91 := (show 2 ≤ j89_l3.toInt from z_le rfl rfl c91)
          have r91a : ir j89_l3.toInt 2 2 := ir_leb f91 (ir_c 2) hj89_l3 (by decide)
          refine lv_iconst (v := 0) hx hb dX12_yearOf_131 (by decide) ?_
          refine lv_istore_n (lv' := [(3, .int 0), (0, .ref m), (1, .int p0), (2, .ref (m_a 34))]) hx hb dX12_yearOf_132 rfl hl (by decide) rfl (fun ls hl => ?_)
          have J133 : ∀ (n133 : Nat) (j133_l3 : Int32) (j133_m_forgot : Int32) (j133_m_x : Int64) (j133_m_a26_c : Nat → Int32) (H : Heap) (locs : List Loc) (ls : Array Slot), (3 - j133_l3.toInt).toNat < n133 → (ir j133_l3.toInt 0 2) → va_P g vwCl [(m, .inr (11, mG m_a m_thrown m_taped m_at m_token m_place m_value m_word m_bad m_badPlace m_fault m_faultPlace m_willing m_will j133_m_forgot m_isDrawn j133_m_x m_begin m_round m_roundCards m_fate m_any m_bothSend m_meanCards m_bestSum m_fitMany m_fitFirst m_fitSecond)), ((m_a 27), .inl (cZ, 2, .inl j2_m_a27_c)), ((m_a 24), .inl (cZ, 2, .inl m_maySend_c)), ((m_a 23), .inl (cI, 2, .inl m_ruleNow_c)), ((m_a 33), .inl (cI, 2, .inl m_oddsNow_c)), ((m_a 26), .inl (cI, 2, .inl j133_m_a26_c)), ((m_a 25), .inl (cZ, 2, .inl m_maycome_c)), ((m_a 34), .inl (cZ, 2, .inl j89_m_a34_c))] H → va_D A [(m, .inr (11, mG m_a m_thrown m_taped m_at m_token m_place m_value m_word m_bad m_badPlace m_fault m_faultPlace m_willing m_will j133_m_forgot m_isDrawn j133_m_x m_begin m_round m_roundCards m_fate m_any m_bothSend m_meanCards m_bestSum m_fitMany m_fitFirst m_fitSecond)), ((m_a 27), .inl (cZ, 2, .inl j2_m_a27_c)), ((m_a 24), .inl (cZ, 2, .inl m_maySend_c)), ((m_a 23), .inl (cI, 2, .inl m_ruleNow_c)), ((m_a 33), .inl (cI, 2, .inl m_oddsNow_c)), ((m_a 26), .inl (cI, 2, .inl j133_m_a26_c)), ((m_a 25), .inl (cZ, 2, .inl m_maycome_c)), ((m_a 34), .inl (cZ, 2, .inl j89_m_a34_c))] → va_S A s.heap H locs → lv_has ls 5 [(0, .ref m), (1, .int p0), (2, .ref (m_a 34)), (3, .int j133_l3)] → W p l e (headSpec v_X12_yearOf ({ frames := 2, cells := 0, slots := 0, locals := 44 })).room s mth av below meth c H locs 0 0 QQ (F0 mth 133 ls []) := by
            intro n133
            induction n133 with
            | zero => exact fun j133_l3 j133_m_forgot j133_m_x j133_m_a26_c H locs ls hn => absurd hn (Nat.not_lt_zero _)
            | succ n133 ih133 =>
              intro j133_l3 j133_m_forgot j133_m_x j133_m_a26_c H locs ls hn133 hj133_l3 hP hD hS hl
              refine lv_iload_n hx hb dX12_yearOf_133 rfl (lv_at hl 3 rfl) ?_
              refine lv_iconst (v := 2) hx hb dX12_yearOf_134 (by decide) ?_
              refine lv_icmp_ge (tgt := 202) hx hb dX12_yearOf_135 (by decide) (fun c135 => ?_) (fun c135 => ?_)
              rotate_left 1
              · have f135 := (show j133_l3.toInt < 2 from z_nle rfl rfl c135)
                have r135a : ir j133_l3.toInt 0 1 := ir_lta f135 hj133_l3 (ir_c 2) (by decide)
                refine lv_iload_n hx hb dX12_yearOf_138 rfl (lv_at hl 3 rfl) ?_
                refine lv_aload_n hx hb dX12_yearOf_139 rfl (lv_at hl 0 rfl) ?_
                refine va_get (D := g) (ci := 11) (v := .int m_willing) (C := RX12) (T := TX12) (N := 56) hx hb hts iX12 hown hK hP 0 rfl rfl 28 (by decide) (hts (.fieldLink RX12 68 "CardsAtYuleModel" "willing" "I") (List.mem_cons_of_mem _ (List.mem_append_left _ (List.mem_of_getElem? (i := 4) rfl)))) (fun _ h9 => h9) rfl dX12_yearOf_140 ?_
                have J196 : ∀ (j196_m_forgot : Int32) (j196_m_x : Int64) (j196_m_a26_c : Nat → Int32) (H : Heap) (locs : List Loc) (ls : Array Slot), va_P g vwCl [(m, .inr (11, mG m_a m_thrown m_taped m_at m_token m_place m_value m_word m_bad m_badPlace m_fault m_faultPlace m_willing m_will j196_m_forgot m_isDrawn j196_m_x m_begin m_round m_roundCards m_fate m_any m_bothSend m_meanCards m_bestSum m_fitMany m_fitFirst m_fitSecond)), ((m_a 27), .inl (cZ, 2, .inl j2_m_a27_c)), ((m_a 24), .inl (cZ, 2, .inl m_maySend_c)), ((m_a 23), .inl (cI, 2, .inl m_ruleNow_c)), ((m_a 33), .inl (cI, 2, .inl m_oddsNow_c)), ((m_a 26), .inl (cI, 2, .inl j196_m_a26_c)), ((m_a 25), .inl (cZ, 2, .inl m_maycome_c)), ((m_a 34), .inl (cZ, 2, .inl j89_m_a34_c))] H → va_D A [(m, .inr (11, mG m_a m_thrown m_taped m_at m_token m_place m_value m_word m_bad m_badPlace m_fault m_faultPlace m_willing m_will j196_m_forgot m_isDrawn j196_m_x m_begin m_round m_roundCards m_fate m_any m_bothSend m_meanCards m_bestSum m_fitMany m_fitFirst m_fitSecond)), ((m_a 27), .inl (cZ, 2, .inl j2_m_a27_c)), ((m_a 24), .inl (cZ, 2, .inl m_maySend_c)), ((m_a 23), .inl (cI, 2, .inl m_ruleNow_c)), ((m_a 33), .inl (cI, 2, .inl m_oddsNow_c)), ((m_a 26), .inl (cI, 2, .inl j196_m_a26_c)), ((m_a 25), .inl (cZ, 2, .inl m_maycome_c)), ((m_a 34), .inl (cZ, 2, .inl j89_m_a34_c))] → va_S A s.heap H locs → lv_has ls 5 [(0, .ref m), (1, .int p0), (2, .ref (m_a 34)), (3, .int j133_l3)] → W p l e (headSpec v_X12_yearOf ({ frames := 2, cells := 0, slots := 0, locals := 44 })).room s mth av below meth c H locs 0 0 QQ (F0 mth 196 ls []) := by
                  intro j196_m_forgot j196_m_x j196_m_a26_c H locs ls  hP hD hS hl
                  obtain ⟨y196, e196⟩ : ∃ y : Int32, y = j133_l3 + 1 := ⟨_, rfl⟩
                  have q196 : y196.toInt = j133_l3.toInt + 1 := by rw [e196]; exact ad_z rfl rfl r135a (ir_c 1) (by decide) (by decide)
                  have r196 : ir y196.toInt 1 2 := ad_r q196 r135a (ir_c 1) (by decide) (by decide)
                  refine lv_iinc (v := y196) (lv' := [(3, .int y196), (0, .ref m), (1, .int p0), (2, .ref (m_a 34))]) hx hb dX12_yearOf_196 hl (k := 3) rfl e196.symm (by decide) rfl (fun ls hl => ?_)
                  refine lv_goto (tgt := 133) hx hb dX12_yearOf_199 (by decide) ?_
                  exact ih133 y196 j196_m_forgot j196_m_x j196_m_a26_c _ _ _ (by omega) (ir_w r196 (by decide) (by decide)) (hP.sub [0, 1, 2, 3, 4, 5, 6, 7] rfl) (hD.sub [0, 1, 2, 3, 4, 5, 6, 7] (by decide) rfl) hS (lv_sub hl [1, 2, 3, 0] rfl)
                refine lv_icmp_eq (tgt := 196) hx hb dX12_yearOf_143 (by decide) (fun c143 => ?_) (fun c143 => ?_)
                · have f143 := (show j133_l3.toInt = m_willing.toInt from z_eq rfl rfl c143)
                  have r143b : ir m_willing.toInt 0 1 := ir_eqb f143 r135a (rg_all m_willing) (by decide) (by decide)
                  exact J196 j133_m_forgot j133_m_x j133_m_a26_c _ _ _  (hP.sub [0, 1, 2, 3, 4, 5, 6, 7] rfl) (hD.sub [0, 1, 2, 3, 4, 5, 6, 7] (by decide) rfl) hS (lv_sub hl [0, 1, 2, 3] rfl)
                have f143 := (show j133_l3.toInt ≠ m_willing.toInt from z_ne rfl rfl c143)
                refine lv_aload_n hx hb dX12_yearOf_146 rfl (lv_at hl 0 rfl) ?_
                refine va_get (D := g) (ci := 11) (v := .ref (m_a 24)) (C := RX12) (T := TX12) (N := 56) hx hb hts iX12 hown hK hP 0 rfl rfl 24 (by decide) (hts (.fieldLink RX12 56 "CardsAtYuleModel" "maySend" "[Z") (List.mem_cons_of_mem _ (List.mem_append_left _ (List.mem_of_getElem? (i := 5) rfl)))) (fun _ h9 => h9) rfl dX12_yearOf_147 ?_
                refine lv_iload_n hx hb dX12_yearOf_150 rfl (lv_at hl 3 rfl) ?_
                refine va_zald (D := g) hx hb hK hP 2 3 rfl rfl (vi_rg rfl r135a (by decide) (by decide)) dX12_yearOf_151 ?_
                refine lv_topi (fun y151 e151 => ?_)
                refine lv_if_eq (tgt := 196) hx hb dX12_yearOf_152 (by decide) (fun c152 => ?_) (fun c152 => ?_)
                · have f152 := (show y151.toInt = 0 from z_eq rfl rfl c152)
                  have r152a : ir y151.toInt 0 0 := ir_eqa f152 (rg_all y151) (ir_c 0) (by decide) (by decide)
                  exact J196 j133_m_forgot j133_m_x j133_m_a26_c _ _ _  (hP.sub [0, 1, 2, 3, 4, 5, 6, 7] rfl) (hD.sub [0, 1, 2, 3, 4, 5, 6, 7] (by decide) rfl) hS (lv_sub hl [0, 1, 2, 3] rfl)
                have f152 := (show y151.toInt ≠ 0 from z_ne rfl rfl c152)
                refine lv_aload_n hx hb dX12_yearOf_155 rfl (lv_at hl 0 rfl) ?_
                refine va_get (D := g) (ci := 11) (v := .ref (m_a 26)) (C := RX12) (T := TX12) (N := 56) hx hb hts iX12 hown hK hP 0 rfl rfl 26 (by decide) (hts (.fieldLink RX12 62 "CardsAtYuleModel" "sent" "[I") (List.mem_cons_of_mem _ (List.mem_append_left _ (List.mem_of_getElem? (i := 2) rfl)))) (fun _ h9 => h9) rfl dX12_yearOf_156 ?_
                refine lv_iload_n hx hb dX12_yearOf_159 rfl (lv_at hl 3 rfl) ?_
                refine va_iald (D := g) hx hb hK hP 5 0 rfl rfl (vi_rg rfl r135a (by decide) (by decide)) dX12_yearOf_160 ?_
                refine lv_topi (fun y160 e160 => ?_)
                refine lv_if_ne (tgt := 196) hx hb dX12_yearOf_161 (by decide) (fun c161 => ?_) (fun c161 => ?_)
                · have f161 := (show y160.toInt ≠ 0 from z_ne rfl rfl c161)
                  exact J196 j133_m_forgot j133_m_x j133_m_a26_c _ _ _  (hP.sub [0, 1, 2, 3, 4, 5, 6, 7] rfl) (hD.sub [0, 1, 2, 3, 4, 5, 6, 7] (by decide) rfl) hS (lv_sub hl [0, 1, 2, 3] rfl)
                have f161 := (show y160.toInt = 0 from z_eq rfl rfl c161)
                have r161a : ir y160.toInt 0 0 := ir_eqa f161 (rg_all y160) (ir_c 0) (by decide) (by decide)
                refine lv_aload_n hx hb dX12_yearOf_164 rfl (lv_at hl 0 rfl) ?_
                refine va_get (D := g) (ci := 11) (v := .ref (m_a 23)) (C := RX12) (T := TX12) (N := 56) hx hb hts iX12 hown hK hP 0 rfl rfl 23 (by decide) (hts (.fieldLink RX12 53 "CardsAtYuleModel" "ruleNow" "[I") (List.mem_cons_of_mem _ (List.mem_append_left _ (List.mem_of_getElem? (i := 6) rfl)))) (fun _ h9 => h9) rfl dX12_yearOf_165 ?_
                refine lv_iload_n hx hb dX12_yearOf_168 rfl (lv_at hl 3 rfl) ?_
                refine va_iald (D := g) hx hb hK hP 3 0 rfl rfl (vi_rg rfl r135a (by decide) (by decide)) dX12_yearOf_169 ?_
                refine lv_topi (fun y169 e169 => ?_)
                refine lv_bipush (v := 16) hx hb dX12_yearOf_170 (by decide) ?_
                refine lv_icmp_lt (tgt := 196) hx hb dX12_yearOf_172 (by decide) (fun c172 => ?_) (fun c172 => ?_)
                · have f172 := (show y169.toInt < 16 from z_lt rfl rfl c172)
                  have r172a : ir y169.toInt (-2147483648) 15 := ir_lta f172 (rg_all y169) (ir_c 16) (by decide)
                  exact J196 j133_m_forgot j133_m_x j133_m_a26_c _ _ _  (hP.sub [0, 1, 2, 3, 4, 5, 6, 7] rfl) (hD.sub [0, 1, 2, 3, 4, 5, 6, 7] (by decide) rfl) hS (lv_sub hl [0, 1, 2, 3] rfl)
                have f172 := (show 16 ≤ y169.toInt from z_nlt rfl rfl c172)
                have r172a : ir y169.toInt 16 2147483647 := ir_leb f172 (ir_c 16) (rg_all y169) (by decide)
                refine lv_aload_n hx hb dX12_yearOf_175 rfl (lv_at hl 2 rfl) ?_
                refine lv_iload_n hx hb dX12_yearOf_176 rfl (lv_at hl 3 rfl) ?_
                refine va_zald (D := g) hx hb hK hP 7 3 rfl rfl (vi_rg rfl r135a (by decide) (by decide)) dX12_yearOf_177 ?_
                refine lv_topi (fun y177 e177 => ?_)
                refine lv_if_eq (tgt := 196) hx hb dX12_yearOf_178 (by decide) (fun c178 => ?_) (fun c178 => ?_)
                · have f178 := (show y177.toInt = 0 from z_eq rfl rfl c178)
                  have r178a : ir y177.toInt 0 0 := ir_eqa f178 (rg_all y177) (ir_c 0) (by decide) (by decide)
                  exact J196 j133_m_forgot j133_m_x j133_m_a26_c _ _ _  (hP.sub [0, 1, 2, 3, 4, 5, 6, 7] rfl) (hD.sub [0, 1, 2, 3, 4, 5, 6, 7] (by decide) rfl) hS (lv_sub hl [0, 1, 2, 3] rfl)
                have f178 := (show y177.toInt ≠ 0 from z_ne rfl rfl c178)
                refine lv_aload_n hx hb dX12_yearOf_181 rfl (lv_at hl 0 rfl) ?_
                refine lv_iload_n hx hb dX12_yearOf_182 rfl (lv_at hl 3 rfl) ?_
                refine rw_i (wr := [((m_a 27), .inl (cZ, 2, .inl j2_m_a27_c)), ((m_a 24), .inl (cZ, 2, .inl m_maySend_c)), ((m_a 23), .inl (cI, 2, .inl m_ruleNow_c)), ((m_a 26), .inl (cI, 2, .inl j133_m_a26_c)), ((m_a 25), .inl (cZ, 2, .inl m_maycome_c)), ((m_a 34), .inl (cZ, 2, .inl j89_m_a34_c))]) (va_runV (As := [.int j133_l3]) (rest := []) ⟨hx, hb, hml, hown, hts⟩ (q_X12_isForgotten l g cI cJ cB cZ cL j133_l3 m m_a m_thrown m_taped m_at m_token m_place m_value m_word m_bad m_badPlace m_fault m_faultPlace m_willing m_will j133_m_forgot m_isDrawn j133_m_x m_begin m_round m_roundCards m_fate m_any m_bothSend m_meanCards m_bestSum m_fitMany m_fitFirst m_fitSecond m_oddsNow_c H.size r135a hv_m_taped hv_m_at hv_m_will hv_m_isDrawn) (cwV 1 hts (goodIn_app (g_4 (List.mem_cons_of_mem _ (List.mem_append_left _ (List.mem_of_getElem? (i := 7) rfl))) (List.mem_cons_of_mem _ (List.mem_append_left _ (List.mem_of_getElem? (i := 8) rfl))) (List.mem_cons_of_mem _ (List.mem_append_left _ (List.mem_of_getElem? (i := 9) rfl))) (List.mem_cons_of_mem _ (List.mem_append_left _ (List.mem_of_getElem? (i := 10) rfl))) (by decide +kernel)) (goodIn_sub (fun _ h => List.mem_cons_of_mem _ (List.mem_append_right _ (List.mem_append_left _ h))) good_v_X12_isForgotten)) rfl rfl rfl (by decide +kernel) ⟨Nat.le_of_ble_eq_true rfl, Nat.le_of_ble_eq_true rfl⟩) (pv_RW (q := (RX12, TX12, 56)) (ci := 11) (q0 := 0) (wc := [(m, .inr (11, mG m_a m_thrown m_taped m_at m_token m_place m_value m_word m_bad m_badPlace m_fault m_faultPlace m_willing m_will j133_m_forgot m_isDrawn j133_m_x m_begin m_round m_roundCards m_fate m_any m_bothSend m_meanCards m_bestSum m_fitMany m_fitFirst m_fitSecond)), ((m_a 33), .inl (cI, 2, .inl m_oddsNow_c))]) hK hP hD [0, 4] (by decide) rfl rfl rfl) rfl rfl hl.1 rfl (lv_room (Nat.le_of_ble_eq_true rfl)) dX12_yearOf_183 ⟨Nat.le_of_ble_eq_true rfl, Nat.le_of_ble_eq_true rfl⟩) hS hA hP hD [0, 4] [1, 2, 3, 5, 6, 7] rfl rfl (by decide) (by decide) (fun r183 u183 H locs hw183 hP hD hS => ?_)
                obtain ⟨n_m_forgot_183, n_m_x_183⟩ := u183
                have hP : va_P g vwCl [((m_a 27), .inl (cZ, 2, .inl j2_m_a27_c)), ((m_a 24), .inl (cZ, 2, .inl m_maySend_c)), ((m_a 23), .inl (cI, 2, .inl m_ruleNow_c)), ((m_a 26), .inl (cI, 2, .inl j133_m_a26_c)), ((m_a 25), .inl (cZ, 2, .inl m_maycome_c)), ((m_a 34), .inl (cZ, 2, .inl j89_m_a34_c)), (m, .inr (11, mG m_a m_thrown m_taped m_at m_token m_place m_value m_word m_bad m_badPlace m_fault m_faultPlace m_willing m_will n_m_forgot_183 m_isDrawn n_m_x_183 m_begin m_round m_roundCards m_fate m_any m_bothSend m_meanCards m_bestSum m_fitMany m_fitFirst m_fitSecond)), ((m_a 33), .inl (cI, 2, .inl m_oddsNow_c))] H := hP
                have hD : va_D A [((m_a 27), .inl (cZ, 2, .inl j2_m_a27_c)), ((m_a 24), .inl (cZ, 2, .inl m_maySend_c)), ((m_a 23), .inl (cI, 2, .inl m_ruleNow_c)), ((m_a 26), .inl (cI, 2, .inl j133_m_a26_c)), ((m_a 25), .inl (cZ, 2, .inl m_maycome_c)), ((m_a 34), .inl (cZ, 2, .inl j89_m_a34_c)), (m, .inr (11, mG m_a m_thrown m_taped m_at m_token m_place m_value m_word m_bad m_badPlace m_fault m_faultPlace m_willing m_will n_m_forgot_183 m_isDrawn n_m_x_183 m_begin m_round m_roundCards m_fate m_any m_bothSend m_meanCards m_bestSum m_fitMany m_fitFirst m_fitSecond)), ((m_a 33), .inl (cI, 2, .inl m_oddsNow_c))] := hD
                dsimp only at hw183
                have hw183_0 := hw183
                refine lv_if_ne (tgt := 196) hx hb dX12_yearOf_186 (by decide) (fun c186 => ?_) (fun c186 => ?_)
                · have f186 := (show r183.toInt ≠ 0 from z_ne rfl rfl c186)
                  have r186a : ir r183.toInt 1 1 := ir_nel f186 hw183_0 (by decide) (by decide)
                  exact J196 n_m_forgot_183 n_m_x_183 j133_m_a26_c _ _ _  (hP.sub [6, 0, 1, 2, 7, 3, 4, 5] rfl) (hD.sub [6, 0, 1, 2, 7, 3, 4, 5] (by decide) rfl) hS (lv_sub hl [0, 1, 2, 3] rfl)
                have f186 := (show r183.toInt = 0 from z_eq rfl rfl c186)
                have r186a : ir r183.toInt 0 0 := ir_eqa f186 hw183_0 (ir_c 0) (by decide) (by decide)
                refine lv_aload_n hx hb dX12_yearOf_189 rfl (lv_at hl 0 rfl) ?_
                refine va_get (D := g) (ci := 11) (v := .ref (m_a 26)) (C := RX12) (T := TX12) (N := 56) hx hb hts iX12 hown hK hP 6 rfl rfl 26 (by decide) (hts (.fieldLink RX12 62 "CardsAtYuleModel" "sent" "[I") (List.mem_cons_of_mem _ (List.mem_append_left _ (List.mem_of_getElem? (i := 2) rfl)))) (fun _ h9 => h9) rfl dX12_yearOf_190 ?_
                refine lv_iload_n hx hb dX12_yearOf_193 rfl (lv_at hl 3 rfl) ?_
                refine lv_iconst (v := 2) hx hb dX12_yearOf_194 (by decide) ?_
                refine va_iast (D := g) hx hb hK hP hD hS 3 0 rfl rfl (vi_rg rfl r135a (by decide) (by decide)) dX12_yearOf_195 (fun H locs hP hD hS => ?_)
                obtain ⟨g195, e195⟩ : ∃ z, z = upd j133_m_a26_c j133_l3.toNatClampNeg (2 : Int32) := ⟨_, rfl⟩
                have hP : va_P g vwCl [((m_a 27), .inl (cZ, 2, .inl j2_m_a27_c)), ((m_a 24), .inl (cZ, 2, .inl m_maySend_c)), ((m_a 23), .inl (cI, 2, .inl m_ruleNow_c)), ((m_a 26), .inl (cI, 2, .inl (upd j133_m_a26_c j133_l3.toNatClampNeg (2 : Int32)))), ((m_a 25), .inl (cZ, 2, .inl m_maycome_c)), ((m_a 34), .inl (cZ, 2, .inl j89_m_a34_c)), (m, .inr (11, mG m_a m_thrown m_taped m_at m_token m_place m_value m_word m_bad m_badPlace m_fault m_faultPlace m_willing m_will n_m_forgot_183 m_isDrawn n_m_x_183 m_begin m_round m_roundCards m_fate m_any m_bothSend m_meanCards m_bestSum m_fitMany m_fitFirst m_fitSecond)), ((m_a 33), .inl (cI, 2, .inl m_oddsNow_c))] H := hP
                have hD : va_D A [((m_a 27), .inl (cZ, 2, .inl j2_m_a27_c)), ((m_a 24), .inl (cZ, 2, .inl m_maySend_c)), ((m_a 23), .inl (cI, 2, .inl m_ruleNow_c)), ((m_a 26), .inl (cI, 2, .inl (upd j133_m_a26_c j133_l3.toNatClampNeg (2 : Int32)))), ((m_a 25), .inl (cZ, 2, .inl m_maycome_c)), ((m_a 34), .inl (cZ, 2, .inl j89_m_a34_c)), (m, .inr (11, mG m_a m_thrown m_taped m_at m_token m_place m_value m_word m_bad m_badPlace m_fault m_faultPlace m_willing m_will n_m_forgot_183 m_isDrawn n_m_x_183 m_begin m_round m_roundCards m_fate m_any m_bothSend m_meanCards m_bestSum m_fitMany m_fitFirst m_fitSecond)), ((m_a 33), .inl (cI, 2, .inl m_oddsNow_c))] := hD
                rw [← e195] at hP hD
                exact J196 n_m_forgot_183 n_m_x_183 g195 _ _ _  (hP.sub [6, 0, 1, 2, 7, 3, 4, 5] rfl) (hD.sub [6, 0, 1, 2, 7, 3, 4, 5] (by decide) rfl) hS (lv_sub hl [0, 1, 2, 3] rfl)
              have f135 := (show 2 ≤ j133_l3.toInt from z_le rfl rfl c135)
              have r135a : ir j133_l3.toInt 2 2 := ir_leb f135 (ir_c 2) hj133_l3 (by decide)
              refine lv_iload_n hx hb dX12_yearOf_202 rfl (lv_at hl 1 rfl) ?_
              refine lv_iconst (v := 5) hx hb dX12_yearOf_203 (by decide) ?_
              refine lv_iand hx hb dX12_yearOf_204 ?_
              refine lv_topi (fun y204 e204 => ?_)
              have r204 : ir y204.toInt 0 5 := by rw [e204]; exact an_y rfl (ir_c 5) (by decide)
              refine lv_iconst (v := 1) hx hb dX12_yearOf_205 (by decide) ?_
              refine lv_ishl hx hb dX12_yearOf_206 ?_
              refine lv_topi (fun y206 e206 => ?_)
              have r206 : ir y206.toInt 0 10 := by rw [e206]; exact sl_r 1 rfl r204 (by decide) (by decide) (by decide) (by decide) (by decide)
              refine lv_istore_n (lv' := [(3, .int y206), (0, .ref m), (1, .int p0), (2, .ref (m_a 34))]) hx hb dX12_yearOf_207 rfl hl (by decide) rfl (fun ls hl => ?_)
              refine lv_iconst (v := 0) hx hb dX12_yearOf_208 (by decide) ?_
              refine lv_istore (lv' := [(4, .int 0), (3, .int y206), (0, .ref m), (1, .int p0), (2, .ref (m_a 34))]) hx hb dX12_yearOf_209 hl (by decide) rfl (fun ls hl => ?_)
              have J211 : ∀ (n211 : Nat) (j211_l3 : Int32) (j211_l4 : Int32) (j211_m_a27_c : Nat → Int32) (H : Heap) (locs : List Loc) (ls : Array Slot), (3 - j211_l4.toInt).toNat < n211 → (ir j211_l3.toInt 0 15) → (ir j211_l4.toInt 0 2) → va_P g vwCl [(m, .inr (11, mG m_a m_thrown m_taped m_at m_token m_place m_value m_word m_bad m_badPlace m_fault m_faultPlace m_willing m_will j133_m_forgot m_isDrawn j133_m_x m_begin m_round m_roundCards m_fate m_any m_bothSend m_meanCards m_bestSum m_fitMany m_fitFirst m_fitSecond)), ((m_a 27), .inl (cZ, 2, .inl j211_m_a27_c)), ((m_a 24), .inl (cZ, 2, .inl m_maySend_c)), ((m_a 23), .inl (cI, 2, .inl m_ruleNow_c)), ((m_a 33), .inl (cI, 2, .inl m_oddsNow_c)), ((m_a 26), .inl (cI, 2, .inl j133_m_a26_c)), ((m_a 25), .inl (cZ, 2, .inl m_maycome_c)), ((m_a 34), .inl (cZ, 2, .inl j89_m_a34_c))] H → va_D A [(m, .inr (11, mG m_a m_thrown m_taped m_at m_token m_place m_value m_word m_bad m_badPlace m_fault m_faultPlace m_willing m_will j133_m_forgot m_isDrawn j133_m_x m_begin m_round m_roundCards m_fate m_any m_bothSend m_meanCards m_bestSum m_fitMany m_fitFirst m_fitSecond)), ((m_a 27), .inl (cZ, 2, .inl j211_m_a27_c)), ((m_a 24), .inl (cZ, 2, .inl m_maySend_c)), ((m_a 23), .inl (cI, 2, .inl m_ruleNow_c)), ((m_a 33), .inl (cI, 2, .inl m_oddsNow_c)), ((m_a 26), .inl (cI, 2, .inl j133_m_a26_c)), ((m_a 25), .inl (cZ, 2, .inl m_maycome_c)), ((m_a 34), .inl (cZ, 2, .inl j89_m_a34_c))] → va_S A s.heap H locs → lv_has ls 5 [(0, .ref m), (3, .int j211_l3), (4, .int j211_l4)] → W p l e (headSpec v_X12_yearOf ({ frames := 2, cells := 0, slots := 0, locals := 44 })).room s mth av below meth c H locs 0 0 QQ (F0 mth 211 ls []) := by
                intro n211
                induction n211 with
                | zero => exact fun j211_l3 j211_l4 j211_m_a27_c H locs ls hn => absurd hn (Nat.not_lt_zero _)
                | succ n211 ih211 =>
                  intro j211_l3 j211_l4 j211_m_a27_c H locs ls hn211 hj211_l3 hj211_l4 hP hD hS hl
                  refine lv_iload hx hb dX12_yearOf_211 (lv_at hl 2 rfl) ?_
                  refine lv_iconst (v := 2) hx hb dX12_yearOf_213 (by decide) ?_
                  refine lv_icmp_ge (tgt := 282) hx hb dX12_yearOf_214 (by decide) (fun c214 => ?_) (fun c214 => ?_)
                  · have f214 := (show 2 ≤ j211_l4.toInt from z_le rfl rfl c214)
                    have r214a : ir j211_l4.toInt 2 2 := ir_leb f214 (ir_c 2) hj211_l4 (by decide)
                    refine lv_iload_n hx hb dX12_yearOf_282 rfl (lv_at hl 1 rfl) ?_
                    subst hQ
                    have hP9 := hP.sub (ws' := [(m, .inr (11, mG m_a m_thrown m_taped m_at m_token m_place m_value m_word m_bad m_badPlace m_fault m_faultPlace m_willing m_will j133_m_forgot m_isDrawn j133_m_x m_begin m_round m_roundCards m_fate m_any m_bothSend m_meanCards m_bestSum m_fitMany m_fitFirst m_fitSecond)), ((m_a 27), .inl (cZ, 2, .inl j211_m_a27_c)), ((m_a 24), .inl (cZ, 2, .inl m_maySend_c)), ((m_a 23), .inl (cI, 2, .inl m_ruleNow_c)), ((m_a 33), .inl (cI, 2, .inl m_oddsNow_c)), ((m_a 26), .inl (cI, 2, .inl j133_m_a26_c)), ((m_a 25), .inl (cZ, 2, .inl m_maycome_c)), ((m_a 34), .inl (cZ, 2, .inl j89_m_a34_c))]) [0, 1, 2, 3, 4, 5, 6, 7] rfl
                    have hD9 := hD.sub (ws' := [(m, .inr (11, mG m_a m_thrown m_taped m_at m_token m_place m_value m_word m_bad m_badPlace m_fault m_faultPlace m_willing m_will j133_m_forgot m_isDrawn j133_m_x m_begin m_round m_roundCards m_fate m_any m_bothSend m_meanCards m_bestSum m_fitMany m_fitFirst m_fitSecond)), ((m_a 27), .inl (cZ, 2, .inl j211_m_a27_c)), ((m_a 24), .inl (cZ, 2, .inl m_maySend_c)), ((m_a 23), .inl (cI, 2, .inl m_ruleNow_c)), ((m_a 33), .inl (cI, 2, .inl m_oddsNow_c)), ((m_a 26), .inl (cI, 2, .inl j133_m_a26_c)), ((m_a 25), .inl (cZ, 2, .inl m_maycome_c)), ((m_a 34), .inl (cZ, 2, .inl j89_m_a34_c))]) [0, 1, 2, 3, 4, 5, 6, 7] (by decide) rfl
                    exact W.iret (v := j211_l3) hx hb hr (fun t ht hW => ⟨⟨j211_l3, (j133_m_forgot, j133_m_x, j211_m_a27_c, j133_m_a26_c, j89_m_a34_c), rfl, hj211_l3, ⟨by rw [ht]; exact hP9, va_K.moved hW.alike hK, hD9⟩⟩, hS.F ht⟩) hS.2.2 dX12_yearOf_283
                  have f214 := (show j211_l4.toInt < 2 from z_nle rfl rfl c214)
                  have r214a : ir j211_l4.toInt 0 1 := ir_lta f214 hj211_l4 (ir_c 2) (by decide)
                  refine lv_aload_n hx hb dX12_yearOf_217 rfl (lv_at hl 0 rfl) ?_
                  refine va_get (D := g) (ci := 11) (v := .ref (m_a 27)) (C := RX12) (T := TX12) (N := 56) hx hb hts iX12 hown hK hP 0 rfl rfl 27 (by decide) (hts (.fieldLink RX12 65 "CardsAtYuleModel" "gets" "[Z") (List.mem_cons_of_mem _ (List.mem_append_left _ (List.mem_of_getElem? (i := 1) rfl)))) (fun _ h9 => h9) rfl dX12_yearOf_218 ?_
                  refine lv_iload hx hb dX12_yearOf_221 (lv_at hl 2 rfl) ?_
                  refine lv_aload_n hx hb dX12_yearOf_223 rfl (lv_at hl 0 rfl) ?_
                  refine va_get (D := g) (ci := 11) (v := .ref (m_a 26)) (C := RX12) (T := TX12) (N := 56) hx hb hts iX12 hown hK hP 0 rfl rfl 26 (by decide) (hts (.fieldLink RX12 62 "CardsAtYuleModel" "sent" "[I") (List.mem_cons_of_mem _ (List.mem_append_left _ (List.mem_of_getElem? (i := 2) rfl)))) (fun _ h9 => h9) rfl dX12_yearOf_224 ?_
                  refine lv_iconst (v := 1) hx hb dX12_yearOf_227 (by decide) ?_
                  refine lv_iload hx hb dX12_yearOf_228 (lv_at hl 2 rfl) ?_
                  refine lv_isub hx hb dX12_yearOf_230 ?_
                  refine lv_topi (fun y230 e230 => ?_)
                  have q230 : y230.toInt = 1 - j211_l4.toInt := by rw [e230]; exact su_z rfl rfl (ir_c 1) r214a (by decide) (by decide)
                  have r230 : ir y230.toInt 0 1 := su_r q230 (ir_c 1) r214a (by decide) (by decide)
                  refine va_iald (D := g) hx hb hK hP 5 0 rfl rfl (vi_rg rfl r230 (by decide) (by decide)) dX12_yearOf_231 ?_
                  refine lv_topi (fun y231 e231 => ?_)
                  have J252 : ∀ (j252_s0 : Int32) (H : Heap) (locs : List Loc) (ls : Array Slot), (ir j252_s0.toInt 0 1) → (ir y231.toInt (-2147483648) 2147483647) → va_P g vwCl [(m, .inr (11, mG m_a m_thrown m_taped m_at m_token m_place m_value m_word m_bad m_badPlace m_fault m_faultPlace m_willing m_will j133_m_forgot m_isDrawn j133_m_x m_begin m_round m_roundCards m_fate m_any m_bothSend m_meanCards m_bestSum m_fitMany m_fitFirst m_fitSecond)), ((m_a 27), .inl (cZ, 2, .inl j211_m_a27_c)), ((m_a 24), .inl (cZ, 2, .inl m_maySend_c)), ((m_a 23), .inl (cI, 2, .inl m_ruleNow_c)), ((m_a 33), .inl (cI, 2, .inl m_oddsNow_c)), ((m_a 26), .inl (cI, 2, .inl j133_m_a26_c)), ((m_a 25), .inl (cZ, 2, .inl m_maycome_c)), ((m_a 34), .inl (cZ, 2, .inl j89_m_a34_c))] H → va_D A [(m, .inr (11, mG m_a m_thrown m_taped m_at m_token m_place m_value m_word m_bad m_badPlace m_fault m_faultPlace m_willing m_will j133_m_forgot m_isDrawn j133_m_x m_begin m_round m_roundCards m_fate m_any m_bothSend m_meanCards m_bestSum m_fitMany m_fitFirst m_fitSecond)), ((m_a 27), .inl (cZ, 2, .inl j211_m_a27_c)), ((m_a 24), .inl (cZ, 2, .inl m_maySend_c)), ((m_a 23), .inl (cI, 2, .inl m_ruleNow_c)), ((m_a 33), .inl (cI, 2, .inl m_oddsNow_c)), ((m_a 26), .inl (cI, 2, .inl j133_m_a26_c)), ((m_a 25), .inl (cZ, 2, .inl m_maycome_c)), ((m_a 34), .inl (cZ, 2, .inl j89_m_a34_c))] → va_S A s.heap H locs → lv_has ls 5 [(0, .ref m), (3, .int j211_l3), (4, .int j211_l4)] → W p l e (headSpec v_X12_yearOf ({ frames := 2, cells := 0, slots := 0, locals := 44 })).room s mth av below meth c H locs 0 0 QQ (F0 mth 252 ls [.int j252_s0, .int j211_l4, .ref (m_a 27)]) := by
                    intro j252_s0 H locs ls hj252_s0 t252_1 hP hD hS hl
                    refine va_zast (D := g) hx hb hK hP hD hS 1 3 rfl rfl (vi_rg rfl r214a (by decide) (by decide)) dX12_yearOf_252 (fun H locs hP hD hS => ?_)
                    obtain ⟨g252, e252⟩ : ∃ z, z = upd j211_m_a27_c j211_l4.toNatClampNeg (vp_nar .boolean j252_s0) := ⟨_, rfl⟩
                    have hP : va_P g vwCl [(m, .inr (11, mG m_a m_thrown m_taped m_at m_token m_place m_value m_word m_bad m_badPlace m_fault m_faultPlace m_willing m_will j133_m_forgot m_isDrawn j133_m_x m_begin m_round m_roundCards m_fate m_any m_bothSend m_meanCards m_bestSum m_fitMany m_fitFirst m_fitSecond)), ((m_a 27), .inl (cZ, 2, .inl (upd j211_m_a27_c j211_l4.toNatClampNeg (vp_nar .boolean j252_s0)))), ((m_a 24), .inl (cZ, 2, .inl m_maySend_c)), ((m_a 23), .inl (cI, 2, .inl m_ruleNow_c)), ((m_a 33), .inl (cI, 2, .inl m_oddsNow_c)), ((m_a 26), .inl (cI, 2, .inl j133_m_a26_c)), ((m_a 25), .inl (cZ, 2, .inl m_maycome_c)), ((m_a 34), .inl (cZ, 2, .inl j89_m_a34_c))] H := hP
                    have hD : va_D A [(m, .inr (11, mG m_a m_thrown m_taped m_at m_token m_place m_value m_word m_bad m_badPlace m_fault m_faultPlace m_willing m_will j133_m_forgot m_isDrawn j133_m_x m_begin m_round m_roundCards m_fate m_any m_bothSend m_meanCards m_bestSum m_fitMany m_fitFirst m_fitSecond)), ((m_a 27), .inl (cZ, 2, .inl (upd j211_m_a27_c j211_l4.toNatClampNeg (vp_nar .boolean j252_s0)))), ((m_a 24), .inl (cZ, 2, .inl m_maySend_c)), ((m_a 23), .inl (cI, 2, .inl m_ruleNow_c)), ((m_a 33), .inl (cI, 2, .inl m_oddsNow_c)), ((m_a 26), .inl (cI, 2, .inl j133_m_a26_c)), ((m_a 25), .inl (cZ, 2, .inl m_maycome_c)), ((m_a 34), .inl (cZ, 2, .inl j89_m_a34_c))] := hD
                    rw [← e252] at hP hD
                    refine lv_iload_n hx hb dX12_yearOf_253 rfl (lv_at hl 1 rfl) ?_
                    refine lv_aload_n hx hb dX12_yearOf_254 rfl (lv_at hl 0 rfl) ?_
                    refine va_get (D := g) (ci := 11) (v := .ref (m_a 27)) (C := RX12) (T := TX12) (N := 56) hx hb hts iX12 hown hK hP 0 rfl rfl 27 (by decide) (hts (.fieldLink RX12 65 "CardsAtYuleModel" "gets" "[Z") (List.mem_cons_of_mem _ (List.mem_append_left _ (List.mem_of_getElem? (i := 1) rfl)))) (fun _ h9 => h9) rfl dX12_yearOf_255 ?_
                    refine lv_iload hx hb dX12_yearOf_258 (lv_at hl 2 rfl) ?_
                    refine va_zald (D := g) hx hb hK hP 1 3 rfl rfl (vi_rg rfl r214a (by decide) (by decide)) dX12_yearOf_260 ?_
                    refine lv_topi (fun y260 e260 => ?_)
                    have J274 : ∀ (j274_s0 : Int32) (H : Heap) (locs : List Loc) (ls : Array Slot), (ir j274_s0.toInt 0 4) → va_P g vwCl [(m, .inr (11, mG m_a m_thrown m_taped m_at m_token m_place m_value m_word m_bad m_badPlace m_fault m_faultPlace m_willing m_will j133_m_forgot m_isDrawn j133_m_x m_begin m_round m_roundCards m_fate m_any m_bothSend m_meanCards m_bestSum m_fitMany m_fitFirst m_fitSecond)), ((m_a 27), .inl (cZ, 2, .inl g252)), ((m_a 24), .inl (cZ, 2, .inl m_maySend_c)), ((m_a 23), .inl (cI, 2, .inl m_ruleNow_c)), ((m_a 33), .inl (cI, 2, .inl m_oddsNow_c)), ((m_a 26), .inl (cI, 2, .inl j133_m_a26_c)), ((m_a 25), .inl (cZ, 2, .inl m_maycome_c)), ((m_a 34), .inl (cZ, 2, .inl j89_m_a34_c))] H → va_D A [(m, .inr (11, mG m_a m_thrown m_taped m_at m_token m_place m_value m_word m_bad m_badPlace m_fault m_faultPlace m_willing m_will j133_m_forgot m_isDrawn j133_m_x m_begin m_round m_roundCards m_fate m_any m_bothSend m_meanCards m_bestSum m_fitMany m_fitFirst m_fitSecond)), ((m_a 27), .inl (cZ, 2, .inl g252)), ((m_a 24), .inl (cZ, 2, .inl m_maySend_c)), ((m_a 23), .inl (cI, 2, .inl m_ruleNow_c)), ((m_a 33), .inl (cI, 2, .inl m_oddsNow_c)), ((m_a 26), .inl (cI, 2, .inl j133_m_a26_c)), ((m_a 25), .inl (cZ, 2, .inl m_maycome_c)), ((m_a 34), .inl (cZ, 2, .inl j89_m_a34_c))] → va_S A s.heap H locs → lv_has ls 5 [(0, .ref m), (4, .int j211_l4)] → W p l e (headSpec v_X12_yearOf ({ frames := 2, cells := 0, slots := 0, locals := 44 })).room s mth av below meth c H locs 0 0 QQ (F0 mth 274 ls [.int j274_s0, .int j211_l3]) := by
                      intro j274_s0 H locs ls hj274_s0 hP hD hS hl
                      refine lv_ior hx hb dX12_yearOf_274 ?_
                      refine lv_topi (fun y274 e274 => ?_)
                      have r274 : ir y274.toInt 0 15 := by rw [e274]; exact or_r 4 rfl rfl hj211_l3 hj274_s0 (by decide) (by decide) (by decide) (by decide) (by decide)
                      refine lv_istore_n (lv' := [(3, .int y274), (0, .ref m), (4, .int j211_l4)]) hx hb dX12_yearOf_275 rfl hl (by decide) rfl (fun ls hl => ?_)
                      obtain ⟨y276, e276⟩ : ∃ y : Int32, y = j211_l4 + 1 := ⟨_, rfl⟩
                      have q276 : y276.toInt = j211_l4.toInt + 1 := by rw [e276]; exact ad_z rfl rfl r214a (ir_c 1) (by decide) (by decide)
                      have r276 : ir y276.toInt 1 2 := ad_r q276 r214a (ir_c 1) (by decide) (by decide)
                      refine lv_iinc (v := y276) (lv' := [(4, .int y276), (3, .int y274), (0, .ref m)]) hx hb dX12_yearOf_276 hl (k := 2) rfl e276.symm (by decide) rfl (fun ls hl => ?_)
                      refine lv_goto (tgt := 211) hx hb dX12_yearOf_279 (by decide) ?_
                      exact ih211 y274 y276 g252 _ _ _ (by omega) r274 (ir_w r276 (by decide) (by decide)) (hP.sub [0, 1, 2, 3, 4, 5, 6, 7] rfl) (hD.sub [0, 1, 2, 3, 4, 5, 6, 7] (by decide) rfl) hS (lv_sub hl [2, 1, 0] rfl)
                    refine lv_if_eq (tgt := 273) hx hb dX12_yearOf_261 (by decide) (fun c261 => ?_) (fun c261 => ?_)
                    · have f261 := (show y260.toInt = 0 from z_eq rfl rfl c261)
                      have r261a : ir y260.toInt 0 0 := ir_eqa f261 (rg_all y260) (ir_c 0) (by decide) (by decide)
                      refine lv_iconst (v := 0) hx hb dX12_yearOf_273 (by decide) ?_
                      exact J274 0 _ _ _ (by decide) (hP.sub [0, 1, 2, 3, 4, 5, 6, 7] rfl) (hD.sub [0, 1, 2, 3, 4, 5, 6, 7] (by decide) rfl) hS (lv_sub hl [0, 2] rfl)
                    have f261 := (show y260.toInt ≠ 0 from z_ne rfl rfl c261)
                    refine lv_iconst (v := 1) hx hb dX12_yearOf_264 (by decide) ?_
                    refine lv_iconst (v := 2) hx hb dX12_yearOf_265 (by decide) ?_
                    refine lv_iload hx hb dX12_yearOf_266 (lv_at hl 2 rfl) ?_
                    refine lv_imul hx hb dX12_yearOf_268 ?_
                    refine lv_topi (fun y268 e268 => ?_)
                    have q268 : y268.toInt = 2 * j211_l4.toInt := by rw [e268]; exact mu_z rfl rfl (ir_c 2) r214a (by decide) (by decide) (by decide)
                    have r268 : ir y268.toInt 0 2 := mu_r q268 (ir_c 2) r214a (by decide) (by decide) (by decide) (by decide)
                    refine lv_ishl hx hb dX12_yearOf_269 ?_
                    refine lv_topi (fun y269 e269 => ?_)
                    have r269 : ir y269.toInt 1 4 := by rw [e269]; exact s1_r 2 rfl r268 (by decide) (by decide)
                    refine lv_goto (tgt := 274) hx hb dX12_yearOf_270 (by decide) ?_
                    exact J274 y269 _ _ _ (ir_w r269 (by decide) (by decide)) (hP.sub [0, 1, 2, 3, 4, 5, 6, 7] rfl) (hD.sub [0, 1, 2, 3, 4, 5, 6, 7] (by decide) rfl) hS (lv_sub hl [0, 2] rfl)
                  have J251 : ∀  (H : Heap) (locs : List Loc) (ls : Array Slot), (ir y231.toInt (-2147483648) 2147483647) → va_P g vwCl [(m, .inr (11, mG m_a m_thrown m_taped m_at m_token m_place m_value m_word m_bad m_badPlace m_fault m_faultPlace m_willing m_will j133_m_forgot m_isDrawn j133_m_x m_begin m_round m_roundCards m_fate m_any m_bothSend m_meanCards m_bestSum m_fitMany m_fitFirst m_fitSecond)), ((m_a 27), .inl (cZ, 2, .inl j211_m_a27_c)), ((m_a 24), .inl (cZ, 2, .inl m_maySend_c)), ((m_a 23), .inl (cI, 2, .inl m_ruleNow_c)), ((m_a 33), .inl (cI, 2, .inl m_oddsNow_c)), ((m_a 26), .inl (cI, 2, .inl j133_m_a26_c)), ((m_a 25), .inl (cZ, 2, .inl m_maycome_c)), ((m_a 34), .inl (cZ, 2, .inl j89_m_a34_c))] H → va_D A [(m, .inr (11, mG m_a m_thrown m_taped m_at m_token m_place m_value m_word m_bad m_badPlace m_fault m_faultPlace m_willing m_will j133_m_forgot m_isDrawn j133_m_x m_begin m_round m_roundCards m_fate m_any m_bothSend m_meanCards m_bestSum m_fitMany m_fitFirst m_fitSecond)), ((m_a 27), .inl (cZ, 2, .inl j211_m_a27_c)), ((m_a 24), .inl (cZ, 2, .inl m_maySend_c)), ((m_a 23), .inl (cI, 2, .inl m_ruleNow_c)), ((m_a 33), .inl (cI, 2, .inl m_oddsNow_c)), ((m_a 26), .inl (cI, 2, .inl j133_m_a26_c)), ((m_a 25), .inl (cZ, 2, .inl m_maycome_c)), ((m_a 34), .inl (cZ, 2, .inl j89_m_a34_c))] → va_S A s.heap H locs → lv_has ls 5 [(0, .ref m), (3, .int j211_l3), (4, .int j211_l4)] → W p l e (headSpec v_X12_yearOf ({ frames := 2, cells := 0, slots := 0, locals := 44 })).room s mth av below meth c H locs 0 0 QQ (F0 mth 251 ls [.int j211_l4, .ref (m_a 27)]) := by
                    intro  H locs ls t251_2 hP hD hS hl
                    refine lv_iconst (v := 0) hx hb dX12_yearOf_251 (by decide) ?_
                    exact J252 0 _ _ _ (by decide) t251_2 (hP.sub [0, 1, 2, 3, 4, 5, 6, 7] rfl) (hD.sub [0, 1, 2, 3, 4, 5, 6, 7] (by decide) rfl) hS (lv_sub hl [0, 1, 2] rfl)
                  refine lv_if_le (tgt := 251) hx hb dX12_yearOf_232 (by decide) (fun c232 => ?_) (fun c232 => ?_)
                  · have f232 := (show y231.toInt ≤ 0 from z_le rfl rfl c232)
                    have r232a : ir y231.toInt (-2147483648) 0 := ir_lea f232 (rg_all y231) (ir_c 0) (by decide)
                    exact J251  _ _ _ (ir_w r232a (by decide) (by decide)) (hP.sub [0, 1, 2, 3, 4, 5, 6, 7] rfl) (hD.sub [0, 1, 2, 3, 4, 5, 6, 7] (by decide) rfl) hS (lv_sub hl [0, 1, 2] rfl)
                  have f232 := (show 0 < y231.toInt from z_nle rfl rfl c232)
                  have r232a : ir y231.toInt 1 2147483647 := ir_ltb f232 (ir_c 0) (rg_all y231) (by decide)
                  refine lv_aload_n hx hb dX12_yearOf_235 rfl (lv_at hl 0 rfl) ?_
                  refine va_get (D := g) (ci := 11) (v := .ref (m_a 25)) (C := RX12) (T := TX12) (N := 56) hx hb hts iX12 hown hK hP 0 rfl rfl 25 (by decide) (hts (.fieldLink RX12 59 "CardsAtYuleModel" "maycome" "[Z") (List.mem_cons_of_mem _ (List.mem_append_left _ (List.mem_of_getElem? (i := 3) rfl)))) (fun _ h9 => h9) rfl dX12_yearOf_236 ?_
                  refine lv_iconst (v := 1) hx hb dX12_yearOf_239 (by decide) ?_
                  refine lv_iload hx hb dX12_yearOf_240 (lv_at hl 2 rfl) ?_
                  refine lv_isub hx hb dX12_yearOf_242 ?_
                  refine lv_topi (fun y242 e242 => ?_)
                  have q242 : y242.toInt = 1 - j211_l4.toInt := by rw [e242]; exact su_z rfl rfl (ir_c 1) r214a (by decide) (by decide)
                  have r242 : ir y242.toInt 0 1 := su_r q242 (ir_c 1) r214a (by decide) (by decide)
                  refine va_zald (D := g) hx hb hK hP 6 3 rfl rfl (vi_rg rfl r242 (by decide) (by decide)) dX12_yearOf_243 ?_
                  refine lv_topi (fun y243 e243 => ?_)
                  refine lv_if_eq (tgt := 251) hx hb dX12_yearOf_244 (by decide) (fun c244 => ?_) (fun c244 => ?_)
                  · have f244 := (show y243.toInt = 0 from z_eq rfl rfl c244)
                    have r244a : ir y243.toInt 0 0 := ir_eqa f244 (rg_all y243) (ir_c 0) (by decide) (by decide)
                    exact J251  _ _ _ (ir_w r232a (by decide) (by decide)) (hP.sub [0, 1, 2, 3, 4, 5, 6, 7] rfl) (hD.sub [0, 1, 2, 3, 4, 5, 6, 7] (by decide) rfl) hS (lv_sub hl [0, 1, 2] rfl)
                  have f244 := (show y243.toInt ≠ 0 from z_ne rfl rfl c244)
                  refine lv_iconst (v := 1) hx hb dX12_yearOf_247 (by decide) ?_
                  refine lv_goto (tgt := 252) hx hb dX12_yearOf_248 (by decide) ?_
                  exact J252 1 _ _ _ (by decide) (ir_w r232a (by decide) (by decide)) (hP.sub [0, 1, 2, 3, 4, 5, 6, 7] rfl) (hD.sub [0, 1, 2, 3, 4, 5, 6, 7] (by decide) rfl) hS (lv_sub hl [0, 1, 2] rfl)
              exact J211 _ y206 0 j2_m_a27_c _ _ _ (Nat.lt_succ_self _) (ir_w r206 (by decide) (by decide)) (by decide) (hP.sub [0, 1, 2, 3, 4, 5, 6, 7] rfl) (hD.sub [0, 1, 2, 3, 4, 5, 6, 7] (by decide) rfl) hS (lv_sub hl [2, 1, 0] rfl)
          exact J133 _ 0 j2_m_forgot j2_m_x j2_m_a26_c _ _ _ (Nat.lt_succ_self _) (by decide) (hP.sub [0, 1, 2, 3, 4, 5, 6, 7] rfl) (hD.sub [0, 1, 2, 3, 4, 5, 6, 7] (by decide) rfl) hS (lv_sub hl [1, 2, 3, 0] rfl)
      exact J89 _ 0 m_cameFirst_c _ _ _ (Nat.lt_succ_self _) (by decide) (hP.sub [0, 1, 2, 3, 4, 5, 6, 7] rfl) (hD.sub [0, 1, 2, 3, 4, 5, 6, 7] (by decide) rfl) hS (lv_sub hl [2, 3, 1, 0] rfl)
  exact J2 _ 0 m_gets_c m_forgot m_x m_sent_c _ _ _ (Nat.lt_succ_self _) (by decide) (hP.sub [0, 1, 2, 3, 4, 5, 6, 7] rfl) (hD.sub [0, 1, 2, 3, 4, 5, 6, 7] (by decide) rfl) hS (lv_sub hl [1, 2, 0] rfl)
