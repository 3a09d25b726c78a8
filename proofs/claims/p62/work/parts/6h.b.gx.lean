def v_X12_train : List Cond := .code yX12_train cX12_train 5 (some .int) :: (([.fieldLink RX12 107 "CardsAtYuleModel" "thrown" "I", .methodLink RX12 276 yX12_isPerson, .instanceMethod yX12_isPerson, .selects RX12 yX12_isPerson yX12_isPerson, .initialized RX12, .constantLong RX12 284 (2), .methodLink RX12 112 yX12_in, .static yX12_in, .constantLong RX12 538 (50), .methodLink RX12 273 yX12_has0, .instanceMethod yX12_has0, .selects RX12 yX12_has0 yX12_has0, .fieldLink RX12 37 "CardsAtYuleModel" "person" "[I", .constantLong RX12 286 (15)] : List Cond) ++ (v_X12_isPerson ++ (v_X12_in ++ (v_X12_has0 ++ (wsX120 ++ ([] : List Cond))))))
theorem good_v_X12_train : v_X12_train.all goodWord = true := ga_c (by decide +kernel) (ga_a (by decide +kernel) (ga_a good_v_X12_isPerson (ga_a good_v_X12_in (ga_a good_v_X12_has0 (ga_a good_wsX120 rfl)))))
set_option maxHeartbeats 4000000 in
set_option maxRecDepth 100000 in
theorem q_X12_train (l : Launch) (g : va_G) (cI cJ cB cZ cL : ClassId) (p0 : Int32) (p1 : Int32) (p2 : Int32) (m : Nat) (m_a : Nat → Nat) (m_thrown : Int32) (m_taped : Int32) (m_at : Int32) (m_token : Int32) (m_place : Int32) (m_value : Int32) (m_word : Int64) (m_bad : Int32) (m_badPlace : Int32) (m_fault : Int32) (m_faultPlace : Int32) (m_willing : Int32) (m_will : Int32) (m_forgot : Int32) (m_isDrawn : Int32) (m_x : Int64) (m_begin : Int32) (m_round : Int32) (m_roundCards : Int32) (m_fate : Int32) (m_any : Int64) (m_bothSend : Int64) (m_meanCards : Int64) (m_bestSum : Int32) (m_fitMany : Int32) (m_fitFirst : Int64) (m_fitSecond : Int64) (m_has_c : Nat → Int32) (m_person_c : Nat → Int32) (sz : Nat) (hv_m_taped : ir m_taped.toInt 0 1600) (hv_m_at : ir m_at.toInt 0 1600) (hv_m_will : ir m_will.toInt 0 1) (hv_m_isDrawn : ir m_isDrawn.toInt 0 1) (ha_m_has_c : hasI m_has_c) (ha_m_person_c : perI m_person_c) : Met l yX12_train v_X12_train ({ frames := 2, cells := 0, slots := 0, locals := 46 }) (va_Pc [.ref m, .int p0, .int p1, .int p2] (pRW g (tyT cI cJ cB cZ cL) [(m, .inr (11, mG m_a m_thrown m_taped m_at m_token m_place m_value m_word m_bad m_badPlace m_fault m_faultPlace m_willing m_will m_forgot m_isDrawn m_x m_begin m_round m_roundCards m_fate m_any m_bothSend m_meanCards m_bestSum m_fitMany m_fitFirst m_fitSecond)), ((m_a 17), .inl (cI, 25, .inl m_has_c)), ((m_a 18), .inl (cI, 250, .inl m_person_c))] sz)) (va_Qi (fun (r : Int32) (u : Int32 × (Nat → Int32)) => match u with | (n_m_thrown, n_m_person_c) => (ir n_m_thrown.toInt 0 0) ∧ (perI n_m_person_c)) (fun (u : Int32 × (Nat → Int32)) (t : State) => bRW g (tyT cI cJ cB cZ cL) (va_A [(m, .inr (11, mG m_a m_thrown m_taped m_at m_token m_place m_value m_word m_bad m_badPlace m_fault m_faultPlace m_willing m_will m_forgot m_isDrawn m_x m_begin m_round m_roundCards m_fate m_any m_bothSend m_meanCards m_bestSum m_fitMany m_fitFirst m_fitSecond)), ((m_a 17), .inl (cI, 25, .inl m_has_c)), ((m_a 18), .inl (cI, 250, .inl m_person_c))] sz) (match u with | (n_m_thrown, n_m_person_c) => [(m, .inr (11, mG m_a n_m_thrown m_taped m_at m_token m_place m_value m_word m_bad m_badPlace m_fault m_faultPlace m_willing m_will m_forgot m_isDrawn m_x m_begin m_round m_roundCards m_fate m_any m_bothSend m_meanCards m_bestSum m_fitMany m_fitFirst m_fitSecond)), ((m_a 17), .inl (cI, 25, .inl m_has_c)), ((m_a 18), .inl (cI, 250, .inl n_m_person_c))]) t) (va_A [(m, .inr (11, mG m_a m_thrown m_taped m_at m_token m_place m_value m_word m_bad m_badPlace m_fault m_faultPlace m_willing m_will m_forgot m_isDrawn m_x m_begin m_round m_roundCards m_fate m_any m_bothSend m_meanCards m_bestSum m_fitMany m_fitFirst m_fitSecond)), ((m_a 17), .inl (cI, 25, .inl m_has_c)), ((m_a 18), .inl (cI, 250, .inl m_person_c))] sz)) 0 0 (va_A [(m, .inr (11, mG m_a m_thrown m_taped m_at m_token m_place m_value m_word m_bad m_badPlace m_fault m_faultPlace m_willing m_will m_forgot m_isDrawn m_x m_begin m_round m_roundCards m_fate m_any m_bothSend m_meanCards m_bestSum m_fitMany m_fitFirst m_fitSecond)), ((m_a 17), .inl (cI, 25, .inl m_has_c)), ((m_a 18), .inl (cI, 250, .inl m_person_c))] sz) := by
  refine Met.ofW (cc := cX12_train) (maxL := 5) (ret := (some .int)) (by decide) rfl ?_
  intro p e s mth args below meth c s₁ B hml hv
  obtain ⟨rfl, hsz, hP, hK, hD0⟩ := hv
  have hx := B.exec
  have hb := B.bytes
  have hr := B.returns
  have hts := atoms_spec (ws := v_X12_train) B.pre
  have hown : s.vm.findClass RX12 = some mth.cls := findClass_of_methodNamed B.named
  have hlocks := B.notSynchronized
  clear B
  subst hsz
  have iX12 : ∀ w ∈ wsX120, w ∈ v_X12_train := (fun _ h => List.mem_cons_of_mem _ (List.mem_append_right _ (List.mem_append_right _ (List.mem_append_right _ (List.mem_append_right _ (List.mem_append_left _ h))))))
  have hD := hD0.self (sz := s.heap.size)
  generalize hAe : (va_A [(m, .inr (11, mG m_a m_thrown m_taped m_at m_token m_place m_value m_word m_bad m_badPlace m_fault m_faultPlace m_willing m_will m_forgot m_isDrawn m_x m_begin m_round m_roundCards m_fate m_any m_bothSend m_meanCards m_bestSum m_fitMany m_fitFirst m_fitSecond)), ((m_a 17), .inl (cI, 25, .inl m_has_c)), ((m_a 18), .inl (cI, 250, .inl m_person_c))] s.heap.size) = A at hD ⊢
  have hA : ∀ q : Nat, s.heap.size ≤ q → A q := fun q h => by rw [← hAe]; exact Or.inr h
  have hS : va_S A s.heap s.heap [] := va_S.rf
  have hl := lv_entry ([.ref m, .int p0, .int p1, .int p2]) (n := 5) (Nat.le_of_ble_eq_true rfl)
  rw [lg_entry_eq]
  generalize (lg_sl ([.ref m, .int p0, .int p1, .int p2]) ++ List.replicate (5 - (lg_sl ([.ref m, .int p0, .int p1, .int p2])).length) Slot.unset).toArray = ls at hl ⊢
  generalize ([.ref m, .int p0, .int p1, .int p2] : List Value).toArray = av at hts ⊢
  generalize hQ : MQ below _ av s _ _ A = QQ
  have hl : lv_has ls 5 [(0, .ref m), (1, .int p0), (2, .int p1), (3, .int p2)] := hl
  have hP : va_P g vwCl [(m, .inr (11, mG m_a m_thrown m_taped m_at m_token m_place m_value m_word m_bad m_badPlace m_fault m_faultPlace m_willing m_will m_forgot m_isDrawn m_x m_begin m_round m_roundCards m_fate m_any m_bothSend m_meanCards m_bestSum m_fitMany m_fitFirst m_fitSecond)), ((m_a 17), .inl (cI, 25, .inl m_has_c)), ((m_a 18), .inl (cI, 250, .inl m_person_c))] s.heap := hP
  refine lv_aload_n hx hb dX12_train_0 rfl (lv_at hl 0 rfl) ?_
  refine lv_iconst (v := 0) hx hb dX12_train_1 (by decide) ?_
  refine va_put (D := g) (ci := 11) (v := .int 0) (ty := .int) (C := RX12) (T := TX12) (N := 56) hx hb hts iX12 tyX12 tyX12_ok nmX12 hown hK hP hD hS 0 rfl rfl 0 (by decide) (hts (.fieldLink RX12 107 "CardsAtYuleModel" "thrown" "I") (List.mem_cons_of_mem _ (List.mem_append_left _ (List.mem_of_getElem? (i := 0) rfl)))) (fun _ h9 => h9) rfl (by decide +kernel) rfl rfl (Nat.le_of_ble_eq_true rfl) dX12_train_2 (fun H locs hP hD hS => ?_)
  have hP : va_P g vwCl [(m, .inr (11, mG m_a 0 m_taped m_at m_token m_place m_value m_word m_bad m_badPlace m_fault m_faultPlace m_willing m_will m_forgot m_isDrawn m_x m_begin m_round m_roundCards m_fate m_any m_bothSend m_meanCards m_bestSum m_fitMany m_fitFirst m_fitSecond)), ((m_a 17), .inl (cI, 25, .inl m_has_c)), ((m_a 18), .inl (cI, 250, .inl m_person_c))] H := hP
  have hD : va_D A [(m, .inr (11, mG m_a 0 m_taped m_at m_token m_place m_value m_word m_bad m_badPlace m_fault m_faultPlace m_willing m_will m_forgot m_isDrawn m_x m_begin m_round m_roundCards m_fate m_any m_bothSend m_meanCards m_bestSum m_fitMany m_fitFirst m_fitSecond)), ((m_a 17), .inl (cI, 25, .inl m_has_c)), ((m_a 18), .inl (cI, 250, .inl m_person_c))] := hD
  refine lv_aload_n hx hb dX12_train_5 rfl (lv_at hl 0 rfl) ?_
  refine lv_iload_n hx hb dX12_train_6 rfl (lv_at hl 1 rfl) ?_
  refine ro_i (va_runV (As := [.int p0]) (rest := []) ⟨hx, hb, hml, hown, hts⟩ (q_X12_isPerson l g cI cJ cB cZ cL p0 m m_a 0 m_taped m_at m_token m_place m_value m_word m_bad m_badPlace m_fault m_faultPlace m_willing m_will m_forgot m_isDrawn m_x m_begin m_round m_roundCards m_fate m_any m_bothSend m_meanCards m_bestSum m_fitMany m_fitFirst m_fitSecond m_has_c H.size hv_m_taped hv_m_at hv_m_will hv_m_isDrawn ha_m_has_c) (cwV 1 hts (goodIn_app (g_4 (List.mem_cons_of_mem _ (List.mem_append_left _ (List.mem_of_getElem? (i := 1) rfl))) (List.mem_cons_of_mem _ (List.mem_append_left _ (List.mem_of_getElem? (i := 2) rfl))) (List.mem_cons_of_mem _ (List.mem_append_left _ (List.mem_of_getElem? (i := 3) rfl))) (List.mem_cons_of_mem _ (List.mem_append_left _ (List.mem_of_getElem? (i := 4) rfl))) (by decide +kernel)) (goodIn_sub (fun _ h => List.mem_cons_of_mem _ (List.mem_append_right _ (List.mem_append_left _ h))) good_v_X12_isPerson)) rfl rfl rfl (by decide +kernel) ⟨Nat.le_of_ble_eq_true rfl, Nat.le_of_ble_eq_true rfl⟩) (pv_RO (q := (RX12, TX12, 56)) (ci := 11) (q0 := 0) (wc := [(m, .inr (11, mG m_a 0 m_taped m_at m_token m_place m_value m_word m_bad m_badPlace m_fault m_faultPlace m_willing m_will m_forgot m_isDrawn m_x m_begin m_round m_roundCards m_fate m_any m_bothSend m_meanCards m_bestSum m_fitMany m_fitFirst m_fitSecond)), ((m_a 17), .inl (cI, 25, .inl m_has_c))]) hK hP [0, 1] rfl rfl rfl) rfl rfl hl.1 rfl (lv_room (Nat.le_of_ble_eq_true rfl)) dX12_train_7 ⟨Nat.le_of_ble_eq_true rfl, Nat.le_of_ble_eq_true rfl⟩) hS hA hP (fun r7 u7 H locs hw7 hP hS => ?_)
  have hw7_0 := hw7
  rcases hw7_0 with ⟨er7, fc7_0, fc7_1⟩ | er7
  rotate_left 1
  · subst er7
    refine lv_if_eq (tgt := 56) hx hb dX12_train_10 (by decide) (fun _ => ?_) (fun c => absurd c (by decide))
    refine lv_bipush (v := (-2)) hx hb dX12_train_56 (by decide) ?_
    subst hQ
    have hP9 := hP.sub (ws' := [(m, .inr (11, mG m_a 0 m_taped m_at m_token m_place m_value m_word m_bad m_badPlace m_fault m_faultPlace m_willing m_will m_forgot m_isDrawn m_x m_begin m_round m_roundCards m_fate m_any m_bothSend m_meanCards m_bestSum m_fitMany m_fitFirst m_fitSecond)), ((m_a 17), .inl (cI, 25, .inl m_has_c)), ((m_a 18), .inl (cI, 250, .inl m_person_c))]) [0, 1, 2] rfl
    have hD9 := hD.sub (ws' := [(m, .inr (11, mG m_a 0 m_taped m_at m_token m_place m_value m_word m_bad m_badPlace m_fault m_faultPlace m_willing m_will m_forgot m_isDrawn m_x m_begin m_round m_roundCards m_fate m_any m_bothSend m_meanCards m_bestSum m_fitMany m_fitFirst m_fitSecond)), ((m_a 17), .inl (cI, 25, .inl m_has_c)), ((m_a 18), .inl (cI, 250, .inl m_person_c))]) [0, 1, 2] (by decide) rfl
    exact W.iret (v := (-2)) hx hb hr (fun t ht hW => ⟨⟨(-2), (0, m_person_c), rfl, ⟨(show ir (0 : Int32).toInt 0 0 by decide), ha_m_person_c⟩, ⟨by rw [ht]; exact hP9, va_K.moved hW.alike hK, hD9⟩⟩, hS.F ht⟩) hS.2.2 dX12_train_58
  subst er7
  have fc7_0 : 0 ≤ p0.toInt := fc7_0
  have r7_0b : ir p0.toInt 0 2147483647 := ir_leb fc7_0 (ir_c 0) (rg_all p0) (by decide)
  have fc7_1 : p0.toInt ≤ 9 := fc7_1
  have r7_1a : ir p0.toInt 0 9 := ir_lea fc7_1 r7_0b (ir_c 9) (by decide)
  refine lv_if_eq (tgt := 56) hx hb dX12_train_10 (by decide) (fun c => absurd c (by decide)) (fun _ => ?_)
  refine lv_iload_n hx hb dX12_train_13 rfl (lv_at hl 2 rfl) ?_
  refine lv_i2l (v := p1.toInt64) hx hb dX12_train_14 rfl ?_
  refine lv_lconst (v := 0) hx hb dX12_train_15 (by decide) ?_
  refine lv_ldc2 (v := 2) hx hb hown (hts (.constantLong RX12 284 (2)) (List.mem_cons_of_mem _ (List.mem_append_left _ (List.mem_of_getElem? (i := 5) rfl)))) dX12_train_16 ?_
  refine ro_i (va_runS (As := [.long p1.toInt64, .long 0, .long 2]) (rest := []) ⟨hx, hb, hml, hown, hts⟩ (q_X12_in l g cI cJ cB cZ cL p1.toInt64 p1.toInt 0 0 2 2 H.size (z_i2l rfl) rfl rfl) (va_cwS 3 hts (goodIn_app (g_3 (List.mem_cons_of_mem _ (List.mem_append_left _ (List.mem_of_getElem? (i := 6) rfl))) (List.mem_cons_of_mem _ (List.mem_append_left _ (List.mem_of_getElem? (i := 7) rfl))) (List.mem_cons_of_mem _ (List.mem_append_left _ (List.mem_of_getElem? (i := 4) rfl))) (by decide +kernel)) (goodIn_sub (fun _ h => List.mem_cons_of_mem _ (List.mem_append_right _ (List.mem_append_right _ (List.mem_append_left _ h)))) good_v_X12_in)) rfl rfl rfl (by decide +kernel) ⟨Nat.le_of_ble_eq_true rfl, Nat.le_of_ble_eq_true rfl⟩) (ps_RO (wc := []) hK hP [] rfl) rfl rfl hl.1 rfl (lv_room (Nat.le_of_ble_eq_true rfl)) dX12_train_19 ⟨Nat.le_of_ble_eq_true rfl, Nat.le_of_ble_eq_true rfl⟩) hS hA hP (fun r19 u19 H locs hw19 hP hS => ?_)
  have hw19_0 := hw19
  rcases hw19_0 with ⟨er19, fc19_0, fc19_1⟩ | er19
  rotate_left 1
  · subst er19
    refine lv_if_eq (tgt := 56) hx hb dX12_train_22 (by decide) (fun _ => ?_) (fun c => absurd c (by decide))
    refine lv_bipush (v := (-2)) hx hb dX12_train_56 (by decide) ?_
    subst hQ
    have hP9 := hP.sub (ws' := [(m, .inr (11, mG m_a 0 m_taped m_at m_token m_place m_value m_word m_bad m_badPlace m_fault m_faultPlace m_willing m_will m_forgot m_isDrawn m_x m_begin m_round m_roundCards m_fate m_any m_bothSend m_meanCards m_bestSum m_fitMany m_fitFirst m_fitSecond)), ((m_a 17), .inl (cI, 25, .inl m_has_c)), ((m_a 18), .inl (cI, 250, .inl m_person_c))]) [0, 1, 2] rfl
    have hD9 := hD.sub (ws' := [(m, .inr (11, mG m_a 0 m_taped m_at m_token m_place m_value m_word m_bad m_badPlace m_fault m_faultPlace m_willing m_will m_forgot m_isDrawn m_x m_begin m_round m_roundCards m_fate m_any m_bothSend m_meanCards m_bestSum m_fitMany m_fitFirst m_fitSecond)), ((m_a 17), .inl (cI, 25, .inl m_has_c)), ((m_a 18), .inl (cI, 250, .inl m_person_c))]) [0, 1, 2] (by decide) rfl
    exact W.iret (v := (-2)) hx hb hr (fun t ht hW => ⟨⟨(-2), (0, m_person_c), rfl, ⟨(show ir (0 : Int32).toInt 0 0 by decide), ha_m_person_c⟩, ⟨by rw [ht]; exact hP9, va_K.moved hW.alike hK, hD9⟩⟩, hS.F ht⟩) hS.2.2 dX12_train_58
  subst er19
  have fc19_0 : 0 ≤ p1.toInt := fc19_0
  have r19_0b : ir p1.toInt 0 2147483647 := ir_leb fc19_0 (ir_c 0) (rg_all p1) (by decide)
  have fc19_1 : p1.toInt ≤ 2 := fc19_1
  have r19_1a : ir p1.toInt 0 2 := ir_lea fc19_1 r19_0b (ir_c 2) (by decide)
  refine lv_if_eq (tgt := 56) hx hb dX12_train_22 (by decide) (fun c => absurd c (by decide)) (fun _ => ?_)
  refine lv_iload_n hx hb dX12_train_25 rfl (lv_at hl 3 rfl) ?_
  refine lv_i2l (v := p2.toInt64) hx hb dX12_train_26 rfl ?_
  refine lv_lconst (v := 0) hx hb dX12_train_27 (by decide) ?_
  refine lv_iload_n hx hb dX12_train_28 rfl (lv_at hl 2 rfl) ?_
  refine lv_if_ne (tgt := 38) hx hb dX12_train_29 (by decide) (fun c29 => ?_) (fun c29 => ?_)
  rotate_left 1
  · have f29 := (show p1.toInt = 0 from z_eq rfl rfl c29)
    have r29a : ir p1.toInt 0 0 := ir_eqa f29 r19_1a (ir_c 0) (by decide) (by decide)
    refine lv_ldc2 (v := 15) hx hb hown (hts (.constantLong RX12 286 (15)) (List.mem_cons_of_mem _ (List.mem_append_left _ (List.mem_of_getElem? (i := 13) rfl)))) dX12_train_32 ?_
    refine lv_goto (tgt := 50) hx hb dX12_train_35 (by decide) ?_
    refine ro_i (va_runS (As := [.long p2.toInt64, .long 0, .long 15]) (rest := []) ⟨hx, hb, hml, hown, hts⟩ (q_X12_in l g cI cJ cB cZ cL p2.toInt64 p2.toInt 0 0 15 15 H.size (z_i2l rfl) rfl rfl) (va_cwS 3 hts (goodIn_app (g_3 (List.mem_cons_of_mem _ (List.mem_append_left _ (List.mem_of_getElem? (i := 6) rfl))) (List.mem_cons_of_mem _ (List.mem_append_left _ (List.mem_of_getElem? (i := 7) rfl))) (List.mem_cons_of_mem _ (List.mem_append_left _ (List.mem_of_getElem? (i := 4) rfl))) (by decide +kernel)) (goodIn_sub (fun _ h => List.mem_cons_of_mem _ (List.mem_append_right _ (List.mem_append_right _ (List.mem_append_left _ h)))) good_v_X12_in)) rfl rfl rfl (by decide +kernel) ⟨Nat.le_of_ble_eq_true rfl, Nat.le_of_ble_eq_true rfl⟩) (ps_RO (wc := []) hK hP [] rfl) rfl rfl hl.1 rfl (lv_room (Nat.le_of_ble_eq_true rfl)) dX12_train_50 ⟨Nat.le_of_ble_eq_true rfl, Nat.le_of_ble_eq_true rfl⟩) hS hA hP (fun r50 u50 H locs hw50 hP hS => ?_)
    have hw50_0 := hw50
    rcases hw50_0 with ⟨er50, fc50_0, fc50_1⟩ | er50
    rotate_left 1
    · subst er50
      refine lv_if_ne (tgt := 59) hx hb dX12_train_53 (by decide) (fun c => absurd c (by decide)) (fun _ => ?_)
      refine lv_bipush (v := (-2)) hx hb dX12_train_56 (by decide) ?_
      subst hQ
      have hP9 := hP.sub (ws' := [(m, .inr (11, mG m_a 0 m_taped m_at m_token m_place m_value m_word m_bad m_badPlace m_fault m_faultPlace m_willing m_will m_forgot m_isDrawn m_x m_begin m_round m_roundCards m_fate m_any m_bothSend m_meanCards m_bestSum m_fitMany m_fitFirst m_fitSecond)), ((m_a 17), .inl (cI, 25, .inl m_has_c)), ((m_a 18), .inl (cI, 250, .inl m_person_c))]) [0, 1, 2] rfl
      have hD9 := hD.sub (ws' := [(m, .inr (11, mG m_a 0 m_taped m_at m_token m_place m_value m_word m_bad m_badPlace m_fault m_faultPlace m_willing m_will m_forgot m_isDrawn m_x m_begin m_round m_roundCards m_fate m_any m_bothSend m_meanCards m_bestSum m_fitMany m_fitFirst m_fitSecond)), ((m_a 17), .inl (cI, 25, .inl m_has_c)), ((m_a 18), .inl (cI, 250, .inl m_person_c))]) [0, 1, 2] (by decide) rfl
      exact W.iret (v := (-2)) hx hb hr (fun t ht hW => ⟨⟨(-2), (0, m_person_c), rfl, ⟨(show ir (0 : Int32).toInt 0 0 by decide), ha_m_person_c⟩, ⟨by rw [ht]; exact hP9, va_K.moved hW.alike hK, hD9⟩⟩, hS.F ht⟩) hS.2.2 dX12_train_58
    subst er50
    have fc50_0 : 0 ≤ p2.toInt := fc50_0
    have r50_0b : ir p2.toInt 0 2147483647 := ir_leb fc50_0 (ir_c 0) (rg_all p2) (by decide)
    have fc50_1 : p2.toInt ≤ 15 := fc50_1
    have r50_1a : ir p2.toInt 0 15 := ir_lea fc50_1 r50_0b (ir_c 15) (by decide)
    refine lv_if_ne (tgt := 59) hx hb dX12_train_53 (by decide) (fun _ => ?_) (fun c => absurd c (by decide))
    refine lv_aload_n hx hb dX12_train_59 rfl (lv_at hl 0 rfl) ?_
    refine lv_iload_n hx hb dX12_train_60 rfl (lv_at hl 1 rfl) ?_
    refine lv_iload_n hx hb dX12_train_61 rfl (lv_at hl 2 rfl) ?_
    refine ro_i (va_runV (As := [.int p0, .int p1]) (rest := []) ⟨hx, hb, hml, hown, hts⟩ (q_X12_has0 l g cI cJ cB cZ cL p0 p1 m m_a 0 m_taped m_at m_token m_place m_value m_word m_bad m_badPlace m_fault m_faultPlace m_willing m_will m_forgot m_isDrawn m_x m_begin m_round m_roundCards m_fate m_any m_bothSend m_meanCards m_bestSum m_fitMany m_fitFirst m_fitSecond m_person_c H.size (ir_w r7_1a (by decide) (by decide)) (ir_w r29a (by decide) (by decide)) hv_m_taped hv_m_at hv_m_will hv_m_isDrawn ha_m_person_c) (cwV 2 hts (goodIn_app (g_4 (List.mem_cons_of_mem _ (List.mem_append_left _ (List.mem_of_getElem? (i := 9) rfl))) (List.mem_cons_of_mem _ (List.mem_append_left _ (List.mem_of_getElem? (i := 10) rfl))) (List.mem_cons_of_mem _ (List.mem_append_left _ (List.mem_of_getElem? (i := 11) rfl))) (List.mem_cons_of_mem _ (List.mem_append_left _ (List.mem_of_getElem? (i := 4) rfl))) (by decide +kernel)) (goodIn_sub (fun _ h => List.mem_cons_of_mem _ (List.mem_append_right _ (List.mem_append_right _ (List.mem_append_right _ (List.mem_append_left _ h))))) good_v_X12_has0)) rfl rfl rfl (by decide +kernel) ⟨Nat.le_of_ble_eq_true rfl, Nat.le_of_ble_eq_true rfl⟩) (pv_RO (q := (RX12, TX12, 56)) (ci := 11) (q0 := 0) (wc := [(m, .inr (11, mG m_a 0 m_taped m_at m_token m_place m_value m_word m_bad m_badPlace m_fault m_faultPlace m_willing m_will m_forgot m_isDrawn m_x m_begin m_round m_roundCards m_fate m_any m_bothSend m_meanCards m_bestSum m_fitMany m_fitFirst m_fitSecond)), ((m_a 18), .inl (cI, 250, .inl m_person_c))]) hK hP [0, 2] rfl rfl rfl) rfl rfl hl.1 rfl (lv_room (Nat.le_of_ble_eq_true rfl)) dX12_train_62 ⟨Nat.le_of_ble_eq_true rfl, Nat.le_of_ble_eq_true rfl⟩) hS hA hP (fun r62 u62 H locs hw62 hP hS => ?_)
    refine lv_istore (lv' := [(4, .int r62), (0, .ref m), (1, .int p0), (2, .int p1), (3, .int p2)]) hx hb dX12_train_65 hl (by decide) rfl (fun ls hl => ?_)
    refine lv_aload_n hx hb dX12_train_67 rfl (lv_at hl 1 rfl) ?_
    refine va_get (D := g) (ci := 11) (v := .ref (m_a 18)) (C := RX12) (T := TX12) (N := 56) hx hb hts iX12 hown hK hP 0 rfl rfl 18 (by decide) (hts (.fieldLink RX12 37 "CardsAtYuleModel" "person" "[I") (List.mem_cons_of_mem _ (List.mem_append_left _ (List.mem_of_getElem? (i := 12) rfl)))) (fun _ h9 => h9) rfl dX12_train_68 ?_
    refine lv_iconst (v := 5) hx hb dX12_train_71 (by decide) ?_
    refine lv_iload_n hx hb dX12_train_72 rfl (lv_at hl 2 rfl) ?_
    refine lv_imul hx hb dX12_train_73 ?_
    refine lv_topi (fun y73 e73 => ?_)
    have q73 : y73.toInt = 5 * p0.toInt := by rw [e73]; exact mu_z rfl rfl (ir_c 5) r7_1a (by decide) (by decide) (by decide)
    have r73 : ir y73.toInt 0 45 := mu_r q73 (ir_c 5) r7_1a (by decide) (by decide) (by decide) (by decide)
    refine lv_iload_n hx hb dX12_train_74 rfl (lv_at hl 3 rfl) ?_
    refine lv_iadd hx hb dX12_train_75 ?_
    refine lv_topi (fun y75 e75 => ?_)
    have q75 : y75.toInt = y73.toInt + p1.toInt := by rw [e75]; exact ad_z rfl rfl r73 r29a (by decide) (by decide)
    have r75 : ir y75.toInt 0 45 := ad_r q75 r73 r29a (by decide) (by decide)
    refine lv_iload_n hx hb dX12_train_76 rfl (lv_at hl 4 rfl) ?_
    refine va_iast (D := g) hx hb hK hP hD hS 2 0 rfl rfl (vi_rg rfl r75 (by decide) (by decide)) dX12_train_77 (fun H locs hP hD hS => ?_)
    obtain ⟨g77, e77⟩ : ∃ z, z = upd m_person_c y75.toNatClampNeg p2 := ⟨_, rfl⟩
    have hP : va_P g vwCl [(m, .inr (11, mG m_a 0 m_taped m_at m_token m_place m_value m_word m_bad m_badPlace m_fault m_faultPlace m_willing m_will m_forgot m_isDrawn m_x m_begin m_round m_roundCards m_fate m_any m_bothSend m_meanCards m_bestSum m_fitMany m_fitFirst m_fitSecond)), ((m_a 17), .inl (cI, 25, .inl m_has_c)), ((m_a 18), .inl (cI, 250, .inl (upd m_person_c y75.toNatClampNeg p2)))] H := hP
    have hD : va_D A [(m, .inr (11, mG m_a 0 m_taped m_at m_token m_place m_value m_word m_bad m_badPlace m_fault m_faultPlace m_willing m_will m_forgot m_isDrawn m_x m_begin m_round m_roundCards m_fate m_any m_bothSend m_meanCards m_bestSum m_fitMany m_fitFirst m_fitSecond)), ((m_a 17), .inl (cI, 25, .inl m_has_c)), ((m_a 18), .inl (cI, 250, .inl (upd m_person_c y75.toNatClampNeg p2)))] := hD
    rw [← e77] at hP hD
    have a77 : perI g77 := by rw [e77]; exact perI_0v ha_m_person_c (by have c0 := cl_t (x := y75) rfl (by omega); omega) r50_1a
    refine lv_iload hx hb dX12_train_78 (lv_at hl 0 rfl) ?_
    subst hQ
    have hP9 := hP.sub (ws' := [(m, .inr (11, mG m_a 0 m_taped m_at m_token m_place m_value m_word m_bad m_badPlace m_fault m_faultPlace m_willing m_will m_forgot m_isDrawn m_x m_begin m_round m_roundCards m_fate m_any m_bothSend m_meanCards m_bestSum m_fitMany m_fitFirst m_fitSecond)), ((m_a 17), .inl (cI, 25, .inl m_has_c)), ((m_a 18), .inl (cI, 250, .inl g77))]) [0, 1, 2] rfl
    have hD9 := hD.sub (ws' := [(m, .inr (11, mG m_a 0 m_taped m_at m_token m_place m_value m_word m_bad m_badPlace m_fault m_faultPlace m_willing m_will m_forgot m_isDrawn m_x m_begin m_round m_roundCards m_fate m_any m_bothSend m_meanCards m_bestSum m_fitMany m_fitFirst m_fitSecond)), ((m_a 17), .inl (cI, 25, .inl m_has_c)), ((m_a 18), .inl (cI, 250, .inl g77))]) [0, 1, 2] (by decide) rfl
    exact W.iret (v := r62) hx hb hr (fun t ht hW => ⟨⟨r62, (0, g77), rfl, ⟨(show ir (0 : Int32).toInt 0 0 by decide), a77⟩, ⟨by rw [ht]; exact hP9, va_K.moved hW.alike hK, hD9⟩⟩, hS.F ht⟩) hS.2.2 dX12_train_80
  have f29 := (show p1.toInt ≠ 0 from z_ne rfl rfl c29)
  have r29a : ir p1.toInt 1 2 := ir_nel f29 r19_1a (by decide) (by decide)
  refine lv_iload_n hx hb dX12_train_38 rfl (lv_at hl 2 rfl) ?_
  refine lv_iconst (v := 1) hx hb dX12_train_39 (by decide) ?_
  refine lv_icmp_ne (tgt := 47) hx hb dX12_train_40 (by decide) (fun c40 => ?_) (fun c40 => ?_)
  · have f40 := (show p1.toInt ≠ 1 from z_ne rfl rfl c40)
    have r40a : ir p1.toInt 2 2 := ir_nel f40 r29a (by decide) (by decide)
    refine lv_ldc2 (v := 50) hx hb hown (hts (.constantLong RX12 538 (50)) (List.mem_cons_of_mem _ (List.mem_append_left _ (List.mem_of_getElem? (i := 8) rfl)))) dX12_train_47 ?_
    refine ro_i (va_runS (As := [.long p2.toInt64, .long 0, .long 50]) (rest := []) ⟨hx, hb, hml, hown, hts⟩ (q_X12_in l g cI cJ cB cZ cL p2.toInt64 p2.toInt 0 0 50 50 H.size (z_i2l rfl) rfl rfl) (va_cwS 3 hts (goodIn_app (g_3 (List.mem_cons_of_mem _ (List.mem_append_left _ (List.mem_of_getElem? (i := 6) rfl))) (List.mem_cons_of_mem _ (List.mem_append_left _ (List.mem_of_getElem? (i := 7) rfl))) (List.mem_cons_of_mem _ (List.mem_append_left _ (List.mem_of_getElem? (i := 4) rfl))) (by decide +kernel)) (goodIn_sub (fun _ h => List.mem_cons_of_mem _ (List.mem_append_right _ (List.mem_append_right _ (List.mem_append_left _ h)))) good_v_X12_in)) rfl rfl rfl (by decide +kernel) ⟨Nat.le_of_ble_eq_true rfl, Nat.le_of_ble_eq_true rfl⟩) (ps_RO (wc := []) hK hP [] rfl) rfl rfl hl.1 rfl (lv_room (Nat.le_of_ble_eq_true rfl)) dX12_train_50 ⟨Nat.le_of_ble_eq_true rfl, Nat.le_of_ble_eq_true rfl⟩) hS hA hP (fun r50 u50 H locs hw50 hP hS => ?_)
    have hw50_0 := hw50
    rcases hw50_0 with ⟨er50, fc50_0, fc50_1⟩ | er50
    rotate_left 1
    · subst er50
      refine lv_if_ne (tgt := 59) hx hb dX12_train_53 (by decide) (fun c => absurd c (by decide)) (fun _ => ?_)
      refine lv_bipush (v := (-2)) hx hb dX12_train_56 (by decide) ?_
      subst hQ
      have hP9 := hP.sub (ws' := [(m, .inr (11, mG m_a 0 m_taped m_at m_token m_place m_value m_word m_bad m_badPlace m_fault m_faultPlace m_willing m_will m_forgot m_isDrawn m_x m_begin m_round m_roundCards m_fate m_any m_bothSend m_meanCards m_bestSum m_fitMany m_fitFirst m_fitSecond)), ((m_a 17), .inl (cI, 25, .inl m_has_c)), ((m_a 18), .inl (cI, 250, .inl m_person_c))]) [0, 1, 2] rfl
      have hD9 := hD.sub (ws' := [(m, .inr (11, mG m_a 0 m_taped m_at m_token m_place m_value m_word m_bad m_badPlace m_fault m_faultPlace m_willing m_will m_forgot m_isDrawn m_x m_begin m_round m_roundCards m_fate m_any m_bothSend m_meanCards m_bestSum m_fitMany m_fitFirst m_fitSecond)), ((m_a 17), .inl (cI, 25, .inl m_has_c)), ((m_a 18), .inl (cI, 250, .inl m_person_c))]) [0, 1, 2] (by decide) rfl
      exact W.iret (v := (-2)) hx hb hr (fun t ht hW => ⟨⟨(-2), (0, m_person_c), rfl, ⟨(show ir (0 : Int32).toInt 0 0 by decide), ha_m_person_c⟩, ⟨by rw [ht]; exact hP9, va_K.moved hW.alike hK, hD9⟩⟩, hS.F ht⟩) hS.2.2 dX12_train_58
    subst er50
    have fc50_0 : 0 ≤ p2.toInt := fc50_0
    have r50_0b : ir p2.toInt 0 2147483647 := ir_leb fc50_0 (ir_c 0) (rg_all p2) (by decide)
    have fc50_1 : p2.toInt ≤ 50 := fc50_1
    have r50_1a : ir p2.toInt 0 50 := ir_lea fc50_1 r50_0b (ir_c 50) (by decide)
    refine lv_if_ne (tgt := 59) hx hb dX12_train_53 (by decide) (fun _ => ?_) (fun c => absurd c (by decide))
    refine lv_aload_n hx hb dX12_train_59 rfl (lv_at hl 0 rfl) ?_
    refine lv_iload_n hx hb dX12_train_60 rfl (lv_at hl 1 rfl) ?_
    refine lv_iload_n hx hb dX12_train_61 rfl (lv_at hl 2 rfl) ?_
    refine ro_i (va_runV (As := [.int p0, .int p1]) (rest := []) ⟨hx, hb, hml, hown, hts⟩ (q_X12_has0 l g cI cJ cB cZ cL p0 p1 m m_a 0 m_taped m_at m_token m_place m_value m_word m_bad m_badPlace m_fault m_faultPlace m_willing m_will m_forgot m_isDrawn m_x m_begin m_round m_roundCards m_fate m_any m_bothSend m_meanCards m_bestSum m_fitMany m_fitFirst m_fitSecond m_person_c H.size (ir_w r7_1a (by decide) (by decide)) (ir_w r40a (by decide) (by decide)) hv_m_taped hv_m_at hv_m_will hv_m_isDrawn ha_m_person_c) (cwV 2 hts (goodIn_app (g_4 (List.mem_cons_of_mem _ (List.mem_append_left _ (List.mem_of_getElem? (i := 9) rfl))) (List.mem_cons_of_mem _ (List.mem_append_left _ (List.mem_of_getElem? (i := 10) rfl))) (List.mem_cons_of_mem _ (List.mem_append_left _ (List.mem_of_getElem? (i := 11) rfl))) (List.mem_cons_of_mem _ (List.mem_append_left _ (List.mem_of_getElem? (i := 4) rfl))) (by decide +kernel)) (goodIn_sub (fun _ h => List.mem_cons_of_mem _ (List.mem_append_right _ (List.mem_append_right _ (List.mem_append_right _ (List.mem_append_left _ h))))) good_v_X12_has0)) rfl rfl rfl (by decide +kernel) ⟨Nat.le_of_ble_eq_true rfl, Nat.le_of_ble_eq_true rfl⟩) (pv_RO (q := (RX12, TX12, 56)) (ci := 11) (q0 := 0) (wc := [(m, .inr (11, mG m_a 0 m_taped m_at m_token m_place m_value m_word m_bad m_badPlace m_fault m_faultPlace m_willing m_will m_forgot m_isDrawn m_x m_begin m_round m_roundCards m_fate m_any m_bothSend m_meanCards m_bestSum m_fitMany m_fitFirst m_fitSecond)), ((m_a 18), .inl (cI, 250, .inl m_person_c))]) hK hP [0, 2] rfl rfl rfl) rfl rfl hl.1 rfl (lv_room (Nat.le_of_ble_eq_true rfl)) dX12_train_62 ⟨Nat.le_of_ble_eq_true rfl, Nat.le_of_ble_eq_true rfl⟩) hS hA hP (fun r62 u62 H locs hw62 hP hS => ?_)
    refine lv_istore (lv' := [(4, .int r62), (0, .ref m), (1, .int p0), (2, .int p1), (3, .int p2)]) hx hb dX12_train_65 hl (by decide) rfl (fun ls hl => ?_)
    refine lv_aload_n hx hb dX12_train_67 rfl (lv_at hl 1 rfl) ?_
    refine va_get (D := g) (ci := 11) (v := .ref (m_a 18)) (C := RX12) (T := TX12) (N := 56) hx hb hts iX12 hown hK hP 0 rfl rfl 18 (by decide) (hts (.fieldLink RX12 37 "CardsAtYuleModel" "person" "[I") (List.mem_cons_of_mem _ (List.mem_append_left _ (List.mem_of_getElem? (i := 12) rfl)))) (fun _ h9 => h9) rfl dX12_train_68 ?_
    refine lv_iconst (v := 5) hx hb dX12_train_71 (by decide) ?_
    refine lv_iload_n hx hb dX12_train_72 rfl (lv_at hl 2 rfl) ?_
    refine lv_imul hx hb dX12_train_73 ?_
    refine lv_topi (fun y73 e73 => ?_)
    have q73 : y73.toInt = 5 * p0.toInt := by rw [e73]; exact mu_z rfl rfl (ir_c 5) r7_1a (by decide) (by decide) (by decide)
    have r73 : ir y73.toInt 0 45 := mu_r q73 (ir_c 5) r7_1a (by decide) (by decide) (by decide) (by decide)
    refine lv_iload_n hx hb dX12_train_74 rfl (lv_at hl 3 rfl) ?_
    refine lv_iadd hx hb dX12_train_75 ?_
    refine lv_topi (fun y75 e75 => ?_)
    have q75 : y75.toInt = y73.toInt + p1.toInt := by rw [e75]; exact ad_z rfl rfl r73 r40a (by decide) (by decide)
    have r75 : ir y75.toInt 2 47 := ad_r q75 r73 r40a (by decide) (by decide)
    refine lv_iload_n hx hb dX12_train_76 rfl (lv_at hl 4 rfl) ?_
    refine va_iast (D := g) hx hb hK hP hD hS 2 0 rfl rfl (vi_rg rfl r75 (by decide) (by decide)) dX12_train_77 (fun H locs hP hD hS => ?_)
    obtain ⟨g77, e77⟩ : ∃ z, z = upd m_person_c y75.toNatClampNeg p2 := ⟨_, rfl⟩
    have hP : va_P g vwCl [(m, .inr (11, mG m_a 0 m_taped m_at m_token m_place m_value m_word m_bad m_badPlace m_fault m_faultPlace m_willing m_will m_forgot m_isDrawn m_x m_begin m_round m_roundCards m_fate m_any m_bothSend m_meanCards m_bestSum m_fitMany m_fitFirst m_fitSecond)), ((m_a 17), .inl (cI, 25, .inl m_has_c)), ((m_a 18), .inl (cI, 250, .inl (upd m_person_c y75.toNatClampNeg p2)))] H := hP
    have hD : va_D A [(m, .inr (11, mG m_a 0 m_taped m_at m_token m_place m_value m_word m_bad m_badPlace m_fault m_faultPlace m_willing m_will m_forgot m_isDrawn m_x m_begin m_round m_roundCards m_fate m_any m_bothSend m_meanCards m_bestSum m_fitMany m_fitFirst m_fitSecond)), ((m_a 17), .inl (cI, 25, .inl m_has_c)), ((m_a 18), .inl (cI, 250, .inl (upd m_person_c y75.toNatClampNeg p2)))] := hD
    rw [← e77] at hP hD
    have a77 : perI g77 := by rw [e77]; exact perI_n ha_m_person_c (by have c0 := cl_t (x := y75) rfl (by omega); omega)
    refine lv_iload hx hb dX12_train_78 (lv_at hl 0 rfl) ?_
    subst hQ
    have hP9 := hP.sub (ws' := [(m, .inr (11, mG m_a 0 m_taped m_at m_token m_place m_value m_word m_bad m_badPlace m_fault m_faultPlace m_willing m_will m_forgot m_isDrawn m_x m_begin m_round m_roundCards m_fate m_any m_bothSend m_meanCards m_bestSum m_fitMany m_fitFirst m_fitSecond)), ((m_a 17), .inl (cI, 25, .inl m_has_c)), ((m_a 18), .inl (cI, 250, .inl g77))]) [0, 1, 2] rfl
    have hD9 := hD.sub (ws' := [(m, .inr (11, mG m_a 0 m_taped m_at m_token m_place m_value m_word m_bad m_badPlace m_fault m_faultPlace m_willing m_will m_forgot m_isDrawn m_x m_begin m_round m_roundCards m_fate m_any m_bothSend m_meanCards m_bestSum m_fitMany m_fitFirst m_fitSecond)), ((m_a 17), .inl (cI, 25, .inl m_has_c)), ((m_a 18), .inl (cI, 250, .inl g77))]) [0, 1, 2] (by decide) rfl
    exact W.iret (v := r62) hx hb hr (fun t ht hW => ⟨⟨r62, (0, g77), rfl, ⟨(show ir (0 : Int32).toInt 0 0 by decide), a77⟩, ⟨by rw [ht]; exact hP9, va_K.moved hW.alike hK, hD9⟩⟩, hS.F ht⟩) hS.2.2 dX12_train_80
  have f40 := (show p1.toInt = 1 from z_eq rfl rfl c40)
  have r40a : ir p1.toInt 1 1 := ir_eqa f40 r29a (ir_c 1) (by decide) (by decide)
  refine lv_lconst (v := 1) hx hb dX12_train_43 (by decide) ?_
  refine lv_goto (tgt := 50) hx hb dX12_train_44 (by decide) ?_
  refine ro_i (va_runS (As := [.long p2.toInt64, .long 0, .long 1]) (rest := []) ⟨hx, hb, hml, hown, hts⟩ (q_X12_in l g cI cJ cB cZ cL p2.toInt64 p2.toInt 0 0 1 1 H.size (z_i2l rfl) rfl rfl) (va_cwS 3 hts (goodIn_app (g_3 (List.mem_cons_of_mem _ (List.mem_append_left _ (List.mem_of_getElem? (i := 6) rfl))) (List.mem_cons_of_mem _ (List.mem_append_left _ (List.mem_of_getElem? (i := 7) rfl))) (List.mem_cons_of_mem _ (List.mem_append_left _ (List.mem_of_getElem? (i := 4) rfl))) (by decide +kernel)) (goodIn_sub (fun _ h => List.mem_cons_of_mem _ (List.mem_append_right _ (List.mem_append_right _ (List.mem_append_left _ h)))) good_v_X12_in)) rfl rfl rfl (by decide +kernel) ⟨Nat.le_of_ble_eq_true rfl, Nat.le_of_ble_eq_true rfl⟩) (ps_RO (wc := []) hK hP [] rfl) rfl rfl hl.1 rfl (lv_room (Nat.le_of_ble_eq_true rfl)) dX12_train_50 ⟨Nat.le_of_ble_eq_true rfl, Nat.le_of_ble_eq_true rfl⟩) hS hA hP (fun r50 u50 H locs hw50 hP hS => ?_)
  have hw50_0 := hw50
  rcases hw50_0 with ⟨er50, fc50_0, fc50_1⟩ | er50
  rotate_left 1
  · subst er50
    refine lv_if_ne (tgt := 59) hx hb dX12_train_53 (by decide) (fun c => absurd c (by decide)) (fun _ => ?_)
    refine lv_bipush (v := (-2)) hx hb dX12_train_56 (by decide) ?_
    subst hQ
    have hP9 := hP.sub (ws' := [(m, .inr (11, mG m_a 0 m_taped m_at m_token m_place m_value m_word m_bad m_badPlace m_fault m_faultPlace m_willing m_will m_forgot m_isDrawn m_x m_begin m_round m_roundCards m_fate m_any m_bothSend m_meanCards m_bestSum m_fitMany m_fitFirst m_fitSecond)), ((m_a 17), .inl (cI, 25, .inl m_has_c)), ((m_a 18), .inl (cI, 250, .inl m_person_c))]) [0, 1, 2] rfl
    have hD9 := hD.sub (ws' := [(m, .inr (11, mG m_a 0 m_taped m_at m_token m_place m_value m_word m_bad m_badPlace m_fault m_faultPlace m_willing m_will m_forgot m_isDrawn m_x m_begin m_round m_roundCards m_fate m_any m_bothSend m_meanCards m_bestSum m_fitMany m_fitFirst m_fitSecond)), ((m_a 17), .inl (cI, 25, .inl m_has_c)), ((m_a 18), .inl (cI, 250, .inl m_person_c))]) [0, 1, 2] (by decide) rfl
    exact W.iret (v := (-2)) hx hb hr (fun t ht hW => ⟨⟨(-2), (0, m_person_c), rfl, ⟨(show ir (0 : Int32).toInt 0 0 by decide), ha_m_person_c⟩, ⟨by rw [ht]; exact hP9, va_K.moved hW.alike hK, hD9⟩⟩, hS.F ht⟩) hS.2.2 dX12_train_58
  subst er50
  have fc50_0 : 0 ≤ p2.toInt := fc50_0
  have r50_0b : ir p2.toInt 0 2147483647 := ir_leb fc50_0 (ir_c 0) (rg_all p2) (by decide)
  have fc50_1 : p2.toInt ≤ 1 := fc50_1
  have r50_1a : ir p2.toInt 0 1 := ir_lea fc50_1 r50_0b (ir_c 1) (by decide)
  refine lv_if_ne (tgt := 59) hx hb dX12_train_53 (by decide) (fun _ => ?_) (fun c => absurd c (by decide))
  refine lv_aload_n hx hb dX12_train_59 rfl (lv_at hl 0 rfl) ?_
  refine lv_iload_n hx hb dX12_train_60 rfl (lv_at hl 1 rfl) ?_
  refine lv_iload_n hx hb dX12_train_61 rfl (lv_at hl 2 rfl) ?_
  refine ro_i (va_runV (As := [.int p0, .int p1]) (rest := []) ⟨hx, hb, hml, hown, hts⟩ (q_X12_has0 l g cI cJ cB cZ cL p0 p1 m m_a 0 m_taped m_at m_token m_place m_value m_word m_bad m_badPlace m_fault m_faultPlace m_willing m_will m_forgot m_isDrawn m_x m_begin m_round m_roundCards m_fate m_any m_bothSend m_meanCards m_bestSum m_fitMany m_fitFirst m_fitSecond m_person_c H.size (ir_w r7_1a (by decide) (by decide)) (ir_w r40a (by decide) (by decide)) hv_m_taped hv_m_at hv_m_will hv_m_isDrawn ha_m_person_c) (cwV 2 hts (goodIn_app (g_4 (List.mem_cons_of_mem _ (List.mem_append_left _ (List.mem_of_getElem? (i := 9) rfl))) (List.mem_cons_of_mem _ (List.mem_append_left _ (List.mem_of_getElem? (i := 10) rfl))) (List.mem_cons_of_mem _ (List.mem_append_left _ (List.mem_of_getElem? (i := 11) rfl))) (List.mem_cons_of_mem _ (List.mem_append_left _ (List.mem_of_getElem? (i := 4) rfl))) (by decide +kernel)) (goodIn_sub (fun _ h => List.mem_cons_of_mem _ (List.mem_append_right _ (List.mem_append_right _ (List.mem_append_right _ (List.mem_append_left _ h))))) good_v_X12_has0)) rfl rfl rfl (by decide +kernel) ⟨Nat.le_of_ble_eq_true rfl, Nat.le_of_ble_eq_true rfl⟩) (pv_RO (q := (RX12, TX12, 56)) (ci := 11) (q0 := 0) (wc := [(m, .inr (11, mG m_a 0 m_taped m_at m_token m_place m_value m_word m_bad m_badPlace m_fault m_faultPlace m_willing m_will m_forgot m_isDrawn m_x m_begin m_round m_roundCards m_fate m_any m_bothSend m_meanCards m_bestSum m_fitMany m_fitFirst m_fitSecond)), ((m_a 18), .inl (cI, 250, .inl m_person_c))]) hK hP [0, 2] rfl rfl rfl) rfl rfl hl.1 rfl (lv_room (Nat.le_of_ble_eq_true rfl)) dX12_train_62 ⟨Nat.le_of_ble_eq_true rfl, Nat.le_of_ble_eq_true rfl⟩) hS hA hP (fun r62 u62 H locs hw62 hP hS => ?_)
  refine lv_istore (lv' := [(4, .int r62), (0, .ref m), (1, .int p0), (2, .int p1), (3, .int p2)]) hx hb dX12_train_65 hl (by decide) rfl (fun ls hl => ?_)
  refine lv_aload_n hx hb dX12_train_67 rfl (lv_at hl 1 rfl) ?_
  refine va_get (D := g) (ci := 11) (v := .ref (m_a 18)) (C := RX12) (T := TX12) (N := 56) hx hb hts iX12 hown hK hP 0 rfl rfl 18 (by decide) (hts (.fieldLink RX12 37 "CardsAtYuleModel" "person" "[I") (List.mem_cons_of_mem _ (List.mem_append_left _ (List.mem_of_getElem? (i := 12) rfl)))) (fun _ h9 => h9) rfl dX12_train_68 ?_
  refine lv_iconst (v := 5) hx hb dX12_train_71 (by decide) ?_
  refine lv_iload_n hx hb dX12_train_72 rfl (lv_at hl 2 rfl) ?_
  refine lv_imul hx hb dX12_train_73 ?_
  refine lv_topi (fun y73 e73 => ?_)
  have q73 : y73.toInt = 5 * p0.toInt := by rw [e73]; exact mu_z rfl rfl (ir_c 5) r7_1a (by decide) (by decide) (by decide)
  have r73 : ir y73.toInt 0 45 := mu_r q73 (ir_c 5) r7_1a (by decide) (by decide) (by decide) (by decide)
  refine lv_iload_n hx hb dX12_train_74 rfl (lv_at hl 3 rfl) ?_
  refine lv_iadd hx hb dX12_train_75 ?_
  refine lv_topi (fun y75 e75 => ?_)
  have q75 : y75.toInt = y73.toInt + p1.toInt := by rw [e75]; exact ad_z rfl rfl r73 r40a (by decide) (by decide)
  have r75 : ir y75.toInt 1 46 := ad_r q75 r73 r40a (by decide) (by decide)
  refine lv_iload_n hx hb dX12_train_76 rfl (lv_at hl 4 rfl) ?_
  refine va_iast (D := g) hx hb hK hP hD hS 2 0 rfl rfl (vi_rg rfl r75 (by decide) (by decide)) dX12_train_77 (fun H locs hP hD hS => ?_)
  obtain ⟨g77, e77⟩ : ∃ z, z = upd m_person_c y75.toNatClampNeg p2 := ⟨_, rfl⟩
  have hP : va_P g vwCl [(m, .inr (11, mG m_a 0 m_taped m_at m_token m_place m_value m_word m_bad m_badPlace m_fault m_faultPlace m_willing m_will m_forgot m_isDrawn m_x m_begin m_round m_roundCards m_fate m_any m_bothSend m_meanCards m_bestSum m_fitMany m_fitFirst m_fitSecond)), ((m_a 17), .inl (cI, 25, .inl m_has_c)), ((m_a 18), .inl (cI, 250, .inl (upd m_person_c y75.toNatClampNeg p2)))] H := hP
  have hD : va_D A [(m, .inr (11, mG m_a 0 m_taped m_at m_token m_place m_value m_word m_bad m_badPlace m_fault m_faultPlace m_willing m_will m_forgot m_isDrawn m_x m_begin m_round m_roundCards m_fate m_any m_bothSend m_meanCards m_bestSum m_fitMany m_fitFirst m_fitSecond)), ((m_a 17), .inl (cI, 25, .inl m_has_c)), ((m_a 18), .inl (cI, 250, .inl (upd m_person_c y75.toNatClampNeg p2)))] := hD
  rw [← e77] at hP hD
  have a77 : perI g77 := by rw [e77]; exact perI_u ha_m_person_c r50_1a
  refine lv_iload hx hb dX12_train_78 (lv_at hl 0 rfl) ?_
  subst hQ
  have hP9 := hP.sub (ws' := [(m, .inr (11, mG m_a 0 m_taped m_at m_token m_place m_value m_word m_bad m_badPlace m_fault m_faultPlace m_willing m_will m_forgot m_isDrawn m_x m_begin m_round m_roundCards m_fate m_any m_bothSend m_meanCards m_bestSum m_fitMany m_fitFirst m_fitSecond)), ((m_a 17), .inl (cI, 25, .inl m_has_c)), ((m_a 18), .inl (cI, 250, .inl g77))]) [0, 1, 2] rfl
  have hD9 := hD.sub (ws' := [(m, .inr (11, mG m_a 0 m_taped m_at m_token m_place m_value m_word m_bad m_badPlace m_fault m_faultPlace m_willing m_will m_forgot m_isDrawn m_x m_begin m_round m_roundCards m_fate m_any m_bothSend m_meanCards m_bestSum m_fitMany m_fitFirst m_fitSecond)), ((m_a 17), .inl (cI, 25, .inl m_has_c)), ((m_a 18), .inl (cI, 250, .inl g77))]) [0, 1, 2] (by decide) rfl
  exact W.iret (v := r62) hx hb hr (fun t ht hW => ⟨⟨r62, (0, g77), rfl, ⟨(show ir (0 : Int32).toInt 0 0 by decide), a77⟩, ⟨by rw [ht]; exact hP9, va_K.moved hW.alike hK, hD9⟩⟩, hS.F ht⟩) hS.2.2 dX12_train_80
def v_X12_begin : List Cond := .code yX12_begin cX12_begin 4 (some .int) :: (([.fieldLink RX12 107 "CardsAtYuleModel" "thrown" "I", .methodLink RX12 281 yX12_isPair, .instanceMethod yX12_isPair, .selects RX12 yX12_isPair yX12_isPair, .initialized RX12, .constantLong RX12 286 (15), .methodLink RX12 112 yX12_in, .static yX12_in, .fieldLink RX12 40 "CardsAtYuleModel" "pair" "[I"] : List Cond) ++ (v_X12_isPair ++ (v_X12_in ++ (wsX120 ++ ([] : List Cond)))))
theorem good_v_X12_begin : v_X12_begin.all goodWord = true := ga_c (by decide +kernel) (ga_a (by decide +kernel) (ga_a good_v_X12_isPair (ga_a good_v_X12_in (ga_a good_wsX120 rfl))))
set_option maxHeartbeats 4000000 in
set_option maxRecDepth 100000 in
theorem q_X12_begin (l : Launch) (g : va_G) (cI cJ cB cZ cL : ClassId) (p0 : Int32) (p1 : Int32) (m : Nat) (m_a : Nat → Nat) (m_thrown : Int32) (m_taped : Int32) (m_at : Int32) (m_token : Int32) (m_place : Int32) (m_value : Int32) (m_word : Int64) (m_bad : Int32) (m_badPlace : Int32) (m_fault : Int32) (m_faultPlace : Int32) (m_willing : Int32) (m_will : Int32) (m_forgot : Int32) (m_isDrawn : Int32) (m_x : Int64) (m_begin : Int32) (m_round : Int32) (m_roundCards : Int32) (m_fate : Int32) (m_any : Int64) (m_bothSend : Int64) (m_meanCards : Int64) (m_bestSum : Int32) (m_fitMany : Int32) (m_fitFirst : Int64) (m_fitSecond : Int64) (m_has_c : Nat → Int32) (m_pair_c : Nat → Int32) (sz : Nat) (hv_m_taped : ir m_taped.toInt 0 1600) (hv_m_at : ir m_at.toInt 0 1600) (hv_m_will : ir m_will.toInt 0 1) (hv_m_isDrawn : ir m_isDrawn.toInt 0 1) (ha_m_has_c : hasI m_has_c) (ha_m_pair_c : ar m_pair_c 240 0 15) : Met l yX12_begin v_X12_begin ({ frames := 2, cells := 0, slots := 0, locals := 46 }) (va_Pc [.ref m, .int p0, .int p1] (pRW g (tyT cI cJ cB cZ cL) [(m, .inr (11, mG m_a m_thrown m_taped m_at m_token m_place m_value m_word m_bad m_badPlace m_fault m_faultPlace m_willing m_will m_forgot m_isDrawn m_x m_begin m_round m_roundCards m_fate m_any m_bothSend m_meanCards m_bestSum m_fitMany m_fitFirst m_fitSecond)), ((m_a 17), .inl (cI, 25, .inl m_has_c)), ((m_a 19), .inl (cI, 240, .inl m_pair_c))] sz)) (va_Qi (fun (r : Int32) (u : Int32 × (Nat → Int32)) => match u with | (n_m_thrown, n_m_pair_c) => (ir n_m_thrown.toInt 0 0) ∧ (ar n_m_pair_c 240 0 15) ∧ (ir r.toInt (-2) 15)) (fun (u : Int32 × (Nat → Int32)) (t : State) => bRW g (tyT cI cJ cB cZ cL) (va_A [(m, .inr (11, mG m_a m_thrown m_taped m_at m_token m_place m_value m_word m_bad m_badPlace m_fault m_faultPlace m_willing m_will m_forgot m_isDrawn m_x m_begin m_round m_roundCards m_fate m_any m_bothSend m_meanCards m_bestSum m_fitMany m_fitFirst m_fitSecond)), ((m_a 17), .inl (cI, 25, .inl m_has_c)), ((m_a 19), .inl (cI, 240, .inl m_pair_c))] sz) (match u with | (n_m_thrown, n_m_pair_c) => [(m, .inr (11, mG m_a n_m_thrown m_taped m_at m_token m_place m_value m_word m_bad m_badPlace m_fault m_faultPlace m_willing m_will m_forgot m_isDrawn m_x m_begin m_round m_roundCards m_fate m_any m_bothSend m_meanCards m_bestSum m_fitMany m_fitFirst m_fitSecond)), ((m_a 17), .inl (cI, 25, .inl m_has_c)), ((m_a 19), .inl (cI, 240, .inl n_m_pair_c))]) t) (va_A [(m, .inr (11, mG m_a m_thrown m_taped m_at m_token m_place m_value m_word m_bad m_badPlace m_fault m_faultPlace m_willing m_will m_forgot m_isDrawn m_x m_begin m_round m_roundCards m_fate m_any m_bothSend m_meanCards m_bestSum m_fitMany m_fitFirst m_fitSecond)), ((m_a 17), .inl (cI, 25, .inl m_has_c)), ((m_a 19), .inl (cI, 240, .inl m_pair_c))] sz)) 0 0 (va_A [(m, .inr (11, mG m_a m_thrown m_taped m_at m_token m_place m_value m_word m_bad m_badPlace m_fault m_faultPlace m_willing m_will m_forgot m_isDrawn m_x m_begin m_round m_roundCards m_fate m_any m_bothSend m_meanCards m_bestSum m_fitMany m_fitFirst m_fitSecond)), ((m_a 17), .inl (cI, 25, .inl m_has_c)), ((m_a 19), .inl (cI, 240, .inl m_pair_c))] sz) := by
  refine Met.ofW (cc := cX12_begin) (maxL := 4) (ret := (some .int)) (by decide) rfl ?_
  intro p e s mth args below meth c s₁ B hml hv
  obtain ⟨rfl, hsz, hP, hK, hD0⟩ := hv
  have hx := B.exec
  have hb := B.bytes
  have hr := B.returns
  have hts := atoms_spec (ws := v_X12_begin) B.pre
  have hown : s.vm.findClass RX12 = some mth.cls := findClass_of_methodNamed B.named
  have hlocks := B.notSynchronized
  clear B
  subst hsz
  have iX12 : ∀ w ∈ wsX120, w ∈ v_X12_begin := (fun _ h => List.mem_cons_of_mem _ (List.mem_append_right _ (List.mem_append_right _ (List.mem_append_right _ (List.mem_append_left _ h)))))
  have hD := hD0.self (sz := s.heap.size)
  generalize hAe : (va_A [(m, .inr (11, mG m_a m_thrown m_taped m_at m_token m_place m_value m_word m_bad m_badPlace m_fault m_faultPlace m_willing m_will m_forgot m_isDrawn m_x m_begin m_round m_roundCards m_fate m_any m_bothSend m_meanCards m_bestSum m_fitMany m_fitFirst m_fitSecond)), ((m_a 17), .inl (cI, 25, .inl m_has_c)), ((m_a 19), .inl (cI, 240, .inl m_pair_c))] s.heap.size) = A at hD ⊢
  have hA : ∀ q : Nat, s.heap.size ≤ q → A q := fun q h => by rw [← hAe]; exact Or.inr h
  have hS : va_S A s.heap s.heap [] := va_S.rf
  have hl := lv_entry ([.ref m, .int p0, .int p1]) (n := 4) (Nat.le_of_ble_eq_true rfl)
  rw [lg_entry_eq]
  generalize (lg_sl ([.ref m, .int p0, .int p1]) ++ List.replicate (4 - (lg_sl ([.ref m, .int p0, .int p1])).length) Slot.unset).toArray = ls at hl ⊢
  generalize ([.ref m, .int p0, .int p1] : List Value).toArray = av at hts ⊢
  generalize hQ : MQ below _ av s _ _ A = QQ
  have hl : lv_has ls 4 [(0, .ref m), (1, .int p0), (2, .int p1)] := hl
  have hP : va_P g vwCl [(m, .inr (11, mG m_a m_thrown m_taped m_at m_token m_place m_value m_word m_bad m_badPlace m_fault m_faultPlace m_willing m_will m_forgot m_isDrawn m_x m_begin m_round m_roundCards m_fate m_any m_bothSend m_meanCards m_bestSum m_fitMany m_fitFirst m_fitSecond)), ((m_a 17), .inl (cI, 25, .inl m_has_c)), ((m_a 19), .inl (cI, 240, .inl m_pair_c))] s.heap := hP
  refine lv_aload_n hx hb dX12_begin_0 rfl (lv_at hl 0 rfl) ?_
  refine lv_iconst (v := 0) hx hb dX12_begin_1 (by decide) ?_
  refine va_put (D := g) (ci := 11) (v := .int 0) (ty := .int) (C := RX12) (T := TX12) (N := 56) hx hb hts iX12 tyX12 tyX12_ok nmX12 hown hK hP hD hS 0 rfl rfl 0 (by decide) (hts (.fieldLink RX12 107 "CardsAtYuleModel" "thrown" "I") (List.mem_cons_of_mem _ (List.mem_append_left _ (List.mem_of_getElem? (i := 0) rfl)))) (fun _ h9 => h9) rfl (by decide +kernel) rfl rfl (Nat.le_of_ble_eq_true rfl) dX12_begin_2 (fun H locs hP hD hS => ?_)
  have hP : va_P g vwCl [(m, .inr (11, mG m_a 0 m_taped m_at m_token m_place m_value m_word m_bad m_badPlace m_fault m_faultPlace m_willing m_will m_forgot m_isDrawn m_x m_begin m_round m_roundCards m_fate m_any m_bothSend m_meanCards m_bestSum m_fitMany m_fitFirst m_fitSecond)), ((m_a 17), .inl (cI, 25, .inl m_has_c)), ((m_a 19), .inl (cI, 240, .inl m_pair_c))] H := hP
  have hD : va_D A [(m, .inr (11, mG m_a 0 m_taped m_at m_token m_place m_value m_word m_bad m_badPlace m_fault m_faultPlace m_willing m_will m_forgot m_isDrawn m_x m_begin m_round m_roundCards m_fate m_any m_bothSend m_meanCards m_bestSum m_fitMany m_fitFirst m_fitSecond)), ((m_a 17), .inl (cI, 25, .inl m_has_c)), ((m_a 19), .inl (cI, 240, .inl m_pair_c))] := hD
  refine lv_aload_n hx hb dX12_begin_5 rfl (lv_at hl 0 rfl) ?_
  refine lv_iload_n hx hb dX12_begin_6 rfl (lv_at hl 1 rfl) ?_
  refine ro_i (va_runV (As := [.int p0]) (rest := []) ⟨hx, hb, hml, hown, hts⟩ (q_X12_isPair l g cI cJ cB cZ cL p0 m m_a 0 m_taped m_at m_token m_place m_value m_word m_bad m_badPlace m_fault m_faultPlace m_willing m_will m_forgot m_isDrawn m_x m_begin m_round m_roundCards m_fate m_any m_bothSend m_meanCards m_bestSum m_fitMany m_fitFirst m_fitSecond m_has_c H.size hv_m_taped hv_m_at hv_m_will hv_m_isDrawn ha_m_has_c) (cwV 1 hts (goodIn_app (g_4 (List.mem_cons_of_mem _ (List.mem_append_left _ (List.mem_of_getElem? (i := 1) rfl))) (List.mem_cons_of_mem _ (List.mem_append_left _ (List.mem_of_getElem? (i := 2) rfl))) (List.mem_cons_of_mem _ (List.mem_append_left _ (List.mem_of_getElem? (i := 3) rfl))) (List.mem_cons_of_mem _ (List.mem_append_left _ (List.mem_of_getElem? (i := 4) rfl))) (by decide +kernel)) (goodIn_sub (fun _ h => List.mem_cons_of_mem _ (List.mem_append_right _ (List.mem_append_left _ h))) good_v_X12_isPair)) rfl rfl rfl (by decide +kernel) ⟨Nat.le_of_ble_eq_true rfl, Nat.le_of_ble_eq_true rfl⟩) (pv_RO (q := (RX12, TX12, 56)) (ci := 11) (q0 := 0) (wc := [(m, .inr (11, mG m_a 0 m_taped m_at m_token m_place m_value m_word m_bad m_badPlace m_fault m_faultPlace m_willing m_will m_forgot m_isDrawn m_x m_begin m_round m_roundCards m_fate m_any m_bothSend m_meanCards m_bestSum m_fitMany m_fitFirst m_fitSecond)), ((m_a 17), .inl (cI, 25, .inl m_has_c))]) hK hP [0, 1] rfl rfl rfl) rfl rfl hl.1 rfl (lv_room (Nat.le_of_ble_eq_true rfl)) dX12_begin_7 ⟨Nat.le_of_ble_eq_true rfl, Nat.le_of_ble_eq_true rfl⟩) hS hA hP (fun r7 u7 H locs hw7 hP hS => ?_)
  have hw7_0 := hw7
  rcases hw7_0 with ⟨er7, fc7_0, fc7_1⟩ | er7
  rotate_left 1
  · subst er7
    refine lv_if_eq (tgt := 25) hx hb dX12_begin_10 (by decide) (fun _ => ?_) (fun c => absurd c (by decide))
    refine lv_bipush (v := (-2)) hx hb dX12_begin_25 (by decide) ?_
    subst hQ
    have hP9 := hP.sub (ws' := [(m, .inr (11, mG m_a 0 m_taped m_at m_token m_place m_value m_word m_bad m_badPlace m_fault m_faultPlace m_willing m_will m_forgot m_isDrawn m_x m_begin m_round m_roundCards m_fate m_any m_bothSend m_meanCards m_bestSum m_fitMany m_fitFirst m_fitSecond)), ((m_a 17), .inl (cI, 25, .inl m_has_c)), ((m_a 19), .inl (cI, 240, .inl m_pair_c))]) [0, 1, 2] rfl
    have hD9 := hD.sub (ws' := [(m, .inr (11, mG m_a 0 m_taped m_at m_token m_place m_value m_word m_bad m_badPlace m_fault m_faultPlace m_willing m_will m_forgot m_isDrawn m_x m_begin m_round m_roundCards m_fate m_any m_bothSend m_meanCards m_bestSum m_fitMany m_fitFirst m_fitSecond)), ((m_a 17), .inl (cI, 25, .inl m_has_c)), ((m_a 19), .inl (cI, 240, .inl m_pair_c))]) [0, 1, 2] (by decide) rfl
    exact W.iret (v := (-2)) hx hb hr (fun t ht hW => ⟨⟨(-2), (0, m_pair_c), rfl, ⟨(show ir (0 : Int32).toInt 0 0 by decide), ha_m_pair_c, (show ir ((-2) : Int32).toInt (-2) 15 by decide)⟩, ⟨by rw [ht]; exact hP9, va_K.moved hW.alike hK, hD9⟩⟩, hS.F ht⟩) hS.2.2 dX12_begin_27
  subst er7
  have fc7_0 : 0 ≤ p0.toInt := fc7_0
  have r7_0b : ir p0.toInt 0 2147483647 := ir_leb fc7_0 (ir_c 0) (rg_all p0) (by decide)
  have fc7_1 : p0.toInt ≤ 15 := fc7_1
  have r7_1a : ir p0.toInt 0 15 := ir_lea fc7_1 r7_0b (ir_c 15) (by decide)
  refine lv_if_eq (tgt := 25) hx hb dX12_begin_10 (by decide) (fun c => absurd c (by decide)) (fun _ => ?_)
  refine lv_iload_n hx hb dX12_begin_13 rfl (lv_at hl 2 rfl) ?_
  refine lv_i2l (v := p1.toInt64) hx hb dX12_begin_14 rfl ?_
  refine lv_lconst (v := 0) hx hb dX12_begin_15 (by decide) ?_
  refine lv_ldc2 (v := 15) hx hb hown (hts (.constantLong RX12 286 (15)) (List.mem_cons_of_mem _ (List.mem_append_left _ (List.mem_of_getElem? (i := 5) rfl)))) dX12_begin_16 ?_
  refine ro_i (va_runS (As := [.long p1.toInt64, .long 0, .long 15]) (rest := []) ⟨hx, hb, hml, hown, hts⟩ (q_X12_in l g cI cJ cB cZ cL p1.toInt64 p1.toInt 0 0 15 15 H.size (z_i2l rfl) rfl rfl) (va_cwS 3 hts (goodIn_app (g_3 (List.mem_cons_of_mem _ (List.mem_append_left _ (List.mem_of_getElem? (i := 6) rfl))) (List.mem_cons_of_mem _ (List.mem_append_left _ (List.mem_of_getElem? (i := 7) rfl))) (List.mem_cons_of_mem _ (List.mem_append_left _ (List.mem_of_getElem? (i := 4) rfl))) (by decide +kernel)) (goodIn_sub (fun _ h => List.mem_cons_of_mem _ (List.mem_append_right _ (List.mem_append_right _ (List.mem_append_left _ h)))) good_v_X12_in)) rfl rfl rfl (by decide +kernel) ⟨Nat.le_of_ble_eq_true rfl, Nat.le_of_ble_eq_true rfl⟩) (ps_RO (wc := []) hK hP [] rfl) rfl rfl hl.1 rfl (lv_room (Nat.le_of_ble_eq_true rfl)) dX12_begin_19 ⟨Nat.le_of_ble_eq_true rfl, Nat.le_of_ble_eq_true rfl⟩) hS hA hP (fun r19 u19 H locs hw19 hP hS => ?_)
  have hw19_0 := hw19
  rcases hw19_0 with ⟨er19, fc19_0, fc19_1⟩ | er19
  rotate_left 1
  · subst er19
    refine lv_if_ne (tgt := 28) hx hb dX12_begin_22 (by decide) (fun c => absurd c (by decide)) (fun _ => ?_)
    refine lv_bipush (v := (-2)) hx hb dX12_begin_25 (by decide) ?_
    subst hQ
    have hP9 := hP.sub (ws' := [(m, .inr (11, mG m_a 0 m_taped m_at m_token m_place m_value m_word m_bad m_badPlace m_fault m_faultPlace m_willing m_will m_forgot m_isDrawn m_x m_begin m_round m_roundCards m_fate m_any m_bothSend m_meanCards m_bestSum m_fitMany m_fitFirst m_fitSecond)), ((m_a 17), .inl (cI, 25, .inl m_has_c)), ((m_a 19), .inl (cI, 240, .inl m_pair_c))]) [0, 1, 2] rfl
    have hD9 := hD.sub (ws' := [(m, .inr (11, mG m_a 0 m_taped m_at m_token m_place m_value m_word m_bad m_badPlace m_fault m_faultPlace m_willing m_will m_forgot m_isDrawn m_x m_begin m_round m_roundCards m_fate m_any m_bothSend m_meanCards m_bestSum m_fitMany m_fitFirst m_fitSecond)), ((m_a 17), .inl (cI, 25, .inl m_has_c)), ((m_a 19), .inl (cI, 240, .inl m_pair_c))]) [0, 1, 2] (by decide) rfl
    exact W.iret (v := (-2)) hx hb hr (fun t ht hW => ⟨⟨(-2), (0, m_pair_c), rfl, ⟨(show ir (0 : Int32).toInt 0 0 by decide), ha_m_pair_c, (show ir ((-2) : Int32).toInt (-2) 15 by decide)⟩, ⟨by rw [ht]; exact hP9, va_K.moved hW.alike hK, hD9⟩⟩, hS.F ht⟩) hS.2.2 dX12_begin_27
  subst er19
  have fc19_0 : 0 ≤ p1.toInt := fc19_0
  have r19_0b : ir p1.toInt 0 2147483647 := ir_leb fc19_0 (ir_c 0) (rg_all p1) (by decide)
  have fc19_1 : p1.toInt ≤ 15 := fc19_1
  have r19_1a : ir p1.toInt 0 15 := ir_lea fc19_1 r19_0b (ir_c 15) (by decide)
  refine lv_if_ne (tgt := 28) hx hb dX12_begin_22 (by decide) (fun _ => ?_) (fun c => absurd c (by decide))
  refine lv_aload_n hx hb dX12_begin_28 rfl (lv_at hl 0 rfl) ?_
  refine va_get (D := g) (ci := 11) (v := .ref (m_a 19)) (C := RX12) (T := TX12) (N := 56) hx hb hts iX12 hown hK hP 0 rfl rfl 19 (by decide) (hts (.fieldLink RX12 40 "CardsAtYuleModel" "pair" "[I") (List.mem_cons_of_mem _ (List.mem_append_left _ (List.mem_of_getElem? (i := 8) rfl)))) (fun _ h9 => h9) rfl dX12_begin_29 ?_
  refine lv_iconst (v := 3) hx hb dX12_begin_32 (by decide) ?_
  refine lv_iload_n hx hb dX12_begin_33 rfl (lv_at hl 1 rfl) ?_
  refine lv_imul hx hb dX12_begin_34 ?_
  refine lv_topi (fun y34 e34 => ?_)
  have q34 : y34.toInt = 3 * p0.toInt := by rw [e34]; exact mu_z rfl rfl (ir_c 3) r7_1a (by decide) (by decide) (by decide)
  have r34 : ir y34.toInt 0 45 := mu_r q34 (ir_c 3) r7_1a (by decide) (by decide) (by decide) (by decide)
  refine lv_iconst (v := 2) hx hb dX12_begin_35 (by decide) ?_
  refine lv_iadd hx hb dX12_begin_36 ?_
  refine lv_topi (fun y36 e36 => ?_)
  have q36 : y36.toInt = y34.toInt + 2 := by rw [e36]; exact ad_z rfl rfl r34 (ir_c 2) (by decide) (by decide)
  have r36 : ir y36.toInt 2 47 := ad_r q36 r34 (ir_c 2) (by decide) (by decide)
  refine va_iald (D := g) hx hb hK hP 2 0 rfl rfl (vi_rg rfl r36 (by decide) (by decide)) dX12_begin_37 ?_
  refine lv_topi (fun y37 e37 => ?_)
  have r37 : ir y37.toInt 0 15 := by rw [e37]; exact ha_m_pair_c _ (vi_cl (vi_rg rfl r36 (by decide) (by decide)))
  refine lv_istore_n (lv' := [(3, .int y37), (0, .ref m), (1, .int p0), (2, .int p1)]) hx hb dX12_begin_38 rfl hl (by decide) rfl (fun ls hl => ?_)
  refine lv_aload_n hx hb dX12_begin_39 rfl (lv_at hl 1 rfl) ?_
  refine va_get (D := g) (ci := 11) (v := .ref (m_a 19)) (C := RX12) (T := TX12) (N := 56) hx hb hts iX12 hown hK hP 0 rfl rfl 19 (by decide) (hts (.fieldLink RX12 40 "CardsAtYuleModel" "pair" "[I") (List.mem_cons_of_mem _ (List.mem_append_left _ (List.mem_of_getElem? (i := 8) rfl)))) (fun _ h9 => h9) rfl dX12_begin_40 ?_
  refine lv_iconst (v := 3) hx hb dX12_begin_43 (by decide) ?_
  refine lv_iload_n hx hb dX12_begin_44 rfl (lv_at hl 2 rfl) ?_
  refine lv_imul hx hb dX12_begin_45 ?_
  refine lv_topi (fun y45 e45 => ?_)
  have q45 : y45.toInt = 3 * p0.toInt := by rw [e45]; exact mu_z rfl rfl (ir_c 3) r7_1a (by decide) (by decide) (by decide)
  have r45 : ir y45.toInt 0 45 := mu_r q45 (ir_c 3) r7_1a (by decide) (by decide) (by decide) (by decide)
  refine lv_iconst (v := 2) hx hb dX12_begin_46 (by decide) ?_
  refine lv_iadd hx hb dX12_begin_47 ?_
  refine lv_topi (fun y47 e47 => ?_)
  have q47 : y47.toInt = y45.toInt + 2 := by rw [e47]; exact ad_z rfl rfl r45 (ir_c 2) (by decide) (by decide)
  have r47 : ir y47.toInt 2 47 := ad_r q47 r45 (ir_c 2) (by decide) (by decide)
  refine lv_iload_n hx hb dX12_begin_48 rfl (lv_at hl 3 rfl) ?_
  refine va_iast (D := g) hx hb hK hP hD hS 2 0 rfl rfl (vi_rg rfl r47 (by decide) (by decide)) dX12_begin_49 (fun H locs hP hD hS => ?_)
  obtain ⟨g49, e49⟩ : ∃ z, z = upd m_pair_c y47.toNatClampNeg p1 := ⟨_, rfl⟩
  have hP : va_P g vwCl [(m, .inr (11, mG m_a 0 m_taped m_at m_token m_place m_value m_word m_bad m_badPlace m_fault m_faultPlace m_willing m_will m_forgot m_isDrawn m_x m_begin m_round m_roundCards m_fate m_any m_bothSend m_meanCards m_bestSum m_fitMany m_fitFirst m_fitSecond)), ((m_a 17), .inl (cI, 25, .inl m_has_c)), ((m_a 19), .inl (cI, 240, .inl (upd m_pair_c y47.toNatClampNeg p1)))] H := hP
  have hD : va_D A [(m, .inr (11, mG m_a 0 m_taped m_at m_token m_place m_value m_word m_bad m_badPlace m_fault m_faultPlace m_willing m_will m_forgot m_isDrawn m_x m_begin m_round m_roundCards m_fate m_any m_bothSend m_meanCards m_bestSum m_fitMany m_fitFirst m_fitSecond)), ((m_a 17), .inl (cI, 25, .inl m_has_c)), ((m_a 19), .inl (cI, 240, .inl (upd m_pair_c y47.toNatClampNeg p1)))] := hD
  rw [← e49] at hP hD
  have a49 : ar g49 240 0 15 := by rw [e49]; exact ar_u ha_m_pair_c r19_1a
  refine lv_iload_n hx hb dX12_begin_50 rfl (lv_at hl 0 rfl) ?_
  subst hQ
  have hP9 := hP.sub (ws' := [(m, .inr (11, mG m_a 0 m_taped m_at m_token m_place m_value m_word m_bad m_badPlace m_fault m_faultPlace m_willing m_will m_forgot m_isDrawn m_x m_begin m_round m_roundCards m_fate m_any m_bothSend m_meanCards m_bestSum m_fitMany m_fitFirst m_fitSecond)), ((m_a 17), .inl (cI, 25, .inl m_has_c)), ((m_a 19), .inl (cI, 240, .inl g49))]) [0, 1, 2] rfl
  have hD9 := hD.sub (ws' := [(m, .inr (11, mG m_a 0 m_taped m_at m_token m_place m_value m_word m_bad m_badPlace m_fault m_faultPlace m_willing m_will m_forgot m_isDrawn m_x m_begin m_round m_roundCards m_fate m_any m_bothSend m_meanCards m_bestSum m_fitMany m_fitFirst m_fitSecond)), ((m_a 17), .inl (cI, 25, .inl m_has_c)), ((m_a 19), .inl (cI, 240, .inl g49))]) [0, 1, 2] (by decide) rfl
  exact W.iret (v := y37) hx hb hr (fun t ht hW => ⟨⟨y37, (0, g49), rfl, ⟨(show ir (0 : Int32).toInt 0 0 by decide), a49, (ir_w r37 (by decide) (by decide))⟩, ⟨by rw [ht]; exact hP9, va_K.moved hW.alike hK, hD9⟩⟩, hS.F ht⟩) hS.2.2 dX12_begin_51
def v_X12_lose : List Cond := .code yX12_lose cX12_lose 6 (some .int) :: (([.fieldLink RX12 107 "CardsAtYuleModel" "thrown" "I", .methodLink RX12 281 yX12_isPair, .instanceMethod yX12_isPair, .selects RX12 yX12_isPair yX12_isPair, .initialized RX12, .methodLink RX12 340 yX12_isSide, .static yX12_isSide, .methodLink RX12 343 yX12_isYear, .instanceMethod yX12_isYear, .selects RX12 yX12_isYear yX12_isYear, .methodLink RX12 112 yX12_in, .static yX12_in, .fieldLink RX12 43 "CardsAtYuleModel" "lost" "[J", .methodLink RX12 540 yX12_withBit, .static yX12_withBit] : List Cond) ++ (v_X12_isPair ++ (v_X12_isSide ++ (v_X12_isYear ++ (v_X12_in ++ (v_X12_withBit ++ (wsX120 ++ ([] : List Cond))))))))
theorem good_v_X12_lose : v_X12_lose.all goodWord = true := ga_c (by decide +kernel) (ga_a (by decide +kernel) (ga_a good_v_X12_isPair (ga_a good_v_X12_isSide (ga_a good_v_X12_isYear (ga_a good_v_X12_in (ga_a good_v_X12_withBit (ga_a good_wsX120 rfl)))))))
set_option maxHeartbeats 4000000 in
set_option maxRecDepth 100000 in
theorem q_X12_lose (l : Launch) (g : va_G) (cI cJ cB cZ cL : ClassId) (p0 : Int32) (p1 : Int32) (p2 : Int32) (p3 : Int32) (m : Nat) (m_a : Nat → Nat) (m_thrown : Int32) (m_taped : Int32) (m_at : Int32) (m_token : Int32) (m_place : Int32) (m_value : Int32) (m_word : Int64) (m_bad : Int32) (m_badPlace : Int32) (m_fault : Int32) (m_faultPlace : Int32) (m_willing : Int32) (m_will : Int32) (m_forgot : Int32) (m_isDrawn : Int32) (m_x : Int64) (m_begin : Int32) (m_round : Int32) (m_roundCards : Int32) (m_fate : Int32) (m_any : Int64) (m_bothSend : Int64) (m_meanCards : Int64) (m_bestSum : Int32) (m_fitMany : Int32) (m_fitFirst : Int64) (m_fitSecond : Int64) (m_has_c : Nat → Int32) (m_lost_c : Nat → Int64) (sz : Nat) (hv_m_taped : ir m_taped.toInt 0 1600) (hv_m_at : ir m_at.toInt 0 1600) (hv_m_will : ir m_will.toInt 0 1) (hv_m_isDrawn : ir m_isDrawn.toInt 0 1) (ha_m_has_c : hasI m_has_c) : Met l yX12_lose v_X12_lose ({ frames := 2, cells := 0, slots := 0, locals := 47 }) (va_Pc [.ref m, .int p0, .int p1, .int p2, .int p3] (pRW g (tyT cI cJ cB cZ cL) [(m, .inr (11, mG m_a m_thrown m_taped m_at m_token m_place m_value m_word m_bad m_badPlace m_fault m_faultPlace m_willing m_will m_forgot m_isDrawn m_x m_begin m_round m_roundCards m_fate m_any m_bothSend m_meanCards m_bestSum m_fitMany m_fitFirst m_fitSecond)), ((m_a 17), .inl (cI, 25, .inl m_has_c)), ((m_a 20), .inl (cJ, 160, .inr (.inl m_lost_c)))] sz)) (va_Qi (fun (r : Int32) (u : Int32 × (Nat → Int64)) => match u with | (n_m_thrown, n_m_lost_c) => (ir n_m_thrown.toInt 0 0) ∧ (ir r.toInt (-2) 1)) (fun (u : Int32 × (Nat → Int64)) (t : State) => bRW g (tyT cI cJ cB cZ cL) (va_A [(m, .inr (11, mG m_a m_thrown m_taped m_at m_token m_place m_value m_word m_bad m_badPlace m_fault m_faultPlace m_willing m_will m_forgot m_isDrawn m_x m_begin m_round m_roundCards m_fate m_any m_bothSend m_meanCards m_bestSum m_fitMany m_fitFirst m_fitSecond)), ((m_a 17), .inl (cI, 25, .inl m_has_c)), ((m_a 20), .inl (cJ, 160, .inr (.inl m_lost_c)))] sz) (match u with | (n_m_thrown, n_m_lost_c) => [(m, .inr (11, mG m_a n_m_thrown m_taped m_at m_token m_place m_value m_word m_bad m_badPlace m_fault m_faultPlace m_willing m_will m_forgot m_isDrawn m_x m_begin m_round m_roundCards m_fate m_any m_bothSend m_meanCards m_bestSum m_fitMany m_fitFirst m_fitSecond)), ((m_a 17), .inl (cI, 25, .inl m_has_c)), ((m_a 20), .inl (cJ, 160, .inr (.inl n_m_lost_c)))]) t) (va_A [(m, .inr (11, mG m_a m_thrown m_taped m_at m_token m_place m_value m_word m_bad m_badPlace m_fault m_faultPlace m_willing m_will m_forgot m_isDrawn m_x m_begin m_round m_roundCards m_fate m_any m_bothSend m_meanCards m_bestSum m_fitMany m_fitFirst m_fitSecond)), ((m_a 17), .inl (cI, 25, .inl m_has_c)), ((m_a 20), .inl (cJ, 160, .inr (.inl m_lost_c)))] sz)) 0 0 (va_A [(m, .inr (11, mG m_a m_thrown m_taped m_at m_token m_place m_value m_word m_bad m_badPlace m_fault m_faultPlace m_willing m_will m_forgot m_isDrawn m_x m_begin m_round m_roundCards m_fate m_any m_bothSend m_meanCards m_bestSum m_fitMany m_fitFirst m_fitSecond)), ((m_a 17), .inl (cI, 25, .inl m_has_c)), ((m_a 20), .inl (cJ, 160, .inr (.inl m_lost_c)))] sz) := by
  refine Met.ofW (cc := cX12_lose) (maxL := 6) (ret := (some .int)) (by decide) rfl ?_
  intro p e s mth args below meth c s₁ B hml hv
  obtain ⟨rfl, hsz, hP, hK, hD0⟩ := hv
  have hx := B.exec
  have hb := B.bytes
  have hr := B.returns
  have hts := atoms_spec (ws := v_X12_lose) B.pre
  have hown : s.vm.findClass RX12 = some mth.cls := findClass_of_methodNamed B.named
  have hlocks := B.notSynchronized
  clear B
  subst hsz
  have iX12 : ∀ w ∈ wsX120, w ∈ v_X12_lose := (fun _ h => List.mem_cons_of_mem _ (List.mem_append_right _ (List.mem_append_right _ (List.mem_append_right _ (List.mem_append_right _ (List.mem_append_right _ (List.mem_append_right _ (List.mem_append_left _ h))))))))
  have hD := hD0.self (sz := s.heap.size)
  generalize hAe : (va_A [(m, .inr (11, mG m_a m_thrown m_taped m_at m_token m_place m_value m_word m_bad m_badPlace m_fault m_faultPlace m_willing m_will m_forgot m_isDrawn m_x m_begin m_round m_roundCards m_fate m_any m_bothSend m_meanCards m_bestSum m_fitMany m_fitFirst m_fitSecond)), ((m_a 17), .inl (cI, 25, .inl m_has_c)), ((m_a 20), .inl (cJ, 160, .inr (.inl m_lost_c)))] s.heap.size) = A at hD ⊢
  have hA : ∀ q : Nat, s.heap.size ≤ q → A q := fun q h => by rw [← hAe]; exact Or.inr h
  have hS : va_S A s.heap s.heap [] := va_S.rf
  have hl := lv_entry ([.ref m, .int p0, .int p1, .int p2, .int p3]) (n := 6) (Nat.le_of_ble_eq_true rfl)
  rw [lg_entry_eq]
  generalize (lg_sl ([.ref m, .int p0, .int p1, .int p2, .int p3]) ++ List.replicate (6 - (lg_sl ([.ref m, .int p0, .int p1, .int p2, .int p3])).length) Slot.unset).toArray = ls at hl ⊢
  generalize ([.ref m, .int p0, .int p1, .int p2, .int p3] : List Value).toArray = av at hts ⊢
  generalize hQ : MQ below _ av s _ _ A = QQ
  have hl : lv_has ls 6 [(0, .ref m), (1, .int p0), (2, .int p1), (3, .int p2), (4, .int p3)] := hl
  have hP : va_P g vwCl [(m, .inr (11, mG m_a m_thrown m_taped m_at m_token m_place m_value m_word m_bad m_badPlace m_fault m_faultPlace m_willing m_will m_forgot m_isDrawn m_x m_begin m_round m_roundCards m_fate m_any m_bothSend m_meanCards m_bestSum m_fitMany m_fitFirst m_fitSecond)), ((m_a 17), .inl (cI, 25, .inl m_has_c)), ((m_a 20), .inl (cJ, 160, .inr (.inl m_lost_c)))] s.heap := hP
  refine lv_aload_n hx hb dX12_lose_0 rfl (lv_at hl 0 rfl) ?_
  refine lv_iconst (v := 0) hx hb dX12_lose_1 (by decide) ?_
  refine va_put (D := g) (ci := 11) (v := .int 0) (ty := .int) (C := RX12) (T := TX12) (N := 56) hx hb hts iX12 tyX12 tyX12_ok nmX12 hown hK hP hD hS 0 rfl rfl 0 (by decide) (hts (.fieldLink RX12 107 "CardsAtYuleModel" "thrown" "I") (List.mem_cons_of_mem _ (List.mem_append_left _ (List.mem_of_getElem? (i := 0) rfl)))) (fun _ h9 => h9) rfl (by decide +kernel) rfl rfl (Nat.le_of_ble_eq_true rfl) dX12_lose_2 (fun H locs hP hD hS => ?_)
  have hP : va_P g vwCl [(m, .inr (11, mG m_a 0 m_taped m_at m_token m_place m_value m_word m_bad m_badPlace m_fault m_faultPlace m_willing m_will m_forgot m_isDrawn m_x m_begin m_round m_roundCards m_fate m_any m_bothSend m_meanCards m_bestSum m_fitMany m_fitFirst m_fitSecond)), ((m_a 17), .inl (cI, 25, .inl m_has_c)), ((m_a 20), .inl (cJ, 160, .inr (.inl m_lost_c)))] H := hP
  have hD : va_D A [(m, .inr (11, mG m_a 0 m_taped m_at m_token m_place m_value m_word m_bad m_badPlace m_fault m_faultPlace m_willing m_will m_forgot m_isDrawn m_x m_begin m_round m_roundCards m_fate m_any m_bothSend m_meanCards m_bestSum m_fitMany m_fitFirst m_fitSecond)), ((m_a 17), .inl (cI, 25, .inl m_has_c)), ((m_a 20), .inl (cJ, 160, .inr (.inl m_lost_c)))] := hD
  refine lv_aload_n hx hb dX12_lose_5 rfl (lv_at hl 0 rfl) ?_
  refine lv_iload_n hx hb dX12_lose_6 rfl (lv_at hl 1 rfl) ?_
  refine ro_i (va_runV (As := [.int p0]) (rest := []) ⟨hx, hb, hml, hown, hts⟩ (q_X12_isPair l g cI cJ cB cZ cL p0 m m_a 0 m_taped m_at m_token m_place m_value m_word m_bad m_badPlace m_fault m_faultPlace m_willing m_will m_forgot m_isDrawn m_x m_begin m_round m_roundCards m_fate m_any m_bothSend m_meanCards m_bestSum m_fitMany m_fitFirst m_fitSecond m_has_c H.size hv_m_taped hv_m_at hv_m_will hv_m_isDrawn ha_m_has_c) (cwV 1 hts (goodIn_app (g_4 (List.mem_cons_of_mem _ (List.mem_append_left _ (List.mem_of_getElem? (i := 1) rfl))) (List.mem_cons_of_mem _ (List.mem_append_left _ (List.mem_of_getElem? (i := 2) rfl))) (List.mem_cons_of_mem _ (List.mem_append_left _ (List.mem_of_getElem? (i := 3) rfl))) (List.mem_cons_of_mem _ (List.mem_append_left _ (List.mem_of_getElem? (i := 4) rfl))) (by decide +kernel)) (goodIn_sub (fun _ h => List.mem_cons_of_mem _ (List.mem_append_right _ (List.mem_append_left _ h))) good_v_X12_isPair)) rfl rfl rfl (by decide +kernel) ⟨Nat.le_of_ble_eq_true rfl, Nat.le_of_ble_eq_true rfl⟩) (pv_RO (q := (RX12, TX12, 56)) (ci := 11) (q0 := 0) (wc := [(m, .inr (11, mG m_a 0 m_taped m_at m_token m_place m_value m_word m_bad m_badPlace m_fault m_faultPlace m_willing m_will m_forgot m_isDrawn m_x m_begin m_round m_roundCards m_fate m_any m_bothSend m_meanCards m_bestSum m_fitMany m_fitFirst m_fitSecond)), ((m_a 17), .inl (cI, 25, .inl m_has_c))]) hK hP [0, 1] rfl rfl rfl) rfl rfl hl.1 rfl (lv_room (Nat.le_of_ble_eq_true rfl)) dX12_lose_7 ⟨Nat.le_of_ble_eq_true rfl, Nat.le_of_ble_eq_true rfl⟩) hS hA hP (fun r7 u7 H locs hw7 hP hS => ?_)
  have hw7_0 := hw7
  rcases hw7_0 with ⟨er7, fc7_0, fc7_1⟩ | er7
  rotate_left 1
  · subst er7
    refine lv_if_eq (tgt := 40) hx hb dX12_lose_10 (by decide) (fun _ => ?_) (fun c => absurd c (by decide))
    refine lv_bipush (v := (-2)) hx hb dX12_lose_40 (by decide) ?_
    subst hQ
    have hP9 := hP.sub (ws' := [(m, .inr (11, mG m_a 0 m_taped m_at m_token m_place m_value m_word m_bad m_badPlace m_fault m_faultPlace m_willing m_will m_forgot m_isDrawn m_x m_begin m_round m_roundCards m_fate m_any m_bothSend m_meanCards m_bestSum m_fitMany m_fitFirst m_fitSecond)), ((m_a 17), .inl (cI, 25, .inl m_has_c)), ((m_a 20), .inl (cJ, 160, .inr (.inl m_lost_c)))]) [0, 1, 2] rfl
    have hD9 := hD.sub (ws' := [(m, .inr (11, mG m_a 0 m_taped m_at m_token m_place m_value m_word m_bad m_badPlace m_fault m_faultPlace m_willing m_will m_forgot m_isDrawn m_x m_begin m_round m_roundCards m_fate m_any m_bothSend m_meanCards m_bestSum m_fitMany m_fitFirst m_fitSecond)), ((m_a 17), .inl (cI, 25, .inl m_has_c)), ((m_a 20), .inl (cJ, 160, .inr (.inl m_lost_c)))]) [0, 1, 2] (by decide) rfl
    exact W.iret (v := (-2)) hx hb hr (fun t ht hW => ⟨⟨(-2), (0, m_lost_c), rfl, ⟨(show ir (0 : Int32).toInt 0 0 by decide), (show ir ((-2) : Int32).toInt (-2) 1 by decide)⟩, ⟨by rw [ht]; exact hP9, va_K.moved hW.alike hK, hD9⟩⟩, hS.F ht⟩) hS.2.2 dX12_lose_42
  subst er7
  have fc7_0 : 0 ≤ p0.toInt := fc7_0
  have r7_0b : ir p0.toInt 0 2147483647 := ir_leb fc7_0 (ir_c 0) (rg_all p0) (by decide)
  have fc7_1 : p0.toInt ≤ 15 := fc7_1
  have r7_1a : ir p0.toInt 0 15 := ir_lea fc7_1 r7_0b (ir_c 15) (by decide)
  refine lv_if_eq (tgt := 40) hx hb dX12_lose_10 (by decide) (fun c => absurd c (by decide)) (fun _ => ?_)
  refine lv_iload_n hx hb dX12_lose_13 rfl (lv_at hl 2 rfl) ?_
  refine ro_i (va_runS (As := [.int p1]) (rest := []) ⟨hx, hb, hml, hown, hts⟩ (q_X12_isSide l g cI cJ cB cZ cL p1 H.size ) (va_cwS 1 hts (goodIn_app (g_3 (List.mem_cons_of_mem _ (List.mem_append_left _ (List.mem_of_getElem? (i := 5) rfl))) (List.mem_cons_of_mem _ (List.mem_append_left _ (List.mem_of_getElem? (i := 6) rfl))) (List.mem_cons_of_mem _ (List.mem_append_left _ (List.mem_of_getElem? (i := 4) rfl))) (by decide +kernel)) (goodIn_sub (fun _ h => List.mem_cons_of_mem _ (List.mem_append_right _ (List.mem_append_right _ (List.mem_append_left _ h)))) good_v_X12_isSide)) rfl rfl rfl (by decide +kernel) ⟨Nat.le_of_ble_eq_true rfl, Nat.le_of_ble_eq_true rfl⟩) (ps_RO (wc := []) hK hP [] rfl) rfl rfl hl.1 rfl (lv_room (Nat.le_of_ble_eq_true rfl)) dX12_lose_14 ⟨Nat.le_of_ble_eq_true rfl, Nat.le_of_ble_eq_true rfl⟩) hS hA hP (fun r14 u14 H locs hw14 hP hS => ?_)
  have hw14_0 := hw14
  rcases hw14_0 with ⟨er14, fc14_0, fc14_1⟩ | er14
  rotate_left 1
  · subst er14
    refine lv_if_eq (tgt := 40) hx hb dX12_lose_17 (by decide) (fun _ => ?_) (fun c => absurd c (by decide))
    refine lv_bipush (v := (-2)) hx hb dX12_lose_40 (by decide) ?_
    subst hQ
    have hP9 := hP.sub (ws' := [(m, .inr (11, mG m_a 0 m_taped m_at m_token m_place m_value m_word m_bad m_badPlace m_fault m_faultPlace m_willing m_will m_forgot m_isDrawn m_x m_begin m_round m_roundCards m_fate m_any m_bothSend m_meanCards m_bestSum m_fitMany m_fitFirst m_fitSecond)), ((m_a 17), .inl (cI, 25, .inl m_has_c)), ((m_a 20), .inl (cJ, 160, .inr (.inl m_lost_c)))]) [0, 1, 2] rfl
    have hD9 := hD.sub (ws' := [(m, .inr (11, mG m_a 0 m_taped m_at m_token m_place m_value m_word m_bad m_badPlace m_fault m_faultPlace m_willing m_will m_forgot m_isDrawn m_x m_begin m_round m_roundCards m_fate m_any m_bothSend m_meanCards m_bestSum m_fitMany m_fitFirst m_fitSecond)), ((m_a 17), .inl (cI, 25, .inl m_has_c)), ((m_a 20), .inl (cJ, 160, .inr (.inl m_lost_c)))]) [0, 1, 2] (by decide) rfl
    exact W.iret (v := (-2)) hx hb hr (fun t ht hW => ⟨⟨(-2), (0, m_lost_c), rfl, ⟨(show ir (0 : Int32).toInt 0 0 by decide), (show ir ((-2) : Int32).toInt (-2) 1 by decide)⟩, ⟨by rw [ht]; exact hP9, va_K.moved hW.alike hK, hD9⟩⟩, hS.F ht⟩) hS.2.2 dX12_lose_42
  subst er14
  have fc14_0 : 0 ≤ p1.toInt := fc14_0
  have r14_0b : ir p1.toInt 0 2147483647 := ir_leb fc14_0 (ir_c 0) (rg_all p1) (by decide)
  have fc14_1 : p1.toInt ≤ 1 := fc14_1
  have r14_1a : ir p1.toInt 0 1 := ir_lea fc14_1 r14_0b (ir_c 1) (by decide)
  refine lv_if_eq (tgt := 40) hx hb dX12_lose_17 (by decide) (fun c => absurd c (by decide)) (fun _ => ?_)
  refine lv_aload_n hx hb dX12_lose_20 rfl (lv_at hl 0 rfl) ?_
  refine lv_iload_n hx hb dX12_lose_21 rfl (lv_at hl 3 rfl) ?_
  refine lv_i2l (v := p2.toInt64) hx hb dX12_lose_22 rfl ?_
  refine ro_i (va_runV (As := [.long p2.toInt64]) (rest := []) ⟨hx, hb, hml, hown, hts⟩ (q_X12_isYear l g cI cJ cB cZ cL p2.toInt64 p2.toInt m m_a 0 m_taped m_at m_token m_place m_value m_word m_bad m_badPlace m_fault m_faultPlace m_willing m_will m_forgot m_isDrawn m_x m_begin m_round m_roundCards m_fate m_any m_bothSend m_meanCards m_bestSum m_fitMany m_fitFirst m_fitSecond m_has_c H.size (z_i2l rfl) hv_m_taped hv_m_at hv_m_will hv_m_isDrawn ha_m_has_c) (cwV 1 hts (goodIn_app (g_4 (List.mem_cons_of_mem _ (List.mem_append_left _ (List.mem_of_getElem? (i := 7) rfl))) (List.mem_cons_of_mem _ (List.mem_append_left _ (List.mem_of_getElem? (i := 8) rfl))) (List.mem_cons_of_mem _ (List.mem_append_left _ (List.mem_of_getElem? (i := 9) rfl))) (List.mem_cons_of_mem _ (List.mem_append_left _ (List.mem_of_getElem? (i := 4) rfl))) (by decide +kernel)) (goodIn_sub (fun _ h => List.mem_cons_of_mem _ (List.mem_append_right _ (List.mem_append_right _ (List.mem_append_right _ (List.mem_append_left _ h))))) good_v_X12_isYear)) rfl rfl rfl (by decide +kernel) ⟨Nat.le_of_ble_eq_true rfl, Nat.le_of_ble_eq_true rfl⟩) (pv_RO (q := (RX12, TX12, 56)) (ci := 11) (q0 := 0) (wc := [(m, .inr (11, mG m_a 0 m_taped m_at m_token m_place m_value m_word m_bad m_badPlace m_fault m_faultPlace m_willing m_will m_forgot m_isDrawn m_x m_begin m_round m_roundCards m_fate m_any m_bothSend m_meanCards m_bestSum m_fitMany m_fitFirst m_fitSecond)), ((m_a 17), .inl (cI, 25, .inl m_has_c))]) hK hP [0, 1] rfl rfl rfl) rfl rfl hl.1 rfl (lv_room (Nat.le_of_ble_eq_true rfl)) dX12_lose_23 ⟨Nat.le_of_ble_eq_true rfl, Nat.le_of_ble_eq_true rfl⟩) hS hA hP (fun r23 u23 H locs hw23 hP hS => ?_)
  have hw23_0 := hw23
  rcases hw23_0 with ⟨er23, fc23_0, fc23_1⟩ | er23
  rotate_left 1
  · subst er23
    refine lv_if_eq (tgt := 40) hx hb dX12_lose_26 (by decide) (fun _ => ?_) (fun c => absurd c (by decide))
    refine lv_bipush (v := (-2)) hx hb dX12_lose_40 (by decide) ?_
    subst hQ
    have hP9 := hP.sub (ws' := [(m, .inr (11, mG m_a 0 m_taped m_at m_token m_place m_value m_word m_bad m_badPlace m_fault m_faultPlace m_willing m_will m_forgot m_isDrawn m_x m_begin m_round m_roundCards m_fate m_any m_bothSend m_meanCards m_bestSum m_fitMany m_fitFirst m_fitSecond)), ((m_a 17), .inl (cI, 25, .inl m_has_c)), ((m_a 20), .inl (cJ, 160, .inr (.inl m_lost_c)))]) [0, 1, 2] rfl
    have hD9 := hD.sub (ws' := [(m, .inr (11, mG m_a 0 m_taped m_at m_token m_place m_value m_word m_bad m_badPlace m_fault m_faultPlace m_willing m_will m_forgot m_isDrawn m_x m_begin m_round m_roundCards m_fate m_any m_bothSend m_meanCards m_bestSum m_fitMany m_fitFirst m_fitSecond)), ((m_a 17), .inl (cI, 25, .inl m_has_c)), ((m_a 20), .inl (cJ, 160, .inr (.inl m_lost_c)))]) [0, 1, 2] (by decide) rfl
    exact W.iret (v := (-2)) hx hb hr (fun t ht hW => ⟨⟨(-2), (0, m_lost_c), rfl, ⟨(show ir (0 : Int32).toInt 0 0 by decide), (show ir ((-2) : Int32).toInt (-2) 1 by decide)⟩, ⟨by rw [ht]; exact hP9, va_K.moved hW.alike hK, hD9⟩⟩, hS.F ht⟩) hS.2.2 dX12_lose_42
  subst er23
  have fc23_0 : 0 ≤ p2.toInt := fc23_0
  have r23_0b : ir p2.toInt 0 2147483647 := ir_leb fc23_0 (ir_c 0) (rg_all p2) (by decide)
  have fc23_1 : p2.toInt ≤ 39 := fc23_1
  have r23_1a : ir p2.toInt 0 39 := ir_lea fc23_1 r23_0b (ir_c 39) (by decide)
  refine lv_if_eq (tgt := 40) hx hb dX12_lose_26 (by decide) (fun c => absurd c (by decide)) (fun _ => ?_)
  refine lv_iload hx hb dX12_lose_29 (lv_at hl 4 rfl) ?_
  refine lv_i2l (v := p3.toInt64) hx hb dX12_lose_31 rfl ?_
  refine lv_lconst (v := 0) hx hb dX12_lose_32 (by decide) ?_
  refine lv_lconst (v := 1) hx hb dX12_lose_33 (by decide) ?_
  refine ro_i (va_runS (As := [.long p3.toInt64, .long 0, .long 1]) (rest := []) ⟨hx, hb, hml, hown, hts⟩ (q_X12_in l g cI cJ cB cZ cL p3.toInt64 p3.toInt 0 0 1 1 H.size (z_i2l rfl) rfl rfl) (va_cwS 3 hts (goodIn_app (g_3 (List.mem_cons_of_mem _ (List.mem_append_left _ (List.mem_of_getElem? (i := 10) rfl))) (List.mem_cons_of_mem _ (List.mem_append_left _ (List.mem_of_getElem? (i := 11) rfl))) (List.mem_cons_of_mem _ (List.mem_append_left _ (List.mem_of_getElem? (i := 4) rfl))) (by decide +kernel)) (goodIn_sub (fun _ h => List.mem_cons_of_mem _ (List.mem_append_right _ (List.mem_append_right _ (List.mem_append_right _ (List.mem_append_right _ (List.mem_append_left _ h)))))) good_v_X12_in)) rfl rfl rfl (by decide +kernel) ⟨Nat.le_of_ble_eq_true rfl, Nat.le_of_ble_eq_true rfl⟩) (ps_RO (wc := []) hK hP [] rfl) rfl rfl hl.1 rfl (lv_room (Nat.le_of_ble_eq_true rfl)) dX12_lose_34 ⟨Nat.le_of_ble_eq_true rfl, Nat.le_of_ble_eq_true rfl⟩) hS hA hP (fun r34 u34 H locs hw34 hP hS => ?_)
  have hw34_0 := hw34
  rcases hw34_0 with ⟨er34, fc34_0, fc34_1⟩ | er34
  rotate_left 1
  · subst er34
    refine lv_if_ne (tgt := 43) hx hb dX12_lose_37 (by decide) (fun c => absurd c (by decide)) (fun _ => ?_)
    refine lv_bipush (v := (-2)) hx hb dX12_lose_40 (by decide) ?_
    subst hQ
    have hP9 := hP.sub (ws' := [(m, .inr (11, mG m_a 0 m_taped m_at m_token m_place m_value m_word m_bad m_badPlace m_fault m_faultPlace m_willing m_will m_forgot m_isDrawn m_x m_begin m_round m_roundCards m_fate m_any m_bothSend m_meanCards m_bestSum m_fitMany m_fitFirst m_fitSecond)), ((m_a 17), .inl (cI, 25, .inl m_has_c)), ((m_a 20), .inl (cJ, 160, .inr (.inl m_lost_c)))]) [0, 1, 2] rfl
    have hD9 := hD.sub (ws' := [(m, .inr (11, mG m_a 0 m_taped m_at m_token m_place m_value m_word m_bad m_badPlace m_fault m_faultPlace m_willing m_will m_forgot m_isDrawn m_x m_begin m_round m_roundCards m_fate m_any m_bothSend m_meanCards m_bestSum m_fitMany m_fitFirst m_fitSecond)), ((m_a 17), .inl (cI, 25, .inl m_has_c)), ((m_a 20), .inl (cJ, 160, .inr (.inl m_lost_c)))]) [0, 1, 2] (by decide) rfl
    exact W.iret (v := (-2)) hx hb hr (fun t ht hW => ⟨⟨(-2), (0, m_lost_c), rfl, ⟨(show ir (0 : Int32).toInt 0 0 by decide), (show ir ((-2) : Int32).toInt (-2) 1 by decide)⟩, ⟨by rw [ht]; exact hP9, va_K.moved hW.alike hK, hD9⟩⟩, hS.F ht⟩) hS.2.2 dX12_lose_42
  subst er34
  have fc34_0 : 0 ≤ p3.toInt := fc34_0
  have r34_0b : ir p3.toInt 0 2147483647 := ir_leb fc34_0 (ir_c 0) (rg_all p3) (by decide)
  have fc34_1 : p3.toInt ≤ 1 := fc34_1
  have r34_1a : ir p3.toInt 0 1 := ir_lea fc34_1 r34_0b (ir_c 1) (by decide)
  refine lv_if_ne (tgt := 43) hx hb dX12_lose_37 (by decide) (fun _ => ?_) (fun c => absurd c (by decide))
  refine lv_aload_n hx hb dX12_lose_43 rfl (lv_at hl 0 rfl) ?_
  refine va_get (D := g) (ci := 11) (v := .ref (m_a 20)) (C := RX12) (T := TX12) (N := 56) hx hb hts iX12 hown hK hP 0 rfl rfl 20 (by decide) (hts (.fieldLink RX12 43 "CardsAtYuleModel" "lost" "[J") (List.mem_cons_of_mem _ (List.mem_append_left _ (List.mem_of_getElem? (i := 12) rfl)))) (fun _ h9 => h9) rfl dX12_lose_44 ?_
  refine lv_iconst (v := 2) hx hb dX12_lose_47 (by decide) ?_
  refine lv_iload_n hx hb dX12_lose_48 rfl (lv_at hl 1 rfl) ?_
  refine lv_imul hx hb dX12_lose_49 ?_
  refine lv_topi (fun y49 e49 => ?_)
  have q49 : y49.toInt = 2 * p0.toInt := by rw [e49]; exact mu_z rfl rfl (ir_c 2) r7_1a (by decide) (by decide) (by decide)
  have r49 : ir y49.toInt 0 30 := mu_r q49 (ir_c 2) r7_1a (by decide) (by decide) (by decide) (by decide)
  refine lv_iload_n hx hb dX12_lose_50 rfl (lv_at hl 2 rfl) ?_
  refine lv_iadd hx hb dX12_lose_51 ?_
  refine lv_topi (fun y51 e51 => ?_)
  have q51 : y51.toInt = y49.toInt + p1.toInt := by rw [e51]; exact ad_z rfl rfl r49 r14_1a (by decide) (by decide)
  have r51 : ir y51.toInt 0 31 := ad_r q51 r49 r14_1a (by decide) (by decide)
  refine va_lald (D := g) hx hb hK hP 2 1 rfl rfl (vi_rg rfl r51 (by decide) (by decide)) dX12_lose_52 ?_
  refine lv_topl (fun y52 e52 => ?_)
  refine lv_iload_n hx hb dX12_lose_53 rfl (lv_at hl 3 rfl) ?_
  refine lv_lshr (v := (y52 >>> (p2.toInt64 &&& 63))) hx hb dX12_lose_54 rfl ?_
  refine lv_topl (fun y54 e54 => ?_)
  refine lv_lconst (v := 1) hx hb dX12_lose_55 (by decide) ?_
  refine lv_land hx hb dX12_lose_56 ?_
  refine lv_topl (fun y56 e56 => ?_)
  have r56 : ir y56.toInt 0 1 := by rw [e56]; exact lan_y (by decide)
  refine lv_l2i (v := y56.toInt32) hx hb dX12_lose_57 rfl ?_
  refine lv_topi (fun y57 e57 => ?_)
  have q57 : y57.toInt = y56.toInt := by rw [e57]; exact li_z rfl r56 (by decide) (by decide)
  have r57 : ir y57.toInt 0 1 := q57 ▸ r56
  refine lv_istore (lv' := [(5, .int y57), (0, .ref m), (1, .int p0), (2, .int p1), (3, .int p2), (4, .int p3)]) hx hb dX12_lose_58 hl (by decide) rfl (fun ls hl => ?_)
  refine lv_aload_n hx hb dX12_lose_60 rfl (lv_at hl 1 rfl) ?_
  refine va_get (D := g) (ci := 11) (v := .ref (m_a 20)) (C := RX12) (T := TX12) (N := 56) hx hb hts iX12 hown hK hP 0 rfl rfl 20 (by decide) (hts (.fieldLink RX12 43 "CardsAtYuleModel" "lost" "[J") (List.mem_cons_of_mem _ (List.mem_append_left _ (List.mem_of_getElem? (i := 12) rfl)))) (fun _ h9 => h9) rfl dX12_lose_61 ?_
  refine lv_iconst (v := 2) hx hb dX12_lose_64 (by decide) ?_
  refine lv_iload_n hx hb dX12_lose_65 rfl (lv_at hl 2 rfl) ?_
  refine lv_imul hx hb dX12_lose_66 ?_
  refine lv_topi (fun y66 e66 => ?_)
  have q66 : y66.toInt = 2 * p0.toInt := by rw [e66]; exact mu_z rfl rfl (ir_c 2) r7_1a (by decide) (by decide) (by decide)
  have r66 : ir y66.toInt 0 30 := mu_r q66 (ir_c 2) r7_1a (by decide) (by decide) (by decide) (by decide)
  refine lv_iload_n hx hb dX12_lose_67 rfl (lv_at hl 3 rfl) ?_
  refine lv_iadd hx hb dX12_lose_68 ?_
  refine lv_topi (fun y68 e68 => ?_)
  have q68 : y68.toInt = y66.toInt + p1.toInt := by rw [e68]; exact ad_z rfl rfl r66 r14_1a (by decide) (by decide)
  have r68 : ir y68.toInt 0 31 := ad_r q68 r66 r14_1a (by decide) (by decide)
  refine lv_aload_n hx hb dX12_lose_69 rfl (lv_at hl 1 rfl) ?_
  refine va_get (D := g) (ci := 11) (v := .ref (m_a 20)) (C := RX12) (T := TX12) (N := 56) hx hb hts iX12 hown hK hP 0 rfl rfl 20 (by decide) (hts (.fieldLink RX12 43 "CardsAtYuleModel" "lost" "[J") (List.mem_cons_of_mem _ (List.mem_append_left _ (List.mem_of_getElem? (i := 12) rfl)))) (fun _ h9 => h9) rfl dX12_lose_70 ?_
  refine lv_iconst (v := 2) hx hb dX12_lose_73 (by decide) ?_
  refine lv_iload_n hx hb dX12_lose_74 rfl (lv_at hl 2 rfl) ?_
  refine lv_imul hx hb dX12_lose_75 ?_
  refine lv_topi (fun y75 e75 => ?_)
  have q75 : y75.toInt = 2 * p0.toInt := by rw [e75]; exact mu_z rfl rfl (ir_c 2) r7_1a (by decide) (by decide) (by decide)
  have r75 : ir y75.toInt 0 30 := mu_r q75 (ir_c 2) r7_1a (by decide) (by decide) (by decide) (by decide)
  refine lv_iload_n hx hb dX12_lose_76 rfl (lv_at hl 3 rfl) ?_
  refine lv_iadd hx hb dX12_lose_77 ?_
  refine lv_topi (fun y77 e77 => ?_)
  have q77 : y77.toInt = y75.toInt + p1.toInt := by rw [e77]; exact ad_z rfl rfl r75 r14_1a (by decide) (by decide)
  have r77 : ir y77.toInt 0 31 := ad_r q77 r75 r14_1a (by decide) (by decide)
  refine va_lald (D := g) hx hb hK hP 2 1 rfl rfl (vi_rg rfl r77 (by decide) (by decide)) dX12_lose_78 ?_
  refine lv_topl (fun y78 e78 => ?_)
  refine lv_iload_n hx hb dX12_lose_79 rfl (lv_at hl 4 rfl) ?_
  refine lv_iload hx hb dX12_lose_80 (lv_at hl 5 rfl) ?_
  refine ro_l (va_runS (As := [.long y78, .int p2, .int p3]) (rest := [.int y68, .ref (m_a 20)]) ⟨hx, hb, hml, hown, hts⟩ (q_X12_withBit l g cI cJ cB cZ cL y78 p2 p3 H.size ) (va_cwS 3 hts (goodIn_app (g_3 (List.mem_cons_of_mem _ (List.mem_append_left _ (List.mem_of_getElem? (i := 13) rfl))) (List.mem_cons_of_mem _ (List.mem_append_left _ (List.mem_of_getElem? (i := 14) rfl))) (List.mem_cons_of_mem _ (List.mem_append_left _ (List.mem_of_getElem? (i := 4) rfl))) (by decide +kernel)) (goodIn_sub (fun _ h => List.mem_cons_of_mem _ (List.mem_append_right _ (List.mem_append_right _ (List.mem_append_right _ (List.mem_append_right _ (List.mem_append_right _ (List.mem_append_left _ h))))))) good_v_X12_withBit)) rfl rfl rfl (by decide +kernel) ⟨Nat.le_of_ble_eq_true rfl, Nat.le_of_ble_eq_true rfl⟩) (ps_RO (wc := []) hK hP [] rfl) rfl rfl hl.1 rfl (lv_room (Nat.le_of_ble_eq_true rfl)) dX12_lose_82 ⟨Nat.le_of_ble_eq_true rfl, Nat.le_of_ble_eq_true rfl⟩) hS hA hP (fun r82 u82 H locs hw82 hP hS => ?_)
  refine va_last (D := g) hx hb hK hP hD hS 2 1 rfl rfl (vi_rg rfl r68 (by decide) (by decide)) dX12_lose_85 (fun H locs hP hD hS => ?_)
  obtain ⟨g85, e85⟩ : ∃ z, z = vp_updL m_lost_c y68.toNatClampNeg r82 := ⟨_, rfl⟩
  have hP : va_P g vwCl [(m, .inr (11, mG m_a 0 m_taped m_at m_token m_place m_value m_word m_bad m_badPlace m_fault m_faultPlace m_willing m_will m_forgot m_isDrawn m_x m_begin m_round m_roundCards m_fate m_any m_bothSend m_meanCards m_bestSum m_fitMany m_fitFirst m_fitSecond)), ((m_a 17), .inl (cI, 25, .inl m_has_c)), ((m_a 20), .inl (cJ, 160, .inr (.inl (vp_updL m_lost_c y68.toNatClampNeg r82))))] H := hP
  have hD : va_D A [(m, .inr (11, mG m_a 0 m_taped m_at m_token m_place m_value m_word m_bad m_badPlace m_fault m_faultPlace m_willing m_will m_forgot m_isDrawn m_x m_begin m_round m_roundCards m_fate m_any m_bothSend m_meanCards m_bestSum m_fitMany m_fitFirst m_fitSecond)), ((m_a 17), .inl (cI, 25, .inl m_has_c)), ((m_a 20), .inl (cJ, 160, .inr (.inl (vp_updL m_lost_c y68.toNatClampNeg r82))))] := hD
  rw [← e85] at hP hD
  refine lv_iload hx hb dX12_lose_86 (lv_at hl 0 rfl) ?_
  subst hQ
  have hP9 := hP.sub (ws' := [(m, .inr (11, mG m_a 0 m_taped m_at m_token m_place m_value m_word m_bad m_badPlace m_fault m_faultPlace m_willing m_will m_forgot m_isDrawn m_x m_begin m_round m_roundCards m_fate m_any m_bothSend m_meanCards m_bestSum m_fitMany m_fitFirst m_fitSecond)), ((m_a 17), .inl (cI, 25, .inl m_has_c)), ((m_a 20), .inl (cJ, 160, .inr (.inl g85)))]) [0, 1, 2] rfl
  have hD9 := hD.sub (ws' := [(m, .inr (11, mG m_a 0 m_taped m_at m_token m_place m_value m_word m_bad m_badPlace m_fault m_faultPlace m_willing m_will m_forgot m_isDrawn m_x m_begin m_round m_roundCards m_fate m_any m_bothSend m_meanCards m_bestSum m_fitMany m_fitFirst m_fitSecond)), ((m_a 17), .inl (cI, 25, .inl m_has_c)), ((m_a 20), .inl (cJ, 160, .inr (.inl g85)))]) [0, 1, 2] (by decide) rfl
  exact W.iret (v := y57) hx hb hr (fun t ht hW => ⟨⟨y57, (0, g85), rfl, ⟨(show ir (0 : Int32).toInt 0 0 by decide), (ir_w r57 (by decide) (by decide))⟩, ⟨by rw [ht]; exact hP9, va_K.moved hW.alike hK, hD9⟩⟩, hS.F ht⟩) hS.2.2 dX12_lose_88
def v_X12_calls : List Cond := .code yX12_calls cX12_calls 4 (some .int) :: (([.fieldLink RX12 107 "CardsAtYuleModel" "thrown" "I", .methodLink RX12 343 yX12_isYear, .instanceMethod yX12_isYear, .selects RX12 yX12_isYear yX12_isYear, .initialized RX12, .methodLink RX12 112 yX12_in, .static yX12_in, .fieldLink RX12 46 "CardsAtYuleModel" "strikes" "[J", .methodLink RX12 540 yX12_withBit, .static yX12_withBit] : List Cond) ++ (v_X12_isYear ++ (v_X12_in ++ (v_X12_withBit ++ (wsX120 ++ ([] : List Cond))))))
theorem good_v_X12_calls : v_X12_calls.all goodWord = true := ga_c (by decide +kernel) (ga_a (by decide +kernel) (ga_a good_v_X12_isYear (ga_a good_v_X12_in (ga_a good_v_X12_withBit (ga_a good_wsX120 rfl)))))
set_option maxHeartbeats 4000000 in
set_option maxRecDepth 100000 in
theorem q_X12_calls (l : Launch) (g : va_G) (cI cJ cB cZ cL : ClassId) (p0 : Int32) (p1 : Int32) (m : Nat) (m_a : Nat → Nat) (m_thrown : Int32) (m_taped : Int32) (m_at : Int32) (m_token : Int32) (m_place : Int32) (m_value : Int32) (m_word : Int64) (m_bad : Int32) (m_badPlace : Int32) (m_fault : Int32) (m_faultPlace : Int32) (m_willing : Int32) (m_will : Int32) (m_forgot : Int32) (m_isDrawn : Int32) (m_x : Int64) (m_begin : Int32) (m_round : Int32) (m_roundCards : Int32) (m_fate : Int32) (m_any : Int64) (m_bothSend : Int64) (m_meanCards : Int64) (m_bestSum : Int32) (m_fitMany : Int32) (m_fitFirst : Int64) (m_fitSecond : Int64) (m_has_c : Nat → Int32) (m_strikes_c : Nat → Int64) (sz : Nat) (hv_m_taped : ir m_taped.toInt 0 1600) (hv_m_at : ir m_at.toInt 0 1600) (hv_m_will : ir m_will.toInt 0 1) (hv_m_isDrawn : ir m_isDrawn.toInt 0 1) (ha_m_has_c : hasI m_has_c) : Met l yX12_calls v_X12_calls ({ frames := 2, cells := 0, slots := 0, locals := 47 }) (va_Pc [.ref m, .int p0, .int p1] (pRW g (tyT cI cJ cB cZ cL) [(m, .inr (11, mG m_a m_thrown m_taped m_at m_token m_place m_value m_word m_bad m_badPlace m_fault m_faultPlace m_willing m_will m_forgot m_isDrawn m_x m_begin m_round m_roundCards m_fate m_any m_bothSend m_meanCards m_bestSum m_fitMany m_fitFirst m_fitSecond)), ((m_a 17), .inl (cI, 25, .inl m_has_c)), ((m_a 21), .inl (cJ, 5, .inr (.inl m_strikes_c)))] sz)) (va_Qi (fun (r : Int32) (u : Int32 × (Nat → Int64)) => match u with | (n_m_thrown, n_m_strikes_c) => (ir n_m_thrown.toInt 0 0) ∧ (ir r.toInt (-2) 1)) (fun (u : Int32 × (Nat → Int64)) (t : State) => bRW g (tyT cI cJ cB cZ cL) (va_A [(m, .inr (11, mG m_a m_thrown m_taped m_at m_token m_place m_value m_word m_bad m_badPlace m_fault m_faultPlace m_willing m_will m_forgot m_isDrawn m_x m_begin m_round m_roundCards m_fate m_any m_bothSend m_meanCards m_bestSum m_fitMany m_fitFirst m_fitSecond)), ((m_a 17), .inl (cI, 25, .inl m_has_c)), ((m_a 21), .inl (cJ, 5, .inr (.inl m_strikes_c)))] sz) (match u with | (n_m_thrown, n_m_strikes_c) => [(m, .inr (11, mG m_a n_m_thrown m_taped m_at m_token m_place m_value m_word m_bad m_badPlace m_fault m_faultPlace m_willing m_will m_forgot m_isDrawn m_x m_begin m_round m_roundCards m_fate m_any m_bothSend m_meanCards m_bestSum m_fitMany m_fitFirst m_fitSecond)), ((m_a 17), .inl (cI, 25, .inl m_has_c)), ((m_a 21), .inl (cJ, 5, .inr (.inl n_m_strikes_c)))]) t) (va_A [(m, .inr (11, mG m_a m_thrown m_taped m_at m_token m_place m_value m_word m_bad m_badPlace m_fault m_faultPlace m_willing m_will m_forgot m_isDrawn m_x m_begin m_round m_roundCards m_fate m_any m_bothSend m_meanCards m_bestSum m_fitMany m_fitFirst m_fitSecond)), ((m_a 17), .inl (cI, 25, .inl m_has_c)), ((m_a 21), .inl (cJ, 5, .inr (.inl m_strikes_c)))] sz)) 0 0 (va_A [(m, .inr (11, mG m_a m_thrown m_taped m_at m_token m_place m_value m_word m_bad m_badPlace m_fault m_faultPlace m_willing m_will m_forgot m_isDrawn m_x m_begin m_round m_roundCards m_fate m_any m_bothSend m_meanCards m_bestSum m_fitMany m_fitFirst m_fitSecond)), ((m_a 17), .inl (cI, 25, .inl m_has_c)), ((m_a 21), .inl (cJ, 5, .inr (.inl m_strikes_c)))] sz) := by
  refine Met.ofW (cc := cX12_calls) (maxL := 4) (ret := (some .int)) (by decide) rfl ?_
  intro p e s mth args below meth c s₁ B hml hv
  obtain ⟨rfl, hsz, hP, hK, hD0⟩ := hv
  have hx := B.exec
  have hb := B.bytes
  have hr := B.returns
  have hts := atoms_spec (ws := v_X12_calls) B.pre
  have hown : s.vm.findClass RX12 = some mth.cls := findClass_of_methodNamed B.named
  have hlocks := B.notSynchronized
  clear B
  subst hsz
  have iX12 : ∀ w ∈ wsX120, w ∈ v_X12_calls := (fun _ h => List.mem_cons_of_mem _ (List.mem_append_right _ (List.mem_append_right _ (List.mem_append_right _ (List.mem_append_right _ (List.mem_append_left _ h))))))
  have hD := hD0.self (sz := s.heap.size)
  generalize hAe : (va_A [(m, .inr (11, mG m_a m_thrown m_taped m_at m_token m_place m_value m_word m_bad m_badPlace m_fault m_faultPlace m_willing m_will m_forgot m_isDrawn m_x m_begin m_round m_roundCards m_fate m_any m_bothSend m_meanCards m_bestSum m_fitMany m_fitFirst m_fitSecond)), ((m_a 17), .inl (cI, 25, .inl m_has_c)), ((m_a 21), .inl (cJ, 5, .inr (.inl m_strikes_c)))] s.heap.size) = A at hD ⊢
  have hA : ∀ q : Nat, s.heap.size ≤ q → A q := fun q h => by rw [← hAe]; exact Or.inr h
  have hS : va_S A s.heap s.heap [] := va_S.rf
  have hl := lv_entry ([.ref m, .int p0, .int p1]) (n := 4) (Nat.le_of_ble_eq_true rfl)
  rw [lg_entry_eq]
  generalize (lg_sl ([.ref m, .int p0, .int p1]) ++ List.replicate (4 - (lg_sl ([.ref m, .int p0, .int p1])).length) Slot.unset).toArray = ls at hl ⊢
  generalize ([.ref m, .int p0, .int p1] : List Value).toArray = av at hts ⊢
  generalize hQ : MQ below _ av s _ _ A = QQ
  have hl : lv_has ls 4 [(0, .ref m), (1, .int p0), (2, .int p1)] := hl
  have hP : va_P g vwCl [(m, .inr (11, mG m_a m_thrown m_taped m_at m_token m_place m_value m_word m_bad m_badPlace m_fault m_faultPlace m_willing m_will m_forgot m_isDrawn m_x m_begin m_round m_roundCards m_fate m_any m_bothSend m_meanCards m_bestSum m_fitMany m_fitFirst m_fitSecond)), ((m_a 17), .inl (cI, 25, .inl m_has_c)), ((m_a 21), .inl (cJ, 5, .inr (.inl m_strikes_c)))] s.heap := hP
  refine lv_aload_n hx hb dX12_calls_0 rfl (lv_at hl 0 rfl) ?_
  refine lv_iconst (v := 0) hx hb dX12_calls_1 (by decide) ?_
  refine va_put (D := g) (ci := 11) (v := .int 0) (ty := .int) (C := RX12) (T := TX12) (N := 56) hx hb hts iX12 tyX12 tyX12_ok nmX12 hown hK hP hD hS 0 rfl rfl 0 (by decide) (hts (.fieldLink RX12 107 "CardsAtYuleModel" "thrown" "I") (List.mem_cons_of_mem _ (List.mem_append_left _ (List.mem_of_getElem? (i := 0) rfl)))) (fun _ h9 => h9) rfl (by decide +kernel) rfl rfl (Nat.le_of_ble_eq_true rfl) dX12_calls_2 (fun H locs hP hD hS => ?_)
  have hP : va_P g vwCl [(m, .inr (11, mG m_a 0 m_taped m_at m_token m_place m_value m_word m_bad m_badPlace m_fault m_faultPlace m_willing m_will m_forgot m_isDrawn m_x m_begin m_round m_roundCards m_fate m_any m_bothSend m_meanCards m_bestSum m_fitMany m_fitFirst m_fitSecond)), ((m_a 17), .inl (cI, 25, .inl m_has_c)), ((m_a 21), .inl (cJ, 5, .inr (.inl m_strikes_c)))] H := hP
  have hD : va_D A [(m, .inr (11, mG m_a 0 m_taped m_at m_token m_place m_value m_word m_bad m_badPlace m_fault m_faultPlace m_willing m_will m_forgot m_isDrawn m_x m_begin m_round m_roundCards m_fate m_any m_bothSend m_meanCards m_bestSum m_fitMany m_fitFirst m_fitSecond)), ((m_a 17), .inl (cI, 25, .inl m_has_c)), ((m_a 21), .inl (cJ, 5, .inr (.inl m_strikes_c)))] := hD
  refine lv_aload_n hx hb dX12_calls_5 rfl (lv_at hl 0 rfl) ?_
  refine lv_iload_n hx hb dX12_calls_6 rfl (lv_at hl 1 rfl) ?_
  refine lv_i2l (v := p0.toInt64) hx hb dX12_calls_7 rfl ?_
  refine ro_i (va_runV (As := [.long p0.toInt64]) (rest := []) ⟨hx, hb, hml, hown, hts⟩ (q_X12_isYear l g cI cJ cB cZ cL p0.toInt64 p0.toInt m m_a 0 m_taped m_at m_token m_place m_value m_word m_bad m_badPlace m_fault m_faultPlace m_willing m_will m_forgot m_isDrawn m_x m_begin m_round m_roundCards m_fate m_any m_bothSend m_meanCards m_bestSum m_fitMany m_fitFirst m_fitSecond m_has_c H.size (z_i2l rfl) hv_m_taped hv_m_at hv_m_will hv_m_isDrawn ha_m_has_c) (cwV 1 hts (goodIn_app (g_4 (List.mem_cons_of_mem _ (List.mem_append_left _ (List.mem_of_getElem? (i := 1) rfl))) (List.mem_cons_of_mem _ (List.mem_append_left _ (List.mem_of_getElem? (i := 2) rfl))) (List.mem_cons_of_mem _ (List.mem_append_left _ (List.mem_of_getElem? (i := 3) rfl))) (List.mem_cons_of_mem _ (List.mem_append_left _ (List.mem_of_getElem? (i := 4) rfl))) (by decide +kernel)) (goodIn_sub (fun _ h => List.mem_cons_of_mem _ (List.mem_append_right _ (List.mem_append_left _ h))) good_v_X12_isYear)) rfl rfl rfl (by decide +kernel) ⟨Nat.le_of_ble_eq_true rfl, Nat.le_of_ble_eq_true rfl⟩) (pv_RO (q := (RX12, TX12, 56)) (ci := 11) (q0 := 0) (wc := [(m, .inr (11, mG m_a 0 m_taped m_at m_token m_place m_value m_word m_bad m_badPlace m_fault m_faultPlace m_willing m_will m_forgot m_isDrawn m_x m_begin m_round m_roundCards m_fate m_any m_bothSend m_meanCards m_bestSum m_fitMany m_fitFirst m_fitSecond)), ((m_a 17), .inl (cI, 25, .inl m_has_c))]) hK hP [0, 1] rfl rfl rfl) rfl rfl hl.1 rfl (lv_room (Nat.le_of_ble_eq_true rfl)) dX12_calls_8 ⟨Nat.le_of_ble_eq_true rfl, Nat.le_of_ble_eq_true rfl⟩) hS hA hP (fun r8 u8 H locs hw8 hP hS => ?_)
  have hw8_0 := hw8
  rcases hw8_0 with ⟨er8, fc8_0, fc8_1⟩ | er8
  rotate_left 1
  · subst er8
    refine lv_if_eq (tgt := 24) hx hb dX12_calls_11 (by decide) (fun _ => ?_) (fun c => absurd c (by decide))
    refine lv_bipush (v := (-2)) hx hb dX12_calls_24 (by decide) ?_
    subst hQ
    have hP9 := hP.sub (ws' := [(m, .inr (11, mG m_a 0 m_taped m_at m_token m_place m_value m_word m_bad m_badPlace m_fault m_faultPlace m_willing m_will m_forgot m_isDrawn m_x m_begin m_round m_roundCards m_fate m_any m_bothSend m_meanCards m_bestSum m_fitMany m_fitFirst m_fitSecond)), ((m_a 17), .inl (cI, 25, .inl m_has_c)), ((m_a 21), .inl (cJ, 5, .inr (.inl m_strikes_c)))]) [0, 1, 2] rfl
    have hD9 := hD.sub (ws' := [(m, .inr (11, mG m_a 0 m_taped m_at m_token m_place m_value m_word m_bad m_badPlace m_fault m_faultPlace m_willing m_will m_forgot m_isDrawn m_x m_begin m_round m_roundCards m_fate m_any m_bothSend m_meanCards m_bestSum m_fitMany m_fitFirst m_fitSecond)), ((m_a 17), .inl (cI, 25, .inl m_has_c)), ((m_a 21), .inl (cJ, 5, .inr (.inl m_strikes_c)))]) [0, 1, 2] (by decide) rfl
    exact W.iret (v := (-2)) hx hb hr (fun t ht hW => ⟨⟨(-2), (0, m_strikes_c), rfl, ⟨(show ir (0 : Int32).toInt 0 0 by decide), (show ir ((-2) : Int32).toInt (-2) 1 by decide)⟩, ⟨by rw [ht]; exact hP9, va_K.moved hW.alike hK, hD9⟩⟩, hS.F ht⟩) hS.2.2 dX12_calls_26
  subst er8
  have fc8_0 : 0 ≤ p0.toInt := fc8_0
  have r8_0b : ir p0.toInt 0 2147483647 := ir_leb fc8_0 (ir_c 0) (rg_all p0) (by decide)
  have fc8_1 : p0.toInt ≤ 39 := fc8_1
  have r8_1a : ir p0.toInt 0 39 := ir_lea fc8_1 r8_0b (ir_c 39) (by decide)
  refine lv_if_eq (tgt := 24) hx hb dX12_calls_11 (by decide) (fun c => absurd c (by decide)) (fun _ => ?_)
  refine lv_iload_n hx hb dX12_calls_14 rfl (lv_at hl 2 rfl) ?_
  refine lv_i2l (v := p1.toInt64) hx hb dX12_calls_15 rfl ?_
  refine lv_lconst (v := 0) hx hb dX12_calls_16 (by decide) ?_
  refine lv_lconst (v := 1) hx hb dX12_calls_17 (by decide) ?_
  refine ro_i (va_runS (As := [.long p1.toInt64, .long 0, .long 1]) (rest := []) ⟨hx, hb, hml, hown, hts⟩ (q_X12_in l g cI cJ cB cZ cL p1.toInt64 p1.toInt 0 0 1 1 H.size (z_i2l rfl) rfl rfl) (va_cwS 3 hts (goodIn_app (g_3 (List.mem_cons_of_mem _ (List.mem_append_left _ (List.mem_of_getElem? (i := 5) rfl))) (List.mem_cons_of_mem _ (List.mem_append_left _ (List.mem_of_getElem? (i := 6) rfl))) (List.mem_cons_of_mem _ (List.mem_append_left _ (List.mem_of_getElem? (i := 4) rfl))) (by decide +kernel)) (goodIn_sub (fun _ h => List.mem_cons_of_mem _ (List.mem_append_right _ (List.mem_append_right _ (List.mem_append_left _ h)))) good_v_X12_in)) rfl rfl rfl (by decide +kernel) ⟨Nat.le_of_ble_eq_true rfl, Nat.le_of_ble_eq_true rfl⟩) (ps_RO (wc := []) hK hP [] rfl) rfl rfl hl.1 rfl (lv_room (Nat.le_of_ble_eq_true rfl)) dX12_calls_18 ⟨Nat.le_of_ble_eq_true rfl, Nat.le_of_ble_eq_true rfl⟩) hS hA hP (fun r18 u18 H locs hw18 hP hS => ?_)
  have hw18_0 := hw18
  rcases hw18_0 with ⟨er18, fc18_0, fc18_1⟩ | er18
  rotate_left 1
  · subst er18
    refine lv_if_ne (tgt := 27) hx hb dX12_calls_21 (by decide) (fun c => absurd c (by decide)) (fun _ => ?_)
    refine lv_bipush (v := (-2)) hx hb dX12_calls_24 (by decide) ?_
    subst hQ
    have hP9 := hP.sub (ws' := [(m, .inr (11, mG m_a 0 m_taped m_at m_token m_place m_value m_word m_bad m_badPlace m_fault m_faultPlace m_willing m_will m_forgot m_isDrawn m_x m_begin m_round m_roundCards m_fate m_any m_bothSend m_meanCards m_bestSum m_fitMany m_fitFirst m_fitSecond)), ((m_a 17), .inl (cI, 25, .inl m_has_c)), ((m_a 21), .inl (cJ, 5, .inr (.inl m_strikes_c)))]) [0, 1, 2] rfl
    have hD9 := hD.sub (ws' := [(m, .inr (11, mG m_a 0 m_taped m_at m_token m_place m_value m_word m_bad m_badPlace m_fault m_faultPlace m_willing m_will m_forgot m_isDrawn m_x m_begin m_round m_roundCards m_fate m_any m_bothSend m_meanCards m_bestSum m_fitMany m_fitFirst m_fitSecond)), ((m_a 17), .inl (cI, 25, .inl m_has_c)), ((m_a 21), .inl (cJ, 5, .inr (.inl m_strikes_c)))]) [0, 1, 2] (by decide) rfl
    exact W.iret (v := (-2)) hx hb hr (fun t ht hW => ⟨⟨(-2), (0, m_strikes_c), rfl, ⟨(show ir (0 : Int32).toInt 0 0 by decide), (show ir ((-2) : Int32).toInt (-2) 1 by decide)⟩, ⟨by rw [ht]; exact hP9, va_K.moved hW.alike hK, hD9⟩⟩, hS.F ht⟩) hS.2.2 dX12_calls_26
  subst er18
  have fc18_0 : 0 ≤ p1.toInt := fc18_0
  have r18_0b : ir p1.toInt 0 2147483647 := ir_leb fc18_0 (ir_c 0) (rg_all p1) (by decide)
  have fc18_1 : p1.toInt ≤ 1 := fc18_1
  have r18_1a : ir p1.toInt 0 1 := ir_lea fc18_1 r18_0b (ir_c 1) (by decide)
  refine lv_if_ne (tgt := 27) hx hb dX12_calls_21 (by decide) (fun _ => ?_) (fun c => absurd c (by decide))
  refine lv_aload_n hx hb dX12_calls_27 rfl (lv_at hl 0 rfl) ?_
  refine va_get (D := g) (ci := 11) (v := .ref (m_a 21)) (C := RX12) (T := TX12) (N := 56) hx hb hts iX12 hown hK hP 0 rfl rfl 21 (by decide) (hts (.fieldLink RX12 46 "CardsAtYuleModel" "strikes" "[J") (List.mem_cons_of_mem _ (List.mem_append_left _ (List.mem_of_getElem? (i := 7) rfl)))) (fun _ h9 => h9) rfl dX12_calls_28 ?_
  refine lv_iconst (v := 0) hx hb dX12_calls_31 (by decide) ?_
  refine va_lald (D := g) hx hb hK hP 2 1 rfl rfl (vc_in (by decide)) dX12_calls_32 ?_
  refine lv_topl (nm_r (e' := (m_strikes_c 0)) rfl ?_)
  refine lv_iload_n hx hb dX12_calls_33 rfl (lv_at hl 1 rfl) ?_
  refine lv_lshr (v := ((m_strikes_c 0) >>> (p0.toInt64 &&& 63))) hx hb dX12_calls_34 rfl ?_
  refine lv_topl (fun y34 e34 => ?_)
  refine lv_lconst (v := 1) hx hb dX12_calls_35 (by decide) ?_
  refine lv_land hx hb dX12_calls_36 ?_
  refine lv_topl (fun y36 e36 => ?_)
  have r36 : ir y36.toInt 0 1 := by rw [e36]; exact lan_y (by decide)
  refine lv_l2i (v := y36.toInt32) hx hb dX12_calls_37 rfl ?_
  refine lv_topi (fun y37 e37 => ?_)
  have q37 : y37.toInt = y36.toInt := by rw [e37]; exact li_z rfl r36 (by decide) (by decide)
  have r37 : ir y37.toInt 0 1 := q37 ▸ r36
  refine lv_istore_n (lv' := [(3, .int y37), (0, .ref m), (1, .int p0), (2, .int p1)]) hx hb dX12_calls_38 rfl hl (by decide) rfl (fun ls hl => ?_)
  refine lv_aload_n hx hb dX12_calls_39 rfl (lv_at hl 1 rfl) ?_
  refine va_get (D := g) (ci := 11) (v := .ref (m_a 21)) (C := RX12) (T := TX12) (N := 56) hx hb hts iX12 hown hK hP 0 rfl rfl 21 (by decide) (hts (.fieldLink RX12 46 "CardsAtYuleModel" "strikes" "[J") (List.mem_cons_of_mem _ (List.mem_append_left _ (List.mem_of_getElem? (i := 7) rfl)))) (fun _ h9 => h9) rfl dX12_calls_40 ?_
  refine lv_iconst (v := 0) hx hb dX12_calls_43 (by decide) ?_
  refine lv_aload_n hx hb dX12_calls_44 rfl (lv_at hl 1 rfl) ?_
  refine va_get (D := g) (ci := 11) (v := .ref (m_a 21)) (C := RX12) (T := TX12) (N := 56) hx hb hts iX12 hown hK hP 0 rfl rfl 21 (by decide) (hts (.fieldLink RX12 46 "CardsAtYuleModel" "strikes" "[J") (List.mem_cons_of_mem _ (List.mem_append_left _ (List.mem_of_getElem? (i := 7) rfl)))) (fun _ h9 => h9) rfl dX12_calls_45 ?_
  refine lv_iconst (v := 0) hx hb dX12_calls_48 (by decide) ?_
  refine va_lald (D := g) hx hb hK hP 2 1 rfl rfl (vc_in (by decide)) dX12_calls_49 ?_
  refine lv_topl (nm_r (e' := (m_strikes_c 0)) rfl ?_)
  refine lv_iload_n hx hb dX12_calls_50 rfl (lv_at hl 2 rfl) ?_
  refine lv_iload_n hx hb dX12_calls_51 rfl (lv_at hl 3 rfl) ?_
  refine ro_l (va_runS (As := [.long (m_strikes_c 0), .int p0, .int p1]) (rest := [.int 0, .ref (m_a 21)]) ⟨hx, hb, hml, hown, hts⟩ (q_X12_withBit l g cI cJ cB cZ cL (m_strikes_c 0) p0 p1 H.size ) (va_cwS 3 hts (goodIn_app (g_3 (List.mem_cons_of_mem _ (List.mem_append_left _ (List.mem_of_getElem? (i := 8) rfl))) (List.mem_cons_of_mem _ (List.mem_append_left _ (List.mem_of_getElem? (i := 9) rfl))) (List.mem_cons_of_mem _ (List.mem_append_left _ (List.mem_of_getElem? (i := 4) rfl))) (by decide +kernel)) (goodIn_sub (fun _ h => List.mem_cons_of_mem _ (List.mem_append_right _ (List.mem_append_right _ (List.mem_append_right _ (List.mem_append_left _ h))))) good_v_X12_withBit)) rfl rfl rfl (by decide +kernel) ⟨Nat.le_of_ble_eq_true rfl, Nat.le_of_ble_eq_true rfl⟩) (ps_RO (wc := []) hK hP [] rfl) rfl rfl hl.1 rfl (lv_room (Nat.le_of_ble_eq_true rfl)) dX12_calls_52 ⟨Nat.le_of_ble_eq_true rfl, Nat.le_of_ble_eq_true rfl⟩) hS hA hP (fun r52 u52 H locs hw52 hP hS => ?_)
  refine va_last (D := g) hx hb hK hP hD hS 2 1 rfl rfl (vc_in (by decide)) dX12_calls_55 (fun H locs hP hD hS => ?_)
  obtain ⟨g55, e55⟩ : ∃ z, z = vp_updL m_strikes_c 0 r52 := ⟨_, rfl⟩
  have hP : va_P g vwCl [(m, .inr (11, mG m_a 0 m_taped m_at m_token m_place m_value m_word m_bad m_badPlace m_fault m_faultPlace m_willing m_will m_forgot m_isDrawn m_x m_begin m_round m_roundCards m_fate m_any m_bothSend m_meanCards m_bestSum m_fitMany m_fitFirst m_fitSecond)), ((m_a 17), .inl (cI, 25, .inl m_has_c)), ((m_a 21), .inl (cJ, 5, .inr (.inl (vp_updL m_strikes_c 0 r52))))] H := hP
  have hD : va_D A [(m, .inr (11, mG m_a 0 m_taped m_at m_token m_place m_value m_word m_bad m_badPlace m_fault m_faultPlace m_willing m_will m_forgot m_isDrawn m_x m_begin m_round m_roundCards m_fate m_any m_bothSend m_meanCards m_bestSum m_fitMany m_fitFirst m_fitSecond)), ((m_a 17), .inl (cI, 25, .inl m_has_c)), ((m_a 21), .inl (cJ, 5, .inr (.inl (vp_updL m_strikes_c 0 r52))))] := hD
  rw [← e55] at hP hD
  refine lv_iload_n hx hb dX12_calls_56 rfl (lv_at hl 0 rfl) ?_
  subst hQ
  have hP9 := hP.sub (ws' := [(m, .inr (11, mG m_a 0 m_taped m_at m_token m_place m_value m_word m_bad m_badPlace m_fault m_faultPlace m_willing m_will m_forgot m_isDrawn m_x m_begin m_round m_roundCards m_fate m_any m_bothSend m_meanCards m_bestSum m_fitMany m_fitFirst m_fitSecond)), ((m_a 17), .inl (cI, 25, .inl m_has_c)), ((m_a 21), .inl (cJ, 5, .inr (.inl g55)))]) [0, 1, 2] rfl
  have hD9 := hD.sub (ws' := [(m, .inr (11, mG m_a 0 m_taped m_at m_token m_place m_value m_word m_bad m_badPlace m_fault m_faultPlace m_willing m_will m_forgot m_isDrawn m_x m_begin m_round m_roundCards m_fate m_any m_bothSend m_meanCards m_bestSum m_fitMany m_fitFirst m_fitSecond)), ((m_a 17), .inl (cI, 25, .inl m_has_c)), ((m_a 21), .inl (cJ, 5, .inr (.inl g55)))]) [0, 1, 2] (by decide) rfl
  exact W.iret (v := y37) hx hb hr (fun t ht hW => ⟨⟨y37, (0, g55), rfl, ⟨(show ir (0 : Int32).toInt 0 0 by decide), (ir_w r37 (by decide) (by decide))⟩, ⟨by rw [ht]; exact hP9, va_K.moved hW.alike hK, hD9⟩⟩, hS.F ht⟩) hS.2.2 dX12_calls_57
def v_X12_count : List Cond := .code yX12_count cX12_count 4 (some .int) :: (([.fieldLink RX12 107 "CardsAtYuleModel" "thrown" "I", .fieldLink RX12 34 "CardsAtYuleModel" "has" "[I", .fieldLink RX12 46 "CardsAtYuleModel" "strikes" "[J", .methodLink RX12 544 yX12_bitsOf, .static yX12_bitsOf, .initialized RX12, .fieldLink RX12 43 "CardsAtYuleModel" "lost" "[J", .fieldLink RX12 31 "CardsAtYuleModel" "lines" "[I", .fieldLink RX12 124 "CardsAtYuleModel" "taped" "I", .fieldLink RX12 7 "CardsAtYuleModel" "width" "[I"] : List Cond) ++ (v_X12_bitsOf ++ (wsX120 ++ ([] : List Cond))))
theorem good_v_X12_count : v_X12_count.all goodWord = true := ga_c (by decide +kernel) (ga_a (by decide +kernel) (ga_a good_v_X12_bitsOf (ga_a good_wsX120 rfl)))
set_option maxHeartbeats 4000000 in
set_option maxRecDepth 100000 in
theorem q_X12_count (l : Launch) (g : va_G) (cI cJ cB cZ cL : ClassId) (p0 : Int32) (m : Nat) (m_a : Nat → Nat) (m_thrown : Int32) (m_taped : Int32) (m_at : Int32) (m_token : Int32) (m_place : Int32) (m_value : Int32) (m_word : Int64) (m_bad : Int32) (m_badPlace : Int32) (m_fault : Int32) (m_faultPlace : Int32) (m_willing : Int32) (m_will : Int32) (m_forgot : Int32) (m_isDrawn : Int32) (m_x : Int64) (m_begin : Int32) (m_round : Int32) (m_roundCards : Int32) (m_fate : Int32) (m_any : Int64) (m_bothSend : Int64) (m_meanCards : Int64) (m_bestSum : Int32) (m_fitMany : Int32) (m_fitFirst : Int64) (m_fitSecond : Int64) (m_has_c : Nat → Int32) (m_strikes_c : Nat → Int64) (m_lines_c : Nat → Int32) (m_width_c : Nat → Int32) (m_lost_c : Nat → Int64) (sz : Nat) (hv_m_taped : ir m_taped.toInt 0 1600) (hv_m_at : ir m_at.toInt 0 1600) (hv_m_will : ir m_will.toInt 0 1) (hv_m_isDrawn : ir m_isDrawn.toInt 0 1) (ha_m_has_c : hasI m_has_c) : Met l yX12_count v_X12_count ({ frames := 1, cells := 0, slots := 0, locals := 24 }) (va_Pc [.ref m, .int p0] (pRW g (tyT cI cJ cB cZ cL) [(m, .inr (11, mG m_a m_thrown m_taped m_at m_token m_place m_value m_word m_bad m_badPlace m_fault m_faultPlace m_willing m_will m_forgot m_isDrawn m_x m_begin m_round m_roundCards m_fate m_any m_bothSend m_meanCards m_bestSum m_fitMany m_fitFirst m_fitSecond)), ((m_a 17), .inl (cI, 25, .inl m_has_c)), ((m_a 21), .inl (cJ, 5, .inr (.inl m_strikes_c))), ((m_a 16), .inl (cI, 5, .inl m_lines_c)), ((m_a 1), .inl (cI, 4, .inl m_width_c)), ((m_a 20), .inl (cJ, 160, .inr (.inl m_lost_c)))] sz)) (va_Qi (fun (r : Int32) (u : Int32) => match u with | n_m_thrown => (ir n_m_thrown.toInt 0 0)) (fun (u : Int32) (t : State) => bRW g (tyT cI cJ cB cZ cL) (va_A [(m, .inr (11, mG m_a m_thrown m_taped m_at m_token m_place m_value m_word m_bad m_badPlace m_fault m_faultPlace m_willing m_will m_forgot m_isDrawn m_x m_begin m_round m_roundCards m_fate m_any m_bothSend m_meanCards m_bestSum m_fitMany m_fitFirst m_fitSecond)), ((m_a 17), .inl (cI, 25, .inl m_has_c)), ((m_a 21), .inl (cJ, 5, .inr (.inl m_strikes_c))), ((m_a 16), .inl (cI, 5, .inl m_lines_c)), ((m_a 1), .inl (cI, 4, .inl m_width_c)), ((m_a 20), .inl (cJ, 160, .inr (.inl m_lost_c)))] sz) (match u with | n_m_thrown => [(m, .inr (11, mG m_a n_m_thrown m_taped m_at m_token m_place m_value m_word m_bad m_badPlace m_fault m_faultPlace m_willing m_will m_forgot m_isDrawn m_x m_begin m_round m_roundCards m_fate m_any m_bothSend m_meanCards m_bestSum m_fitMany m_fitFirst m_fitSecond)), ((m_a 17), .inl (cI, 25, .inl m_has_c)), ((m_a 21), .inl (cJ, 5, .inr (.inl m_strikes_c))), ((m_a 16), .inl (cI, 5, .inl m_lines_c)), ((m_a 1), .inl (cI, 4, .inl m_width_c)), ((m_a 20), .inl (cJ, 160, .inr (.inl m_lost_c)))]) t) (va_A [(m, .inr (11, mG m_a m_thrown m_taped m_at m_token m_place m_value m_word m_bad m_badPlace m_fault m_faultPlace m_willing m_will m_forgot m_isDrawn m_x m_begin m_round m_roundCards m_fate m_any m_bothSend m_meanCards m_bestSum m_fitMany m_fitFirst m_fitSecond)), ((m_a 17), .inl (cI, 25, .inl m_has_c)), ((m_a 21), .inl (cJ, 5, .inr (.inl m_strikes_c))), ((m_a 16), .inl (cI, 5, .inl m_lines_c)), ((m_a 1), .inl (cI, 4, .inl m_width_c)), ((m_a 20), .inl (cJ, 160, .inr (.inl m_lost_c)))] sz)) 0 0 (va_A [(m, .inr (11, mG m_a m_thrown m_taped m_at m_token m_place m_value m_word m_bad m_badPlace m_fault m_faultPlace m_willing m_will m_forgot m_isDrawn m_x m_begin m_round m_roundCards m_fate m_any m_bothSend m_meanCards m_bestSum m_fitMany m_fitFirst m_fitSecond)), ((m_a 17), .inl (cI, 25, .inl m_has_c)), ((m_a 21), .inl (cJ, 5, .inr (.inl m_strikes_c))), ((m_a 16), .inl (cI, 5, .inl m_lines_c)), ((m_a 1), .inl (cI, 4, .inl m_width_c)), ((m_a 20), .inl (cJ, 160, .inr (.inl m_lost_c)))] sz) := by
  refine Met.ofW (cc := cX12_count) (maxL := 4) (ret := (some .int)) (by decide) rfl ?_
  intro p e s mth args below meth c s₁ B hml hv
  obtain ⟨rfl, hsz, hP, hK, hD0⟩ := hv
  have hx := B.exec
  have hb := B.bytes
  have hr := B.returns
  have hts := atoms_spec (ws := v_X12_count) B.pre
  have hown : s.vm.findClass RX12 = some mth.cls := findClass_of_methodNamed B.named
  have hlocks := B.notSynchronized
  clear B
  subst hsz
  have iX12 : ∀ w ∈ wsX120, w ∈ v_X12_count := (fun _ h => List.mem_cons_of_mem _ (List.mem_append_right _ (List.mem_append_right _ (List.mem_append_left _ h))))
  have hD := hD0.self (sz := s.heap.size)
  generalize hAe : (va_A [(m, .inr (11, mG m_a m_thrown m_taped m_at m_token m_place m_value m_word m_bad m_badPlace m_fault m_faultPlace m_willing m_will m_forgot m_isDrawn m_x m_begin m_round m_roundCards m_fate m_any m_bothSend m_meanCards m_bestSum m_fitMany m_fitFirst m_fitSecond)), ((m_a 17), .inl (cI, 25, .inl m_has_c)), ((m_a 21), .inl (cJ, 5, .inr (.inl m_strikes_c))), ((m_a 16), .inl (cI, 5, .inl m_lines_c)), ((m_a 1), .inl (cI, 4, .inl m_width_c)), ((m_a 20), .inl (cJ, 160, .inr (.inl m_lost_c)))] s.heap.size) = A at hD ⊢
  have hA : ∀ q : Nat, s.heap.size ≤ q → A q := fun q h => by rw [← hAe]; exact Or.inr h
  have hS : va_S A s.heap s.heap [] := va_S.rf
  have hl := lv_entry ([.ref m, .int p0]) (n := 4) (Nat.le_of_ble_eq_true rfl)
  rw [lg_entry_eq]
  generalize (lg_sl ([.ref m, .int p0]) ++ List.replicate (4 - (lg_sl ([.ref m, .int p0])).length) Slot.unset).toArray = ls at hl ⊢
  generalize ([.ref m, .int p0] : List Value).toArray = av at hts ⊢
  generalize hQ : MQ below _ av s _ _ A = QQ
  have hl : lv_has ls 4 [(0, .ref m), (1, .int p0)] := hl
  have hP : va_P g vwCl [(m, .inr (11, mG m_a m_thrown m_taped m_at m_token m_place m_value m_word m_bad m_badPlace m_fault m_faultPlace m_willing m_will m_forgot m_isDrawn m_x m_begin m_round m_roundCards m_fate m_any m_bothSend m_meanCards m_bestSum m_fitMany m_fitFirst m_fitSecond)), ((m_a 17), .inl (cI, 25, .inl m_has_c)), ((m_a 21), .inl (cJ, 5, .inr (.inl m_strikes_c))), ((m_a 16), .inl (cI, 5, .inl m_lines_c)), ((m_a 1), .inl (cI, 4, .inl m_width_c)), ((m_a 20), .inl (cJ, 160, .inr (.inl m_lost_c)))] s.heap := hP
  refine lv_aload_n hx hb dX12_count_0 rfl (lv_at hl 0 rfl) ?_
  refine lv_iconst (v := 0) hx hb dX12_count_1 (by decide) ?_
  refine va_put (D := g) (ci := 11) (v := .int 0) (ty := .int) (C := RX12) (T := TX12) (N := 56) hx hb hts iX12 tyX12 tyX12_ok nmX12 hown hK hP hD hS 0 rfl rfl 0 (by decide) (hts (.fieldLink RX12 107 "CardsAtYuleModel" "thrown" "I") (List.mem_cons_of_mem _ (List.mem_append_left _ (List.mem_of_getElem? (i := 0) rfl)))) (fun _ h9 => h9) rfl (by decide +kernel) rfl rfl (Nat.le_of_ble_eq_true rfl) dX12_count_2 (fun H locs hP hD hS => ?_)
  have hP : va_P g vwCl [(m, .inr (11, mG m_a 0 m_taped m_at m_token m_place m_value m_word m_bad m_badPlace m_fault m_faultPlace m_willing m_will m_forgot m_isDrawn m_x m_begin m_round m_roundCards m_fate m_any m_bothSend m_meanCards m_bestSum m_fitMany m_fitFirst m_fitSecond)), ((m_a 17), .inl (cI, 25, .inl m_has_c)), ((m_a 21), .inl (cJ, 5, .inr (.inl m_strikes_c))), ((m_a 16), .inl (cI, 5, .inl m_lines_c)), ((m_a 1), .inl (cI, 4, .inl m_width_c)), ((m_a 20), .inl (cJ, 160, .inr (.inl m_lost_c)))] H := hP
  have hD : va_D A [(m, .inr (11, mG m_a 0 m_taped m_at m_token m_place m_value m_word m_bad m_badPlace m_fault m_faultPlace m_willing m_will m_forgot m_isDrawn m_x m_begin m_round m_roundCards m_fate m_any m_bothSend m_meanCards m_bestSum m_fitMany m_fitFirst m_fitSecond)), ((m_a 17), .inl (cI, 25, .inl m_has_c)), ((m_a 21), .inl (cJ, 5, .inr (.inl m_strikes_c))), ((m_a 16), .inl (cI, 5, .inl m_lines_c)), ((m_a 1), .inl (cI, 4, .inl m_width_c)), ((m_a 20), .inl (cJ, 160, .inr (.inl m_lost_c)))] := hD
  refine lv_iconst (v := 0) hx hb dX12_count_5 (by decide) ?_
  refine lv_istore_n (lv' := [(2, .int 0), (0, .ref m), (1, .int p0)]) hx hb dX12_count_6 rfl hl (by decide) rfl (fun ls hl => ?_)
  refine lv_iload_n hx hb dX12_count_7 rfl (lv_at hl 2 rfl) ?_
  rcases tsw 9 p0 with hz8 | ⟨j8, hj8, ej8⟩
  · refine lv_tableOut (tgt := 188) hx hb dX12_count_8 hz8 (by decide) ?_
    refine lv_iconst (v := (-1)) hx hb dX12_count_188 (by decide) ?_
    subst hQ
    have hP9 := hP.sub (ws' := [(m, .inr (11, mG m_a 0 m_taped m_at m_token m_place m_value m_word m_bad m_badPlace m_fault m_faultPlace m_willing m_will m_forgot m_isDrawn m_x m_begin m_round m_roundCards m_fate m_any m_bothSend m_meanCards m_bestSum m_fitMany m_fitFirst m_fitSecond)), ((m_a 17), .inl (cI, 25, .inl m_has_c)), ((m_a 21), .inl (cJ, 5, .inr (.inl m_strikes_c))), ((m_a 16), .inl (cI, 5, .inl m_lines_c)), ((m_a 1), .inl (cI, 4, .inl m_width_c)), ((m_a 20), .inl (cJ, 160, .inr (.inl m_lost_c)))]) [0, 1, 2, 3, 4, 5] rfl
    have hD9 := hD.sub (ws' := [(m, .inr (11, mG m_a 0 m_taped m_at m_token m_place m_value m_word m_bad m_badPlace m_fault m_faultPlace m_willing m_will m_forgot m_isDrawn m_x m_begin m_round m_roundCards m_fate m_any m_bothSend m_meanCards m_bestSum m_fitMany m_fitFirst m_fitSecond)), ((m_a 17), .inl (cI, 25, .inl m_has_c)), ((m_a 21), .inl (cJ, 5, .inr (.inl m_strikes_c))), ((m_a 16), .inl (cI, 5, .inl m_lines_c)), ((m_a 1), .inl (cI, 4, .inl m_width_c)), ((m_a 20), .inl (cJ, 160, .inr (.inl m_lost_c)))]) [0, 1, 2, 3, 4, 5] (by decide) rfl
    exact W.iret (v := (-1)) hx hb hr (fun t ht hW => ⟨⟨(-1), 0, rfl, (show ir (0 : Int32).toInt 0 0 by decide), ⟨by rw [ht]; exact hP9, va_K.moved hW.alike hK, hD9⟩⟩, hS.F ht⟩) hS.2.2 dX12_count_189
  · match j8, hj8, ej8 with
    | 0, _, ej8 =>
        have rs64_0 : ir p0.toInt 0 0 := sw_c ej8 (by decide)
        rw [show p0 = 0 from ej8]
        refine lv_tableIn (off := 56) (tgt := 64) hx hb dX12_count_8 (by decide) (by decide) (by decide) (by decide) ?_
        refine lv_aload_n hx hb dX12_count_64 rfl (lv_at hl 1 rfl) ?_
        refine va_get (D := g) (ci := 11) (v := .ref (m_a 17)) (C := RX12) (T := TX12) (N := 56) hx hb hts iX12 hown hK hP 0 rfl rfl 17 (by decide) (hts (.fieldLink RX12 34 "CardsAtYuleModel" "has" "[I") (List.mem_cons_of_mem _ (List.mem_append_left _ (List.mem_of_getElem? (i := 1) rfl)))) (fun _ h9 => h9) rfl dX12_count_65 ?_
        refine lv_iconst (v := 3) hx hb dX12_count_68 (by decide) ?_
        refine va_iald (D := g) hx hb hK hP 1 0 rfl rfl (vc_in (by decide)) dX12_count_69 ?_
        refine lv_topi (nm_r (e' := (m_has_c 3)) rfl ?_)
        have r69 : ir (m_has_c 3).toInt 0 10 := hasI_3 ha_m_has_c 0 (by decide)
        subst hQ
        have hP9 := hP.sub (ws' := [(m, .inr (11, mG m_a 0 m_taped m_at m_token m_place m_value m_word m_bad m_badPlace m_fault m_faultPlace m_willing m_will m_forgot m_isDrawn m_x m_begin m_round m_roundCards m_fate m_any m_bothSend m_meanCards m_bestSum m_fitMany m_fitFirst m_fitSecond)), ((m_a 17), .inl (cI, 25, .inl m_has_c)), ((m_a 21), .inl (cJ, 5, .inr (.inl m_strikes_c))), ((m_a 16), .inl (cI, 5, .inl m_lines_c)), ((m_a 1), .inl (cI, 4, .inl m_width_c)), ((m_a 20), .inl (cJ, 160, .inr (.inl m_lost_c)))]) [0, 1, 2, 3, 4, 5] rfl
        have hD9 := hD.sub (ws' := [(m, .inr (11, mG m_a 0 m_taped m_at m_token m_place m_value m_word m_bad m_badPlace m_fault m_faultPlace m_willing m_will m_forgot m_isDrawn m_x m_begin m_round m_roundCards m_fate m_any m_bothSend m_meanCards m_bestSum m_fitMany m_fitFirst m_fitSecond)), ((m_a 17), .inl (cI, 25, .inl m_has_c)), ((m_a 21), .inl (cJ, 5, .inr (.inl m_strikes_c))), ((m_a 16), .inl (cI, 5, .inl m_lines_c)), ((m_a 1), .inl (cI, 4, .inl m_width_c)), ((m_a 20), .inl (cJ, 160, .inr (.inl m_lost_c)))]) [0, 1, 2, 3, 4, 5] (by decide) rfl
        exact W.iret (v := (m_has_c 3)) hx hb hr (fun t ht hW => ⟨⟨(m_has_c 3), 0, rfl, (show ir (0 : Int32).toInt 0 0 by decide), ⟨by rw [ht]; exact hP9, va_K.moved hW.alike hK, hD9⟩⟩, hS.F ht⟩) hS.2.2 dX12_count_70
    | 1, _, ej8 =>
        have rs71_1 : ir p0.toInt 1 1 := sw_c ej8 (by decide)
        rw [show p0 = 1 from ej8]
        refine lv_tableIn (off := 63) (tgt := 71) hx hb dX12_count_8 (by decide) (by decide) (by decide) (by decide) ?_
        refine lv_aload_n hx hb dX12_count_71 rfl (lv_at hl 1 rfl) ?_
        refine va_get (D := g) (ci := 11) (v := .ref (m_a 17)) (C := RX12) (T := TX12) (N := 56) hx hb hts iX12 hown hK hP 0 rfl rfl 17 (by decide) (hts (.fieldLink RX12 34 "CardsAtYuleModel" "has" "[I") (List.mem_cons_of_mem _ (List.mem_append_left _ (List.mem_of_getElem? (i := 1) rfl)))) (fun _ h9 => h9) rfl dX12_count_72 ?_
        refine lv_iconst (v := 4) hx hb dX12_count_75 (by decide) ?_
        refine va_iald (D := g) hx hb hK hP 1 0 rfl rfl (vc_in (by decide)) dX12_count_76 ?_
        refine lv_topi (nm_r (e' := (m_has_c 4)) rfl ?_)
        have r76 : ir (m_has_c 4).toInt 0 16 := hasI_4 ha_m_has_c 0 (by decide)
        subst hQ
        have hP9 := hP.sub (ws' := [(m, .inr (11, mG m_a 0 m_taped m_at m_token m_place m_value m_word m_bad m_badPlace m_fault m_faultPlace m_willing m_will m_forgot m_isDrawn m_x m_begin m_round m_roundCards m_fate m_any m_bothSend m_meanCards m_bestSum m_fitMany m_fitFirst m_fitSecond)), ((m_a 17), .inl (cI, 25, .inl m_has_c)), ((m_a 21), .inl (cJ, 5, .inr (.inl m_strikes_c))), ((m_a 16), .inl (cI, 5, .inl m_lines_c)), ((m_a 1), .inl (cI, 4, .inl m_width_c)), ((m_a 20), .inl (cJ, 160, .inr (.inl m_lost_c)))]) [0, 1, 2, 3, 4, 5] rfl
        have hD9 := hD.sub (ws' := [(m, .inr (11, mG m_a 0 m_taped m_at m_token m_place m_value m_word m_bad m_badPlace m_fault m_faultPlace m_willing m_will m_forgot m_isDrawn m_x m_begin m_round m_roundCards m_fate m_any m_bothSend m_meanCards m_bestSum m_fitMany m_fitFirst m_fitSecond)), ((m_a 17), .inl (cI, 25, .inl m_has_c)), ((m_a 21), .inl (cJ, 5, .inr (.inl m_strikes_c))), ((m_a 16), .inl (cI, 5, .inl m_lines_c)), ((m_a 1), .inl (cI, 4, .inl m_width_c)), ((m_a 20), .inl (cJ, 160, .inr (.inl m_lost_c)))]) [0, 1, 2, 3, 4, 5] (by decide) rfl
        exact W.iret (v := (m_has_c 4)) hx hb hr (fun t ht hW => ⟨⟨(m_has_c 4), 0, rfl, (show ir (0 : Int32).toInt 0 0 by decide), ⟨by rw [ht]; exact hP9, va_K.moved hW.alike hK, hD9⟩⟩, hS.F ht⟩) hS.2.2 dX12_count_77
    | 2, _, ej8 =>
        have rs78_2 : ir p0.toInt 2 2 := sw_c ej8 (by decide)
        rw [show p0 = 2 from ej8]
        refine lv_tableIn (off := 70) (tgt := 78) hx hb dX12_count_8 (by decide) (by decide) (by decide) (by decide) ?_
        refine lv_aload_n hx hb dX12_count_78 rfl (lv_at hl 1 rfl) ?_
        refine va_get (D := g) (ci := 11) (v := .ref (m_a 17)) (C := RX12) (T := TX12) (N := 56) hx hb hts iX12 hown hK hP 0 rfl rfl 17 (by decide) (hts (.fieldLink RX12 34 "CardsAtYuleModel" "has" "[I") (List.mem_cons_of_mem _ (List.mem_append_left _ (List.mem_of_getElem? (i := 1) rfl)))) (fun _ h9 => h9) rfl dX12_count_79 ?_
        refine lv_iconst (v := 0) hx hb dX12_count_82 (by decide) ?_
        refine va_iald (D := g) hx hb hK hP 1 0 rfl rfl (vc_in (by decide)) dX12_count_83 ?_
        refine lv_topi (nm_r (e' := (m_has_c 0)) rfl ?_)
        have r83 : ir (m_has_c 0).toInt 0 40 := hasI_0 ha_m_has_c 0 (by decide)
        subst hQ
        have hP9 := hP.sub (ws' := [(m, .inr (11, mG m_a 0 m_taped m_at m_token m_place m_value m_word m_bad m_badPlace m_fault m_faultPlace m_willing m_will m_forgot m_isDrawn m_x m_begin m_round m_roundCards m_fate m_any m_bothSend m_meanCards m_bestSum m_fitMany m_fitFirst m_fitSecond)), ((m_a 17), .inl (cI, 25, .inl m_has_c)), ((m_a 21), .inl (cJ, 5, .inr (.inl m_strikes_c))), ((m_a 16), .inl (cI, 5, .inl m_lines_c)), ((m_a 1), .inl (cI, 4, .inl m_width_c)), ((m_a 20), .inl (cJ, 160, .inr (.inl m_lost_c)))]) [0, 1, 2, 3, 4, 5] rfl
        have hD9 := hD.sub (ws' := [(m, .inr (11, mG m_a 0 m_taped m_at m_token m_place m_value m_word m_bad m_badPlace m_fault m_faultPlace m_willing m_will m_forgot m_isDrawn m_x m_begin m_round m_roundCards m_fate m_any m_bothSend m_meanCards m_bestSum m_fitMany m_fitFirst m_fitSecond)), ((m_a 17), .inl (cI, 25, .inl m_has_c)), ((m_a 21), .inl (cJ, 5, .inr (.inl m_strikes_c))), ((m_a 16), .inl (cI, 5, .inl m_lines_c)), ((m_a 1), .inl (cI, 4, .inl m_width_c)), ((m_a 20), .inl (cJ, 160, .inr (.inl m_lost_c)))]) [0, 1, 2, 3, 4, 5] (by decide) rfl
        exact W.iret (v := (m_has_c 0)) hx hb hr (fun t ht hW => ⟨⟨(m_has_c 0), 0, rfl, (show ir (0 : Int32).toInt 0 0 by decide), ⟨by rw [ht]; exact hP9, va_K.moved hW.alike hK, hD9⟩⟩, hS.F ht⟩) hS.2.2 dX12_count_84
    | 3, _, ej8 =>
        have rs85_3 : ir p0.toInt 3 3 := sw_c ej8 (by decide)
        rw [show p0 = 3 from ej8]
        refine lv_tableIn (off := 77) (tgt := 85) hx hb dX12_count_8 (by decide) (by decide) (by decide) (by decide) ?_
        refine lv_aload_n hx hb dX12_count_85 rfl (lv_at hl 1 rfl) ?_
        refine va_get (D := g) (ci := 11) (v := .ref (m_a 17)) (C := RX12) (T := TX12) (N := 56) hx hb hts iX12 hown hK hP 0 rfl rfl 17 (by decide) (hts (.fieldLink RX12 34 "CardsAtYuleModel" "has" "[I") (List.mem_cons_of_mem _ (List.mem_append_left _ (List.mem_of_getElem? (i := 1) rfl)))) (fun _ h9 => h9) rfl dX12_count_86 ?_
        refine lv_iconst (v := 1) hx hb dX12_count_89 (by decide) ?_
        refine va_iald (D := g) hx hb hK hP 1 0 rfl rfl (vc_in (by decide)) dX12_count_90 ?_
        refine lv_topi (nm_r (e' := (m_has_c 1)) rfl ?_)
        subst hQ
        have hP9 := hP.sub (ws' := [(m, .inr (11, mG m_a 0 m_taped m_at m_token m_place m_value m_word m_bad m_badPlace m_fault m_faultPlace m_willing m_will m_forgot m_isDrawn m_x m_begin m_round m_roundCards m_fate m_any m_bothSend m_meanCards m_bestSum m_fitMany m_fitFirst m_fitSecond)), ((m_a 17), .inl (cI, 25, .inl m_has_c)), ((m_a 21), .inl (cJ, 5, .inr (.inl m_strikes_c))), ((m_a 16), .inl (cI, 5, .inl m_lines_c)), ((m_a 1), .inl (cI, 4, .inl m_width_c)), ((m_a 20), .inl (cJ, 160, .inr (.inl m_lost_c)))]) [0, 1, 2, 3, 4, 5] rfl
        have hD9 := hD.sub (ws' := [(m, .inr (11, mG m_a 0 m_taped m_at m_token m_place m_value m_word m_bad m_badPlace m_fault m_faultPlace m_willing m_will m_forgot m_isDrawn m_x m_begin m_round m_roundCards m_fate m_any m_bothSend m_meanCards m_bestSum m_fitMany m_fitFirst m_fitSecond)), ((m_a 17), .inl (cI, 25, .inl m_has_c)), ((m_a 21), .inl (cJ, 5, .inr (.inl m_strikes_c))), ((m_a 16), .inl (cI, 5, .inl m_lines_c)), ((m_a 1), .inl (cI, 4, .inl m_width_c)), ((m_a 20), .inl (cJ, 160, .inr (.inl m_lost_c)))]) [0, 1, 2, 3, 4, 5] (by decide) rfl
        exact W.iret (v := (m_has_c 1)) hx hb hr (fun t ht hW => ⟨⟨(m_has_c 1), 0, rfl, (show ir (0 : Int32).toInt 0 0 by decide), ⟨by rw [ht]; exact hP9, va_K.moved hW.alike hK, hD9⟩⟩, hS.F ht⟩) hS.2.2 dX12_count_91
    | 4, _, ej8 =>
        have rs92_4 : ir p0.toInt 4 4 := sw_c ej8 (by decide)
        rw [show p0 = 4 from ej8]
        refine lv_tableIn (off := 84) (tgt := 92) hx hb dX12_count_8 (by decide) (by decide) (by decide) (by decide) ?_
        refine lv_aload_n hx hb dX12_count_92 rfl (lv_at hl 1 rfl) ?_
        refine va_get (D := g) (ci := 11) (v := .ref (m_a 17)) (C := RX12) (T := TX12) (N := 56) hx hb hts iX12 hown hK hP 0 rfl rfl 17 (by decide) (hts (.fieldLink RX12 34 "CardsAtYuleModel" "has" "[I") (List.mem_cons_of_mem _ (List.mem_append_left _ (List.mem_of_getElem? (i := 1) rfl)))) (fun _ h9 => h9) rfl dX12_count_93 ?_
        refine lv_iconst (v := 2) hx hb dX12_count_96 (by decide) ?_
        refine va_iald (D := g) hx hb hK hP 1 0 rfl rfl (vc_in (by decide)) dX12_count_97 ?_
        refine lv_topi (nm_r (e' := (m_has_c 2)) rfl ?_)
        subst hQ
        have hP9 := hP.sub (ws' := [(m, .inr (11, mG m_a 0 m_taped m_at m_token m_place m_value m_word m_bad m_badPlace m_fault m_faultPlace m_willing m_will m_forgot m_isDrawn m_x m_begin m_round m_roundCards m_fate m_any m_bothSend m_meanCards m_bestSum m_fitMany m_fitFirst m_fitSecond)), ((m_a 17), .inl (cI, 25, .inl m_has_c)), ((m_a 21), .inl (cJ, 5, .inr (.inl m_strikes_c))), ((m_a 16), .inl (cI, 5, .inl m_lines_c)), ((m_a 1), .inl (cI, 4, .inl m_width_c)), ((m_a 20), .inl (cJ, 160, .inr (.inl m_lost_c)))]) [0, 1, 2, 3, 4, 5] rfl
        have hD9 := hD.sub (ws' := [(m, .inr (11, mG m_a 0 m_taped m_at m_token m_place m_value m_word m_bad m_badPlace m_fault m_faultPlace m_willing m_will m_forgot m_isDrawn m_x m_begin m_round m_roundCards m_fate m_any m_bothSend m_meanCards m_bestSum m_fitMany m_fitFirst m_fitSecond)), ((m_a 17), .inl (cI, 25, .inl m_has_c)), ((m_a 21), .inl (cJ, 5, .inr (.inl m_strikes_c))), ((m_a 16), .inl (cI, 5, .inl m_lines_c)), ((m_a 1), .inl (cI, 4, .inl m_width_c)), ((m_a 20), .inl (cJ, 160, .inr (.inl m_lost_c)))]) [0, 1, 2, 3, 4, 5] (by decide) rfl
        exact W.iret (v := (m_has_c 2)) hx hb hr (fun t ht hW => ⟨⟨(m_has_c 2), 0, rfl, (show ir (0 : Int32).toInt 0 0 by decide), ⟨by rw [ht]; exact hP9, va_K.moved hW.alike hK, hD9⟩⟩, hS.F ht⟩) hS.2.2 dX12_count_98
    | 5, _, ej8 =>
        have rs99_5 : ir p0.toInt 5 5 := sw_c ej8 (by decide)
        rw [show p0 = 5 from ej8]
        refine lv_tableIn (off := 91) (tgt := 99) hx hb dX12_count_8 (by decide) (by decide) (by decide) (by decide) ?_
        refine lv_aload_n hx hb dX12_count_99 rfl (lv_at hl 1 rfl) ?_
        refine va_get (D := g) (ci := 11) (v := .ref (m_a 21)) (C := RX12) (T := TX12) (N := 56) hx hb hts iX12 hown hK hP 0 rfl rfl 21 (by decide) (hts (.fieldLink RX12 46 "CardsAtYuleModel" "strikes" "[J") (List.mem_cons_of_mem _ (List.mem_append_left _ (List.mem_of_getElem? (i := 2) rfl)))) (fun _ h9 => h9) rfl dX12_count_100 ?_
        refine lv_iconst (v := 0) hx hb dX12_count_103 (by decide) ?_
        refine va_lald (D := g) hx hb hK hP 2 1 rfl rfl (vc_in (by decide)) dX12_count_104 ?_
        refine lv_topl (nm_r (e' := (m_strikes_c 0)) rfl ?_)
        refine ro_i (va_runS (As := [.long (m_strikes_c 0)]) (rest := []) ⟨hx, hb, hml, hown, hts⟩ (q_X12_bitsOf l g cI cJ cB cZ cL (m_strikes_c 0) H.size ) (va_cwS 1 hts (goodIn_app (g_3 (List.mem_cons_of_mem _ (List.mem_append_left _ (List.mem_of_getElem? (i := 3) rfl))) (List.mem_cons_of_mem _ (List.mem_append_left _ (List.mem_of_getElem? (i := 4) rfl))) (List.mem_cons_of_mem _ (List.mem_append_left _ (List.mem_of_getElem? (i := 5) rfl))) (by decide +kernel)) (goodIn_sub (fun _ h => List.mem_cons_of_mem _ (List.mem_append_right _ (List.mem_append_left _ h))) good_v_X12_bitsOf)) rfl rfl rfl (by decide +kernel) ⟨Nat.le_of_ble_eq_true rfl, Nat.le_of_ble_eq_true rfl⟩) (ps_RO (wc := []) hK hP [] rfl) rfl rfl hl.1 rfl (lv_room (Nat.le_of_ble_eq_true rfl)) dX12_count_105 ⟨Nat.le_of_ble_eq_true rfl, Nat.le_of_ble_eq_true rfl⟩) hS hA hP (fun r105 u105 H locs hw105 hP hS => ?_)
        subst hQ
        have hP9 := hP.sub (ws' := [(m, .inr (11, mG m_a 0 m_taped m_at m_token m_place m_value m_word m_bad m_badPlace m_fault m_faultPlace m_willing m_will m_forgot m_isDrawn m_x m_begin m_round m_roundCards m_fate m_any m_bothSend m_meanCards m_bestSum m_fitMany m_fitFirst m_fitSecond)), ((m_a 17), .inl (cI, 25, .inl m_has_c)), ((m_a 21), .inl (cJ, 5, .inr (.inl m_strikes_c))), ((m_a 16), .inl (cI, 5, .inl m_lines_c)), ((m_a 1), .inl (cI, 4, .inl m_width_c)), ((m_a 20), .inl (cJ, 160, .inr (.inl m_lost_c)))]) [0, 1, 2, 3, 4, 5] rfl
        have hD9 := hD.sub (ws' := [(m, .inr (11, mG m_a 0 m_taped m_at m_token m_place m_value m_word m_bad m_badPlace m_fault m_faultPlace m_willing m_will m_forgot m_isDrawn m_x m_begin m_round m_roundCards m_fate m_any m_bothSend m_meanCards m_bestSum m_fitMany m_fitFirst m_fitSecond)), ((m_a 17), .inl (cI, 25, .inl m_has_c)), ((m_a 21), .inl (cJ, 5, .inr (.inl m_strikes_c))), ((m_a 16), .inl (cI, 5, .inl m_lines_c)), ((m_a 1), .inl (cI, 4, .inl m_width_c)), ((m_a 20), .inl (cJ, 160, .inr (.inl m_lost_c)))]) [0, 1, 2, 3, 4, 5] (by decide) rfl
        exact W.iret (v := r105) hx hb hr (fun t ht hW => ⟨⟨r105, 0, rfl, (show ir (0 : Int32).toInt 0 0 by decide), ⟨by rw [ht]; exact hP9, va_K.moved hW.alike hK, hD9⟩⟩, hS.F ht⟩) hS.2.2 dX12_count_108
    | 6, _, ej8 =>
        have rs109_6 : ir p0.toInt 6 6 := sw_c ej8 (by decide)
        rw [show p0 = 6 from ej8]
        refine lv_tableIn (off := 101) (tgt := 109) hx hb dX12_count_8 (by decide) (by decide) (by decide) (by decide) ?_
        refine lv_iconst (v := 0) hx hb dX12_count_109 (by decide) ?_
        refine lv_istore_n (lv' := [(3, .int 0), (2, .int 0), (0, .ref m), (1, .int p0)]) hx hb dX12_count_110 rfl hl (by decide) rfl (fun ls hl => ?_)
        have J111 : ∀ (n111 : Nat) (j111_l2 : Int32) (j111_l3 : Int32) (H : Heap) (locs : List Loc) (ls : Array Slot), (33 - j111_l3.toInt).toNat < n111 → (ir j111_l3.toInt 0 32) → va_P g vwCl [(m, .inr (11, mG m_a 0 m_taped m_at m_token m_place m_value m_word m_bad m_badPlace m_fault m_faultPlace m_willing m_will m_forgot m_isDrawn m_x m_begin m_round m_roundCards m_fate m_any m_bothSend m_meanCards m_bestSum m_fitMany m_fitFirst m_fitSecond)), ((m_a 17), .inl (cI, 25, .inl m_has_c)), ((m_a 21), .inl (cJ, 5, .inr (.inl m_strikes_c))), ((m_a 16), .inl (cI, 5, .inl m_lines_c)), ((m_a 1), .inl (cI, 4, .inl m_width_c)), ((m_a 20), .inl (cJ, 160, .inr (.inl m_lost_c)))] H → va_D A [(m, .inr (11, mG m_a 0 m_taped m_at m_token m_place m_value m_word m_bad m_badPlace m_fault m_faultPlace m_willing m_will m_forgot m_isDrawn m_x m_begin m_round m_roundCards m_fate m_any m_bothSend m_meanCards m_bestSum m_fitMany m_fitFirst m_fitSecond)), ((m_a 17), .inl (cI, 25, .inl m_has_c)), ((m_a 21), .inl (cJ, 5, .inr (.inl m_strikes_c))), ((m_a 16), .inl (cI, 5, .inl m_lines_c)), ((m_a 1), .inl (cI, 4, .inl m_width_c)), ((m_a 20), .inl (cJ, 160, .inr (.inl m_lost_c)))] → va_S A s.heap H locs → lv_has ls 4 [(0, .ref m), (2, .int j111_l2), (3, .int j111_l3)] → W p l e (headSpec v_X12_count ({ frames := 1, cells := 0, slots := 0, locals := 24 })).room s mth av below meth c H locs 0 0 QQ (F0 mth 111 ls []) := by
          intro n111
          induction n111 with
          | zero => exact fun j111_l2 j111_l3 H locs ls hn => absurd hn (Nat.not_lt_zero _)
          | succ n111 ih111 =>
            intro j111_l2 j111_l3 H locs ls hn111 hj111_l3 hP hD hS hl
            refine lv_iload_n hx hb dX12_count_111 rfl (lv_at hl 2 rfl) ?_
            refine lv_iconst (v := 2) hx hb dX12_count_112 (by decide) ?_
            refine lv_aload_n hx hb dX12_count_113 rfl (lv_at hl 0 rfl) ?_
            refine va_get (D := g) (ci := 11) (v := .ref (m_a 17)) (C := RX12) (T := TX12) (N := 56) hx hb hts iX12 hown hK hP 0 rfl rfl 17 (by decide) (hts (.fieldLink RX12 34 "CardsAtYuleModel" "has" "[I") (List.mem_cons_of_mem _ (List.mem_append_left _ (List.mem_of_getElem? (i := 1) rfl)))) (fun _ h9 => h9) rfl dX12_count_114 ?_
            refine lv_iconst (v := 4) hx hb dX12_count_117 (by decide) ?_
            refine va_iald (D := g) hx hb hK hP 1 0 rfl rfl (vc_in (by decide)) dX12_count_118 ?_
            refine lv_topi (nm_r (e' := (m_has_c 4)) rfl ?_)
            have r118 : ir (m_has_c 4).toInt 0 16 := hasI_4 ha_m_has_c 0 (by decide)
            refine lv_imul hx hb dX12_count_119 ?_
            refine lv_topi (fun y119 e119 => ?_)
            have q119 : y119.toInt = 2 * (m_has_c 4).toInt := by rw [e119]; exact mu_z rfl rfl (ir_c 2) r118 (by decide) (by decide) (by decide)
            have r119 : ir y119.toInt 0 32 := mu_r q119 (ir_c 2) r118 (by decide) (by decide) (by decide) (by decide)
            refine lv_icmp_ge (tgt := 141) hx hb dX12_count_120 (by decide) (fun c120 => ?_) (fun c120 => ?_)
            · have f120 := (show y119.toInt ≤ j111_l3.toInt from z_le rfl rfl c120)
              refine lv_iload_n hx hb dX12_count_141 rfl (lv_at hl 1 rfl) ?_
              subst hQ
              have hP9 := hP.sub (ws' := [(m, .inr (11, mG m_a 0 m_taped m_at m_token m_place m_value m_word m_bad m_badPlace m_fault m_faultPlace m_willing m_will m_forgot m_isDrawn m_x m_begin m_round m_roundCards m_fate m_any m_bothSend m_meanCards m_bestSum m_fitMany m_fitFirst m_fitSecond)), ((m_a 17), .inl (cI, 25, .inl m_has_c)), ((m_a 21), .inl (cJ, 5, .inr (.inl m_strikes_c))), ((m_a 16), .inl (cI, 5, .inl m_lines_c)), ((m_a 1), .inl (cI, 4, .inl m_width_c)), ((m_a 20), .inl (cJ, 160, .inr (.inl m_lost_c)))]) [0, 1, 2, 3, 4, 5] rfl
              have hD9 := hD.sub (ws' := [(m, .inr (11, mG m_a 0 m_taped m_at m_token m_place m_value m_word m_bad m_badPlace m_fault m_faultPlace m_willing m_will m_forgot m_isDrawn m_x m_begin m_round m_roundCards m_fate m_any m_bothSend m_meanCards m_bestSum m_fitMany m_fitFirst m_fitSecond)), ((m_a 17), .inl (cI, 25, .inl m_has_c)), ((m_a 21), .inl (cJ, 5, .inr (.inl m_strikes_c))), ((m_a 16), .inl (cI, 5, .inl m_lines_c)), ((m_a 1), .inl (cI, 4, .inl m_width_c)), ((m_a 20), .inl (cJ, 160, .inr (.inl m_lost_c)))]) [0, 1, 2, 3, 4, 5] (by decide) rfl
              exact W.iret (v := j111_l2) hx hb hr (fun t ht hW => ⟨⟨j111_l2, 0, rfl, (show ir (0 : Int32).toInt 0 0 by decide), ⟨by rw [ht]; exact hP9, va_K.moved hW.alike hK, hD9⟩⟩, hS.F ht⟩) hS.2.2 dX12_count_142
            have f120 := (show j111_l3.toInt < y119.toInt from z_nle rfl rfl c120)
            have r120a : ir j111_l3.toInt 0 31 := ir_lta f120 hj111_l3 r119 (by decide)
            have r120b : ir y119.toInt 1 32 := ir_ltb f120 hj111_l3 r119 (by decide)
            refine lv_iload_n hx hb dX12_count_123 rfl (lv_at hl 1 rfl) ?_
            refine lv_aload_n hx hb dX12_count_124 rfl (lv_at hl 0 rfl) ?_
            refine va_get (D := g) (ci := 11) (v := .ref (m_a 20)) (C := RX12) (T := TX12) (N := 56) hx hb hts iX12 hown hK hP 0 rfl rfl 20 (by decide) (hts (.fieldLink RX12 43 "CardsAtYuleModel" "lost" "[J") (List.mem_cons_of_mem _ (List.mem_append_left _ (List.mem_of_getElem? (i := 6) rfl)))) (fun _ h9 => h9) rfl dX12_count_125 ?_
            refine lv_iload_n hx hb dX12_count_128 rfl (lv_at hl 2 rfl) ?_
            refine va_lald (D := g) hx hb hK hP 5 1 rfl rfl (vi_rg rfl r120a (by decide) (by decide)) dX12_count_129 ?_
            refine lv_topl (fun y129 e129 => ?_)
            refine ro_i (va_runS (As := [.long y129]) (rest := [.int j111_l2]) ⟨hx, hb, hml, hown, hts⟩ (q_X12_bitsOf l g cI cJ cB cZ cL y129 H.size ) (va_cwS 1 hts (goodIn_app (g_3 (List.mem_cons_of_mem _ (List.mem_append_left _ (List.mem_of_getElem? (i := 3) rfl))) (List.mem_cons_of_mem _ (List.mem_append_left _ (List.mem_of_getElem? (i := 4) rfl))) (List.mem_cons_of_mem _ (List.mem_append_left _ (List.mem_of_getElem? (i := 5) rfl))) (by decide +kernel)) (goodIn_sub (fun _ h => List.mem_cons_of_mem _ (List.mem_append_right _ (List.mem_append_left _ h))) good_v_X12_bitsOf)) rfl rfl rfl (by decide +kernel) ⟨Nat.le_of_ble_eq_true rfl, Nat.le_of_ble_eq_true rfl⟩) (ps_RO (wc := []) hK hP [] rfl) rfl rfl hl.1 rfl (lv_room (Nat.le_of_ble_eq_true rfl)) dX12_count_130 ⟨Nat.le_of_ble_eq_true rfl, Nat.le_of_ble_eq_true rfl⟩) hS hA hP (fun r130 u130 H locs hw130 hP hS => ?_)
            refine lv_iadd hx hb dX12_count_133 ?_
            refine lv_topi (fun y133 e133 => ?_)
            refine lv_istore_n (lv' := [(2, .int y133), (0, .ref m), (3, .int j111_l3)]) hx hb dX12_count_134 rfl hl (by decide) rfl (fun ls hl => ?_)
            obtain ⟨y135, e135⟩ : ∃ y : Int32, y = j111_l3 + 1 := ⟨_, rfl⟩
            have q135 : y135.toInt = j111_l3.toInt + 1 := by rw [e135]; exact ad_z rfl rfl r120a (ir_c 1) (by decide) (by decide)
            have r135 : ir y135.toInt 1 32 := ad_r q135 r120a (ir_c 1) (by decide) (by decide)
            refine lv_iinc (v := y135) (lv' := [(3, .int y135), (2, .int y133), (0, .ref m)]) hx hb dX12_count_135 hl (k := 2) rfl e135.symm (by decide) rfl (fun ls hl => ?_)
            refine lv_goto (tgt := 111) hx hb dX12_count_138 (by decide) ?_
            exact ih111 y133 y135 _ _ _ (by omega) (ir_w r135 (by decide) (by decide)) (hP.sub [0, 1, 2, 3, 4, 5] rfl) (hD.sub [0, 1, 2, 3, 4, 5] (by decide) rfl) hS (lv_sub hl [2, 1, 0] rfl)
        exact J111 _ 0 0 _ _ _ (Nat.lt_succ_self _) (by decide) (hP.sub [0, 1, 2, 3, 4, 5] rfl) (hD.sub [0, 1, 2, 3, 4, 5] (by decide) rfl) hS (lv_sub hl [2, 1, 0] rfl)
    | 7, _, ej8 =>
        have rs143_7 : ir p0.toInt 7 7 := sw_c ej8 (by decide)
        rw [show p0 = 7 from ej8]
        refine lv_tableIn (off := 135) (tgt := 143) hx hb dX12_count_8 (by decide) (by decide) (by decide) (by decide) ?_
        refine lv_aload_n hx hb dX12_count_143 rfl (lv_at hl 1 rfl) ?_
        refine va_get (D := g) (ci := 11) (v := .ref (m_a 16)) (C := RX12) (T := TX12) (N := 56) hx hb hts iX12 hown hK hP 0 rfl rfl 16 (by decide) (hts (.fieldLink RX12 31 "CardsAtYuleModel" "lines" "[I") (List.mem_cons_of_mem _ (List.mem_append_left _ (List.mem_of_getElem? (i := 7) rfl)))) (fun _ h9 => h9) rfl dX12_count_144 ?_
        refine lv_iconst (v := 0) hx hb dX12_count_147 (by decide) ?_
        refine va_iald (D := g) hx hb hK hP 3 0 rfl rfl (vc_in (by decide)) dX12_count_148 ?_
        refine lv_topi (nm_r (e' := (m_lines_c 0)) rfl ?_)
        subst hQ
        have hP9 := hP.sub (ws' := [(m, .inr (11, mG m_a 0 m_taped m_at m_token m_place m_value m_word m_bad m_badPlace m_fault m_faultPlace m_willing m_will m_forgot m_isDrawn m_x m_begin m_round m_roundCards m_fate m_any m_bothSend m_meanCards m_bestSum m_fitMany m_fitFirst m_fitSecond)), ((m_a 17), .inl (cI, 25, .inl m_has_c)), ((m_a 21), .inl (cJ, 5, .inr (.inl m_strikes_c))), ((m_a 16), .inl (cI, 5, .inl m_lines_c)), ((m_a 1), .inl (cI, 4, .inl m_width_c)), ((m_a 20), .inl (cJ, 160, .inr (.inl m_lost_c)))]) [0, 1, 2, 3, 4, 5] rfl
        have hD9 := hD.sub (ws' := [(m, .inr (11, mG m_a 0 m_taped m_at m_token m_place m_value m_word m_bad m_badPlace m_fault m_faultPlace m_willing m_will m_forgot m_isDrawn m_x m_begin m_round m_roundCards m_fate m_any m_bothSend m_meanCards m_bestSum m_fitMany m_fitFirst m_fitSecond)), ((m_a 17), .inl (cI, 25, .inl m_has_c)), ((m_a 21), .inl (cJ, 5, .inr (.inl m_strikes_c))), ((m_a 16), .inl (cI, 5, .inl m_lines_c)), ((m_a 1), .inl (cI, 4, .inl m_width_c)), ((m_a 20), .inl (cJ, 160, .inr (.inl m_lost_c)))]) [0, 1, 2, 3, 4, 5] (by decide) rfl
        exact W.iret (v := (m_lines_c 0)) hx hb hr (fun t ht hW => ⟨⟨(m_lines_c 0), 0, rfl, (show ir (0 : Int32).toInt 0 0 by decide), ⟨by rw [ht]; exact hP9, va_K.moved hW.alike hK, hD9⟩⟩, hS.F ht⟩) hS.2.2 dX12_count_149
    | 8, _, ej8 =>
        have rs150_8 : ir p0.toInt 8 8 := sw_c ej8 (by decide)
        rw [show p0 = 8 from ej8]
        refine lv_tableIn (off := 142) (tgt := 150) hx hb dX12_count_8 (by decide) (by decide) (by decide) (by decide) ?_
        refine lv_aload_n hx hb dX12_count_150 rfl (lv_at hl 1 rfl) ?_
        refine va_get (D := g) (ci := 11) (v := .int m_taped) (C := RX12) (T := TX12) (N := 56) hx hb hts iX12 hown hK hP 0 rfl rfl 6 (by decide) (hts (.fieldLink RX12 124 "CardsAtYuleModel" "taped" "I") (List.mem_cons_of_mem _ (List.mem_append_left _ (List.mem_of_getElem? (i := 8) rfl)))) (fun _ h9 => h9) rfl dX12_count_151 ?_
        subst hQ
        have hP9 := hP.sub (ws' := [(m, .inr (11, mG m_a 0 m_taped m_at m_token m_place m_value m_word m_bad m_badPlace m_fault m_faultPlace m_willing m_will m_forgot m_isDrawn m_x m_begin m_round m_roundCards m_fate m_any m_bothSend m_meanCards m_bestSum m_fitMany m_fitFirst m_fitSecond)), ((m_a 17), .inl (cI, 25, .inl m_has_c)), ((m_a 21), .inl (cJ, 5, .inr (.inl m_strikes_c))), ((m_a 16), .inl (cI, 5, .inl m_lines_c)), ((m_a 1), .inl (cI, 4, .inl m_width_c)), ((m_a 20), .inl (cJ, 160, .inr (.inl m_lost_c)))]) [0, 1, 2, 3, 4, 5] rfl
        have hD9 := hD.sub (ws' := [(m, .inr (11, mG m_a 0 m_taped m_at m_token m_place m_value m_word m_bad m_badPlace m_fault m_faultPlace m_willing m_will m_forgot m_isDrawn m_x m_begin m_round m_roundCards m_fate m_any m_bothSend m_meanCards m_bestSum m_fitMany m_fitFirst m_fitSecond)), ((m_a 17), .inl (cI, 25, .inl m_has_c)), ((m_a 21), .inl (cJ, 5, .inr (.inl m_strikes_c))), ((m_a 16), .inl (cI, 5, .inl m_lines_c)), ((m_a 1), .inl (cI, 4, .inl m_width_c)), ((m_a 20), .inl (cJ, 160, .inr (.inl m_lost_c)))]) [0, 1, 2, 3, 4, 5] (by decide) rfl
        exact W.iret (v := m_taped) hx hb hr (fun t ht hW => ⟨⟨m_taped, 0, rfl, (show ir (0 : Int32).toInt 0 0 by decide), ⟨by rw [ht]; exact hP9, va_K.moved hW.alike hK, hD9⟩⟩, hS.F ht⟩) hS.2.2 dX12_count_154
    | 9, _, ej8 =>
        have rs155_9 : ir p0.toInt 9 9 := sw_c ej8 (by decide)
        rw [show p0 = 9 from ej8]
        refine lv_tableIn (off := 147) (tgt := 155) hx hb dX12_count_8 (by decide) (by decide) (by decide) (by decide) ?_
        refine lv_iconst (v := 0) hx hb dX12_count_155 (by decide) ?_
        refine lv_istore_n (lv' := [(3, .int 0), (2, .int 0), (0, .ref m), (1, .int p0)]) hx hb dX12_count_156 rfl hl (by decide) rfl (fun ls hl => ?_)
        have J157 : ∀ (n157 : Nat) (j157_l2 : Int32) (j157_l3 : Int32) (H : Heap) (locs : List Loc) (ls : Array Slot), (5 - j157_l3.toInt).toNat < n157 → (ir j157_l3.toInt 0 4) → va_P g vwCl [(m, .inr (11, mG m_a 0 m_taped m_at m_token m_place m_value m_word m_bad m_badPlace m_fault m_faultPlace m_willing m_will m_forgot m_isDrawn m_x m_begin m_round m_roundCards m_fate m_any m_bothSend m_meanCards m_bestSum m_fitMany m_fitFirst m_fitSecond)), ((m_a 17), .inl (cI, 25, .inl m_has_c)), ((m_a 21), .inl (cJ, 5, .inr (.inl m_strikes_c))), ((m_a 16), .inl (cI, 5, .inl m_lines_c)), ((m_a 1), .inl (cI, 4, .inl m_width_c)), ((m_a 20), .inl (cJ, 160, .inr (.inl m_lost_c)))] H → va_D A [(m, .inr (11, mG m_a 0 m_taped m_at m_token m_place m_value m_word m_bad m_badPlace m_fault m_faultPlace m_willing m_will m_forgot m_isDrawn m_x m_begin m_round m_roundCards m_fate m_any m_bothSend m_meanCards m_bestSum m_fitMany m_fitFirst m_fitSecond)), ((m_a 17), .inl (cI, 25, .inl m_has_c)), ((m_a 21), .inl (cJ, 5, .inr (.inl m_strikes_c))), ((m_a 16), .inl (cI, 5, .inl m_lines_c)), ((m_a 1), .inl (cI, 4, .inl m_width_c)), ((m_a 20), .inl (cJ, 160, .inr (.inl m_lost_c)))] → va_S A s.heap H locs → lv_has ls 4 [(0, .ref m), (2, .int j157_l2), (3, .int j157_l3)] → W p l e (headSpec v_X12_count ({ frames := 1, cells := 0, slots := 0, locals := 24 })).room s mth av below meth c H locs 0 0 QQ (F0 mth 157 ls []) := by
          intro n157
          induction n157 with
          | zero => exact fun j157_l2 j157_l3 H locs ls hn => absurd hn (Nat.not_lt_zero _)
          | succ n157 ih157 =>
            intro j157_l2 j157_l3 H locs ls hn157 hj157_l3 hP hD hS hl
            refine lv_iload_n hx hb dX12_count_157 rfl (lv_at hl 2 rfl) ?_
            refine lv_iconst (v := 4) hx hb dX12_count_158 (by decide) ?_
            refine lv_icmp_ge (tgt := 186) hx hb dX12_count_159 (by decide) (fun c159 => ?_) (fun c159 => ?_)
            · have f159 := (show 4 ≤ j157_l3.toInt from z_le rfl rfl c159)
              have r159a : ir j157_l3.toInt 4 4 := ir_leb f159 (ir_c 4) hj157_l3 (by decide)
              refine lv_iload_n hx hb dX12_count_186 rfl (lv_at hl 1 rfl) ?_
              subst hQ
              have hP9 := hP.sub (ws' := [(m, .inr (11, mG m_a 0 m_taped m_at m_token m_place m_value m_word m_bad m_badPlace m_fault m_faultPlace m_willing m_will m_forgot m_isDrawn m_x m_begin m_round m_roundCards m_fate m_any m_bothSend m_meanCards m_bestSum m_fitMany m_fitFirst m_fitSecond)), ((m_a 17), .inl (cI, 25, .inl m_has_c)), ((m_a 21), .inl (cJ, 5, .inr (.inl m_strikes_c))), ((m_a 16), .inl (cI, 5, .inl m_lines_c)), ((m_a 1), .inl (cI, 4, .inl m_width_c)), ((m_a 20), .inl (cJ, 160, .inr (.inl m_lost_c)))]) [0, 1, 2, 3, 4, 5] rfl
              have hD9 := hD.sub (ws' := [(m, .inr (11, mG m_a 0 m_taped m_at m_token m_place m_value m_word m_bad m_badPlace m_fault m_faultPlace m_willing m_will m_forgot m_isDrawn m_x m_begin m_round m_roundCards m_fate m_any m_bothSend m_meanCards m_bestSum m_fitMany m_fitFirst m_fitSecond)), ((m_a 17), .inl (cI, 25, .inl m_has_c)), ((m_a 21), .inl (cJ, 5, .inr (.inl m_strikes_c))), ((m_a 16), .inl (cI, 5, .inl m_lines_c)), ((m_a 1), .inl (cI, 4, .inl m_width_c)), ((m_a 20), .inl (cJ, 160, .inr (.inl m_lost_c)))]) [0, 1, 2, 3, 4, 5] (by decide) rfl
              exact W.iret (v := j157_l2) hx hb hr (fun t ht hW => ⟨⟨j157_l2, 0, rfl, (show ir (0 : Int32).toInt 0 0 by decide), ⟨by rw [ht]; exact hP9, va_K.moved hW.alike hK, hD9⟩⟩, hS.F ht⟩) hS.2.2 dX12_count_187
            have f159 := (show j157_l3.toInt < 4 from z_nle rfl rfl c159)
            have r159a : ir j157_l3.toInt 0 3 := ir_lta f159 hj157_l3 (ir_c 4) (by decide)
            refine lv_iload_n hx hb dX12_count_162 rfl (lv_at hl 1 rfl) ?_
            refine lv_aload_n hx hb dX12_count_163 rfl (lv_at hl 0 rfl) ?_
            refine va_get (D := g) (ci := 11) (v := .ref (m_a 1)) (C := RX12) (T := TX12) (N := 56) hx hb hts iX12 hown hK hP 0 rfl rfl 1 (by decide) (hts (.fieldLink RX12 7 "CardsAtYuleModel" "width" "[I") (List.mem_cons_of_mem _ (List.mem_append_left _ (List.mem_of_getElem? (i := 9) rfl)))) (fun _ h9 => h9) rfl dX12_count_164 ?_
            refine lv_iload_n hx hb dX12_count_167 rfl (lv_at hl 2 rfl) ?_
            refine va_iald (D := g) hx hb hK hP 4 0 rfl rfl (vi_rg rfl r159a (by decide) (by decide)) dX12_count_168 ?_
            refine lv_topi (fun y168 e168 => ?_)
            refine lv_iconst (v := (-1)) hx hb dX12_count_169 (by decide) ?_
            have J178 : ∀ (j178_s0 : Int32) (H : Heap) (locs : List Loc) (ls : Array Slot), (ir j178_s0.toInt 0 1) → va_P g vwCl [(m, .inr (11, mG m_a 0 m_taped m_at m_token m_place m_value m_word m_bad m_badPlace m_fault m_faultPlace m_willing m_will m_forgot m_isDrawn m_x m_begin m_round m_roundCards m_fate m_any m_bothSend m_meanCards m_bestSum m_fitMany m_fitFirst m_fitSecond)), ((m_a 17), .inl (cI, 25, .inl m_has_c)), ((m_a 21), .inl (cJ, 5, .inr (.inl m_strikes_c))), ((m_a 16), .inl (cI, 5, .inl m_lines_c)), ((m_a 1), .inl (cI, 4, .inl m_width_c)), ((m_a 20), .inl (cJ, 160, .inr (.inl m_lost_c)))] H → va_D A [(m, .inr (11, mG m_a 0 m_taped m_at m_token m_place m_value m_word m_bad m_badPlace m_fault m_faultPlace m_willing m_will m_forgot m_isDrawn m_x m_begin m_round m_roundCards m_fate m_any m_bothSend m_meanCards m_bestSum m_fitMany m_fitFirst m_fitSecond)), ((m_a 17), .inl (cI, 25, .inl m_has_c)), ((m_a 21), .inl (cJ, 5, .inr (.inl m_strikes_c))), ((m_a 16), .inl (cI, 5, .inl m_lines_c)), ((m_a 1), .inl (cI, 4, .inl m_width_c)), ((m_a 20), .inl (cJ, 160, .inr (.inl m_lost_c)))] → va_S A s.heap H locs → lv_has ls 4 [(0, .ref m), (3, .int j157_l3)] → W p l e (headSpec v_X12_count ({ frames := 1, cells := 0, slots := 0, locals := 24 })).room s mth av below meth c H locs 0 0 QQ (F0 mth 178 ls [.int j178_s0, .int j157_l2]) := by
              intro j178_s0 H locs ls hj178_s0 hP hD hS hl
              refine lv_iadd hx hb dX12_count_178 ?_
              refine lv_topi (fun y178 e178 => ?_)
              refine lv_istore_n (lv' := [(2, .int y178), (0, .ref m), (3, .int j157_l3)]) hx hb dX12_count_179 rfl hl (by decide) rfl (fun ls hl => ?_)
              obtain ⟨y180, e180⟩ : ∃ y : Int32, y = j157_l3 + 1 := ⟨_, rfl⟩
              have q180 : y180.toInt = j157_l3.toInt + 1 := by rw [e180]; exact ad_z rfl rfl r159a (ir_c 1) (by decide) (by decide)
              have r180 : ir y180.toInt 1 4 := ad_r q180 r159a (ir_c 1) (by decide) (by decide)
              refine lv_iinc (v := y180) (lv' := [(3, .int y180), (2, .int y178), (0, .ref m)]) hx hb dX12_count_180 hl (k := 2) rfl e180.symm (by decide) rfl (fun ls hl => ?_)
              refine lv_goto (tgt := 157) hx hb dX12_count_183 (by decide) ?_
              exact ih157 y178 y180 _ _ _ (by omega) (ir_w r180 (by decide) (by decide)) (hP.sub [0, 1, 2, 3, 4, 5] rfl) (hD.sub [0, 1, 2, 3, 4, 5] (by decide) rfl) hS (lv_sub hl [2, 1, 0] rfl)
            refine lv_icmp_ne (tgt := 177) hx hb dX12_count_170 (by decide) (fun c170 => ?_) (fun c170 => ?_)
            · have f170 := (show y168.toInt ≠ (-1) from z_ne rfl rfl c170)
              refine lv_iconst (v := 1) hx hb dX12_count_177 (by decide) ?_
              exact J178 1 _ _ _ (by decide) (hP.sub [0, 1, 2, 3, 4, 5] rfl) (hD.sub [0, 1, 2, 3, 4, 5] (by decide) rfl) hS (lv_sub hl [0, 2] rfl)
            have f170 := (show y168.toInt = (-1) from z_eq rfl rfl c170)
            have r170a : ir y168.toInt (-1) (-1) := ir_eqa f170 (rg_all y168) (ir_c (-1)) (by decide) (by decide)
            refine lv_iconst (v := 0) hx hb dX12_count_173 (by decide) ?_
            refine lv_goto (tgt := 178) hx hb dX12_count_174 (by decide) ?_
            exact J178 0 _ _ _ (by decide) (hP.sub [0, 1, 2, 3, 4, 5] rfl) (hD.sub [0, 1, 2, 3, 4, 5] (by decide) rfl) hS (lv_sub hl [0, 2] rfl)
        exact J157 _ 0 0 _ _ _ (Nat.lt_succ_self _) (by decide) (hP.sub [0, 1, 2, 3, 4, 5] rfl) (hD.sub [0, 1, 2, 3, 4, 5] (by decide) rfl) hS (lv_sub hl [2, 1, 0] rfl)
    | n + 10, h, _ => exact absurd h (by omega)
