def v_X12_number : List Cond := .code yX12_number cX12_number 4 (some .int) :: (([.fieldLink RX12 159 "CardsAtYuleModel" "bad" "I", .fieldLink RX12 148 "CardsAtYuleModel" "token" "I", .fieldLink RX12 141 "CardsAtYuleModel" "value" "I", .methodLink RX12 112 yX12_in, .static yX12_in, .initialized RX12, .methodLink RX12 169 yX12_next, .instanceMethod yX12_next, .selects RX12 yX12_next yX12_next, .methodLink RX12 175 yX12_fails, .instanceMethod yX12_fails, .selects RX12 yX12_fails yX12_fails] : List Cond) ++ (v_X12_in ++ (v_X12_next ++ (v_X12_fails ++ (wsX120 ++ ([] : List Cond))))))
theorem good_v_X12_number : v_X12_number.all goodWord = true := ga_c (by decide +kernel) (ga_a (by decide +kernel) (ga_a good_v_X12_in (ga_a good_v_X12_next (ga_a good_v_X12_fails (ga_a good_wsX120 rfl)))))
set_option maxHeartbeats 4000000 in
set_option maxRecDepth 100000 in
theorem q_X12_number (l : Launch) (g : va_G) (cI cJ cB cZ cL : ClassId) (p0 : Int32) (p1 : Int32) (m : Nat) (m_a : Nat → Nat) (m_thrown : Int32) (m_taped : Int32) (m_at : Int32) (m_token : Int32) (m_place : Int32) (m_value : Int32) (m_word : Int64) (m_bad : Int32) (m_badPlace : Int32) (m_fault : Int32) (m_faultPlace : Int32) (m_willing : Int32) (m_will : Int32) (m_forgot : Int32) (m_isDrawn : Int32) (m_x : Int64) (m_begin : Int32) (m_round : Int32) (m_roundCards : Int32) (m_fate : Int32) (m_any : Int64) (m_bothSend : Int64) (m_meanCards : Int64) (m_bestSum : Int32) (m_fitMany : Int32) (m_fitFirst : Int64) (m_fitSecond : Int64) (m_tape_c : Nat → Int32) (sz : Nat) (hv_m_taped : ir m_taped.toInt 0 1600) (hv_m_at : ir m_at.toInt 0 1600) (hv_m_will : ir m_will.toInt 0 1) (hv_m_isDrawn : ir m_isDrawn.toInt 0 1) (hx_0 : m_at.toInt ≤ m_taped.toInt) : Met l yX12_number v_X12_number ({ frames := 2, cells := 0, slots := 0, locals := 44 }) (va_Pc [.ref m, .int p0, .int p1] (pRW g (tyT cI cJ cB cZ cL) [(m, .inr (11, mG m_a m_thrown m_taped m_at m_token m_place m_value m_word m_bad m_badPlace m_fault m_faultPlace m_willing m_will m_forgot m_isDrawn m_x m_begin m_round m_roundCards m_fate m_any m_bothSend m_meanCards m_bestSum m_fitMany m_fitFirst m_fitSecond)), ((m_a 5), .inl (cB, 1600, .inl m_tape_c))] sz)) (va_Qi (fun (r : Int32) (u : Int32 × Int32 × Int32 × Int32 × Int64 × Int32 × Int32) => match u with | (n_m_at, n_m_token, n_m_place, n_m_value, n_m_word, n_m_bad, n_m_badPlace) => (ir n_m_at.toInt 0 1600) ∧ ((n_m_at.toInt = m_at.toInt ∧ n_m_token.toInt = m_token.toInt) ∨ (m_at.toInt ≤ n_m_at.toInt ∧ n_m_at.toInt ≤ m_taped.toInt ∧ 0 ≤ n_m_token.toInt ∧ n_m_token.toInt ≤ 4 ∧ (m_at.toInt < n_m_at.toInt ∨ (n_m_token.toInt = 0 ∧ n_m_at.toInt = m_taped.toInt)))) ∧ (r.toInt = p0.toInt ∨ (p0.toInt ≤ r.toInt ∧ r.toInt ≤ p1.toInt))) (fun (u : Int32 × Int32 × Int32 × Int32 × Int64 × Int32 × Int32) (t : State) => bRW g (tyT cI cJ cB cZ cL) (va_A [(m, .inr (11, mG m_a m_thrown m_taped m_at m_token m_place m_value m_word m_bad m_badPlace m_fault m_faultPlace m_willing m_will m_forgot m_isDrawn m_x m_begin m_round m_roundCards m_fate m_any m_bothSend m_meanCards m_bestSum m_fitMany m_fitFirst m_fitSecond)), ((m_a 5), .inl (cB, 1600, .inl m_tape_c))] sz) (match u with | (n_m_at, n_m_token, n_m_place, n_m_value, n_m_word, n_m_bad, n_m_badPlace) => [(m, .inr (11, mG m_a m_thrown m_taped n_m_at n_m_token n_m_place n_m_value n_m_word n_m_bad n_m_badPlace m_fault m_faultPlace m_willing m_will m_forgot m_isDrawn m_x m_begin m_round m_roundCards m_fate m_any m_bothSend m_meanCards m_bestSum m_fitMany m_fitFirst m_fitSecond)), ((m_a 5), .inl (cB, 1600, .inl m_tape_c))]) t) (va_A [(m, .inr (11, mG m_a m_thrown m_taped m_at m_token m_place m_value m_word m_bad m_badPlace m_fault m_faultPlace m_willing m_will m_forgot m_isDrawn m_x m_begin m_round m_roundCards m_fate m_any m_bothSend m_meanCards m_bestSum m_fitMany m_fitFirst m_fitSecond)), ((m_a 5), .inl (cB, 1600, .inl m_tape_c))] sz)) 0 0 (va_A [(m, .inr (11, mG m_a m_thrown m_taped m_at m_token m_place m_value m_word m_bad m_badPlace m_fault m_faultPlace m_willing m_will m_forgot m_isDrawn m_x m_begin m_round m_roundCards m_fate m_any m_bothSend m_meanCards m_bestSum m_fitMany m_fitFirst m_fitSecond)), ((m_a 5), .inl (cB, 1600, .inl m_tape_c))] sz) := by
  refine Met.ofW (cc := cX12_number) (maxL := 4) (ret := (some .int)) (by decide) rfl ?_
  intro p e s mth args below meth c s₁ B hml hv
  obtain ⟨rfl, hsz, hP, hK, hD0⟩ := hv
  have hx := B.exec
  have hb := B.bytes
  have hr := B.returns
  have hts := atoms_spec (ws := v_X12_number) B.pre
  have hown : s.vm.findClass RX12 = some mth.cls := findClass_of_methodNamed B.named
  have hlocks := B.notSynchronized
  clear B
  subst hsz
  have iX12 : ∀ w ∈ wsX120, w ∈ v_X12_number := (fun _ h => List.mem_cons_of_mem _ (List.mem_append_right _ (List.mem_append_right _ (List.mem_append_right _ (List.mem_append_right _ (List.mem_append_left _ h))))))
  have hD := hD0.self (sz := s.heap.size)
  generalize hAe : (va_A [(m, .inr (11, mG m_a m_thrown m_taped m_at m_token m_place m_value m_word m_bad m_badPlace m_fault m_faultPlace m_willing m_will m_forgot m_isDrawn m_x m_begin m_round m_roundCards m_fate m_any m_bothSend m_meanCards m_bestSum m_fitMany m_fitFirst m_fitSecond)), ((m_a 5), .inl (cB, 1600, .inl m_tape_c))] s.heap.size) = A at hD ⊢
  have hA : ∀ q : Nat, s.heap.size ≤ q → A q := fun q h => by rw [← hAe]; exact Or.inr h
  have hS : va_S A s.heap s.heap [] := va_S.rf
  have hl := lv_entry ([.ref m, .int p0, .int p1]) (n := 4) (Nat.le_of_ble_eq_true rfl)
  rw [lg_entry_eq]
  generalize (lg_sl ([.ref m, .int p0, .int p1]) ++ List.replicate (4 - (lg_sl ([.ref m, .int p0, .int p1])).length) Slot.unset).toArray = ls at hl ⊢
  generalize ([.ref m, .int p0, .int p1] : List Value).toArray = av at hts ⊢
  generalize hQ : MQ below _ av s _ _ A = QQ
  have hl : lv_has ls 4 [(0, .ref m), (1, .int p0), (2, .int p1)] := hl
  have hP : va_P g vwCl [(m, .inr (11, mG m_a m_thrown m_taped m_at m_token m_place m_value m_word m_bad m_badPlace m_fault m_faultPlace m_willing m_will m_forgot m_isDrawn m_x m_begin m_round m_roundCards m_fate m_any m_bothSend m_meanCards m_bestSum m_fitMany m_fitFirst m_fitSecond)), ((m_a 5), .inl (cB, 1600, .inl m_tape_c))] s.heap := hP
  refine lv_aload_n hx hb dX12_number_0 rfl (lv_at hl 0 rfl) ?_
  refine va_get (D := g) (ci := 11) (v := .int m_bad) (C := RX12) (T := TX12) (N := 56) hx hb hts iX12 hown hK hP 0 rfl rfl 12 (by decide) (hts (.fieldLink RX12 159 "CardsAtYuleModel" "bad" "I") (List.mem_cons_of_mem _ (List.mem_append_left _ (List.mem_of_getElem? (i := 0) rfl)))) (fun _ h9 => h9) rfl dX12_number_1 ?_
  refine lv_if_eq (tgt := 9) hx hb dX12_number_4 (by decide) (fun c4 => ?_) (fun c4 => ?_)
  rotate_left 1
  · have f4 := (show m_bad.toInt ≠ 0 from z_ne rfl rfl c4)
    refine lv_iload_n hx hb dX12_number_7 rfl (lv_at hl 1 rfl) ?_
    subst hQ
    have hP9 := hP.sub (ws' := [(m, .inr (11, mG m_a m_thrown m_taped m_at m_token m_place m_value m_word m_bad m_badPlace m_fault m_faultPlace m_willing m_will m_forgot m_isDrawn m_x m_begin m_round m_roundCards m_fate m_any m_bothSend m_meanCards m_bestSum m_fitMany m_fitFirst m_fitSecond)), ((m_a 5), .inl (cB, 1600, .inl m_tape_c))]) [0, 1] rfl
    have hD9 := hD.sub (ws' := [(m, .inr (11, mG m_a m_thrown m_taped m_at m_token m_place m_value m_word m_bad m_badPlace m_fault m_faultPlace m_willing m_will m_forgot m_isDrawn m_x m_begin m_round m_roundCards m_fate m_any m_bothSend m_meanCards m_bestSum m_fitMany m_fitFirst m_fitSecond)), ((m_a 5), .inl (cB, 1600, .inl m_tape_c))]) [0, 1] (by decide) rfl
    exact W.iret (v := p0) hx hb hr (fun t ht hW => ⟨⟨p0, (m_at, m_token, m_place, m_value, m_word, m_bad, m_badPlace), rfl, ⟨hv_m_at, (by omega), (by omega)⟩, ⟨by rw [ht]; exact hP9, va_K.moved hW.alike hK, hD9⟩⟩, hS.F ht⟩) hS.2.2 dX12_number_8
  have f4 := (show m_bad.toInt = 0 from z_eq rfl rfl c4)
  have r4a : ir m_bad.toInt 0 0 := ir_eqa f4 (rg_all m_bad) (ir_c 0) (by decide) (by decide)
  refine lv_aload_n hx hb dX12_number_9 rfl (lv_at hl 0 rfl) ?_
  refine va_get (D := g) (ci := 11) (v := .int m_token) (C := RX12) (T := TX12) (N := 56) hx hb hts iX12 hown hK hP 0 rfl rfl 8 (by decide) (hts (.fieldLink RX12 148 "CardsAtYuleModel" "token" "I") (List.mem_cons_of_mem _ (List.mem_append_left _ (List.mem_of_getElem? (i := 1) rfl)))) (fun _ h9 => h9) rfl dX12_number_10 ?_
  refine lv_iconst (v := 2) hx hb dX12_number_13 (by decide) ?_
  refine lv_icmp_eq (tgt := 24) hx hb dX12_number_14 (by decide) (fun c14 => ?_) (fun c14 => ?_)
  rotate_left 1
  · have f14 := (show m_token.toInt ≠ 2 from z_ne rfl rfl c14)
    refine lv_aload_n hx hb dX12_number_17 rfl (lv_at hl 0 rfl) ?_
    refine lv_iconst (v := 1) hx hb dX12_number_18 (by decide) ?_
    refine rw_v (wr := [((m_a 5), .inl (cB, 1600, .inl m_tape_c))]) (va_runV (As := [.int 1]) (rest := []) ⟨hx, hb, hml, hown, hts⟩ (q_X12_fails l g cI cJ cB cZ cL 1 m m_a m_thrown m_taped m_at m_token m_place m_value m_word m_bad m_badPlace m_fault m_faultPlace m_willing m_will m_forgot m_isDrawn m_x m_begin m_round m_roundCards m_fate m_any m_bothSend m_meanCards m_bestSum m_fitMany m_fitFirst m_fitSecond s.heap.size (by decide) hv_m_taped hv_m_at hv_m_will hv_m_isDrawn) (cwV 1 hts (goodIn_app (g_4 (List.mem_cons_of_mem _ (List.mem_append_left _ (List.mem_of_getElem? (i := 9) rfl))) (List.mem_cons_of_mem _ (List.mem_append_left _ (List.mem_of_getElem? (i := 10) rfl))) (List.mem_cons_of_mem _ (List.mem_append_left _ (List.mem_of_getElem? (i := 11) rfl))) (List.mem_cons_of_mem _ (List.mem_append_left _ (List.mem_of_getElem? (i := 5) rfl))) (by decide +kernel)) (goodIn_sub (fun _ h => List.mem_cons_of_mem _ (List.mem_append_right _ (List.mem_append_right _ (List.mem_append_right _ (List.mem_append_left _ h))))) good_v_X12_fails)) rfl rfl rfl (by decide +kernel) ⟨Nat.le_of_ble_eq_true rfl, Nat.le_of_ble_eq_true rfl⟩) (pv_RW (q := (RX12, TX12, 56)) (ci := 11) (q0 := 0) (wc := [(m, .inr (11, mG m_a m_thrown m_taped m_at m_token m_place m_value m_word m_bad m_badPlace m_fault m_faultPlace m_willing m_will m_forgot m_isDrawn m_x m_begin m_round m_roundCards m_fate m_any m_bothSend m_meanCards m_bestSum m_fitMany m_fitFirst m_fitSecond))]) hK hP hD [0] (by decide) rfl rfl rfl) rfl rfl hl.1 rfl (lv_room (Nat.le_of_ble_eq_true rfl)) dX12_number_19 ⟨Nat.le_of_ble_eq_true rfl, Nat.le_of_ble_eq_true rfl⟩) hS hA hP hD [0] [1] rfl rfl (by decide) (by decide) (fun u19 H locs hw19 hP hD hS => ?_)
    obtain ⟨n_m_bad_19, n_m_badPlace_19⟩ := u19
    have hP : va_P g vwCl [((m_a 5), .inl (cB, 1600, .inl m_tape_c)), (m, .inr (11, mG m_a m_thrown m_taped m_at m_token m_place m_value m_word n_m_bad_19 n_m_badPlace_19 m_fault m_faultPlace m_willing m_will m_forgot m_isDrawn m_x m_begin m_round m_roundCards m_fate m_any m_bothSend m_meanCards m_bestSum m_fitMany m_fitFirst m_fitSecond))] H := hP
    have hD : va_D A [((m_a 5), .inl (cB, 1600, .inl m_tape_c)), (m, .inr (11, mG m_a m_thrown m_taped m_at m_token m_place m_value m_word n_m_bad_19 n_m_badPlace_19 m_fault m_faultPlace m_willing m_will m_forgot m_isDrawn m_x m_begin m_round m_roundCards m_fate m_any m_bothSend m_meanCards m_bestSum m_fitMany m_fitFirst m_fitSecond))] := hD
    dsimp only at hw19
    have hw19_0 := hw19
    have hw19_0 : n_m_bad_19.toInt ≠ 0 := hw19_0
    refine lv_iload_n hx hb dX12_number_22 rfl (lv_at hl 1 rfl) ?_
    subst hQ
    have hP9 := hP.sub (ws' := [(m, .inr (11, mG m_a m_thrown m_taped m_at m_token m_place m_value m_word n_m_bad_19 n_m_badPlace_19 m_fault m_faultPlace m_willing m_will m_forgot m_isDrawn m_x m_begin m_round m_roundCards m_fate m_any m_bothSend m_meanCards m_bestSum m_fitMany m_fitFirst m_fitSecond)), ((m_a 5), .inl (cB, 1600, .inl m_tape_c))]) [1, 0] rfl
    have hD9 := hD.sub (ws' := [(m, .inr (11, mG m_a m_thrown m_taped m_at m_token m_place m_value m_word n_m_bad_19 n_m_badPlace_19 m_fault m_faultPlace m_willing m_will m_forgot m_isDrawn m_x m_begin m_round m_roundCards m_fate m_any m_bothSend m_meanCards m_bestSum m_fitMany m_fitFirst m_fitSecond)), ((m_a 5), .inl (cB, 1600, .inl m_tape_c))]) [1, 0] (by decide) rfl
    exact W.iret (v := p0) hx hb hr (fun t ht hW => ⟨⟨p0, (m_at, m_token, m_place, m_value, m_word, n_m_bad_19, n_m_badPlace_19), rfl, ⟨hv_m_at, (by omega), (by omega)⟩, ⟨by rw [ht]; exact hP9, va_K.moved hW.alike hK, hD9⟩⟩, hS.F ht⟩) hS.2.2 dX12_number_23
  have f14 := (show m_token.toInt = 2 from z_eq rfl rfl c14)
  have r14a : ir m_token.toInt 2 2 := ir_eqa f14 (rg_all m_token) (ir_c 2) (by decide) (by decide)
  refine lv_aload_n hx hb dX12_number_24 rfl (lv_at hl 0 rfl) ?_
  refine va_get (D := g) (ci := 11) (v := .int m_value) (C := RX12) (T := TX12) (N := 56) hx hb hts iX12 hown hK hP 0 rfl rfl 10 (by decide) (hts (.fieldLink RX12 141 "CardsAtYuleModel" "value" "I") (List.mem_cons_of_mem _ (List.mem_append_left _ (List.mem_of_getElem? (i := 2) rfl)))) (fun _ h9 => h9) rfl dX12_number_25 ?_
  refine lv_i2l (v := m_value.toInt64) hx hb dX12_number_28 rfl ?_
  refine lv_iload_n hx hb dX12_number_29 rfl (lv_at hl 1 rfl) ?_
  refine lv_i2l (v := p0.toInt64) hx hb dX12_number_30 rfl ?_
  refine lv_iload_n hx hb dX12_number_31 rfl (lv_at hl 2 rfl) ?_
  refine lv_i2l (v := p1.toInt64) hx hb dX12_number_32 rfl ?_
  refine ro_i (va_runS (As := [.long m_value.toInt64, .long p0.toInt64, .long p1.toInt64]) (rest := []) ⟨hx, hb, hml, hown, hts⟩ (q_X12_in l g cI cJ cB cZ cL m_value.toInt64 m_value.toInt p0.toInt64 p0.toInt p1.toInt64 p1.toInt s.heap.size (z_i2l rfl) (z_i2l rfl) (z_i2l rfl)) (va_cwS 3 hts (goodIn_app (g_3 (List.mem_cons_of_mem _ (List.mem_append_left _ (List.mem_of_getElem? (i := 3) rfl))) (List.mem_cons_of_mem _ (List.mem_append_left _ (List.mem_of_getElem? (i := 4) rfl))) (List.mem_cons_of_mem _ (List.mem_append_left _ (List.mem_of_getElem? (i := 5) rfl))) (by decide +kernel)) (goodIn_sub (fun _ h => List.mem_cons_of_mem _ (List.mem_append_right _ (List.mem_append_left _ h))) good_v_X12_in)) rfl rfl rfl (by decide +kernel) ⟨Nat.le_of_ble_eq_true rfl, Nat.le_of_ble_eq_true rfl⟩) (ps_RO (wc := []) hK hP [] rfl) rfl rfl hl.1 rfl (lv_room (Nat.le_of_ble_eq_true rfl)) dX12_number_33 ⟨Nat.le_of_ble_eq_true rfl, Nat.le_of_ble_eq_true rfl⟩) hS hA hP (fun r33 u33 H locs hw33 hP hS => ?_)
  have hw33_0 := hw33
  rcases hw33_0 with ⟨er33, fc33_0, fc33_1⟩ | er33
  rotate_left 1
  · subst er33
    refine lv_if_ne (tgt := 46) hx hb dX12_number_36 (by decide) (fun c => absurd c (by decide)) (fun _ => ?_)
    refine lv_aload_n hx hb dX12_number_39 rfl (lv_at hl 0 rfl) ?_
    refine lv_iconst (v := 2) hx hb dX12_number_40 (by decide) ?_
    refine rw_v (wr := [((m_a 5), .inl (cB, 1600, .inl m_tape_c))]) (va_runV (As := [.int 2]) (rest := []) ⟨hx, hb, hml, hown, hts⟩ (q_X12_fails l g cI cJ cB cZ cL 2 m m_a m_thrown m_taped m_at m_token m_place m_value m_word m_bad m_badPlace m_fault m_faultPlace m_willing m_will m_forgot m_isDrawn m_x m_begin m_round m_roundCards m_fate m_any m_bothSend m_meanCards m_bestSum m_fitMany m_fitFirst m_fitSecond H.size (by decide) hv_m_taped hv_m_at hv_m_will hv_m_isDrawn) (cwV 1 hts (goodIn_app (g_4 (List.mem_cons_of_mem _ (List.mem_append_left _ (List.mem_of_getElem? (i := 9) rfl))) (List.mem_cons_of_mem _ (List.mem_append_left _ (List.mem_of_getElem? (i := 10) rfl))) (List.mem_cons_of_mem _ (List.mem_append_left _ (List.mem_of_getElem? (i := 11) rfl))) (List.mem_cons_of_mem _ (List.mem_append_left _ (List.mem_of_getElem? (i := 5) rfl))) (by decide +kernel)) (goodIn_sub (fun _ h => List.mem_cons_of_mem _ (List.mem_append_right _ (List.mem_append_right _ (List.mem_append_right _ (List.mem_append_left _ h))))) good_v_X12_fails)) rfl rfl rfl (by decide +kernel) ⟨Nat.le_of_ble_eq_true rfl, Nat.le_of_ble_eq_true rfl⟩) (pv_RW (q := (RX12, TX12, 56)) (ci := 11) (q0 := 0) (wc := [(m, .inr (11, mG m_a m_thrown m_taped m_at m_token m_place m_value m_word m_bad m_badPlace m_fault m_faultPlace m_willing m_will m_forgot m_isDrawn m_x m_begin m_round m_roundCards m_fate m_any m_bothSend m_meanCards m_bestSum m_fitMany m_fitFirst m_fitSecond))]) hK hP hD [0] (by decide) rfl rfl rfl) rfl rfl hl.1 rfl (lv_room (Nat.le_of_ble_eq_true rfl)) dX12_number_41 ⟨Nat.le_of_ble_eq_true rfl, Nat.le_of_ble_eq_true rfl⟩) hS hA hP hD [0] [1] rfl rfl (by decide) (by decide) (fun u41 H locs hw41 hP hD hS => ?_)
    obtain ⟨n_m_bad_41, n_m_badPlace_41⟩ := u41
    have hP : va_P g vwCl [((m_a 5), .inl (cB, 1600, .inl m_tape_c)), (m, .inr (11, mG m_a m_thrown m_taped m_at m_token m_place m_value m_word n_m_bad_41 n_m_badPlace_41 m_fault m_faultPlace m_willing m_will m_forgot m_isDrawn m_x m_begin m_round m_roundCards m_fate m_any m_bothSend m_meanCards m_bestSum m_fitMany m_fitFirst m_fitSecond))] H := hP
    have hD : va_D A [((m_a 5), .inl (cB, 1600, .inl m_tape_c)), (m, .inr (11, mG m_a m_thrown m_taped m_at m_token m_place m_value m_word n_m_bad_41 n_m_badPlace_41 m_fault m_faultPlace m_willing m_will m_forgot m_isDrawn m_x m_begin m_round m_roundCards m_fate m_any m_bothSend m_meanCards m_bestSum m_fitMany m_fitFirst m_fitSecond))] := hD
    dsimp only at hw41
    have hw41_0 := hw41
    have hw41_0 : n_m_bad_41.toInt ≠ 0 := hw41_0
    refine lv_iload_n hx hb dX12_number_44 rfl (lv_at hl 1 rfl) ?_
    subst hQ
    have hP9 := hP.sub (ws' := [(m, .inr (11, mG m_a m_thrown m_taped m_at m_token m_place m_value m_word n_m_bad_41 n_m_badPlace_41 m_fault m_faultPlace m_willing m_will m_forgot m_isDrawn m_x m_begin m_round m_roundCards m_fate m_any m_bothSend m_meanCards m_bestSum m_fitMany m_fitFirst m_fitSecond)), ((m_a 5), .inl (cB, 1600, .inl m_tape_c))]) [1, 0] rfl
    have hD9 := hD.sub (ws' := [(m, .inr (11, mG m_a m_thrown m_taped m_at m_token m_place m_value m_word n_m_bad_41 n_m_badPlace_41 m_fault m_faultPlace m_willing m_will m_forgot m_isDrawn m_x m_begin m_round m_roundCards m_fate m_any m_bothSend m_meanCards m_bestSum m_fitMany m_fitFirst m_fitSecond)), ((m_a 5), .inl (cB, 1600, .inl m_tape_c))]) [1, 0] (by decide) rfl
    exact W.iret (v := p0) hx hb hr (fun t ht hW => ⟨⟨p0, (m_at, m_token, m_place, m_value, m_word, n_m_bad_41, n_m_badPlace_41), rfl, ⟨hv_m_at, (by omega), (by omega)⟩, ⟨by rw [ht]; exact hP9, va_K.moved hW.alike hK, hD9⟩⟩, hS.F ht⟩) hS.2.2 dX12_number_45
  subst er33
  have fc33_0 : p0.toInt ≤ m_value.toInt := fc33_0
  have fc33_1 : m_value.toInt ≤ p1.toInt := fc33_1
  refine lv_if_ne (tgt := 46) hx hb dX12_number_36 (by decide) (fun _ => ?_) (fun c => absurd c (by decide))
  refine lv_aload_n hx hb dX12_number_46 rfl (lv_at hl 0 rfl) ?_
  refine va_get (D := g) (ci := 11) (v := .int m_value) (C := RX12) (T := TX12) (N := 56) hx hb hts iX12 hown hK hP 0 rfl rfl 10 (by decide) (hts (.fieldLink RX12 141 "CardsAtYuleModel" "value" "I") (List.mem_cons_of_mem _ (List.mem_append_left _ (List.mem_of_getElem? (i := 2) rfl)))) (fun _ h9 => h9) rfl dX12_number_47 ?_
  refine lv_istore_n (lv' := [(3, .int m_value), (0, .ref m), (1, .int p0), (2, .int p1)]) hx hb dX12_number_50 rfl hl (by decide) rfl (fun ls hl => ?_)
  refine lv_aload_n hx hb dX12_number_51 rfl (lv_at hl 1 rfl) ?_
  refine rw_v (wr := []) (va_runV (As := []) (rest := []) ⟨hx, hb, hml, hown, hts⟩ (q_X12_next l g cI cJ cB cZ cL m m_a m_thrown m_taped m_at m_token m_place m_value m_word m_bad m_badPlace m_fault m_faultPlace m_willing m_will m_forgot m_isDrawn m_x m_begin m_round m_roundCards m_fate m_any m_bothSend m_meanCards m_bestSum m_fitMany m_fitFirst m_fitSecond m_tape_c H.size hv_m_taped hv_m_at hv_m_will hv_m_isDrawn (by omega)) (cwV 0 hts (goodIn_app (g_4 (List.mem_cons_of_mem _ (List.mem_append_left _ (List.mem_of_getElem? (i := 6) rfl))) (List.mem_cons_of_mem _ (List.mem_append_left _ (List.mem_of_getElem? (i := 7) rfl))) (List.mem_cons_of_mem _ (List.mem_append_left _ (List.mem_of_getElem? (i := 8) rfl))) (List.mem_cons_of_mem _ (List.mem_append_left _ (List.mem_of_getElem? (i := 5) rfl))) (by decide +kernel)) (goodIn_sub (fun _ h => List.mem_cons_of_mem _ (List.mem_append_right _ (List.mem_append_right _ (List.mem_append_left _ h)))) good_v_X12_next)) rfl rfl rfl (by decide +kernel) ⟨Nat.le_of_ble_eq_true rfl, Nat.le_of_ble_eq_true rfl⟩) (pv_RW (q := (RX12, TX12, 56)) (ci := 11) (q0 := 0) (wc := [(m, .inr (11, mG m_a m_thrown m_taped m_at m_token m_place m_value m_word m_bad m_badPlace m_fault m_faultPlace m_willing m_will m_forgot m_isDrawn m_x m_begin m_round m_roundCards m_fate m_any m_bothSend m_meanCards m_bestSum m_fitMany m_fitFirst m_fitSecond)), ((m_a 5), .inl (cB, 1600, .inl m_tape_c))]) hK hP hD [0, 1] (by decide) rfl rfl rfl) rfl rfl hl.1 rfl (lv_room (Nat.le_of_ble_eq_true rfl)) dX12_number_52 ⟨Nat.le_of_ble_eq_true rfl, Nat.le_of_ble_eq_true rfl⟩) hS hA hP hD [0, 1] [] rfl rfl (by decide) (by decide) (fun u52 H locs hw52 hP hD hS => ?_)
  obtain ⟨n_m_at_52, n_m_token_52, n_m_place_52, n_m_value_52, n_m_word_52⟩ := u52
  have hP : va_P g vwCl [(m, .inr (11, mG m_a m_thrown m_taped n_m_at_52 n_m_token_52 n_m_place_52 n_m_value_52 n_m_word_52 m_bad m_badPlace m_fault m_faultPlace m_willing m_will m_forgot m_isDrawn m_x m_begin m_round m_roundCards m_fate m_any m_bothSend m_meanCards m_bestSum m_fitMany m_fitFirst m_fitSecond)), ((m_a 5), .inl (cB, 1600, .inl m_tape_c))] H := hP
  have hD : va_D A [(m, .inr (11, mG m_a m_thrown m_taped n_m_at_52 n_m_token_52 n_m_place_52 n_m_value_52 n_m_word_52 m_bad m_badPlace m_fault m_faultPlace m_willing m_will m_forgot m_isDrawn m_x m_begin m_round m_roundCards m_fate m_any m_bothSend m_meanCards m_bestSum m_fitMany m_fitFirst m_fitSecond)), ((m_a 5), .inl (cB, 1600, .inl m_tape_c))] := hD
  dsimp only at hw52
  obtain ⟨hw52_0, hw52_1, hw52_2, hw52_3⟩ := hw52
  have hw52_3 : (m_at.toInt ≤ n_m_at_52.toInt ∧ n_m_at_52.toInt ≤ m_taped.toInt ∧ 0 ≤ n_m_token_52.toInt ∧ n_m_token_52.toInt ≤ 4 ∧ (m_at.toInt < n_m_at_52.toInt ∨ (n_m_token_52.toInt = 0 ∧ n_m_at_52.toInt = m_taped.toInt))) := hw52_3
  refine lv_iload_n hx hb dX12_number_55 rfl (lv_at hl 0 rfl) ?_
  subst hQ
  have hP9 := hP.sub (ws' := [(m, .inr (11, mG m_a m_thrown m_taped n_m_at_52 n_m_token_52 n_m_place_52 n_m_value_52 n_m_word_52 m_bad m_badPlace m_fault m_faultPlace m_willing m_will m_forgot m_isDrawn m_x m_begin m_round m_roundCards m_fate m_any m_bothSend m_meanCards m_bestSum m_fitMany m_fitFirst m_fitSecond)), ((m_a 5), .inl (cB, 1600, .inl m_tape_c))]) [0, 1] rfl
  have hD9 := hD.sub (ws' := [(m, .inr (11, mG m_a m_thrown m_taped n_m_at_52 n_m_token_52 n_m_place_52 n_m_value_52 n_m_word_52 m_bad m_badPlace m_fault m_faultPlace m_willing m_will m_forgot m_isDrawn m_x m_begin m_round m_roundCards m_fate m_any m_bothSend m_meanCards m_bestSum m_fitMany m_fitFirst m_fitSecond)), ((m_a 5), .inl (cB, 1600, .inl m_tape_c))]) [0, 1] (by decide) rfl
  exact W.iret (v := m_value) hx hb hr (fun t ht hW => ⟨⟨m_value, (n_m_at_52, n_m_token_52, n_m_place_52, n_m_value_52, n_m_word_52, m_bad, m_badPlace), rfl, ⟨hw52_0, (by omega), (by omega)⟩, ⟨by rw [ht]; exact hP9, va_K.moved hW.alike hK, hD9⟩⟩, hS.F ht⟩) hS.2.2 dX12_number_56
def v_X12_number_ : List Cond := .code yX12_number_ cX12_number_ 5 (some .int) :: (([.methodLink RX12 178 yX12_asks, .instanceMethod yX12_asks, .selects RX12 yX12_asks yX12_asks, .initialized RX12, .methodLink RX12 182 yX12_number, .instanceMethod yX12_number, .selects RX12 yX12_number yX12_number] : List Cond) ++ (v_X12_asks ++ (v_X12_number ++ ([] : List Cond))))
theorem good_v_X12_number_ : v_X12_number_.all goodWord = true := ga_c (by decide +kernel) (ga_a (by decide +kernel) (ga_a good_v_X12_asks (ga_a good_v_X12_number rfl)))
set_option maxHeartbeats 4000000 in
set_option maxRecDepth 100000 in
theorem q_X12_number_ (l : Launch) (g : va_G) (cI cJ cB cZ cL : ClassId) (p0 : Int64) (p1 : Int32) (p2 : Int32) (m : Nat) (m_a : Nat → Nat) (m_thrown : Int32) (m_taped : Int32) (m_at : Int32) (m_token : Int32) (m_place : Int32) (m_value : Int32) (m_word : Int64) (m_bad : Int32) (m_badPlace : Int32) (m_fault : Int32) (m_faultPlace : Int32) (m_willing : Int32) (m_will : Int32) (m_forgot : Int32) (m_isDrawn : Int32) (m_x : Int64) (m_begin : Int32) (m_round : Int32) (m_roundCards : Int32) (m_fate : Int32) (m_any : Int64) (m_bothSend : Int64) (m_meanCards : Int64) (m_bestSum : Int32) (m_fitMany : Int32) (m_fitFirst : Int64) (m_fitSecond : Int64) (m_tape_c : Nat → Int32) (sz : Nat) (hv_m_taped : ir m_taped.toInt 0 1600) (hv_m_at : ir m_at.toInt 0 1600) (hv_m_will : ir m_will.toInt 0 1) (hv_m_isDrawn : ir m_isDrawn.toInt 0 1) (hx_0 : m_at.toInt ≤ m_taped.toInt) : Met l yX12_number_ v_X12_number_ ({ frames := 4, cells := 0, slots := 0, locals := 88 }) (va_Pc [.ref m, .long p0, .int p1, .int p2] (pRW g (tyT cI cJ cB cZ cL) [(m, .inr (11, mG m_a m_thrown m_taped m_at m_token m_place m_value m_word m_bad m_badPlace m_fault m_faultPlace m_willing m_will m_forgot m_isDrawn m_x m_begin m_round m_roundCards m_fate m_any m_bothSend m_meanCards m_bestSum m_fitMany m_fitFirst m_fitSecond)), ((m_a 5), .inl (cB, 1600, .inl m_tape_c))] sz)) (va_Qi (fun (r : Int32) (u : Int32 × Int32 × Int32 × Int32 × Int64 × Int32 × Int32) => match u with | (n_m_at, n_m_token, n_m_place, n_m_value, n_m_word, n_m_bad, n_m_badPlace) => (ir n_m_at.toInt 0 1600) ∧ ((n_m_at.toInt = m_at.toInt ∧ n_m_token.toInt = m_token.toInt) ∨ (m_at.toInt ≤ n_m_at.toInt ∧ n_m_at.toInt ≤ m_taped.toInt ∧ 0 ≤ n_m_token.toInt ∧ n_m_token.toInt ≤ 4 ∧ (m_at.toInt < n_m_at.toInt ∨ (n_m_token.toInt = 0 ∧ n_m_at.toInt = m_taped.toInt)))) ∧ (r.toInt = p1.toInt ∨ (p1.toInt ≤ r.toInt ∧ r.toInt ≤ p2.toInt))) (fun (u : Int32 × Int32 × Int32 × Int32 × Int64 × Int32 × Int32) (t : State) => bRW g (tyT cI cJ cB cZ cL) (va_A [(m, .inr (11, mG m_a m_thrown m_taped m_at m_token m_place m_value m_word m_bad m_badPlace m_fault m_faultPlace m_willing m_will m_forgot m_isDrawn m_x m_begin m_round m_roundCards m_fate m_any m_bothSend m_meanCards m_bestSum m_fitMany m_fitFirst m_fitSecond)), ((m_a 5), .inl (cB, 1600, .inl m_tape_c))] sz) (match u with | (n_m_at, n_m_token, n_m_place, n_m_value, n_m_word, n_m_bad, n_m_badPlace) => [(m, .inr (11, mG m_a m_thrown m_taped n_m_at n_m_token n_m_place n_m_value n_m_word n_m_bad n_m_badPlace m_fault m_faultPlace m_willing m_will m_forgot m_isDrawn m_x m_begin m_round m_roundCards m_fate m_any m_bothSend m_meanCards m_bestSum m_fitMany m_fitFirst m_fitSecond)), ((m_a 5), .inl (cB, 1600, .inl m_tape_c))]) t) (va_A [(m, .inr (11, mG m_a m_thrown m_taped m_at m_token m_place m_value m_word m_bad m_badPlace m_fault m_faultPlace m_willing m_will m_forgot m_isDrawn m_x m_begin m_round m_roundCards m_fate m_any m_bothSend m_meanCards m_bestSum m_fitMany m_fitFirst m_fitSecond)), ((m_a 5), .inl (cB, 1600, .inl m_tape_c))] sz)) 0 0 (va_A [(m, .inr (11, mG m_a m_thrown m_taped m_at m_token m_place m_value m_word m_bad m_badPlace m_fault m_faultPlace m_willing m_will m_forgot m_isDrawn m_x m_begin m_round m_roundCards m_fate m_any m_bothSend m_meanCards m_bestSum m_fitMany m_fitFirst m_fitSecond)), ((m_a 5), .inl (cB, 1600, .inl m_tape_c))] sz) := by
  refine Met.ofW (cc := cX12_number_) (maxL := 5) (ret := (some .int)) (by decide) rfl ?_
  intro p e s mth args below meth c s₁ B hml hv
  obtain ⟨rfl, hsz, hP, hK, hD0⟩ := hv
  have hx := B.exec
  have hb := B.bytes
  have hr := B.returns
  have hts := atoms_spec (ws := v_X12_number_) B.pre
  have hown : s.vm.findClass RX12 = some mth.cls := findClass_of_methodNamed B.named
  have hlocks := B.notSynchronized
  clear B
  subst hsz
  have hD := hD0.self (sz := s.heap.size)
  generalize hAe : (va_A [(m, .inr (11, mG m_a m_thrown m_taped m_at m_token m_place m_value m_word m_bad m_badPlace m_fault m_faultPlace m_willing m_will m_forgot m_isDrawn m_x m_begin m_round m_roundCards m_fate m_any m_bothSend m_meanCards m_bestSum m_fitMany m_fitFirst m_fitSecond)), ((m_a 5), .inl (cB, 1600, .inl m_tape_c))] s.heap.size) = A at hD ⊢
  have hA : ∀ q : Nat, s.heap.size ≤ q → A q := fun q h => by rw [← hAe]; exact Or.inr h
  have hS : va_S A s.heap s.heap [] := va_S.rf
  have hl := lv_entry ([.ref m, .long p0, .int p1, .int p2]) (n := 5) (Nat.le_of_ble_eq_true rfl)
  rw [lg_entry_eq]
  generalize (lg_sl ([.ref m, .long p0, .int p1, .int p2]) ++ List.replicate (5 - (lg_sl ([.ref m, .long p0, .int p1, .int p2])).length) Slot.unset).toArray = ls at hl ⊢
  generalize ([.ref m, .long p0, .int p1, .int p2] : List Value).toArray = av at hts ⊢
  generalize hQ : MQ below _ av s _ _ A = QQ
  have hl : lv_has ls 5 [(0, .ref m), (1, .long p0), (3, .int p1), (4, .int p2)] := hl
  have hP : va_P g vwCl [(m, .inr (11, mG m_a m_thrown m_taped m_at m_token m_place m_value m_word m_bad m_badPlace m_fault m_faultPlace m_willing m_will m_forgot m_isDrawn m_x m_begin m_round m_roundCards m_fate m_any m_bothSend m_meanCards m_bestSum m_fitMany m_fitFirst m_fitSecond)), ((m_a 5), .inl (cB, 1600, .inl m_tape_c))] s.heap := hP
  refine lv_aload_n hx hb dX12_number__0 rfl (lv_at hl 0 rfl) ?_
  refine lv_lload_n hx hb dX12_number__1 rfl (lv_at hl 1 rfl) ?_
  refine rw_v (wr := []) (va_runV (As := [.long p0]) (rest := []) ⟨hx, hb, hml, hown, hts⟩ (q_X12_asks l g cI cJ cB cZ cL p0 m m_a m_thrown m_taped m_at m_token m_place m_value m_word m_bad m_badPlace m_fault m_faultPlace m_willing m_will m_forgot m_isDrawn m_x m_begin m_round m_roundCards m_fate m_any m_bothSend m_meanCards m_bestSum m_fitMany m_fitFirst m_fitSecond m_tape_c s.heap.size hv_m_taped hv_m_at hv_m_will hv_m_isDrawn (by omega)) (cwV 1 hts (goodIn_app (g_4 (List.mem_cons_of_mem _ (List.mem_append_left _ (List.mem_of_getElem? (i := 0) rfl))) (List.mem_cons_of_mem _ (List.mem_append_left _ (List.mem_of_getElem? (i := 1) rfl))) (List.mem_cons_of_mem _ (List.mem_append_left _ (List.mem_of_getElem? (i := 2) rfl))) (List.mem_cons_of_mem _ (List.mem_append_left _ (List.mem_of_getElem? (i := 3) rfl))) (by decide +kernel)) (goodIn_sub (fun _ h => List.mem_cons_of_mem _ (List.mem_append_right _ (List.mem_append_left _ h))) good_v_X12_asks)) rfl rfl rfl (by decide +kernel) ⟨Nat.le_of_ble_eq_true rfl, Nat.le_of_ble_eq_true rfl⟩) (pv_RW (q := (RX12, TX12, 56)) (ci := 11) (q0 := 0) (wc := [(m, .inr (11, mG m_a m_thrown m_taped m_at m_token m_place m_value m_word m_bad m_badPlace m_fault m_faultPlace m_willing m_will m_forgot m_isDrawn m_x m_begin m_round m_roundCards m_fate m_any m_bothSend m_meanCards m_bestSum m_fitMany m_fitFirst m_fitSecond)), ((m_a 5), .inl (cB, 1600, .inl m_tape_c))]) hK hP hD [0, 1] (by decide) rfl rfl rfl) rfl rfl hl.1 rfl (lv_room (Nat.le_of_ble_eq_true rfl)) dX12_number__2 ⟨Nat.le_of_ble_eq_true rfl, Nat.le_of_ble_eq_true rfl⟩) hS hA hP hD [0, 1] [] rfl rfl (by decide) (by decide) (fun u2 H locs hw2 hP hD hS => ?_)
  obtain ⟨n_m_at_2, n_m_token_2, n_m_place_2, n_m_value_2, n_m_word_2, n_m_bad_2, n_m_badPlace_2⟩ := u2
  have hP : va_P g vwCl [(m, .inr (11, mG m_a m_thrown m_taped n_m_at_2 n_m_token_2 n_m_place_2 n_m_value_2 n_m_word_2 n_m_bad_2 n_m_badPlace_2 m_fault m_faultPlace m_willing m_will m_forgot m_isDrawn m_x m_begin m_round m_roundCards m_fate m_any m_bothSend m_meanCards m_bestSum m_fitMany m_fitFirst m_fitSecond)), ((m_a 5), .inl (cB, 1600, .inl m_tape_c))] H := hP
  have hD : va_D A [(m, .inr (11, mG m_a m_thrown m_taped n_m_at_2 n_m_token_2 n_m_place_2 n_m_value_2 n_m_word_2 n_m_bad_2 n_m_badPlace_2 m_fault m_faultPlace m_willing m_will m_forgot m_isDrawn m_x m_begin m_round m_roundCards m_fate m_any m_bothSend m_meanCards m_bestSum m_fitMany m_fitFirst m_fitSecond)), ((m_a 5), .inl (cB, 1600, .inl m_tape_c))] := hD
  dsimp only at hw2
  obtain ⟨hw2_0, hw2_1⟩ := hw2
  have hw2_1 : (n_m_at_2.toInt = m_at.toInt ∧ n_m_token_2.toInt = m_token.toInt) ∨ (m_at.toInt ≤ n_m_at_2.toInt ∧ n_m_at_2.toInt ≤ m_taped.toInt ∧ 0 ≤ n_m_token_2.toInt ∧ n_m_token_2.toInt ≤ 4 ∧ (m_at.toInt < n_m_at_2.toInt ∨ (n_m_token_2.toInt = 0 ∧ n_m_at_2.toInt = m_taped.toInt))) := hw2_1
  refine lv_aload_n hx hb dX12_number__5 rfl (lv_at hl 0 rfl) ?_
  refine lv_iload_n hx hb dX12_number__6 rfl (lv_at hl 2 rfl) ?_
  refine lv_iload hx hb dX12_number__7 (lv_at hl 3 rfl) ?_
  refine rw_i (wr := []) (va_runV (As := [.int p1, .int p2]) (rest := []) ⟨hx, hb, hml, hown, hts⟩ (q_X12_number l g cI cJ cB cZ cL p1 p2 m m_a m_thrown m_taped n_m_at_2 n_m_token_2 n_m_place_2 n_m_value_2 n_m_word_2 n_m_bad_2 n_m_badPlace_2 m_fault m_faultPlace m_willing m_will m_forgot m_isDrawn m_x m_begin m_round m_roundCards m_fate m_any m_bothSend m_meanCards m_bestSum m_fitMany m_fitFirst m_fitSecond m_tape_c H.size hv_m_taped hw2_0 hv_m_will hv_m_isDrawn (by omega)) (cwV 2 hts (goodIn_app (g_4 (List.mem_cons_of_mem _ (List.mem_append_left _ (List.mem_of_getElem? (i := 4) rfl))) (List.mem_cons_of_mem _ (List.mem_append_left _ (List.mem_of_getElem? (i := 5) rfl))) (List.mem_cons_of_mem _ (List.mem_append_left _ (List.mem_of_getElem? (i := 6) rfl))) (List.mem_cons_of_mem _ (List.mem_append_left _ (List.mem_of_getElem? (i := 3) rfl))) (by decide +kernel)) (goodIn_sub (fun _ h => List.mem_cons_of_mem _ (List.mem_append_right _ (List.mem_append_right _ (List.mem_append_left _ h)))) good_v_X12_number)) rfl rfl rfl (by decide +kernel) ⟨Nat.le_of_ble_eq_true rfl, Nat.le_of_ble_eq_true rfl⟩) (pv_RW (q := (RX12, TX12, 56)) (ci := 11) (q0 := 0) (wc := [(m, .inr (11, mG m_a m_thrown m_taped n_m_at_2 n_m_token_2 n_m_place_2 n_m_value_2 n_m_word_2 n_m_bad_2 n_m_badPlace_2 m_fault m_faultPlace m_willing m_will m_forgot m_isDrawn m_x m_begin m_round m_roundCards m_fate m_any m_bothSend m_meanCards m_bestSum m_fitMany m_fitFirst m_fitSecond)), ((m_a 5), .inl (cB, 1600, .inl m_tape_c))]) hK hP hD [0, 1] (by decide) rfl rfl rfl) rfl rfl hl.1 rfl (lv_room (Nat.le_of_ble_eq_true rfl)) dX12_number__9 ⟨Nat.le_of_ble_eq_true rfl, Nat.le_of_ble_eq_true rfl⟩) hS hA hP hD [0, 1] [] rfl rfl (by decide) (by decide) (fun r9 u9 H locs hw9 hP hD hS => ?_)
  obtain ⟨n_m_at_9, n_m_token_9, n_m_place_9, n_m_value_9, n_m_word_9, n_m_bad_9, n_m_badPlace_9⟩ := u9
  have hP : va_P g vwCl [(m, .inr (11, mG m_a m_thrown m_taped n_m_at_9 n_m_token_9 n_m_place_9 n_m_value_9 n_m_word_9 n_m_bad_9 n_m_badPlace_9 m_fault m_faultPlace m_willing m_will m_forgot m_isDrawn m_x m_begin m_round m_roundCards m_fate m_any m_bothSend m_meanCards m_bestSum m_fitMany m_fitFirst m_fitSecond)), ((m_a 5), .inl (cB, 1600, .inl m_tape_c))] H := hP
  have hD : va_D A [(m, .inr (11, mG m_a m_thrown m_taped n_m_at_9 n_m_token_9 n_m_place_9 n_m_value_9 n_m_word_9 n_m_bad_9 n_m_badPlace_9 m_fault m_faultPlace m_willing m_will m_forgot m_isDrawn m_x m_begin m_round m_roundCards m_fate m_any m_bothSend m_meanCards m_bestSum m_fitMany m_fitFirst m_fitSecond)), ((m_a 5), .inl (cB, 1600, .inl m_tape_c))] := hD
  dsimp only at hw9
  obtain ⟨hw9_0, hw9_1, hw9_2⟩ := hw9
  have hw9_1 : (n_m_at_9.toInt = n_m_at_2.toInt ∧ n_m_token_9.toInt = n_m_token_2.toInt) ∨ (n_m_at_2.toInt ≤ n_m_at_9.toInt ∧ n_m_at_9.toInt ≤ m_taped.toInt ∧ 0 ≤ n_m_token_9.toInt ∧ n_m_token_9.toInt ≤ 4 ∧ (n_m_at_2.toInt < n_m_at_9.toInt ∨ (n_m_token_9.toInt = 0 ∧ n_m_at_9.toInt = m_taped.toInt))) := hw9_1
  have hw9_2 : r9.toInt = p1.toInt ∨ (p1.toInt ≤ r9.toInt ∧ r9.toInt ≤ p2.toInt) := hw9_2
  subst hQ
  have hP9 := hP.sub (ws' := [(m, .inr (11, mG m_a m_thrown m_taped n_m_at_9 n_m_token_9 n_m_place_9 n_m_value_9 n_m_word_9 n_m_bad_9 n_m_badPlace_9 m_fault m_faultPlace m_willing m_will m_forgot m_isDrawn m_x m_begin m_round m_roundCards m_fate m_any m_bothSend m_meanCards m_bestSum m_fitMany m_fitFirst m_fitSecond)), ((m_a 5), .inl (cB, 1600, .inl m_tape_c))]) [0, 1] rfl
  have hD9 := hD.sub (ws' := [(m, .inr (11, mG m_a m_thrown m_taped n_m_at_9 n_m_token_9 n_m_place_9 n_m_value_9 n_m_word_9 n_m_bad_9 n_m_badPlace_9 m_fault m_faultPlace m_willing m_will m_forgot m_isDrawn m_x m_begin m_round m_roundCards m_fate m_any m_bothSend m_meanCards m_bestSum m_fitMany m_fitFirst m_fitSecond)), ((m_a 5), .inl (cB, 1600, .inl m_tape_c))]) [0, 1] (by decide) rfl
  exact W.iret (v := r9) hx hb hr (fun t ht hW => ⟨⟨r9, (n_m_at_9, n_m_token_9, n_m_place_9, n_m_value_9, n_m_word_9, n_m_bad_9, n_m_badPlace_9), rfl, ⟨hw9_0, (by omega), (by omega)⟩, ⟨by rw [ht]; exact hP9, va_K.moved hW.alike hK, hD9⟩⟩, hS.F ht⟩) hS.2.2 dX12_number__12
def v_X12_ends : List Cond := .code yX12_ends cX12_ends 1 none :: (([.fieldLink RX12 148 "CardsAtYuleModel" "token" "I", .fieldLink RX12 159 "CardsAtYuleModel" "bad" "I", .methodLink RX12 169 yX12_next, .instanceMethod yX12_next, .selects RX12 yX12_next yX12_next, .initialized RX12, .methodLink RX12 175 yX12_fails, .instanceMethod yX12_fails, .selects RX12 yX12_fails yX12_fails] : List Cond) ++ (v_X12_next ++ (v_X12_fails ++ (wsX120 ++ ([] : List Cond)))))
theorem good_v_X12_ends : v_X12_ends.all goodWord = true := ga_c (by decide +kernel) (ga_a (by decide +kernel) (ga_a good_v_X12_next (ga_a good_v_X12_fails (ga_a good_wsX120 rfl))))
set_option maxHeartbeats 4000000 in
set_option maxRecDepth 100000 in
theorem q_X12_ends (l : Launch) (g : va_G) (cI cJ cB cZ cL : ClassId) (m : Nat) (m_a : Nat → Nat) (m_thrown : Int32) (m_taped : Int32) (m_at : Int32) (m_token : Int32) (m_place : Int32) (m_value : Int32) (m_word : Int64) (m_bad : Int32) (m_badPlace : Int32) (m_fault : Int32) (m_faultPlace : Int32) (m_willing : Int32) (m_will : Int32) (m_forgot : Int32) (m_isDrawn : Int32) (m_x : Int64) (m_begin : Int32) (m_round : Int32) (m_roundCards : Int32) (m_fate : Int32) (m_any : Int64) (m_bothSend : Int64) (m_meanCards : Int64) (m_bestSum : Int32) (m_fitMany : Int32) (m_fitFirst : Int64) (m_fitSecond : Int64) (m_tape_c : Nat → Int32) (sz : Nat) (hv_m_taped : ir m_taped.toInt 0 1600) (hv_m_at : ir m_at.toInt 0 1600) (hv_m_will : ir m_will.toInt 0 1) (hv_m_isDrawn : ir m_isDrawn.toInt 0 1) (hx_0 : m_at.toInt ≤ m_taped.toInt) : Met l yX12_ends v_X12_ends ({ frames := 2, cells := 0, slots := 0, locals := 44 }) (va_Pc [.ref m] (pRW g (tyT cI cJ cB cZ cL) [(m, .inr (11, mG m_a m_thrown m_taped m_at m_token m_place m_value m_word m_bad m_badPlace m_fault m_faultPlace m_willing m_will m_forgot m_isDrawn m_x m_begin m_round m_roundCards m_fate m_any m_bothSend m_meanCards m_bestSum m_fitMany m_fitFirst m_fitSecond)), ((m_a 5), .inl (cB, 1600, .inl m_tape_c))] sz)) (va_Qv (fun (u : Int32 × Int32 × Int32 × Int32 × Int64 × Int32 × Int32) => match u with | (n_m_at, n_m_token, n_m_place, n_m_value, n_m_word, n_m_bad, n_m_badPlace) => (ir n_m_at.toInt 0 1600) ∧ (n_m_bad.toInt ≠ 0 ∨ (m_at.toInt ≤ n_m_at.toInt ∧ n_m_at.toInt ≤ m_taped.toInt ∧ 0 ≤ n_m_token.toInt ∧ n_m_token.toInt ≤ 4 ∧ (m_at.toInt < n_m_at.toInt ∨ (n_m_token.toInt = 0 ∧ n_m_at.toInt = m_taped.toInt)))) ∧ (n_m_at.toInt ≤ m_taped.toInt)) (fun (u : Int32 × Int32 × Int32 × Int32 × Int64 × Int32 × Int32) (t : State) => bRW g (tyT cI cJ cB cZ cL) (va_A [(m, .inr (11, mG m_a m_thrown m_taped m_at m_token m_place m_value m_word m_bad m_badPlace m_fault m_faultPlace m_willing m_will m_forgot m_isDrawn m_x m_begin m_round m_roundCards m_fate m_any m_bothSend m_meanCards m_bestSum m_fitMany m_fitFirst m_fitSecond)), ((m_a 5), .inl (cB, 1600, .inl m_tape_c))] sz) (match u with | (n_m_at, n_m_token, n_m_place, n_m_value, n_m_word, n_m_bad, n_m_badPlace) => [(m, .inr (11, mG m_a m_thrown m_taped n_m_at n_m_token n_m_place n_m_value n_m_word n_m_bad n_m_badPlace m_fault m_faultPlace m_willing m_will m_forgot m_isDrawn m_x m_begin m_round m_roundCards m_fate m_any m_bothSend m_meanCards m_bestSum m_fitMany m_fitFirst m_fitSecond)), ((m_a 5), .inl (cB, 1600, .inl m_tape_c))]) t) (va_A [(m, .inr (11, mG m_a m_thrown m_taped m_at m_token m_place m_value m_word m_bad m_badPlace m_fault m_faultPlace m_willing m_will m_forgot m_isDrawn m_x m_begin m_round m_roundCards m_fate m_any m_bothSend m_meanCards m_bestSum m_fitMany m_fitFirst m_fitSecond)), ((m_a 5), .inl (cB, 1600, .inl m_tape_c))] sz)) 0 0 (va_A [(m, .inr (11, mG m_a m_thrown m_taped m_at m_token m_place m_value m_word m_bad m_badPlace m_fault m_faultPlace m_willing m_will m_forgot m_isDrawn m_x m_begin m_round m_roundCards m_fate m_any m_bothSend m_meanCards m_bestSum m_fitMany m_fitFirst m_fitSecond)), ((m_a 5), .inl (cB, 1600, .inl m_tape_c))] sz) := by
  refine Met.ofW (cc := cX12_ends) (maxL := 1) (ret := none) (by decide) rfl ?_
  intro p e s mth args below meth c s₁ B hml hv
  obtain ⟨rfl, hsz, hP, hK, hD0⟩ := hv
  have hx := B.exec
  have hb := B.bytes
  have hr := B.returns
  have hts := atoms_spec (ws := v_X12_ends) B.pre
  have hown : s.vm.findClass RX12 = some mth.cls := findClass_of_methodNamed B.named
  have hlocks := B.notSynchronized
  clear B
  subst hsz
  have iX12 : ∀ w ∈ wsX120, w ∈ v_X12_ends := (fun _ h => List.mem_cons_of_mem _ (List.mem_append_right _ (List.mem_append_right _ (List.mem_append_right _ (List.mem_append_left _ h)))))
  have hD := hD0.self (sz := s.heap.size)
  generalize hAe : (va_A [(m, .inr (11, mG m_a m_thrown m_taped m_at m_token m_place m_value m_word m_bad m_badPlace m_fault m_faultPlace m_willing m_will m_forgot m_isDrawn m_x m_begin m_round m_roundCards m_fate m_any m_bothSend m_meanCards m_bestSum m_fitMany m_fitFirst m_fitSecond)), ((m_a 5), .inl (cB, 1600, .inl m_tape_c))] s.heap.size) = A at hD ⊢
  have hA : ∀ q : Nat, s.heap.size ≤ q → A q := fun q h => by rw [← hAe]; exact Or.inr h
  have hS : va_S A s.heap s.heap [] := va_S.rf
  have hl := lv_entry ([.ref m]) (n := 1) (Nat.le_of_ble_eq_true rfl)
  rw [lg_entry_eq]
  generalize (lg_sl ([.ref m]) ++ List.replicate (1 - (lg_sl ([.ref m])).length) Slot.unset).toArray = ls at hl ⊢
  generalize ([.ref m] : List Value).toArray = av at hts ⊢
  generalize hQ : MQ below _ av s _ _ A = QQ
  have hl : lv_has ls 1 [(0, .ref m)] := hl
  have hP : va_P g vwCl [(m, .inr (11, mG m_a m_thrown m_taped m_at m_token m_place m_value m_word m_bad m_badPlace m_fault m_faultPlace m_willing m_will m_forgot m_isDrawn m_x m_begin m_round m_roundCards m_fate m_any m_bothSend m_meanCards m_bestSum m_fitMany m_fitFirst m_fitSecond)), ((m_a 5), .inl (cB, 1600, .inl m_tape_c))] s.heap := hP
  refine lv_aload_n hx hb dX12_ends_0 rfl (lv_at hl 0 rfl) ?_
  refine va_get (D := g) (ci := 11) (v := .int m_token) (C := RX12) (T := TX12) (N := 56) hx hb hts iX12 hown hK hP 0 rfl rfl 8 (by decide) (hts (.fieldLink RX12 148 "CardsAtYuleModel" "token" "I") (List.mem_cons_of_mem _ (List.mem_append_left _ (List.mem_of_getElem? (i := 0) rfl)))) (fun _ h9 => h9) rfl dX12_ends_1 ?_
  refine lv_iconst (v := 3) hx hb dX12_ends_4 (by decide) ?_
  refine lv_icmp_eq (tgt := 13) hx hb dX12_ends_5 (by decide) (fun c5 => ?_) (fun c5 => ?_)
  rotate_left 1
  · have f5 := (show m_token.toInt ≠ 3 from z_ne rfl rfl c5)
    refine lv_aload_n hx hb dX12_ends_8 rfl (lv_at hl 0 rfl) ?_
    refine lv_iconst (v := 1) hx hb dX12_ends_9 (by decide) ?_
    refine rw_v (wr := [((m_a 5), .inl (cB, 1600, .inl m_tape_c))]) (va_runV (As := [.int 1]) (rest := []) ⟨hx, hb, hml, hown, hts⟩ (q_X12_fails l g cI cJ cB cZ cL 1 m m_a m_thrown m_taped m_at m_token m_place m_value m_word m_bad m_badPlace m_fault m_faultPlace m_willing m_will m_forgot m_isDrawn m_x m_begin m_round m_roundCards m_fate m_any m_bothSend m_meanCards m_bestSum m_fitMany m_fitFirst m_fitSecond s.heap.size (by decide) hv_m_taped hv_m_at hv_m_will hv_m_isDrawn) (cwV 1 hts (goodIn_app (g_4 (List.mem_cons_of_mem _ (List.mem_append_left _ (List.mem_of_getElem? (i := 6) rfl))) (List.mem_cons_of_mem _ (List.mem_append_left _ (List.mem_of_getElem? (i := 7) rfl))) (List.mem_cons_of_mem _ (List.mem_append_left _ (List.mem_of_getElem? (i := 8) rfl))) (List.mem_cons_of_mem _ (List.mem_append_left _ (List.mem_of_getElem? (i := 5) rfl))) (by decide +kernel)) (goodIn_sub (fun _ h => List.mem_cons_of_mem _ (List.mem_append_right _ (List.mem_append_right _ (List.mem_append_left _ h)))) good_v_X12_fails)) rfl rfl rfl (by decide +kernel) ⟨Nat.le_of_ble_eq_true rfl, Nat.le_of_ble_eq_true rfl⟩) (pv_RW (q := (RX12, TX12, 56)) (ci := 11) (q0 := 0) (wc := [(m, .inr (11, mG m_a m_thrown m_taped m_at m_token m_place m_value m_word m_bad m_badPlace m_fault m_faultPlace m_willing m_will m_forgot m_isDrawn m_x m_begin m_round m_roundCards m_fate m_any m_bothSend m_meanCards m_bestSum m_fitMany m_fitFirst m_fitSecond))]) hK hP hD [0] (by decide) rfl rfl rfl) rfl rfl hl.1 rfl (lv_room (Nat.le_of_ble_eq_true rfl)) dX12_ends_10 ⟨Nat.le_of_ble_eq_true rfl, Nat.le_of_ble_eq_true rfl⟩) hS hA hP hD [0] [1] rfl rfl (by decide) (by decide) (fun u10 H locs hw10 hP hD hS => ?_)
    obtain ⟨n_m_bad_10, n_m_badPlace_10⟩ := u10
    have hP : va_P g vwCl [((m_a 5), .inl (cB, 1600, .inl m_tape_c)), (m, .inr (11, mG m_a m_thrown m_taped m_at m_token m_place m_value m_word n_m_bad_10 n_m_badPlace_10 m_fault m_faultPlace m_willing m_will m_forgot m_isDrawn m_x m_begin m_round m_roundCards m_fate m_any m_bothSend m_meanCards m_bestSum m_fitMany m_fitFirst m_fitSecond))] H := hP
    have hD : va_D A [((m_a 5), .inl (cB, 1600, .inl m_tape_c)), (m, .inr (11, mG m_a m_thrown m_taped m_at m_token m_place m_value m_word n_m_bad_10 n_m_badPlace_10 m_fault m_faultPlace m_willing m_will m_forgot m_isDrawn m_x m_begin m_round m_roundCards m_fate m_any m_bothSend m_meanCards m_bestSum m_fitMany m_fitFirst m_fitSecond))] := hD
    dsimp only at hw10
    have hw10_0 := hw10
    have hw10_0 : n_m_bad_10.toInt ≠ 0 := hw10_0
    refine lv_aload_n hx hb dX12_ends_13 rfl (lv_at hl 0 rfl) ?_
    refine va_get (D := g) (ci := 11) (v := .int n_m_bad_10) (C := RX12) (T := TX12) (N := 56) hx hb hts iX12 hown hK hP 1 rfl rfl 12 (by decide) (hts (.fieldLink RX12 159 "CardsAtYuleModel" "bad" "I") (List.mem_cons_of_mem _ (List.mem_append_left _ (List.mem_of_getElem? (i := 1) rfl)))) (fun _ h9 => h9) rfl dX12_ends_14 ?_
    refine lv_if_ne (tgt := 24) hx hb dX12_ends_17 (by decide) (fun c17 => ?_) (fun c17 => by exfalso; have f17 := (show n_m_bad_10.toInt = 0 from z_eq rfl rfl c17); have a9 := (rg_all n_m_bad_10); have b9 := (ir_c 0); omega)
    have f17 := (show n_m_bad_10.toInt ≠ 0 from z_ne rfl rfl c17)
    subst hQ
    have hP9 := hP.sub (ws' := [(m, .inr (11, mG m_a m_thrown m_taped m_at m_token m_place m_value m_word n_m_bad_10 n_m_badPlace_10 m_fault m_faultPlace m_willing m_will m_forgot m_isDrawn m_x m_begin m_round m_roundCards m_fate m_any m_bothSend m_meanCards m_bestSum m_fitMany m_fitFirst m_fitSecond)), ((m_a 5), .inl (cB, 1600, .inl m_tape_c))]) [1, 0] rfl
    have hD9 := hD.sub (ws' := [(m, .inr (11, mG m_a m_thrown m_taped m_at m_token m_place m_value m_word n_m_bad_10 n_m_badPlace_10 m_fault m_faultPlace m_willing m_will m_forgot m_isDrawn m_x m_begin m_round m_roundCards m_fate m_any m_bothSend m_meanCards m_bestSum m_fitMany m_fitFirst m_fitSecond)), ((m_a 5), .inl (cB, 1600, .inl m_tape_c))]) [1, 0] (by decide) rfl
    exact W.vret hx hb hr (fun t ht hW => ⟨⟨(m_at, m_token, m_place, m_value, m_word, n_m_bad_10, n_m_badPlace_10), rfl, ⟨hv_m_at, (by omega), (by omega)⟩, ⟨by rw [ht]; exact hP9, va_K.moved hW.alike hK, hD9⟩⟩, hS.F ht⟩) hS.2.2 dX12_ends_24
  have f5 := (show m_token.toInt = 3 from z_eq rfl rfl c5)
  have r5a : ir m_token.toInt 3 3 := ir_eqa f5 (rg_all m_token) (ir_c 3) (by decide) (by decide)
  refine lv_aload_n hx hb dX12_ends_13 rfl (lv_at hl 0 rfl) ?_
  refine va_get (D := g) (ci := 11) (v := .int m_bad) (C := RX12) (T := TX12) (N := 56) hx hb hts iX12 hown hK hP 0 rfl rfl 12 (by decide) (hts (.fieldLink RX12 159 "CardsAtYuleModel" "bad" "I") (List.mem_cons_of_mem _ (List.mem_append_left _ (List.mem_of_getElem? (i := 1) rfl)))) (fun _ h9 => h9) rfl dX12_ends_14 ?_
  refine lv_if_ne (tgt := 24) hx hb dX12_ends_17 (by decide) (fun c17 => ?_) (fun c17 => ?_)
  · have f17 := (show m_bad.toInt ≠ 0 from z_ne rfl rfl c17)
    subst hQ
    have hP9 := hP.sub (ws' := [(m, .inr (11, mG m_a m_thrown m_taped m_at m_token m_place m_value m_word m_bad m_badPlace m_fault m_faultPlace m_willing m_will m_forgot m_isDrawn m_x m_begin m_round m_roundCards m_fate m_any m_bothSend m_meanCards m_bestSum m_fitMany m_fitFirst m_fitSecond)), ((m_a 5), .inl (cB, 1600, .inl m_tape_c))]) [0, 1] rfl
    have hD9 := hD.sub (ws' := [(m, .inr (11, mG m_a m_thrown m_taped m_at m_token m_place m_value m_word m_bad m_badPlace m_fault m_faultPlace m_willing m_will m_forgot m_isDrawn m_x m_begin m_round m_roundCards m_fate m_any m_bothSend m_meanCards m_bestSum m_fitMany m_fitFirst m_fitSecond)), ((m_a 5), .inl (cB, 1600, .inl m_tape_c))]) [0, 1] (by decide) rfl
    exact W.vret hx hb hr (fun t ht hW => ⟨⟨(m_at, m_token, m_place, m_value, m_word, m_bad, m_badPlace), rfl, ⟨hv_m_at, (by omega), (by omega)⟩, ⟨by rw [ht]; exact hP9, va_K.moved hW.alike hK, hD9⟩⟩, hS.F ht⟩) hS.2.2 dX12_ends_24
  have f17 := (show m_bad.toInt = 0 from z_eq rfl rfl c17)
  have r17a : ir m_bad.toInt 0 0 := ir_eqa f17 (rg_all m_bad) (ir_c 0) (by decide) (by decide)
  refine lv_aload_n hx hb dX12_ends_20 rfl (lv_at hl 0 rfl) ?_
  refine rw_v (wr := []) (va_runV (As := []) (rest := []) ⟨hx, hb, hml, hown, hts⟩ (q_X12_next l g cI cJ cB cZ cL m m_a m_thrown m_taped m_at m_token m_place m_value m_word m_bad m_badPlace m_fault m_faultPlace m_willing m_will m_forgot m_isDrawn m_x m_begin m_round m_roundCards m_fate m_any m_bothSend m_meanCards m_bestSum m_fitMany m_fitFirst m_fitSecond m_tape_c s.heap.size hv_m_taped hv_m_at hv_m_will hv_m_isDrawn (by omega)) (cwV 0 hts (goodIn_app (g_4 (List.mem_cons_of_mem _ (List.mem_append_left _ (List.mem_of_getElem? (i := 2) rfl))) (List.mem_cons_of_mem _ (List.mem_append_left _ (List.mem_of_getElem? (i := 3) rfl))) (List.mem_cons_of_mem _ (List.mem_append_left _ (List.mem_of_getElem? (i := 4) rfl))) (List.mem_cons_of_mem _ (List.mem_append_left _ (List.mem_of_getElem? (i := 5) rfl))) (by decide +kernel)) (goodIn_sub (fun _ h => List.mem_cons_of_mem _ (List.mem_append_right _ (List.mem_append_left _ h))) good_v_X12_next)) rfl rfl rfl (by decide +kernel) ⟨Nat.le_of_ble_eq_true rfl, Nat.le_of_ble_eq_true rfl⟩) (pv_RW (q := (RX12, TX12, 56)) (ci := 11) (q0 := 0) (wc := [(m, .inr (11, mG m_a m_thrown m_taped m_at m_token m_place m_value m_word m_bad m_badPlace m_fault m_faultPlace m_willing m_will m_forgot m_isDrawn m_x m_begin m_round m_roundCards m_fate m_any m_bothSend m_meanCards m_bestSum m_fitMany m_fitFirst m_fitSecond)), ((m_a 5), .inl (cB, 1600, .inl m_tape_c))]) hK hP hD [0, 1] (by decide) rfl rfl rfl) rfl rfl hl.1 rfl (lv_room (Nat.le_of_ble_eq_true rfl)) dX12_ends_21 ⟨Nat.le_of_ble_eq_true rfl, Nat.le_of_ble_eq_true rfl⟩) hS hA hP hD [0, 1] [] rfl rfl (by decide) (by decide) (fun u21 H locs hw21 hP hD hS => ?_)
  obtain ⟨n_m_at_21, n_m_token_21, n_m_place_21, n_m_value_21, n_m_word_21⟩ := u21
  have hP : va_P g vwCl [(m, .inr (11, mG m_a m_thrown m_taped n_m_at_21 n_m_token_21 n_m_place_21 n_m_value_21 n_m_word_21 m_bad m_badPlace m_fault m_faultPlace m_willing m_will m_forgot m_isDrawn m_x m_begin m_round m_roundCards m_fate m_any m_bothSend m_meanCards m_bestSum m_fitMany m_fitFirst m_fitSecond)), ((m_a 5), .inl (cB, 1600, .inl m_tape_c))] H := hP
  have hD : va_D A [(m, .inr (11, mG m_a m_thrown m_taped n_m_at_21 n_m_token_21 n_m_place_21 n_m_value_21 n_m_word_21 m_bad m_badPlace m_fault m_faultPlace m_willing m_will m_forgot m_isDrawn m_x m_begin m_round m_roundCards m_fate m_any m_bothSend m_meanCards m_bestSum m_fitMany m_fitFirst m_fitSecond)), ((m_a 5), .inl (cB, 1600, .inl m_tape_c))] := hD
  dsimp only at hw21
  obtain ⟨hw21_0, hw21_1, hw21_2, hw21_3⟩ := hw21
  have hw21_3 : (m_at.toInt ≤ n_m_at_21.toInt ∧ n_m_at_21.toInt ≤ m_taped.toInt ∧ 0 ≤ n_m_token_21.toInt ∧ n_m_token_21.toInt ≤ 4 ∧ (m_at.toInt < n_m_at_21.toInt ∨ (n_m_token_21.toInt = 0 ∧ n_m_at_21.toInt = m_taped.toInt))) := hw21_3
  subst hQ
  have hP9 := hP.sub (ws' := [(m, .inr (11, mG m_a m_thrown m_taped n_m_at_21 n_m_token_21 n_m_place_21 n_m_value_21 n_m_word_21 m_bad m_badPlace m_fault m_faultPlace m_willing m_will m_forgot m_isDrawn m_x m_begin m_round m_roundCards m_fate m_any m_bothSend m_meanCards m_bestSum m_fitMany m_fitFirst m_fitSecond)), ((m_a 5), .inl (cB, 1600, .inl m_tape_c))]) [0, 1] rfl
  have hD9 := hD.sub (ws' := [(m, .inr (11, mG m_a m_thrown m_taped n_m_at_21 n_m_token_21 n_m_place_21 n_m_value_21 n_m_word_21 m_bad m_badPlace m_fault m_faultPlace m_willing m_will m_forgot m_isDrawn m_x m_begin m_round m_roundCards m_fate m_any m_bothSend m_meanCards m_bestSum m_fitMany m_fitFirst m_fitSecond)), ((m_a 5), .inl (cB, 1600, .inl m_tape_c))]) [0, 1] (by decide) rfl
  exact W.vret hx hb hr (fun t ht hW => ⟨⟨(n_m_at_21, n_m_token_21, n_m_place_21, n_m_value_21, n_m_word_21, m_bad, m_badPlace), rfl, ⟨hw21_0, (by omega), (by omega)⟩, ⟨by rw [ht]; exact hP9, va_K.moved hW.alike hK, hD9⟩⟩, hS.F ht⟩) hS.2.2 dX12_ends_24
def v_X12_begins : List Cond := .code yX12_begins cX12_begins 1 none :: (([.fieldLink RX12 159 "CardsAtYuleModel" "bad" "I", .fieldLink RX12 162 "CardsAtYuleModel" "badPlace" "I", .fieldLink RX12 131 "CardsAtYuleModel" "at" "I", .methodLink RX12 169 yX12_next, .instanceMethod yX12_next, .selects RX12 yX12_next yX12_next, .initialized RX12] : List Cond) ++ (v_X12_next ++ (wsX120 ++ ([] : List Cond))))
theorem good_v_X12_begins : v_X12_begins.all goodWord = true := ga_c (by decide +kernel) (ga_a (by decide +kernel) (ga_a good_v_X12_next (ga_a good_wsX120 rfl)))
set_option maxHeartbeats 4000000 in
set_option maxRecDepth 100000 in
theorem q_X12_begins (l : Launch) (g : va_G) (cI cJ cB cZ cL : ClassId) (m : Nat) (m_a : Nat → Nat) (m_thrown : Int32) (m_taped : Int32) (m_at : Int32) (m_token : Int32) (m_place : Int32) (m_value : Int32) (m_word : Int64) (m_bad : Int32) (m_badPlace : Int32) (m_fault : Int32) (m_faultPlace : Int32) (m_willing : Int32) (m_will : Int32) (m_forgot : Int32) (m_isDrawn : Int32) (m_x : Int64) (m_begin : Int32) (m_round : Int32) (m_roundCards : Int32) (m_fate : Int32) (m_any : Int64) (m_bothSend : Int64) (m_meanCards : Int64) (m_bestSum : Int32) (m_fitMany : Int32) (m_fitFirst : Int64) (m_fitSecond : Int64) (m_tape_c : Nat → Int32) (sz : Nat) (hv_m_taped : ir m_taped.toInt 0 1600) (hv_m_at : ir m_at.toInt 0 1600) (hv_m_will : ir m_will.toInt 0 1) (hv_m_isDrawn : ir m_isDrawn.toInt 0 1) : Met l yX12_begins v_X12_begins ({ frames := 2, cells := 0, slots := 0, locals := 44 }) (va_Pc [.ref m] (pRW g (tyT cI cJ cB cZ cL) [(m, .inr (11, mG m_a m_thrown m_taped m_at m_token m_place m_value m_word m_bad m_badPlace m_fault m_faultPlace m_willing m_will m_forgot m_isDrawn m_x m_begin m_round m_roundCards m_fate m_any m_bothSend m_meanCards m_bestSum m_fitMany m_fitFirst m_fitSecond)), ((m_a 5), .inl (cB, 1600, .inl m_tape_c))] sz)) (va_Qv (fun (u : Int32 × Int32 × Int32 × Int32 × Int64 × Int32 × Int32) => match u with | (n_m_at, n_m_token, n_m_place, n_m_value, n_m_word, n_m_bad, n_m_badPlace) => (ir n_m_at.toInt 0 1600) ∧ (ir n_m_token.toInt 0 4) ∧ (ir n_m_place.toInt 0 1600) ∧ (ir n_m_bad.toInt 0 0) ∧ (ir n_m_badPlace.toInt (-1) (-1)) ∧ (n_m_at.toInt ≤ m_taped.toInt)) (fun (u : Int32 × Int32 × Int32 × Int32 × Int64 × Int32 × Int32) (t : State) => bRW g (tyT cI cJ cB cZ cL) (va_A [(m, .inr (11, mG m_a m_thrown m_taped m_at m_token m_place m_value m_word m_bad m_badPlace m_fault m_faultPlace m_willing m_will m_forgot m_isDrawn m_x m_begin m_round m_roundCards m_fate m_any m_bothSend m_meanCards m_bestSum m_fitMany m_fitFirst m_fitSecond)), ((m_a 5), .inl (cB, 1600, .inl m_tape_c))] sz) (match u with | (n_m_at, n_m_token, n_m_place, n_m_value, n_m_word, n_m_bad, n_m_badPlace) => [(m, .inr (11, mG m_a m_thrown m_taped n_m_at n_m_token n_m_place n_m_value n_m_word n_m_bad n_m_badPlace m_fault m_faultPlace m_willing m_will m_forgot m_isDrawn m_x m_begin m_round m_roundCards m_fate m_any m_bothSend m_meanCards m_bestSum m_fitMany m_fitFirst m_fitSecond)), ((m_a 5), .inl (cB, 1600, .inl m_tape_c))]) t) (va_A [(m, .inr (11, mG m_a m_thrown m_taped m_at m_token m_place m_value m_word m_bad m_badPlace m_fault m_faultPlace m_willing m_will m_forgot m_isDrawn m_x m_begin m_round m_roundCards m_fate m_any m_bothSend m_meanCards m_bestSum m_fitMany m_fitFirst m_fitSecond)), ((m_a 5), .inl (cB, 1600, .inl m_tape_c))] sz)) 0 0 (va_A [(m, .inr (11, mG m_a m_thrown m_taped m_at m_token m_place m_value m_word m_bad m_badPlace m_fault m_faultPlace m_willing m_will m_forgot m_isDrawn m_x m_begin m_round m_roundCards m_fate m_any m_bothSend m_meanCards m_bestSum m_fitMany m_fitFirst m_fitSecond)), ((m_a 5), .inl (cB, 1600, .inl m_tape_c))] sz) := by
  refine Met.ofW (cc := cX12_begins) (maxL := 1) (ret := none) (by decide) rfl ?_
  intro p e s mth args below meth c s₁ B hml hv
  obtain ⟨rfl, hsz, hP, hK, hD0⟩ := hv
  have hx := B.exec
  have hb := B.bytes
  have hr := B.returns
  have hts := atoms_spec (ws := v_X12_begins) B.pre
  have hown : s.vm.findClass RX12 = some mth.cls := findClass_of_methodNamed B.named
  have hlocks := B.notSynchronized
  clear B
  subst hsz
  have iX12 : ∀ w ∈ wsX120, w ∈ v_X12_begins := (fun _ h => List.mem_cons_of_mem _ (List.mem_append_right _ (List.mem_append_right _ (List.mem_append_left _ h))))
  have hD := hD0.self (sz := s.heap.size)
  generalize hAe : (va_A [(m, .inr (11, mG m_a m_thrown m_taped m_at m_token m_place m_value m_word m_bad m_badPlace m_fault m_faultPlace m_willing m_will m_forgot m_isDrawn m_x m_begin m_round m_roundCards m_fate m_any m_bothSend m_meanCards m_bestSum m_fitMany m_fitFirst m_fitSecond)), ((m_a 5), .inl (cB, 1600, .inl m_tape_c))] s.heap.size) = A at hD ⊢
  have hA : ∀ q : Nat, s.heap.size ≤ q → A q := fun q h => by rw [← hAe]; exact Or.inr h
  have hS : va_S A s.heap s.heap [] := va_S.rf
  have hl := lv_entry ([.ref m]) (n := 1) (Nat.le_of_ble_eq_true rfl)
  rw [lg_entry_eq]
  generalize (lg_sl ([.ref m]) ++ List.replicate (1 - (lg_sl ([.ref m])).length) Slot.unset).toArray = ls at hl ⊢
  generalize ([.ref m] : List Value).toArray = av at hts ⊢
  generalize hQ : MQ below _ av s _ _ A = QQ
  have hl : lv_has ls 1 [(0, .ref m)] := hl
  have hP : va_P g vwCl [(m, .inr (11, mG m_a m_thrown m_taped m_at m_token m_place m_value m_word m_bad m_badPlace m_fault m_faultPlace m_willing m_will m_forgot m_isDrawn m_x m_begin m_round m_roundCards m_fate m_any m_bothSend m_meanCards m_bestSum m_fitMany m_fitFirst m_fitSecond)), ((m_a 5), .inl (cB, 1600, .inl m_tape_c))] s.heap := hP
  refine lv_aload_n hx hb dX12_begins_0 rfl (lv_at hl 0 rfl) ?_
  refine lv_iconst (v := 0) hx hb dX12_begins_1 (by decide) ?_
  refine va_put (D := g) (ci := 11) (v := .int 0) (ty := .int) (C := RX12) (T := TX12) (N := 56) hx hb hts iX12 tyX12 tyX12_ok nmX12 hown hK hP hD hS 0 rfl rfl 12 (by decide) (hts (.fieldLink RX12 159 "CardsAtYuleModel" "bad" "I") (List.mem_cons_of_mem _ (List.mem_append_left _ (List.mem_of_getElem? (i := 0) rfl)))) (fun _ h9 => h9) rfl (by decide +kernel) rfl rfl (Nat.le_of_ble_eq_true rfl) dX12_begins_2 (fun H locs hP hD hS => ?_)
  have hP : va_P g vwCl [(m, .inr (11, mG m_a m_thrown m_taped m_at m_token m_place m_value m_word 0 m_badPlace m_fault m_faultPlace m_willing m_will m_forgot m_isDrawn m_x m_begin m_round m_roundCards m_fate m_any m_bothSend m_meanCards m_bestSum m_fitMany m_fitFirst m_fitSecond)), ((m_a 5), .inl (cB, 1600, .inl m_tape_c))] H := hP
  have hD : va_D A [(m, .inr (11, mG m_a m_thrown m_taped m_at m_token m_place m_value m_word 0 m_badPlace m_fault m_faultPlace m_willing m_will m_forgot m_isDrawn m_x m_begin m_round m_roundCards m_fate m_any m_bothSend m_meanCards m_bestSum m_fitMany m_fitFirst m_fitSecond)), ((m_a 5), .inl (cB, 1600, .inl m_tape_c))] := hD
  refine lv_aload_n hx hb dX12_begins_5 rfl (lv_at hl 0 rfl) ?_
  refine lv_iconst (v := (-1)) hx hb dX12_begins_6 (by decide) ?_
  refine va_put (D := g) (ci := 11) (v := .int (-1)) (ty := .int) (C := RX12) (T := TX12) (N := 56) hx hb hts iX12 tyX12 tyX12_ok nmX12 hown hK hP hD hS 0 rfl rfl 13 (by decide) (hts (.fieldLink RX12 162 "CardsAtYuleModel" "badPlace" "I") (List.mem_cons_of_mem _ (List.mem_append_left _ (List.mem_of_getElem? (i := 1) rfl)))) (fun _ h9 => h9) rfl (by decide +kernel) rfl rfl (Nat.le_of_ble_eq_true rfl) dX12_begins_7 (fun H locs hP hD hS => ?_)
  have hP : va_P g vwCl [(m, .inr (11, mG m_a m_thrown m_taped m_at m_token m_place m_value m_word 0 (-1) m_fault m_faultPlace m_willing m_will m_forgot m_isDrawn m_x m_begin m_round m_roundCards m_fate m_any m_bothSend m_meanCards m_bestSum m_fitMany m_fitFirst m_fitSecond)), ((m_a 5), .inl (cB, 1600, .inl m_tape_c))] H := hP
  have hD : va_D A [(m, .inr (11, mG m_a m_thrown m_taped m_at m_token m_place m_value m_word 0 (-1) m_fault m_faultPlace m_willing m_will m_forgot m_isDrawn m_x m_begin m_round m_roundCards m_fate m_any m_bothSend m_meanCards m_bestSum m_fitMany m_fitFirst m_fitSecond)), ((m_a 5), .inl (cB, 1600, .inl m_tape_c))] := hD
  refine lv_aload_n hx hb dX12_begins_10 rfl (lv_at hl 0 rfl) ?_
  refine lv_iconst (v := 0) hx hb dX12_begins_11 (by decide) ?_
  refine va_put (D := g) (ci := 11) (v := .int 0) (ty := .int) (C := RX12) (T := TX12) (N := 56) hx hb hts iX12 tyX12 tyX12_ok nmX12 hown hK hP hD hS 0 rfl rfl 7 (by decide) (hts (.fieldLink RX12 131 "CardsAtYuleModel" "at" "I") (List.mem_cons_of_mem _ (List.mem_append_left _ (List.mem_of_getElem? (i := 2) rfl)))) (fun _ h9 => h9) rfl (by decide +kernel) rfl rfl (Nat.le_of_ble_eq_true rfl) dX12_begins_12 (fun H locs hP hD hS => ?_)
  have hP : va_P g vwCl [(m, .inr (11, mG m_a m_thrown m_taped 0 m_token m_place m_value m_word 0 (-1) m_fault m_faultPlace m_willing m_will m_forgot m_isDrawn m_x m_begin m_round m_roundCards m_fate m_any m_bothSend m_meanCards m_bestSum m_fitMany m_fitFirst m_fitSecond)), ((m_a 5), .inl (cB, 1600, .inl m_tape_c))] H := hP
  have hD : va_D A [(m, .inr (11, mG m_a m_thrown m_taped 0 m_token m_place m_value m_word 0 (-1) m_fault m_faultPlace m_willing m_will m_forgot m_isDrawn m_x m_begin m_round m_roundCards m_fate m_any m_bothSend m_meanCards m_bestSum m_fitMany m_fitFirst m_fitSecond)), ((m_a 5), .inl (cB, 1600, .inl m_tape_c))] := hD
  refine lv_aload_n hx hb dX12_begins_15 rfl (lv_at hl 0 rfl) ?_
  refine rw_v (wr := []) (va_runV (As := []) (rest := []) ⟨hx, hb, hml, hown, hts⟩ (q_X12_next l g cI cJ cB cZ cL m m_a m_thrown m_taped 0 m_token m_place m_value m_word 0 (-1) m_fault m_faultPlace m_willing m_will m_forgot m_isDrawn m_x m_begin m_round m_roundCards m_fate m_any m_bothSend m_meanCards m_bestSum m_fitMany m_fitFirst m_fitSecond m_tape_c H.size hv_m_taped (by decide) hv_m_will hv_m_isDrawn (by have kc0 : (0 : Int32).toInt = 0 := rfl; omega)) (cwV 0 hts (goodIn_app (g_4 (List.mem_cons_of_mem _ (List.mem_append_left _ (List.mem_of_getElem? (i := 3) rfl))) (List.mem_cons_of_mem _ (List.mem_append_left _ (List.mem_of_getElem? (i := 4) rfl))) (List.mem_cons_of_mem _ (List.mem_append_left _ (List.mem_of_getElem? (i := 5) rfl))) (List.mem_cons_of_mem _ (List.mem_append_left _ (List.mem_of_getElem? (i := 6) rfl))) (by decide +kernel)) (goodIn_sub (fun _ h => List.mem_cons_of_mem _ (List.mem_append_right _ (List.mem_append_left _ h))) good_v_X12_next)) rfl rfl rfl (by decide +kernel) ⟨Nat.le_of_ble_eq_true rfl, Nat.le_of_ble_eq_true rfl⟩) (pv_RW (q := (RX12, TX12, 56)) (ci := 11) (q0 := 0) (wc := [(m, .inr (11, mG m_a m_thrown m_taped 0 m_token m_place m_value m_word 0 (-1) m_fault m_faultPlace m_willing m_will m_forgot m_isDrawn m_x m_begin m_round m_roundCards m_fate m_any m_bothSend m_meanCards m_bestSum m_fitMany m_fitFirst m_fitSecond)), ((m_a 5), .inl (cB, 1600, .inl m_tape_c))]) hK hP hD [0, 1] (by decide) rfl rfl rfl) rfl rfl hl.1 rfl (lv_room (Nat.le_of_ble_eq_true rfl)) dX12_begins_16 ⟨Nat.le_of_ble_eq_true rfl, Nat.le_of_ble_eq_true rfl⟩) hS hA hP hD [0, 1] [] rfl rfl (by decide) (by decide) (fun u16 H locs hw16 hP hD hS => ?_)
  obtain ⟨n_m_at_16, n_m_token_16, n_m_place_16, n_m_value_16, n_m_word_16⟩ := u16
  have hP : va_P g vwCl [(m, .inr (11, mG m_a m_thrown m_taped n_m_at_16 n_m_token_16 n_m_place_16 n_m_value_16 n_m_word_16 0 (-1) m_fault m_faultPlace m_willing m_will m_forgot m_isDrawn m_x m_begin m_round m_roundCards m_fate m_any m_bothSend m_meanCards m_bestSum m_fitMany m_fitFirst m_fitSecond)), ((m_a 5), .inl (cB, 1600, .inl m_tape_c))] H := hP
  have hD : va_D A [(m, .inr (11, mG m_a m_thrown m_taped n_m_at_16 n_m_token_16 n_m_place_16 n_m_value_16 n_m_word_16 0 (-1) m_fault m_faultPlace m_willing m_will m_forgot m_isDrawn m_x m_begin m_round m_roundCards m_fate m_any m_bothSend m_meanCards m_bestSum m_fitMany m_fitFirst m_fitSecond)), ((m_a 5), .inl (cB, 1600, .inl m_tape_c))] := hD
  dsimp only at hw16
  obtain ⟨hw16_0, hw16_1, hw16_2, hw16_3⟩ := hw16
  have hw16_3 : (0 ≤ n_m_at_16.toInt ∧ n_m_at_16.toInt ≤ m_taped.toInt ∧ 0 ≤ n_m_token_16.toInt ∧ n_m_token_16.toInt ≤ 4 ∧ (0 < n_m_at_16.toInt ∨ (n_m_token_16.toInt = 0 ∧ n_m_at_16.toInt = m_taped.toInt))) := hw16_3
  subst hQ
  have hP9 := hP.sub (ws' := [(m, .inr (11, mG m_a m_thrown m_taped n_m_at_16 n_m_token_16 n_m_place_16 n_m_value_16 n_m_word_16 0 (-1) m_fault m_faultPlace m_willing m_will m_forgot m_isDrawn m_x m_begin m_round m_roundCards m_fate m_any m_bothSend m_meanCards m_bestSum m_fitMany m_fitFirst m_fitSecond)), ((m_a 5), .inl (cB, 1600, .inl m_tape_c))]) [0, 1] rfl
  have hD9 := hD.sub (ws' := [(m, .inr (11, mG m_a m_thrown m_taped n_m_at_16 n_m_token_16 n_m_place_16 n_m_value_16 n_m_word_16 0 (-1) m_fault m_faultPlace m_willing m_will m_forgot m_isDrawn m_x m_begin m_round m_roundCards m_fate m_any m_bothSend m_meanCards m_bestSum m_fitMany m_fitFirst m_fitSecond)), ((m_a 5), .inl (cB, 1600, .inl m_tape_c))]) [0, 1] (by decide) rfl
  exact W.vret hx hb hr (fun t ht hW => ⟨⟨(n_m_at_16, n_m_token_16, n_m_place_16, n_m_value_16, n_m_word_16, 0, (-1)), rfl, ⟨hw16_0, hw16_1, hw16_2, (show ir (0 : Int32).toInt 0 0 by decide), (show ir ((-1) : Int32).toInt (-1) (-1) by decide), (by have kc0 : ((-1) : Int32).toInt = (-1) := rfl; have kc1 : (0 : Int32).toInt = 0 := rfl; omega)⟩, ⟨by rw [ht]; exact hP9, va_K.moved hW.alike hK, hD9⟩⟩, hS.F ht⟩) hS.2.2 dX12_begins_19
def v_X12_isOver : List Cond := .code yX12_isOver cX12_isOver 1 none :: (([.fieldLink RX12 124 "CardsAtYuleModel" "taped" "I", .fieldLink RX12 159 "CardsAtYuleModel" "bad" "I", .fieldLink RX12 186 "CardsAtYuleModel" "fault" "I", .fieldLink RX12 162 "CardsAtYuleModel" "badPlace" "I", .fieldLink RX12 27 "CardsAtYuleModel" "faultPlace" "I"] : List Cond) ++ (wsX120 ++ ([] : List Cond)))
theorem good_v_X12_isOver : v_X12_isOver.all goodWord = true := ga_c (by decide +kernel) (ga_a (by decide +kernel) (ga_a good_wsX120 rfl))
set_option maxHeartbeats 4000000 in
set_option maxRecDepth 100000 in
theorem q_X12_isOver (l : Launch) (g : va_G) (cI cJ cB cZ cL : ClassId) (m : Nat) (m_a : Nat → Nat) (m_thrown : Int32) (m_taped : Int32) (m_at : Int32) (m_token : Int32) (m_place : Int32) (m_value : Int32) (m_word : Int64) (m_bad : Int32) (m_badPlace : Int32) (m_fault : Int32) (m_faultPlace : Int32) (m_willing : Int32) (m_will : Int32) (m_forgot : Int32) (m_isDrawn : Int32) (m_x : Int64) (m_begin : Int32) (m_round : Int32) (m_roundCards : Int32) (m_fate : Int32) (m_any : Int64) (m_bothSend : Int64) (m_meanCards : Int64) (m_bestSum : Int32) (m_fitMany : Int32) (m_fitFirst : Int64) (m_fitSecond : Int64) (sz : Nat) (hv_m_taped : ir m_taped.toInt 0 1600) (hv_m_at : ir m_at.toInt 0 1600) (hv_m_will : ir m_will.toInt 0 1) (hv_m_isDrawn : ir m_isDrawn.toInt 0 1) : Met l yX12_isOver v_X12_isOver ({ frames := 0, cells := 0, slots := 0, locals := 0 }) (va_Pc [.ref m] (pRW g (tyT cI cJ cB cZ cL) [(m, .inr (11, mG m_a m_thrown m_taped m_at m_token m_place m_value m_word m_bad m_badPlace m_fault m_faultPlace m_willing m_will m_forgot m_isDrawn m_x m_begin m_round m_roundCards m_fate m_any m_bothSend m_meanCards m_bestSum m_fitMany m_fitFirst m_fitSecond))] sz)) (va_Qv (fun (u : Int32 × Int32 × Int32) => match u with | (n_m_taped, n_m_fault, n_m_faultPlace) => (ir n_m_taped.toInt 0 0)) (fun (u : Int32 × Int32 × Int32) (t : State) => bRW g (tyT cI cJ cB cZ cL) (va_A [(m, .inr (11, mG m_a m_thrown m_taped m_at m_token m_place m_value m_word m_bad m_badPlace m_fault m_faultPlace m_willing m_will m_forgot m_isDrawn m_x m_begin m_round m_roundCards m_fate m_any m_bothSend m_meanCards m_bestSum m_fitMany m_fitFirst m_fitSecond))] sz) (match u with | (n_m_taped, n_m_fault, n_m_faultPlace) => [(m, .inr (11, mG m_a m_thrown n_m_taped m_at m_token m_place m_value m_word m_bad m_badPlace n_m_fault n_m_faultPlace m_willing m_will m_forgot m_isDrawn m_x m_begin m_round m_roundCards m_fate m_any m_bothSend m_meanCards m_bestSum m_fitMany m_fitFirst m_fitSecond))]) t) (va_A [(m, .inr (11, mG m_a m_thrown m_taped m_at m_token m_place m_value m_word m_bad m_badPlace m_fault m_faultPlace m_willing m_will m_forgot m_isDrawn m_x m_begin m_round m_roundCards m_fate m_any m_bothSend m_meanCards m_bestSum m_fitMany m_fitFirst m_fitSecond))] sz)) 0 0 (va_A [(m, .inr (11, mG m_a m_thrown m_taped m_at m_token m_place m_value m_word m_bad m_badPlace m_fault m_faultPlace m_willing m_will m_forgot m_isDrawn m_x m_begin m_round m_roundCards m_fate m_any m_bothSend m_meanCards m_bestSum m_fitMany m_fitFirst m_fitSecond))] sz) := by
  refine Met.ofW (cc := cX12_isOver) (maxL := 1) (ret := none) (by decide) rfl ?_
  intro p e s mth args below meth c s₁ B hml hv
  obtain ⟨rfl, hsz, hP, hK, hD0⟩ := hv
  have hx := B.exec
  have hb := B.bytes
  have hr := B.returns
  have hts := atoms_spec (ws := v_X12_isOver) B.pre
  have hown : s.vm.findClass RX12 = some mth.cls := findClass_of_methodNamed B.named
  have hlocks := B.notSynchronized
  clear B
  subst hsz
  have iX12 : ∀ w ∈ wsX120, w ∈ v_X12_isOver := (fun _ h => List.mem_cons_of_mem _ (List.mem_append_right _ (List.mem_append_left _ h)))
  have hD := hD0.self (sz := s.heap.size)
  generalize hAe : (va_A [(m, .inr (11, mG m_a m_thrown m_taped m_at m_token m_place m_value m_word m_bad m_badPlace m_fault m_faultPlace m_willing m_will m_forgot m_isDrawn m_x m_begin m_round m_roundCards m_fate m_any m_bothSend m_meanCards m_bestSum m_fitMany m_fitFirst m_fitSecond))] s.heap.size) = A at hD ⊢
  have hA : ∀ q : Nat, s.heap.size ≤ q → A q := fun q h => by rw [← hAe]; exact Or.inr h
  have hS : va_S A s.heap s.heap [] := va_S.rf
  have hl := lv_entry ([.ref m]) (n := 1) (Nat.le_of_ble_eq_true rfl)
  rw [lg_entry_eq]
  generalize (lg_sl ([.ref m]) ++ List.replicate (1 - (lg_sl ([.ref m])).length) Slot.unset).toArray = ls at hl ⊢
  generalize ([.ref m] : List Value).toArray = av at hts ⊢
  generalize hQ : MQ below _ av s _ _ A = QQ
  have hl : lv_has ls 1 [(0, .ref m)] := hl
  have hP : va_P g vwCl [(m, .inr (11, mG m_a m_thrown m_taped m_at m_token m_place m_value m_word m_bad m_badPlace m_fault m_faultPlace m_willing m_will m_forgot m_isDrawn m_x m_begin m_round m_roundCards m_fate m_any m_bothSend m_meanCards m_bestSum m_fitMany m_fitFirst m_fitSecond))] s.heap := hP
  refine lv_aload_n hx hb dX12_isOver_0 rfl (lv_at hl 0 rfl) ?_
  refine lv_iconst (v := 0) hx hb dX12_isOver_1 (by decide) ?_
  refine va_put (D := g) (ci := 11) (v := .int 0) (ty := .int) (C := RX12) (T := TX12) (N := 56) hx hb hts iX12 tyX12 tyX12_ok nmX12 hown hK hP hD hS 0 rfl rfl 6 (by decide) (hts (.fieldLink RX12 124 "CardsAtYuleModel" "taped" "I") (List.mem_cons_of_mem _ (List.mem_append_left _ (List.mem_of_getElem? (i := 0) rfl)))) (fun _ h9 => h9) rfl (by decide +kernel) rfl rfl (Nat.le_of_ble_eq_true rfl) dX12_isOver_2 (fun H locs hP hD hS => ?_)
  have hP : va_P g vwCl [(m, .inr (11, mG m_a m_thrown 0 m_at m_token m_place m_value m_word m_bad m_badPlace m_fault m_faultPlace m_willing m_will m_forgot m_isDrawn m_x m_begin m_round m_roundCards m_fate m_any m_bothSend m_meanCards m_bestSum m_fitMany m_fitFirst m_fitSecond))] H := hP
  have hD : va_D A [(m, .inr (11, mG m_a m_thrown 0 m_at m_token m_place m_value m_word m_bad m_badPlace m_fault m_faultPlace m_willing m_will m_forgot m_isDrawn m_x m_begin m_round m_roundCards m_fate m_any m_bothSend m_meanCards m_bestSum m_fitMany m_fitFirst m_fitSecond))] := hD
  refine lv_aload_n hx hb dX12_isOver_5 rfl (lv_at hl 0 rfl) ?_
  refine lv_aload_n hx hb dX12_isOver_6 rfl (lv_at hl 0 rfl) ?_
  refine va_get (D := g) (ci := 11) (v := .int m_bad) (C := RX12) (T := TX12) (N := 56) hx hb hts iX12 hown hK hP 0 rfl rfl 12 (by decide) (hts (.fieldLink RX12 159 "CardsAtYuleModel" "bad" "I") (List.mem_cons_of_mem _ (List.mem_append_left _ (List.mem_of_getElem? (i := 1) rfl)))) (fun _ h9 => h9) rfl dX12_isOver_7 ?_
  refine va_put (D := g) (ci := 11) (v := .int m_bad) (ty := .int) (C := RX12) (T := TX12) (N := 56) hx hb hts iX12 tyX12 tyX12_ok nmX12 hown hK hP hD hS 0 rfl rfl 14 (by decide) (hts (.fieldLink RX12 186 "CardsAtYuleModel" "fault" "I") (List.mem_cons_of_mem _ (List.mem_append_left _ (List.mem_of_getElem? (i := 2) rfl)))) (fun _ h9 => h9) rfl (by decide +kernel) rfl rfl (Nat.le_of_ble_eq_true rfl) dX12_isOver_10 (fun H locs hP hD hS => ?_)
  have hP : va_P g vwCl [(m, .inr (11, mG m_a m_thrown 0 m_at m_token m_place m_value m_word m_bad m_badPlace m_bad m_faultPlace m_willing m_will m_forgot m_isDrawn m_x m_begin m_round m_roundCards m_fate m_any m_bothSend m_meanCards m_bestSum m_fitMany m_fitFirst m_fitSecond))] H := hP
  have hD : va_D A [(m, .inr (11, mG m_a m_thrown 0 m_at m_token m_place m_value m_word m_bad m_badPlace m_bad m_faultPlace m_willing m_will m_forgot m_isDrawn m_x m_begin m_round m_roundCards m_fate m_any m_bothSend m_meanCards m_bestSum m_fitMany m_fitFirst m_fitSecond))] := hD
  refine lv_aload_n hx hb dX12_isOver_13 rfl (lv_at hl 0 rfl) ?_
  refine lv_aload_n hx hb dX12_isOver_14 rfl (lv_at hl 0 rfl) ?_
  refine va_get (D := g) (ci := 11) (v := .int m_bad) (C := RX12) (T := TX12) (N := 56) hx hb hts iX12 hown hK hP 0 rfl rfl 12 (by decide) (hts (.fieldLink RX12 159 "CardsAtYuleModel" "bad" "I") (List.mem_cons_of_mem _ (List.mem_append_left _ (List.mem_of_getElem? (i := 1) rfl)))) (fun _ h9 => h9) rfl dX12_isOver_15 ?_
  refine lv_if_ne (tgt := 25) hx hb dX12_isOver_18 (by decide) (fun c18 => ?_) (fun c18 => ?_)
  · have f18 := (show m_bad.toInt ≠ 0 from z_ne rfl rfl c18)
    refine lv_aload_n hx hb dX12_isOver_25 rfl (lv_at hl 0 rfl) ?_
    refine va_get (D := g) (ci := 11) (v := .int m_badPlace) (C := RX12) (T := TX12) (N := 56) hx hb hts iX12 hown hK hP 0 rfl rfl 13 (by decide) (hts (.fieldLink RX12 162 "CardsAtYuleModel" "badPlace" "I") (List.mem_cons_of_mem _ (List.mem_append_left _ (List.mem_of_getElem? (i := 3) rfl)))) (fun _ h9 => h9) rfl dX12_isOver_26 ?_
    refine va_put (D := g) (ci := 11) (v := .int m_badPlace) (ty := .int) (C := RX12) (T := TX12) (N := 56) hx hb hts iX12 tyX12 tyX12_ok nmX12 hown hK hP hD hS 0 rfl rfl 15 (by decide) (hts (.fieldLink RX12 27 "CardsAtYuleModel" "faultPlace" "I") (List.mem_cons_of_mem _ (List.mem_append_left _ (List.mem_of_getElem? (i := 4) rfl)))) (fun _ h9 => h9) rfl (by decide +kernel) rfl rfl (Nat.le_of_ble_eq_true rfl) dX12_isOver_29 (fun H locs hP hD hS => ?_)
    have hP : va_P g vwCl [(m, .inr (11, mG m_a m_thrown 0 m_at m_token m_place m_value m_word m_bad m_badPlace m_bad m_badPlace m_willing m_will m_forgot m_isDrawn m_x m_begin m_round m_roundCards m_fate m_any m_bothSend m_meanCards m_bestSum m_fitMany m_fitFirst m_fitSecond))] H := hP
    have hD : va_D A [(m, .inr (11, mG m_a m_thrown 0 m_at m_token m_place m_value m_word m_bad m_badPlace m_bad m_badPlace m_willing m_will m_forgot m_isDrawn m_x m_begin m_round m_roundCards m_fate m_any m_bothSend m_meanCards m_bestSum m_fitMany m_fitFirst m_fitSecond))] := hD
    subst hQ
    have hP9 := hP.sub (ws' := [(m, .inr (11, mG m_a m_thrown 0 m_at m_token m_place m_value m_word m_bad m_badPlace m_bad m_badPlace m_willing m_will m_forgot m_isDrawn m_x m_begin m_round m_roundCards m_fate m_any m_bothSend m_meanCards m_bestSum m_fitMany m_fitFirst m_fitSecond))]) [0] rfl
    have hD9 := hD.sub (ws' := [(m, .inr (11, mG m_a m_thrown 0 m_at m_token m_place m_value m_word m_bad m_badPlace m_bad m_badPlace m_willing m_will m_forgot m_isDrawn m_x m_begin m_round m_roundCards m_fate m_any m_bothSend m_meanCards m_bestSum m_fitMany m_fitFirst m_fitSecond))]) [0] (by decide) rfl
    exact W.vret hx hb hr (fun t ht hW => ⟨⟨(0, m_bad, m_badPlace), rfl, (show ir (0 : Int32).toInt 0 0 by decide), ⟨by rw [ht]; exact hP9, va_K.moved hW.alike hK, hD9⟩⟩, hS.F ht⟩) hS.2.2 dX12_isOver_32
  have f18 := (show m_bad.toInt = 0 from z_eq rfl rfl c18)
  have r18a : ir m_bad.toInt 0 0 := ir_eqa f18 (rg_all m_bad) (ir_c 0) (by decide) (by decide)
  refine lv_iconst (v := (-1)) hx hb dX12_isOver_21 (by decide) ?_
  refine lv_goto (tgt := 29) hx hb dX12_isOver_22 (by decide) ?_
  refine va_put (D := g) (ci := 11) (v := .int (-1)) (ty := .int) (C := RX12) (T := TX12) (N := 56) hx hb hts iX12 tyX12 tyX12_ok nmX12 hown hK hP hD hS 0 rfl rfl 15 (by decide) (hts (.fieldLink RX12 27 "CardsAtYuleModel" "faultPlace" "I") (List.mem_cons_of_mem _ (List.mem_append_left _ (List.mem_of_getElem? (i := 4) rfl)))) (fun _ h9 => h9) rfl (by decide +kernel) rfl rfl (Nat.le_of_ble_eq_true rfl) dX12_isOver_29 (fun H locs hP hD hS => ?_)
  have hP : va_P g vwCl [(m, .inr (11, mG m_a m_thrown 0 m_at m_token m_place m_value m_word m_bad m_badPlace m_bad (-1) m_willing m_will m_forgot m_isDrawn m_x m_begin m_round m_roundCards m_fate m_any m_bothSend m_meanCards m_bestSum m_fitMany m_fitFirst m_fitSecond))] H := hP
  have hD : va_D A [(m, .inr (11, mG m_a m_thrown 0 m_at m_token m_place m_value m_word m_bad m_badPlace m_bad (-1) m_willing m_will m_forgot m_isDrawn m_x m_begin m_round m_roundCards m_fate m_any m_bothSend m_meanCards m_bestSum m_fitMany m_fitFirst m_fitSecond))] := hD
  subst hQ
  have hP9 := hP.sub (ws' := [(m, .inr (11, mG m_a m_thrown 0 m_at m_token m_place m_value m_word m_bad m_badPlace m_bad (-1) m_willing m_will m_forgot m_isDrawn m_x m_begin m_round m_roundCards m_fate m_any m_bothSend m_meanCards m_bestSum m_fitMany m_fitFirst m_fitSecond))]) [0] rfl
  have hD9 := hD.sub (ws' := [(m, .inr (11, mG m_a m_thrown 0 m_at m_token m_place m_value m_word m_bad m_badPlace m_bad (-1) m_willing m_will m_forgot m_isDrawn m_x m_begin m_round m_roundCards m_fate m_any m_bothSend m_meanCards m_bestSum m_fitMany m_fitFirst m_fitSecond))]) [0] (by decide) rfl
  exact W.vret hx hb hr (fun t ht hW => ⟨⟨(0, m_bad, (-1)), rfl, (show ir (0 : Int32).toInt 0 0 by decide), ⟨by rw [ht]; exact hP9, va_K.moved hW.alike hK, hD9⟩⟩, hS.F ht⟩) hS.2.2 dX12_isOver_32
def v_X12_fault : List Cond := .code yX12_fault cX12_fault 2 (some .int) :: (([.fieldLink RX12 107 "CardsAtYuleModel" "thrown" "I", .fieldLink RX12 27 "CardsAtYuleModel" "faultPlace" "I", .fieldLink RX12 186 "CardsAtYuleModel" "fault" "I"] : List Cond) ++ (wsX120 ++ ([] : List Cond)))
theorem good_v_X12_fault : v_X12_fault.all goodWord = true := ga_c (by decide +kernel) (ga_a (by decide +kernel) (ga_a good_wsX120 rfl))
set_option maxHeartbeats 4000000 in
set_option maxRecDepth 100000 in
theorem q_X12_fault (l : Launch) (g : va_G) (cI cJ cB cZ cL : ClassId) (p0 : Int32) (m : Nat) (m_a : Nat → Nat) (m_thrown : Int32) (m_taped : Int32) (m_at : Int32) (m_token : Int32) (m_place : Int32) (m_value : Int32) (m_word : Int64) (m_bad : Int32) (m_badPlace : Int32) (m_fault : Int32) (m_faultPlace : Int32) (m_willing : Int32) (m_will : Int32) (m_forgot : Int32) (m_isDrawn : Int32) (m_x : Int64) (m_begin : Int32) (m_round : Int32) (m_roundCards : Int32) (m_fate : Int32) (m_any : Int64) (m_bothSend : Int64) (m_meanCards : Int64) (m_bestSum : Int32) (m_fitMany : Int32) (m_fitFirst : Int64) (m_fitSecond : Int64) (sz : Nat) (hv_m_taped : ir m_taped.toInt 0 1600) (hv_m_at : ir m_at.toInt 0 1600) (hv_m_will : ir m_will.toInt 0 1) (hv_m_isDrawn : ir m_isDrawn.toInt 0 1) : Met l yX12_fault v_X12_fault ({ frames := 0, cells := 0, slots := 0, locals := 0 }) (va_Pc [.ref m, .int p0] (pRW g (tyT cI cJ cB cZ cL) [(m, .inr (11, mG m_a m_thrown m_taped m_at m_token m_place m_value m_word m_bad m_badPlace m_fault m_faultPlace m_willing m_will m_forgot m_isDrawn m_x m_begin m_round m_roundCards m_fate m_any m_bothSend m_meanCards m_bestSum m_fitMany m_fitFirst m_fitSecond))] sz)) (va_Qi (fun (r : Int32) (u : Int32) => match u with | n_m_thrown => (ir n_m_thrown.toInt 0 0)) (fun (u : Int32) (t : State) => bRW g (tyT cI cJ cB cZ cL) (va_A [(m, .inr (11, mG m_a m_thrown m_taped m_at m_token m_place m_value m_word m_bad m_badPlace m_fault m_faultPlace m_willing m_will m_forgot m_isDrawn m_x m_begin m_round m_roundCards m_fate m_any m_bothSend m_meanCards m_bestSum m_fitMany m_fitFirst m_fitSecond))] sz) (match u with | n_m_thrown => [(m, .inr (11, mG m_a n_m_thrown m_taped m_at m_token m_place m_value m_word m_bad m_badPlace m_fault m_faultPlace m_willing m_will m_forgot m_isDrawn m_x m_begin m_round m_roundCards m_fate m_any m_bothSend m_meanCards m_bestSum m_fitMany m_fitFirst m_fitSecond))]) t) (va_A [(m, .inr (11, mG m_a m_thrown m_taped m_at m_token m_place m_value m_word m_bad m_badPlace m_fault m_faultPlace m_willing m_will m_forgot m_isDrawn m_x m_begin m_round m_roundCards m_fate m_any m_bothSend m_meanCards m_bestSum m_fitMany m_fitFirst m_fitSecond))] sz)) 0 0 (va_A [(m, .inr (11, mG m_a m_thrown m_taped m_at m_token m_place m_value m_word m_bad m_badPlace m_fault m_faultPlace m_willing m_will m_forgot m_isDrawn m_x m_begin m_round m_roundCards m_fate m_any m_bothSend m_meanCards m_bestSum m_fitMany m_fitFirst m_fitSecond))] sz) := by
  refine Met.ofW (cc := cX12_fault) (maxL := 2) (ret := (some .int)) (by decide) rfl ?_
  intro p e s mth args below meth c s₁ B hml hv
  obtain ⟨rfl, hsz, hP, hK, hD0⟩ := hv
  have hx := B.exec
  have hb := B.bytes
  have hr := B.returns
  have hts := atoms_spec (ws := v_X12_fault) B.pre
  have hown : s.vm.findClass RX12 = some mth.cls := findClass_of_methodNamed B.named
  have hlocks := B.notSynchronized
  clear B
  subst hsz
  have iX12 : ∀ w ∈ wsX120, w ∈ v_X12_fault := (fun _ h => List.mem_cons_of_mem _ (List.mem_append_right _ (List.mem_append_left _ h)))
  have hD := hD0.self (sz := s.heap.size)
  generalize hAe : (va_A [(m, .inr (11, mG m_a m_thrown m_taped m_at m_token m_place m_value m_word m_bad m_badPlace m_fault m_faultPlace m_willing m_will m_forgot m_isDrawn m_x m_begin m_round m_roundCards m_fate m_any m_bothSend m_meanCards m_bestSum m_fitMany m_fitFirst m_fitSecond))] s.heap.size) = A at hD ⊢
  have hA : ∀ q : Nat, s.heap.size ≤ q → A q := fun q h => by rw [← hAe]; exact Or.inr h
  have hS : va_S A s.heap s.heap [] := va_S.rf
  have hl := lv_entry ([.ref m, .int p0]) (n := 2) (Nat.le_of_ble_eq_true rfl)
  rw [lg_entry_eq]
  generalize (lg_sl ([.ref m, .int p0]) ++ List.replicate (2 - (lg_sl ([.ref m, .int p0])).length) Slot.unset).toArray = ls at hl ⊢
  generalize ([.ref m, .int p0] : List Value).toArray = av at hts ⊢
  generalize hQ : MQ below _ av s _ _ A = QQ
  have hl : lv_has ls 2 [(0, .ref m), (1, .int p0)] := hl
  have hP : va_P g vwCl [(m, .inr (11, mG m_a m_thrown m_taped m_at m_token m_place m_value m_word m_bad m_badPlace m_fault m_faultPlace m_willing m_will m_forgot m_isDrawn m_x m_begin m_round m_roundCards m_fate m_any m_bothSend m_meanCards m_bestSum m_fitMany m_fitFirst m_fitSecond))] s.heap := hP
  refine lv_aload_n hx hb dX12_fault_0 rfl (lv_at hl 0 rfl) ?_
  refine lv_iconst (v := 0) hx hb dX12_fault_1 (by decide) ?_
  refine va_put (D := g) (ci := 11) (v := .int 0) (ty := .int) (C := RX12) (T := TX12) (N := 56) hx hb hts iX12 tyX12 tyX12_ok nmX12 hown hK hP hD hS 0 rfl rfl 0 (by decide) (hts (.fieldLink RX12 107 "CardsAtYuleModel" "thrown" "I") (List.mem_cons_of_mem _ (List.mem_append_left _ (List.mem_of_getElem? (i := 0) rfl)))) (fun _ h9 => h9) rfl (by decide +kernel) rfl rfl (Nat.le_of_ble_eq_true rfl) dX12_fault_2 (fun H locs hP hD hS => ?_)
  have hP : va_P g vwCl [(m, .inr (11, mG m_a 0 m_taped m_at m_token m_place m_value m_word m_bad m_badPlace m_fault m_faultPlace m_willing m_will m_forgot m_isDrawn m_x m_begin m_round m_roundCards m_fate m_any m_bothSend m_meanCards m_bestSum m_fitMany m_fitFirst m_fitSecond))] H := hP
  have hD : va_D A [(m, .inr (11, mG m_a 0 m_taped m_at m_token m_place m_value m_word m_bad m_badPlace m_fault m_faultPlace m_willing m_will m_forgot m_isDrawn m_x m_begin m_round m_roundCards m_fate m_any m_bothSend m_meanCards m_bestSum m_fitMany m_fitFirst m_fitSecond))] := hD
  refine lv_iload_n hx hb dX12_fault_5 rfl (lv_at hl 1 rfl) ?_
  refine lv_if_ne (tgt := 16) hx hb dX12_fault_6 (by decide) (fun c6 => ?_) (fun c6 => ?_)
  rotate_left 1
  · have f6 := (show p0.toInt = 0 from z_eq rfl rfl c6)
    have r6a : ir p0.toInt 0 0 := ir_eqa f6 (rg_all p0) (ir_c 0) (by decide) (by decide)
    refine lv_aload_n hx hb dX12_fault_9 rfl (lv_at hl 0 rfl) ?_
    refine va_get (D := g) (ci := 11) (v := .int m_fault) (C := RX12) (T := TX12) (N := 56) hx hb hts iX12 hown hK hP 0 rfl rfl 14 (by decide) (hts (.fieldLink RX12 186 "CardsAtYuleModel" "fault" "I") (List.mem_cons_of_mem _ (List.mem_append_left _ (List.mem_of_getElem? (i := 2) rfl)))) (fun _ h9 => h9) rfl dX12_fault_10 ?_
    refine lv_goto (tgt := 29) hx hb dX12_fault_13 (by decide) ?_
    subst hQ
    have hP9 := hP.sub (ws' := [(m, .inr (11, mG m_a 0 m_taped m_at m_token m_place m_value m_word m_bad m_badPlace m_fault m_faultPlace m_willing m_will m_forgot m_isDrawn m_x m_begin m_round m_roundCards m_fate m_any m_bothSend m_meanCards m_bestSum m_fitMany m_fitFirst m_fitSecond))]) [0] rfl
    have hD9 := hD.sub (ws' := [(m, .inr (11, mG m_a 0 m_taped m_at m_token m_place m_value m_word m_bad m_badPlace m_fault m_faultPlace m_willing m_will m_forgot m_isDrawn m_x m_begin m_round m_roundCards m_fate m_any m_bothSend m_meanCards m_bestSum m_fitMany m_fitFirst m_fitSecond))]) [0] (by decide) rfl
    exact W.iret (v := m_fault) hx hb hr (fun t ht hW => ⟨⟨m_fault, 0, rfl, (show ir (0 : Int32).toInt 0 0 by decide), ⟨by rw [ht]; exact hP9, va_K.moved hW.alike hK, hD9⟩⟩, hS.F ht⟩) hS.2.2 dX12_fault_29
  have f6 := (show p0.toInt ≠ 0 from z_ne rfl rfl c6)
  refine lv_iload_n hx hb dX12_fault_16 rfl (lv_at hl 1 rfl) ?_
  refine lv_iconst (v := 1) hx hb dX12_fault_17 (by decide) ?_
  refine lv_icmp_ne (tgt := 28) hx hb dX12_fault_18 (by decide) (fun c18 => ?_) (fun c18 => ?_)
  · have f18 := (show p0.toInt ≠ 1 from z_ne rfl rfl c18)
    refine lv_iconst (v := (-1)) hx hb dX12_fault_28 (by decide) ?_
    subst hQ
    have hP9 := hP.sub (ws' := [(m, .inr (11, mG m_a 0 m_taped m_at m_token m_place m_value m_word m_bad m_badPlace m_fault m_faultPlace m_willing m_will m_forgot m_isDrawn m_x m_begin m_round m_roundCards m_fate m_any m_bothSend m_meanCards m_bestSum m_fitMany m_fitFirst m_fitSecond))]) [0] rfl
    have hD9 := hD.sub (ws' := [(m, .inr (11, mG m_a 0 m_taped m_at m_token m_place m_value m_word m_bad m_badPlace m_fault m_faultPlace m_willing m_will m_forgot m_isDrawn m_x m_begin m_round m_roundCards m_fate m_any m_bothSend m_meanCards m_bestSum m_fitMany m_fitFirst m_fitSecond))]) [0] (by decide) rfl
    exact W.iret (v := (-1)) hx hb hr (fun t ht hW => ⟨⟨(-1), 0, rfl, (show ir (0 : Int32).toInt 0 0 by decide), ⟨by rw [ht]; exact hP9, va_K.moved hW.alike hK, hD9⟩⟩, hS.F ht⟩) hS.2.2 dX12_fault_29
  have f18 := (show p0.toInt = 1 from z_eq rfl rfl c18)
  have r18a : ir p0.toInt 1 1 := ir_eqa f18 (rg_all p0) (ir_c 1) (by decide) (by decide)
  refine lv_aload_n hx hb dX12_fault_21 rfl (lv_at hl 0 rfl) ?_
  refine va_get (D := g) (ci := 11) (v := .int m_faultPlace) (C := RX12) (T := TX12) (N := 56) hx hb hts iX12 hown hK hP 0 rfl rfl 15 (by decide) (hts (.fieldLink RX12 27 "CardsAtYuleModel" "faultPlace" "I") (List.mem_cons_of_mem _ (List.mem_append_left _ (List.mem_of_getElem? (i := 1) rfl)))) (fun _ h9 => h9) rfl dX12_fault_22 ?_
  refine lv_goto (tgt := 29) hx hb dX12_fault_25 (by decide) ?_
  subst hQ
  have hP9 := hP.sub (ws' := [(m, .inr (11, mG m_a 0 m_taped m_at m_token m_place m_value m_word m_bad m_badPlace m_fault m_faultPlace m_willing m_will m_forgot m_isDrawn m_x m_begin m_round m_roundCards m_fate m_any m_bothSend m_meanCards m_bestSum m_fitMany m_fitFirst m_fitSecond))]) [0] rfl
  have hD9 := hD.sub (ws' := [(m, .inr (11, mG m_a 0 m_taped m_at m_token m_place m_value m_word m_bad m_badPlace m_fault m_faultPlace m_willing m_will m_forgot m_isDrawn m_x m_begin m_round m_roundCards m_fate m_any m_bothSend m_meanCards m_bestSum m_fitMany m_fitFirst m_fitSecond))]) [0] (by decide) rfl
  exact W.iret (v := m_faultPlace) hx hb hr (fun t ht hW => ⟨⟨m_faultPlace, 0, rfl, (show ir (0 : Int32).toInt 0 0 by decide), ⟨by rw [ht]; exact hP9, va_K.moved hW.alike hK, hD9⟩⟩, hS.F ht⟩) hS.2.2 dX12_fault_29
def v_X12_hasRead0 : List Cond := .code yX12_hasRead cX12_hasRead 2 (some .int) :: (([.fieldLink RX12 34 "CardsAtYuleModel" "has" "[I"] : List Cond) ++ (wsX120 ++ ([] : List Cond)))
theorem good_v_X12_hasRead0 : v_X12_hasRead0.all goodWord = true := ga_c (by decide +kernel) (ga_a (by decide +kernel) (ga_a good_wsX120 rfl))
set_option maxHeartbeats 4000000 in
set_option maxRecDepth 100000 in
theorem q_X12_hasRead0 (l : Launch) (g : va_G) (cI cJ cB cZ cL : ClassId) (m : Nat) (m_a : Nat → Nat) (m_thrown : Int32) (m_taped : Int32) (m_at : Int32) (m_token : Int32) (m_place : Int32) (m_value : Int32) (m_word : Int64) (m_bad : Int32) (m_badPlace : Int32) (m_fault : Int32) (m_faultPlace : Int32) (m_willing : Int32) (m_will : Int32) (m_forgot : Int32) (m_isDrawn : Int32) (m_x : Int64) (m_begin : Int32) (m_round : Int32) (m_roundCards : Int32) (m_fate : Int32) (m_any : Int64) (m_bothSend : Int64) (m_meanCards : Int64) (m_bestSum : Int32) (m_fitMany : Int32) (m_fitFirst : Int64) (m_fitSecond : Int64) (m_has_c : Nat → Int32) (sz : Nat) (hv_m_taped : ir m_taped.toInt 0 1600) (hv_m_at : ir m_at.toInt 0 1600) (hv_m_will : ir m_will.toInt 0 1) (hv_m_isDrawn : ir m_isDrawn.toInt 0 1) (ha_m_has_c : hasI m_has_c) : Met l yX12_hasRead v_X12_hasRead0 ({ frames := 0, cells := 0, slots := 0, locals := 0 }) (va_Pc [.ref m, .int 0] (pRO g (tyT cI cJ cB cZ cL) [(m, .inr (11, mG m_a m_thrown m_taped m_at m_token m_place m_value m_word m_bad m_badPlace m_fault m_faultPlace m_willing m_will m_forgot m_isDrawn m_x m_begin m_round m_roundCards m_fate m_any m_bothSend m_meanCards m_bestSum m_fitMany m_fitFirst m_fitSecond)), ((m_a 17), .inl (cI, 25, .inl m_has_c))] sz)) (va_Qi (fun (r : Int32) (u : Unit) => (r = m_has_c 20)) (fun (_ : Unit) (_ : State) => True) (va_A [] sz)) 0 0 (va_A [] sz) := by
  refine Met.ofW (cc := cX12_hasRead) (maxL := 2) (ret := (some .int)) (by decide) rfl ?_
  intro p e s mth args below meth c s₁ B hml hv
  obtain ⟨rfl, hsz, hP, hK⟩ := hv
  have hx := B.exec
  have hb := B.bytes
  have hr := B.returns
  have hts := atoms_spec (ws := v_X12_hasRead0) B.pre
  have hown : s.vm.findClass RX12 = some mth.cls := findClass_of_methodNamed B.named
  have hlocks := B.notSynchronized
  clear B
  subst hsz
  have iX12 : ∀ w ∈ wsX120, w ∈ v_X12_hasRead0 := (fun _ h => List.mem_cons_of_mem _ (List.mem_append_right _ (List.mem_append_left _ h)))
  generalize hAe : (va_A [] s.heap.size) = A
  have hA : ∀ q : Nat, s.heap.size ≤ q → A q := fun q h => by rw [← hAe]; exact Or.inr h
  have hS : va_S A s.heap s.heap [] := va_S.rf
  have hl := lv_entry ([.ref m, .int 0]) (n := 2) (Nat.le_of_ble_eq_true rfl)
  rw [lg_entry_eq]
  generalize (lg_sl ([.ref m, .int 0]) ++ List.replicate (2 - (lg_sl ([.ref m, .int 0])).length) Slot.unset).toArray = ls at hl ⊢
  generalize ([.ref m, .int 0] : List Value).toArray = av at hts ⊢
  generalize hQ : MQ below _ av s _ _ A = QQ
  have hl : lv_has ls 2 [(0, .ref m), (1, .int 0)] := hl
  have hP : va_P g vwCl [(m, .inr (11, mG m_a m_thrown m_taped m_at m_token m_place m_value m_word m_bad m_badPlace m_fault m_faultPlace m_willing m_will m_forgot m_isDrawn m_x m_begin m_round m_roundCards m_fate m_any m_bothSend m_meanCards m_bestSum m_fitMany m_fitFirst m_fitSecond)), ((m_a 17), .inl (cI, 25, .inl m_has_c))] s.heap := hP
  refine lv_aload_n hx hb dX12_hasRead_0 rfl (lv_at hl 0 rfl) ?_
  refine va_get (D := g) (ci := 11) (v := .ref (m_a 17)) (C := RX12) (T := TX12) (N := 56) hx hb hts iX12 hown hK hP 0 rfl rfl 17 (by decide) (hts (.fieldLink RX12 34 "CardsAtYuleModel" "has" "[I") (List.mem_cons_of_mem _ (List.mem_append_left _ (List.mem_of_getElem? (i := 0) rfl)))) (fun _ h9 => h9) rfl dX12_hasRead_1 ?_
  refine lv_bipush (v := 20) hx hb dX12_hasRead_4 (by decide) ?_
  refine lv_iload_n hx hb dX12_hasRead_6 rfl (lv_at hl 1 rfl) ?_
  refine lv_iadd hx hb dX12_hasRead_7 ?_
  refine lv_topi (nm_r (e' := 20) (by decide) ?_)
  refine va_iald (D := g) hx hb hK hP 1 0 rfl rfl (vc_in (by decide)) dX12_hasRead_8 ?_
  refine lv_topi (nm_r (e' := (m_has_c 20)) rfl ?_)
  have r8 : ir (m_has_c 20).toInt 0 40 := hasI_0 ha_m_has_c 4 (by decide)
  subst hQ
  exact W.iret (v := (m_has_c 20)) hx hb hr (fun t ht hW => ⟨⟨(m_has_c 20), (), rfl, rfl, trivial⟩, hS.F ht⟩) hS.2.2 dX12_hasRead_9
def v_X12_hasRead3 : List Cond := .code yX12_hasRead cX12_hasRead 2 (some .int) :: (([.fieldLink RX12 34 "CardsAtYuleModel" "has" "[I"] : List Cond) ++ (wsX120 ++ ([] : List Cond)))
theorem good_v_X12_hasRead3 : v_X12_hasRead3.all goodWord = true := ga_c (by decide +kernel) (ga_a (by decide +kernel) (ga_a good_wsX120 rfl))
set_option maxHeartbeats 4000000 in
set_option maxRecDepth 100000 in
theorem q_X12_hasRead3 (l : Launch) (g : va_G) (cI cJ cB cZ cL : ClassId) (m : Nat) (m_a : Nat → Nat) (m_thrown : Int32) (m_taped : Int32) (m_at : Int32) (m_token : Int32) (m_place : Int32) (m_value : Int32) (m_word : Int64) (m_bad : Int32) (m_badPlace : Int32) (m_fault : Int32) (m_faultPlace : Int32) (m_willing : Int32) (m_will : Int32) (m_forgot : Int32) (m_isDrawn : Int32) (m_x : Int64) (m_begin : Int32) (m_round : Int32) (m_roundCards : Int32) (m_fate : Int32) (m_any : Int64) (m_bothSend : Int64) (m_meanCards : Int64) (m_bestSum : Int32) (m_fitMany : Int32) (m_fitFirst : Int64) (m_fitSecond : Int64) (m_has_c : Nat → Int32) (sz : Nat) (hv_m_taped : ir m_taped.toInt 0 1600) (hv_m_at : ir m_at.toInt 0 1600) (hv_m_will : ir m_will.toInt 0 1) (hv_m_isDrawn : ir m_isDrawn.toInt 0 1) (ha_m_has_c : hasI m_has_c) : Met l yX12_hasRead v_X12_hasRead3 ({ frames := 0, cells := 0, slots := 0, locals := 0 }) (va_Pc [.ref m, .int 3] (pRO g (tyT cI cJ cB cZ cL) [(m, .inr (11, mG m_a m_thrown m_taped m_at m_token m_place m_value m_word m_bad m_badPlace m_fault m_faultPlace m_willing m_will m_forgot m_isDrawn m_x m_begin m_round m_roundCards m_fate m_any m_bothSend m_meanCards m_bestSum m_fitMany m_fitFirst m_fitSecond)), ((m_a 17), .inl (cI, 25, .inl m_has_c))] sz)) (va_Qi (fun (r : Int32) (u : Unit) => (r = m_has_c 23)) (fun (_ : Unit) (_ : State) => True) (va_A [] sz)) 0 0 (va_A [] sz) := by
  refine Met.ofW (cc := cX12_hasRead) (maxL := 2) (ret := (some .int)) (by decide) rfl ?_
  intro p e s mth args below meth c s₁ B hml hv
  obtain ⟨rfl, hsz, hP, hK⟩ := hv
  have hx := B.exec
  have hb := B.bytes
  have hr := B.returns
  have hts := atoms_spec (ws := v_X12_hasRead3) B.pre
  have hown : s.vm.findClass RX12 = some mth.cls := findClass_of_methodNamed B.named
  have hlocks := B.notSynchronized
  clear B
  subst hsz
  have iX12 : ∀ w ∈ wsX120, w ∈ v_X12_hasRead3 := (fun _ h => List.mem_cons_of_mem _ (List.mem_append_right _ (List.mem_append_left _ h)))
  generalize hAe : (va_A [] s.heap.size) = A
  have hA : ∀ q : Nat, s.heap.size ≤ q → A q := fun q h => by rw [← hAe]; exact Or.inr h
  have hS : va_S A s.heap s.heap [] := va_S.rf
  have hl := lv_entry ([.ref m, .int 3]) (n := 2) (Nat.le_of_ble_eq_true rfl)
  rw [lg_entry_eq]
  generalize (lg_sl ([.ref m, .int 3]) ++ List.replicate (2 - (lg_sl ([.ref m, .int 3])).length) Slot.unset).toArray = ls at hl ⊢
  generalize ([.ref m, .int 3] : List Value).toArray = av at hts ⊢
  generalize hQ : MQ below _ av s _ _ A = QQ
  have hl : lv_has ls 2 [(0, .ref m), (1, .int 3)] := hl
  have hP : va_P g vwCl [(m, .inr (11, mG m_a m_thrown m_taped m_at m_token m_place m_value m_word m_bad m_badPlace m_fault m_faultPlace m_willing m_will m_forgot m_isDrawn m_x m_begin m_round m_roundCards m_fate m_any m_bothSend m_meanCards m_bestSum m_fitMany m_fitFirst m_fitSecond)), ((m_a 17), .inl (cI, 25, .inl m_has_c))] s.heap := hP
  refine lv_aload_n hx hb dX12_hasRead_0 rfl (lv_at hl 0 rfl) ?_
  refine va_get (D := g) (ci := 11) (v := .ref (m_a 17)) (C := RX12) (T := TX12) (N := 56) hx hb hts iX12 hown hK hP 0 rfl rfl 17 (by decide) (hts (.fieldLink RX12 34 "CardsAtYuleModel" "has" "[I") (List.mem_cons_of_mem _ (List.mem_append_left _ (List.mem_of_getElem? (i := 0) rfl)))) (fun _ h9 => h9) rfl dX12_hasRead_1 ?_
  refine lv_bipush (v := 20) hx hb dX12_hasRead_4 (by decide) ?_
  refine lv_iload_n hx hb dX12_hasRead_6 rfl (lv_at hl 1 rfl) ?_
  refine lv_iadd hx hb dX12_hasRead_7 ?_
  refine lv_topi (nm_r (e' := 23) (by decide) ?_)
  refine va_iald (D := g) hx hb hK hP 1 0 rfl rfl (vc_in (by decide)) dX12_hasRead_8 ?_
  refine lv_topi (nm_r (e' := (m_has_c 23)) rfl ?_)
  have r8 : ir (m_has_c 23).toInt 0 10 := hasI_3 ha_m_has_c 4 (by decide)
  subst hQ
  exact W.iret (v := (m_has_c 23)) hx hb hr (fun t ht hW => ⟨⟨(m_has_c 23), (), rfl, rfl, trivial⟩, hS.F ht⟩) hS.2.2 dX12_hasRead_9
def v_X12_hasRead4 : List Cond := .code yX12_hasRead cX12_hasRead 2 (some .int) :: (([.fieldLink RX12 34 "CardsAtYuleModel" "has" "[I"] : List Cond) ++ (wsX120 ++ ([] : List Cond)))
theorem good_v_X12_hasRead4 : v_X12_hasRead4.all goodWord = true := ga_c (by decide +kernel) (ga_a (by decide +kernel) (ga_a good_wsX120 rfl))
set_option maxHeartbeats 4000000 in
set_option maxRecDepth 100000 in
theorem q_X12_hasRead4 (l : Launch) (g : va_G) (cI cJ cB cZ cL : ClassId) (m : Nat) (m_a : Nat → Nat) (m_thrown : Int32) (m_taped : Int32) (m_at : Int32) (m_token : Int32) (m_place : Int32) (m_value : Int32) (m_word : Int64) (m_bad : Int32) (m_badPlace : Int32) (m_fault : Int32) (m_faultPlace : Int32) (m_willing : Int32) (m_will : Int32) (m_forgot : Int32) (m_isDrawn : Int32) (m_x : Int64) (m_begin : Int32) (m_round : Int32) (m_roundCards : Int32) (m_fate : Int32) (m_any : Int64) (m_bothSend : Int64) (m_meanCards : Int64) (m_bestSum : Int32) (m_fitMany : Int32) (m_fitFirst : Int64) (m_fitSecond : Int64) (m_has_c : Nat → Int32) (sz : Nat) (hv_m_taped : ir m_taped.toInt 0 1600) (hv_m_at : ir m_at.toInt 0 1600) (hv_m_will : ir m_will.toInt 0 1) (hv_m_isDrawn : ir m_isDrawn.toInt 0 1) (ha_m_has_c : hasI m_has_c) : Met l yX12_hasRead v_X12_hasRead4 ({ frames := 0, cells := 0, slots := 0, locals := 0 }) (va_Pc [.ref m, .int 4] (pRO g (tyT cI cJ cB cZ cL) [(m, .inr (11, mG m_a m_thrown m_taped m_at m_token m_place m_value m_word m_bad m_badPlace m_fault m_faultPlace m_willing m_will m_forgot m_isDrawn m_x m_begin m_round m_roundCards m_fate m_any m_bothSend m_meanCards m_bestSum m_fitMany m_fitFirst m_fitSecond)), ((m_a 17), .inl (cI, 25, .inl m_has_c))] sz)) (va_Qi (fun (r : Int32) (u : Unit) => (r = m_has_c 24)) (fun (_ : Unit) (_ : State) => True) (va_A [] sz)) 0 0 (va_A [] sz) := by
  refine Met.ofW (cc := cX12_hasRead) (maxL := 2) (ret := (some .int)) (by decide) rfl ?_
  intro p e s mth args below meth c s₁ B hml hv
  obtain ⟨rfl, hsz, hP, hK⟩ := hv
  have hx := B.exec
  have hb := B.bytes
  have hr := B.returns
  have hts := atoms_spec (ws := v_X12_hasRead4) B.pre
  have hown : s.vm.findClass RX12 = some mth.cls := findClass_of_methodNamed B.named
  have hlocks := B.notSynchronized
  clear B
  subst hsz
  have iX12 : ∀ w ∈ wsX120, w ∈ v_X12_hasRead4 := (fun _ h => List.mem_cons_of_mem _ (List.mem_append_right _ (List.mem_append_left _ h)))
  generalize hAe : (va_A [] s.heap.size) = A
  have hA : ∀ q : Nat, s.heap.size ≤ q → A q := fun q h => by rw [← hAe]; exact Or.inr h
  have hS : va_S A s.heap s.heap [] := va_S.rf
  have hl := lv_entry ([.ref m, .int 4]) (n := 2) (Nat.le_of_ble_eq_true rfl)
  rw [lg_entry_eq]
  generalize (lg_sl ([.ref m, .int 4]) ++ List.replicate (2 - (lg_sl ([.ref m, .int 4])).length) Slot.unset).toArray = ls at hl ⊢
  generalize ([.ref m, .int 4] : List Value).toArray = av at hts ⊢
  generalize hQ : MQ below _ av s _ _ A = QQ
  have hl : lv_has ls 2 [(0, .ref m), (1, .int 4)] := hl
  have hP : va_P g vwCl [(m, .inr (11, mG m_a m_thrown m_taped m_at m_token m_place m_value m_word m_bad m_badPlace m_fault m_faultPlace m_willing m_will m_forgot m_isDrawn m_x m_begin m_round m_roundCards m_fate m_any m_bothSend m_meanCards m_bestSum m_fitMany m_fitFirst m_fitSecond)), ((m_a 17), .inl (cI, 25, .inl m_has_c))] s.heap := hP
  refine lv_aload_n hx hb dX12_hasRead_0 rfl (lv_at hl 0 rfl) ?_
  refine va_get (D := g) (ci := 11) (v := .ref (m_a 17)) (C := RX12) (T := TX12) (N := 56) hx hb hts iX12 hown hK hP 0 rfl rfl 17 (by decide) (hts (.fieldLink RX12 34 "CardsAtYuleModel" "has" "[I") (List.mem_cons_of_mem _ (List.mem_append_left _ (List.mem_of_getElem? (i := 0) rfl)))) (fun _ h9 => h9) rfl dX12_hasRead_1 ?_
  refine lv_bipush (v := 20) hx hb dX12_hasRead_4 (by decide) ?_
  refine lv_iload_n hx hb dX12_hasRead_6 rfl (lv_at hl 1 rfl) ?_
  refine lv_iadd hx hb dX12_hasRead_7 ?_
  refine lv_topi (nm_r (e' := 24) (by decide) ?_)
  refine va_iald (D := g) hx hb hK hP 1 0 rfl rfl (vc_in (by decide)) dX12_hasRead_8 ?_
  refine lv_topi (nm_r (e' := (m_has_c 24)) rfl ?_)
  have r8 : ir (m_has_c 24).toInt 0 16 := hasI_4 ha_m_has_c 4 (by decide)
  subst hQ
  exact W.iret (v := (m_has_c 24)) hx hb hr (fun t ht hW => ⟨⟨(m_has_c 24), (), rfl, rfl, trivial⟩, hS.F ht⟩) hS.2.2 dX12_hasRead_9
def v_X12_personHere : List Cond := .code yX12_personHere cX12_personHere 1 (some .int) :: (([.methodLink RX12 189 yX12_hasRead, .instanceMethod yX12_hasRead, .selects RX12 yX12_hasRead yX12_hasRead, .initialized RX12, .methodLink RX12 182 yX12_number, .instanceMethod yX12_number, .selects RX12 yX12_number yX12_number] : List Cond) ++ (v_X12_hasRead3 ++ (v_X12_number ++ ([] : List Cond))))
theorem good_v_X12_personHere : v_X12_personHere.all goodWord = true := ga_c (by decide +kernel) (ga_a (by decide +kernel) (ga_a good_v_X12_hasRead3 (ga_a good_v_X12_number rfl)))
set_option maxHeartbeats 4000000 in
set_option maxRecDepth 100000 in
theorem q_X12_personHere (l : Launch) (g : va_G) (cI cJ cB cZ cL : ClassId) (m : Nat) (m_a : Nat → Nat) (m_thrown : Int32) (m_taped : Int32) (m_at : Int32) (m_token : Int32) (m_place : Int32) (m_value : Int32) (m_word : Int64) (m_bad : Int32) (m_badPlace : Int32) (m_fault : Int32) (m_faultPlace : Int32) (m_willing : Int32) (m_will : Int32) (m_forgot : Int32) (m_isDrawn : Int32) (m_x : Int64) (m_begin : Int32) (m_round : Int32) (m_roundCards : Int32) (m_fate : Int32) (m_any : Int64) (m_bothSend : Int64) (m_meanCards : Int64) (m_bestSum : Int32) (m_fitMany : Int32) (m_fitFirst : Int64) (m_fitSecond : Int64) (m_has_c : Nat → Int32) (m_tape_c : Nat → Int32) (sz : Nat) (hv_m_taped : ir m_taped.toInt 0 1600) (hv_m_at : ir m_at.toInt 0 1600) (hv_m_will : ir m_will.toInt 0 1) (hv_m_isDrawn : ir m_isDrawn.toInt 0 1) (ha_m_has_c : hasI m_has_c) (hx_0 : m_at.toInt ≤ m_taped.toInt) : Met l yX12_personHere v_X12_personHere ({ frames := 3, cells := 0, slots := 0, locals := 67 }) (va_Pc [.ref m] (pRW g (tyT cI cJ cB cZ cL) [(m, .inr (11, mG m_a m_thrown m_taped m_at m_token m_place m_value m_word m_bad m_badPlace m_fault m_faultPlace m_willing m_will m_forgot m_isDrawn m_x m_begin m_round m_roundCards m_fate m_any m_bothSend m_meanCards m_bestSum m_fitMany m_fitFirst m_fitSecond)), ((m_a 17), .inl (cI, 25, .inl m_has_c)), ((m_a 5), .inl (cB, 1600, .inl m_tape_c))] sz)) (va_Qi (fun (r : Int32) (u : Int32 × Int32 × Int32 × Int32 × Int64 × Int32 × Int32) => match u with | (n_m_at, n_m_token, n_m_place, n_m_value, n_m_word, n_m_bad, n_m_badPlace) => (ir n_m_at.toInt 0 1600) ∧ ((n_m_at.toInt = m_at.toInt ∧ n_m_token.toInt = m_token.toInt) ∨ (m_at.toInt ≤ n_m_at.toInt ∧ n_m_at.toInt ≤ m_taped.toInt ∧ 0 ≤ n_m_token.toInt ∧ n_m_token.toInt ≤ 4 ∧ (m_at.toInt < n_m_at.toInt ∨ (n_m_token.toInt = 0 ∧ n_m_at.toInt = m_taped.toInt)))) ∧ (ir r.toInt 0 9)) (fun (u : Int32 × Int32 × Int32 × Int32 × Int64 × Int32 × Int32) (t : State) => bRW g (tyT cI cJ cB cZ cL) (va_A [(m, .inr (11, mG m_a m_thrown m_taped m_at m_token m_place m_value m_word m_bad m_badPlace m_fault m_faultPlace m_willing m_will m_forgot m_isDrawn m_x m_begin m_round m_roundCards m_fate m_any m_bothSend m_meanCards m_bestSum m_fitMany m_fitFirst m_fitSecond)), ((m_a 17), .inl (cI, 25, .inl m_has_c)), ((m_a 5), .inl (cB, 1600, .inl m_tape_c))] sz) (match u with | (n_m_at, n_m_token, n_m_place, n_m_value, n_m_word, n_m_bad, n_m_badPlace) => [(m, .inr (11, mG m_a m_thrown m_taped n_m_at n_m_token n_m_place n_m_value n_m_word n_m_bad n_m_badPlace m_fault m_faultPlace m_willing m_will m_forgot m_isDrawn m_x m_begin m_round m_roundCards m_fate m_any m_bothSend m_meanCards m_bestSum m_fitMany m_fitFirst m_fitSecond)), ((m_a 17), .inl (cI, 25, .inl m_has_c)), ((m_a 5), .inl (cB, 1600, .inl m_tape_c))]) t) (va_A [(m, .inr (11, mG m_a m_thrown m_taped m_at m_token m_place m_value m_word m_bad m_badPlace m_fault m_faultPlace m_willing m_will m_forgot m_isDrawn m_x m_begin m_round m_roundCards m_fate m_any m_bothSend m_meanCards m_bestSum m_fitMany m_fitFirst m_fitSecond)), ((m_a 17), .inl (cI, 25, .inl m_has_c)), ((m_a 5), .inl (cB, 1600, .inl m_tape_c))] sz)) 0 0 (va_A [(m, .inr (11, mG m_a m_thrown m_taped m_at m_token m_place m_value m_word m_bad m_badPlace m_fault m_faultPlace m_willing m_will m_forgot m_isDrawn m_x m_begin m_round m_roundCards m_fate m_any m_bothSend m_meanCards m_bestSum m_fitMany m_fitFirst m_fitSecond)), ((m_a 17), .inl (cI, 25, .inl m_has_c)), ((m_a 5), .inl (cB, 1600, .inl m_tape_c))] sz) := by
  refine Met.ofW (cc := cX12_personHere) (maxL := 1) (ret := (some .int)) (by decide) rfl ?_
  intro p e s mth args below meth c s₁ B hml hv
  obtain ⟨rfl, hsz, hP, hK, hD0⟩ := hv
  have hx := B.exec
  have hb := B.bytes
  have hr := B.returns
  have hts := atoms_spec (ws := v_X12_personHere) B.pre
  have hown : s.vm.findClass RX12 = some mth.cls := findClass_of_methodNamed B.named
  have hlocks := B.notSynchronized
  clear B
  subst hsz
  have hD := hD0.self (sz := s.heap.size)
  generalize hAe : (va_A [(m, .inr (11, mG m_a m_thrown m_taped m_at m_token m_place m_value m_word m_bad m_badPlace m_fault m_faultPlace m_willing m_will m_forgot m_isDrawn m_x m_begin m_round m_roundCards m_fate m_any m_bothSend m_meanCards m_bestSum m_fitMany m_fitFirst m_fitSecond)), ((m_a 17), .inl (cI, 25, .inl m_has_c)), ((m_a 5), .inl (cB, 1600, .inl m_tape_c))] s.heap.size) = A at hD ⊢
  have hA : ∀ q : Nat, s.heap.size ≤ q → A q := fun q h => by rw [← hAe]; exact Or.inr h
  have hS : va_S A s.heap s.heap [] := va_S.rf
  have hl := lv_entry ([.ref m]) (n := 1) (Nat.le_of_ble_eq_true rfl)
  rw [lg_entry_eq]
  generalize (lg_sl ([.ref m]) ++ List.replicate (1 - (lg_sl ([.ref m])).length) Slot.unset).toArray = ls at hl ⊢
  generalize ([.ref m] : List Value).toArray = av at hts ⊢
  generalize hQ : MQ below _ av s _ _ A = QQ
  have hl : lv_has ls 1 [(0, .ref m)] := hl
  have hP : va_P g vwCl [(m, .inr (11, mG m_a m_thrown m_taped m_at m_token m_place m_value m_word m_bad m_badPlace m_fault m_faultPlace m_willing m_will m_forgot m_isDrawn m_x m_begin m_round m_roundCards m_fate m_any m_bothSend m_meanCards m_bestSum m_fitMany m_fitFirst m_fitSecond)), ((m_a 17), .inl (cI, 25, .inl m_has_c)), ((m_a 5), .inl (cB, 1600, .inl m_tape_c))] s.heap := hP
  refine lv_aload_n hx hb dX12_personHere_0 rfl (lv_at hl 0 rfl) ?_
  refine lv_iconst (v := 0) hx hb dX12_personHere_1 (by decide) ?_
  refine lv_aload_n hx hb dX12_personHere_2 rfl (lv_at hl 0 rfl) ?_
  refine lv_iconst (v := 3) hx hb dX12_personHere_3 (by decide) ?_
  refine ro_i (va_runV (As := [.int 3]) (rest := [.int 0, .ref m]) ⟨hx, hb, hml, hown, hts⟩ (q_X12_hasRead3 l g cI cJ cB cZ cL m m_a m_thrown m_taped m_at m_token m_place m_value m_word m_bad m_badPlace m_fault m_faultPlace m_willing m_will m_forgot m_isDrawn m_x m_begin m_round m_roundCards m_fate m_any m_bothSend m_meanCards m_bestSum m_fitMany m_fitFirst m_fitSecond m_has_c s.heap.size hv_m_taped hv_m_at hv_m_will hv_m_isDrawn ha_m_has_c) (cwV 1 hts (goodIn_app (g_4 (List.mem_cons_of_mem _ (List.mem_append_left _ (List.mem_of_getElem? (i := 0) rfl))) (List.mem_cons_of_mem _ (List.mem_append_left _ (List.mem_of_getElem? (i := 1) rfl))) (List.mem_cons_of_mem _ (List.mem_append_left _ (List.mem_of_getElem? (i := 2) rfl))) (List.mem_cons_of_mem _ (List.mem_append_left _ (List.mem_of_getElem? (i := 3) rfl))) (by decide +kernel)) (goodIn_sub (fun _ h => List.mem_cons_of_mem _ (List.mem_append_right _ (List.mem_append_left _ h))) good_v_X12_hasRead3)) rfl rfl rfl (by decide +kernel) ⟨Nat.le_of_ble_eq_true rfl, Nat.le_of_ble_eq_true rfl⟩) (pv_RO (q := (RX12, TX12, 56)) (ci := 11) (q0 := 0) (wc := [(m, .inr (11, mG m_a m_thrown m_taped m_at m_token m_place m_value m_word m_bad m_badPlace m_fault m_faultPlace m_willing m_will m_forgot m_isDrawn m_x m_begin m_round m_roundCards m_fate m_any m_bothSend m_meanCards m_bestSum m_fitMany m_fitFirst m_fitSecond)), ((m_a 17), .inl (cI, 25, .inl m_has_c))]) hK hP [0, 1] rfl rfl rfl) rfl rfl hl.1 rfl (lv_room (Nat.le_of_ble_eq_true rfl)) dX12_personHere_4 ⟨Nat.le_of_ble_eq_true rfl, Nat.le_of_ble_eq_true rfl⟩) hS hA hP (fun r4 u4 H locs hw4 hP hS => ?_)
  have hw4_0 := hw4
  subst hw4_0
  have rt4 : ir (m_has_c 23).toInt 0 10 := hasI_3 ha_m_has_c 4 (by decide)
  refine lv_iconst (v := 1) hx hb dX12_personHere_7 (by decide) ?_
  refine lv_isub hx hb dX12_personHere_8 ?_
  refine lv_topi (fun y8 e8 => ?_)
  have q8 : y8.toInt = (m_has_c 23).toInt - 1 := by rw [e8]; exact su_z rfl rfl rt4 (ir_c 1) (by decide) (by decide)
  have r8 : ir y8.toInt (-1) 9 := su_r q8 rt4 (ir_c 1) (by decide) (by decide)
  refine rw_i (wr := [((m_a 17), .inl (cI, 25, .inl m_has_c))]) (va_runV (As := [.int 0, .int y8]) (rest := []) ⟨hx, hb, hml, hown, hts⟩ (q_X12_number l g cI cJ cB cZ cL 0 y8 m m_a m_thrown m_taped m_at m_token m_place m_value m_word m_bad m_badPlace m_fault m_faultPlace m_willing m_will m_forgot m_isDrawn m_x m_begin m_round m_roundCards m_fate m_any m_bothSend m_meanCards m_bestSum m_fitMany m_fitFirst m_fitSecond m_tape_c H.size hv_m_taped hv_m_at hv_m_will hv_m_isDrawn (by omega)) (cwV 2 hts (goodIn_app (g_4 (List.mem_cons_of_mem _ (List.mem_append_left _ (List.mem_of_getElem? (i := 4) rfl))) (List.mem_cons_of_mem _ (List.mem_append_left _ (List.mem_of_getElem? (i := 5) rfl))) (List.mem_cons_of_mem _ (List.mem_append_left _ (List.mem_of_getElem? (i := 6) rfl))) (List.mem_cons_of_mem _ (List.mem_append_left _ (List.mem_of_getElem? (i := 3) rfl))) (by decide +kernel)) (goodIn_sub (fun _ h => List.mem_cons_of_mem _ (List.mem_append_right _ (List.mem_append_right _ (List.mem_append_left _ h)))) good_v_X12_number)) rfl rfl rfl (by decide +kernel) ⟨Nat.le_of_ble_eq_true rfl, Nat.le_of_ble_eq_true rfl⟩) (pv_RW (q := (RX12, TX12, 56)) (ci := 11) (q0 := 0) (wc := [(m, .inr (11, mG m_a m_thrown m_taped m_at m_token m_place m_value m_word m_bad m_badPlace m_fault m_faultPlace m_willing m_will m_forgot m_isDrawn m_x m_begin m_round m_roundCards m_fate m_any m_bothSend m_meanCards m_bestSum m_fitMany m_fitFirst m_fitSecond)), ((m_a 5), .inl (cB, 1600, .inl m_tape_c))]) hK hP hD [0, 2] (by decide) rfl rfl rfl) rfl rfl hl.1 rfl (lv_room (Nat.le_of_ble_eq_true rfl)) dX12_personHere_9 ⟨Nat.le_of_ble_eq_true rfl, Nat.le_of_ble_eq_true rfl⟩) hS hA hP hD [0, 2] [1] rfl rfl (by decide) (by decide) (fun r9 u9 H locs hw9 hP hD hS => ?_)
  obtain ⟨n_m_at_9, n_m_token_9, n_m_place_9, n_m_value_9, n_m_word_9, n_m_bad_9, n_m_badPlace_9⟩ := u9
  have hP : va_P g vwCl [((m_a 17), .inl (cI, 25, .inl m_has_c)), (m, .inr (11, mG m_a m_thrown m_taped n_m_at_9 n_m_token_9 n_m_place_9 n_m_value_9 n_m_word_9 n_m_bad_9 n_m_badPlace_9 m_fault m_faultPlace m_willing m_will m_forgot m_isDrawn m_x m_begin m_round m_roundCards m_fate m_any m_bothSend m_meanCards m_bestSum m_fitMany m_fitFirst m_fitSecond)), ((m_a 5), .inl (cB, 1600, .inl m_tape_c))] H := hP
  have hD : va_D A [((m_a 17), .inl (cI, 25, .inl m_has_c)), (m, .inr (11, mG m_a m_thrown m_taped n_m_at_9 n_m_token_9 n_m_place_9 n_m_value_9 n_m_word_9 n_m_bad_9 n_m_badPlace_9 m_fault m_faultPlace m_willing m_will m_forgot m_isDrawn m_x m_begin m_round m_roundCards m_fate m_any m_bothSend m_meanCards m_bestSum m_fitMany m_fitFirst m_fitSecond)), ((m_a 5), .inl (cB, 1600, .inl m_tape_c))] := hD
  dsimp only at hw9
  obtain ⟨hw9_0, hw9_1, hw9_2⟩ := hw9
  have hw9_1 : (n_m_at_9.toInt = m_at.toInt ∧ n_m_token_9.toInt = m_token.toInt) ∨ (m_at.toInt ≤ n_m_at_9.toInt ∧ n_m_at_9.toInt ≤ m_taped.toInt ∧ 0 ≤ n_m_token_9.toInt ∧ n_m_token_9.toInt ≤ 4 ∧ (m_at.toInt < n_m_at_9.toInt ∨ (n_m_token_9.toInt = 0 ∧ n_m_at_9.toInt = m_taped.toInt))) := hw9_1
  have hw9_2 : r9.toInt = 0 ∨ (0 ≤ r9.toInt ∧ r9.toInt ≤ y8.toInt) := hw9_2
  have rc9 : ir r9.toInt 0 9 := by omega
  subst hQ
  have hP9 := hP.sub (ws' := [(m, .inr (11, mG m_a m_thrown m_taped n_m_at_9 n_m_token_9 n_m_place_9 n_m_value_9 n_m_word_9 n_m_bad_9 n_m_badPlace_9 m_fault m_faultPlace m_willing m_will m_forgot m_isDrawn m_x m_begin m_round m_roundCards m_fate m_any m_bothSend m_meanCards m_bestSum m_fitMany m_fitFirst m_fitSecond)), ((m_a 17), .inl (cI, 25, .inl m_has_c)), ((m_a 5), .inl (cB, 1600, .inl m_tape_c))]) [1, 0, 2] rfl
  have hD9 := hD.sub (ws' := [(m, .inr (11, mG m_a m_thrown m_taped n_m_at_9 n_m_token_9 n_m_place_9 n_m_value_9 n_m_word_9 n_m_bad_9 n_m_badPlace_9 m_fault m_faultPlace m_willing m_will m_forgot m_isDrawn m_x m_begin m_round m_roundCards m_fate m_any m_bothSend m_meanCards m_bestSum m_fitMany m_fitFirst m_fitSecond)), ((m_a 17), .inl (cI, 25, .inl m_has_c)), ((m_a 5), .inl (cB, 1600, .inl m_tape_c))]) [1, 0, 2] (by decide) rfl
  exact W.iret (v := r9) hx hb hr (fun t ht hW => ⟨⟨r9, (n_m_at_9, n_m_token_9, n_m_place_9, n_m_value_9, n_m_word_9, n_m_bad_9, n_m_badPlace_9), rfl, ⟨hw9_0, (by omega), rc9⟩, ⟨by rw [ht]; exact hP9, va_K.moved hW.alike hK, hD9⟩⟩, hS.F ht⟩) hS.2.2 dX12_personHere_12
def v_X12_yearHere : List Cond := .code yX12_yearHere cX12_yearHere 1 (some .int) :: (([.methodLink RX12 189 yX12_hasRead, .instanceMethod yX12_hasRead, .selects RX12 yX12_hasRead yX12_hasRead, .initialized RX12, .methodLink RX12 182 yX12_number, .instanceMethod yX12_number, .selects RX12 yX12_number yX12_number] : List Cond) ++ (v_X12_hasRead0 ++ (v_X12_number ++ ([] : List Cond))))
theorem good_v_X12_yearHere : v_X12_yearHere.all goodWord = true := ga_c (by decide +kernel) (ga_a (by decide +kernel) (ga_a good_v_X12_hasRead0 (ga_a good_v_X12_number rfl)))
set_option maxHeartbeats 4000000 in
set_option maxRecDepth 100000 in
theorem q_X12_yearHere (l : Launch) (g : va_G) (cI cJ cB cZ cL : ClassId) (m : Nat) (m_a : Nat → Nat) (m_thrown : Int32) (m_taped : Int32) (m_at : Int32) (m_token : Int32) (m_place : Int32) (m_value : Int32) (m_word : Int64) (m_bad : Int32) (m_badPlace : Int32) (m_fault : Int32) (m_faultPlace : Int32) (m_willing : Int32) (m_will : Int32) (m_forgot : Int32) (m_isDrawn : Int32) (m_x : Int64) (m_begin : Int32) (m_round : Int32) (m_roundCards : Int32) (m_fate : Int32) (m_any : Int64) (m_bothSend : Int64) (m_meanCards : Int64) (m_bestSum : Int32) (m_fitMany : Int32) (m_fitFirst : Int64) (m_fitSecond : Int64) (m_has_c : Nat → Int32) (m_tape_c : Nat → Int32) (sz : Nat) (hv_m_taped : ir m_taped.toInt 0 1600) (hv_m_at : ir m_at.toInt 0 1600) (hv_m_will : ir m_will.toInt 0 1) (hv_m_isDrawn : ir m_isDrawn.toInt 0 1) (ha_m_has_c : hasI m_has_c) (hx_0 : m_at.toInt ≤ m_taped.toInt) : Met l yX12_yearHere v_X12_yearHere ({ frames := 3, cells := 0, slots := 0, locals := 67 }) (va_Pc [.ref m] (pRW g (tyT cI cJ cB cZ cL) [(m, .inr (11, mG m_a m_thrown m_taped m_at m_token m_place m_value m_word m_bad m_badPlace m_fault m_faultPlace m_willing m_will m_forgot m_isDrawn m_x m_begin m_round m_roundCards m_fate m_any m_bothSend m_meanCards m_bestSum m_fitMany m_fitFirst m_fitSecond)), ((m_a 17), .inl (cI, 25, .inl m_has_c)), ((m_a 5), .inl (cB, 1600, .inl m_tape_c))] sz)) (va_Qi (fun (r : Int32) (u : Int32 × Int32 × Int32 × Int32 × Int64 × Int32 × Int32) => match u with | (n_m_at, n_m_token, n_m_place, n_m_value, n_m_word, n_m_bad, n_m_badPlace) => (ir n_m_at.toInt 0 1600) ∧ ((n_m_at.toInt = m_at.toInt ∧ n_m_token.toInt = m_token.toInt) ∨ (m_at.toInt ≤ n_m_at.toInt ∧ n_m_at.toInt ≤ m_taped.toInt ∧ 0 ≤ n_m_token.toInt ∧ n_m_token.toInt ≤ 4 ∧ (m_at.toInt < n_m_at.toInt ∨ (n_m_token.toInt = 0 ∧ n_m_at.toInt = m_taped.toInt)))) ∧ (ir r.toInt 0 39)) (fun (u : Int32 × Int32 × Int32 × Int32 × Int64 × Int32 × Int32) (t : State) => bRW g (tyT cI cJ cB cZ cL) (va_A [(m, .inr (11, mG m_a m_thrown m_taped m_at m_token m_place m_value m_word m_bad m_badPlace m_fault m_faultPlace m_willing m_will m_forgot m_isDrawn m_x m_begin m_round m_roundCards m_fate m_any m_bothSend m_meanCards m_bestSum m_fitMany m_fitFirst m_fitSecond)), ((m_a 17), .inl (cI, 25, .inl m_has_c)), ((m_a 5), .inl (cB, 1600, .inl m_tape_c))] sz) (match u with | (n_m_at, n_m_token, n_m_place, n_m_value, n_m_word, n_m_bad, n_m_badPlace) => [(m, .inr (11, mG m_a m_thrown m_taped n_m_at n_m_token n_m_place n_m_value n_m_word n_m_bad n_m_badPlace m_fault m_faultPlace m_willing m_will m_forgot m_isDrawn m_x m_begin m_round m_roundCards m_fate m_any m_bothSend m_meanCards m_bestSum m_fitMany m_fitFirst m_fitSecond)), ((m_a 17), .inl (cI, 25, .inl m_has_c)), ((m_a 5), .inl (cB, 1600, .inl m_tape_c))]) t) (va_A [(m, .inr (11, mG m_a m_thrown m_taped m_at m_token m_place m_value m_word m_bad m_badPlace m_fault m_faultPlace m_willing m_will m_forgot m_isDrawn m_x m_begin m_round m_roundCards m_fate m_any m_bothSend m_meanCards m_bestSum m_fitMany m_fitFirst m_fitSecond)), ((m_a 17), .inl (cI, 25, .inl m_has_c)), ((m_a 5), .inl (cB, 1600, .inl m_tape_c))] sz)) 0 0 (va_A [(m, .inr (11, mG m_a m_thrown m_taped m_at m_token m_place m_value m_word m_bad m_badPlace m_fault m_faultPlace m_willing m_will m_forgot m_isDrawn m_x m_begin m_round m_roundCards m_fate m_any m_bothSend m_meanCards m_bestSum m_fitMany m_fitFirst m_fitSecond)), ((m_a 17), .inl (cI, 25, .inl m_has_c)), ((m_a 5), .inl (cB, 1600, .inl m_tape_c))] sz) := by
  refine Met.ofW (cc := cX12_yearHere) (maxL := 1) (ret := (some .int)) (by decide) rfl ?_
  intro p e s mth args below meth c s₁ B hml hv
  obtain ⟨rfl, hsz, hP, hK, hD0⟩ := hv
  have hx := B.exec
  have hb := B.bytes
  have hr := B.returns
  have hts := atoms_spec (ws := v_X12_yearHere) B.pre
  have hown : s.vm.findClass RX12 = some mth.cls := findClass_of_methodNamed B.named
  have hlocks := B.notSynchronized
  clear B
  subst hsz
  have hD := hD0.self (sz := s.heap.size)
  generalize hAe : (va_A [(m, .inr (11, mG m_a m_thrown m_taped m_at m_token m_place m_value m_word m_bad m_badPlace m_fault m_faultPlace m_willing m_will m_forgot m_isDrawn m_x m_begin m_round m_roundCards m_fate m_any m_bothSend m_meanCards m_bestSum m_fitMany m_fitFirst m_fitSecond)), ((m_a 17), .inl (cI, 25, .inl m_has_c)), ((m_a 5), .inl (cB, 1600, .inl m_tape_c))] s.heap.size) = A at hD ⊢
  have hA : ∀ q : Nat, s.heap.size ≤ q → A q := fun q h => by rw [← hAe]; exact Or.inr h
  have hS : va_S A s.heap s.heap [] := va_S.rf
  have hl := lv_entry ([.ref m]) (n := 1) (Nat.le_of_ble_eq_true rfl)
  rw [lg_entry_eq]
  generalize (lg_sl ([.ref m]) ++ List.replicate (1 - (lg_sl ([.ref m])).length) Slot.unset).toArray = ls at hl ⊢
  generalize ([.ref m] : List Value).toArray = av at hts ⊢
  generalize hQ : MQ below _ av s _ _ A = QQ
  have hl : lv_has ls 1 [(0, .ref m)] := hl
  have hP : va_P g vwCl [(m, .inr (11, mG m_a m_thrown m_taped m_at m_token m_place m_value m_word m_bad m_badPlace m_fault m_faultPlace m_willing m_will m_forgot m_isDrawn m_x m_begin m_round m_roundCards m_fate m_any m_bothSend m_meanCards m_bestSum m_fitMany m_fitFirst m_fitSecond)), ((m_a 17), .inl (cI, 25, .inl m_has_c)), ((m_a 5), .inl (cB, 1600, .inl m_tape_c))] s.heap := hP
  refine lv_aload_n hx hb dX12_yearHere_0 rfl (lv_at hl 0 rfl) ?_
  refine lv_iconst (v := 0) hx hb dX12_yearHere_1 (by decide) ?_
  refine lv_aload_n hx hb dX12_yearHere_2 rfl (lv_at hl 0 rfl) ?_
  refine lv_iconst (v := 0) hx hb dX12_yearHere_3 (by decide) ?_
  refine ro_i (va_runV (As := [.int 0]) (rest := [.int 0, .ref m]) ⟨hx, hb, hml, hown, hts⟩ (q_X12_hasRead0 l g cI cJ cB cZ cL m m_a m_thrown m_taped m_at m_token m_place m_value m_word m_bad m_badPlace m_fault m_faultPlace m_willing m_will m_forgot m_isDrawn m_x m_begin m_round m_roundCards m_fate m_any m_bothSend m_meanCards m_bestSum m_fitMany m_fitFirst m_fitSecond m_has_c s.heap.size hv_m_taped hv_m_at hv_m_will hv_m_isDrawn ha_m_has_c) (cwV 1 hts (goodIn_app (g_4 (List.mem_cons_of_mem _ (List.mem_append_left _ (List.mem_of_getElem? (i := 0) rfl))) (List.mem_cons_of_mem _ (List.mem_append_left _ (List.mem_of_getElem? (i := 1) rfl))) (List.mem_cons_of_mem _ (List.mem_append_left _ (List.mem_of_getElem? (i := 2) rfl))) (List.mem_cons_of_mem _ (List.mem_append_left _ (List.mem_of_getElem? (i := 3) rfl))) (by decide +kernel)) (goodIn_sub (fun _ h => List.mem_cons_of_mem _ (List.mem_append_right _ (List.mem_append_left _ h))) good_v_X12_hasRead0)) rfl rfl rfl (by decide +kernel) ⟨Nat.le_of_ble_eq_true rfl, Nat.le_of_ble_eq_true rfl⟩) (pv_RO (q := (RX12, TX12, 56)) (ci := 11) (q0 := 0) (wc := [(m, .inr (11, mG m_a m_thrown m_taped m_at m_token m_place m_value m_word m_bad m_badPlace m_fault m_faultPlace m_willing m_will m_forgot m_isDrawn m_x m_begin m_round m_roundCards m_fate m_any m_bothSend m_meanCards m_bestSum m_fitMany m_fitFirst m_fitSecond)), ((m_a 17), .inl (cI, 25, .inl m_has_c))]) hK hP [0, 1] rfl rfl rfl) rfl rfl hl.1 rfl (lv_room (Nat.le_of_ble_eq_true rfl)) dX12_yearHere_4 ⟨Nat.le_of_ble_eq_true rfl, Nat.le_of_ble_eq_true rfl⟩) hS hA hP (fun r4 u4 H locs hw4 hP hS => ?_)
  have hw4_0 := hw4
  subst hw4_0
  have rt4 : ir (m_has_c 20).toInt 0 40 := hasI_0 ha_m_has_c 4 (by decide)
  refine lv_iconst (v := 1) hx hb dX12_yearHere_7 (by decide) ?_
  refine lv_isub hx hb dX12_yearHere_8 ?_
  refine lv_topi (fun y8 e8 => ?_)
  have q8 : y8.toInt = (m_has_c 20).toInt - 1 := by rw [e8]; exact su_z rfl rfl rt4 (ir_c 1) (by decide) (by decide)
  have r8 : ir y8.toInt (-1) 39 := su_r q8 rt4 (ir_c 1) (by decide) (by decide)
  refine rw_i (wr := [((m_a 17), .inl (cI, 25, .inl m_has_c))]) (va_runV (As := [.int 0, .int y8]) (rest := []) ⟨hx, hb, hml, hown, hts⟩ (q_X12_number l g cI cJ cB cZ cL 0 y8 m m_a m_thrown m_taped m_at m_token m_place m_value m_word m_bad m_badPlace m_fault m_faultPlace m_willing m_will m_forgot m_isDrawn m_x m_begin m_round m_roundCards m_fate m_any m_bothSend m_meanCards m_bestSum m_fitMany m_fitFirst m_fitSecond m_tape_c H.size hv_m_taped hv_m_at hv_m_will hv_m_isDrawn (by omega)) (cwV 2 hts (goodIn_app (g_4 (List.mem_cons_of_mem _ (List.mem_append_left _ (List.mem_of_getElem? (i := 4) rfl))) (List.mem_cons_of_mem _ (List.mem_append_left _ (List.mem_of_getElem? (i := 5) rfl))) (List.mem_cons_of_mem _ (List.mem_append_left _ (List.mem_of_getElem? (i := 6) rfl))) (List.mem_cons_of_mem _ (List.mem_append_left _ (List.mem_of_getElem? (i := 3) rfl))) (by decide +kernel)) (goodIn_sub (fun _ h => List.mem_cons_of_mem _ (List.mem_append_right _ (List.mem_append_right _ (List.mem_append_left _ h)))) good_v_X12_number)) rfl rfl rfl (by decide +kernel) ⟨Nat.le_of_ble_eq_true rfl, Nat.le_of_ble_eq_true rfl⟩) (pv_RW (q := (RX12, TX12, 56)) (ci := 11) (q0 := 0) (wc := [(m, .inr (11, mG m_a m_thrown m_taped m_at m_token m_place m_value m_word m_bad m_badPlace m_fault m_faultPlace m_willing m_will m_forgot m_isDrawn m_x m_begin m_round m_roundCards m_fate m_any m_bothSend m_meanCards m_bestSum m_fitMany m_fitFirst m_fitSecond)), ((m_a 5), .inl (cB, 1600, .inl m_tape_c))]) hK hP hD [0, 2] (by decide) rfl rfl rfl) rfl rfl hl.1 rfl (lv_room (Nat.le_of_ble_eq_true rfl)) dX12_yearHere_9 ⟨Nat.le_of_ble_eq_true rfl, Nat.le_of_ble_eq_true rfl⟩) hS hA hP hD [0, 2] [1] rfl rfl (by decide) (by decide) (fun r9 u9 H locs hw9 hP hD hS => ?_)
  obtain ⟨n_m_at_9, n_m_token_9, n_m_place_9, n_m_value_9, n_m_word_9, n_m_bad_9, n_m_badPlace_9⟩ := u9
  have hP : va_P g vwCl [((m_a 17), .inl (cI, 25, .inl m_has_c)), (m, .inr (11, mG m_a m_thrown m_taped n_m_at_9 n_m_token_9 n_m_place_9 n_m_value_9 n_m_word_9 n_m_bad_9 n_m_badPlace_9 m_fault m_faultPlace m_willing m_will m_forgot m_isDrawn m_x m_begin m_round m_roundCards m_fate m_any m_bothSend m_meanCards m_bestSum m_fitMany m_fitFirst m_fitSecond)), ((m_a 5), .inl (cB, 1600, .inl m_tape_c))] H := hP
  have hD : va_D A [((m_a 17), .inl (cI, 25, .inl m_has_c)), (m, .inr (11, mG m_a m_thrown m_taped n_m_at_9 n_m_token_9 n_m_place_9 n_m_value_9 n_m_word_9 n_m_bad_9 n_m_badPlace_9 m_fault m_faultPlace m_willing m_will m_forgot m_isDrawn m_x m_begin m_round m_roundCards m_fate m_any m_bothSend m_meanCards m_bestSum m_fitMany m_fitFirst m_fitSecond)), ((m_a 5), .inl (cB, 1600, .inl m_tape_c))] := hD
  dsimp only at hw9
  obtain ⟨hw9_0, hw9_1, hw9_2⟩ := hw9
  have hw9_1 : (n_m_at_9.toInt = m_at.toInt ∧ n_m_token_9.toInt = m_token.toInt) ∨ (m_at.toInt ≤ n_m_at_9.toInt ∧ n_m_at_9.toInt ≤ m_taped.toInt ∧ 0 ≤ n_m_token_9.toInt ∧ n_m_token_9.toInt ≤ 4 ∧ (m_at.toInt < n_m_at_9.toInt ∨ (n_m_token_9.toInt = 0 ∧ n_m_at_9.toInt = m_taped.toInt))) := hw9_1
  have hw9_2 : r9.toInt = 0 ∨ (0 ≤ r9.toInt ∧ r9.toInt ≤ y8.toInt) := hw9_2
  have rc9 : ir r9.toInt 0 39 := by omega
  subst hQ
  have hP9 := hP.sub (ws' := [(m, .inr (11, mG m_a m_thrown m_taped n_m_at_9 n_m_token_9 n_m_place_9 n_m_value_9 n_m_word_9 n_m_bad_9 n_m_badPlace_9 m_fault m_faultPlace m_willing m_will m_forgot m_isDrawn m_x m_begin m_round m_roundCards m_fate m_any m_bothSend m_meanCards m_bestSum m_fitMany m_fitFirst m_fitSecond)), ((m_a 17), .inl (cI, 25, .inl m_has_c)), ((m_a 5), .inl (cB, 1600, .inl m_tape_c))]) [1, 0, 2] rfl
  have hD9 := hD.sub (ws' := [(m, .inr (11, mG m_a m_thrown m_taped n_m_at_9 n_m_token_9 n_m_place_9 n_m_value_9 n_m_word_9 n_m_bad_9 n_m_badPlace_9 m_fault m_faultPlace m_willing m_will m_forgot m_isDrawn m_x m_begin m_round m_roundCards m_fate m_any m_bothSend m_meanCards m_bestSum m_fitMany m_fitFirst m_fitSecond)), ((m_a 17), .inl (cI, 25, .inl m_has_c)), ((m_a 5), .inl (cB, 1600, .inl m_tape_c))]) [1, 0, 2] (by decide) rfl
  exact W.iret (v := r9) hx hb hr (fun t ht hW => ⟨⟨r9, (n_m_at_9, n_m_token_9, n_m_place_9, n_m_value_9, n_m_word_9, n_m_bad_9, n_m_badPlace_9), rfl, ⟨hw9_0, (by omega), rc9⟩, ⟨by rw [ht]; exact hP9, va_K.moved hW.alike hK, hD9⟩⟩, hS.F ht⟩) hS.2.2 dX12_yearHere_12
def v_X12_isB : List Cond := .code yX12_is cX12_is 3 (some .boolean) :: (([.fieldLink RX12 159 "CardsAtYuleModel" "bad" "I", .fieldLink RX12 148 "CardsAtYuleModel" "token" "I", .fieldLink RX12 144 "CardsAtYuleModel" "word" "J"] : List Cond) ++ (wsX120 ++ ([] : List Cond)))
theorem good_v_X12_isB : v_X12_isB.all goodWord = true := ga_c (by decide +kernel) (ga_a (by decide +kernel) (ga_a good_wsX120 rfl))
set_option maxHeartbeats 4000000 in
set_option maxRecDepth 100000 in
theorem q_X12_isB (l : Launch) (g : va_G) (cI cJ cB cZ cL : ClassId) (p0 : Int64) (m : Nat) (m_a : Nat → Nat) (m_thrown : Int32) (m_taped : Int32) (m_at : Int32) (m_token : Int32) (m_place : Int32) (m_value : Int32) (m_word : Int64) (m_bad : Int32) (m_badPlace : Int32) (m_fault : Int32) (m_faultPlace : Int32) (m_willing : Int32) (m_will : Int32) (m_forgot : Int32) (m_isDrawn : Int32) (m_x : Int64) (m_begin : Int32) (m_round : Int32) (m_roundCards : Int32) (m_fate : Int32) (m_any : Int64) (m_bothSend : Int64) (m_meanCards : Int64) (m_bestSum : Int32) (m_fitMany : Int32) (m_fitFirst : Int64) (m_fitSecond : Int64) (sz : Nat) (hv_m_taped : ir m_taped.toInt 0 1600) (hv_m_at : ir m_at.toInt 0 1600) (hv_m_will : ir m_will.toInt 0 1) (hv_m_isDrawn : ir m_isDrawn.toInt 0 1) : Met l yX12_is v_X12_isB ({ frames := 0, cells := 0, slots := 0, locals := 0 }) (va_Pc [.ref m, .long p0] (pRO g (tyT cI cJ cB cZ cL) [(m, .inr (11, mG m_a m_thrown m_taped m_at m_token m_place m_value m_word m_bad m_badPlace m_fault m_faultPlace m_willing m_will m_forgot m_isDrawn m_x m_begin m_round m_roundCards m_fate m_any m_bothSend m_meanCards m_bestSum m_fitMany m_fitFirst m_fitSecond))] sz)) (va_Qi (fun (r : Int32) (u : Unit) => (ir r.toInt 0 1)) (fun (_ : Unit) (_ : State) => True) (va_A [] sz)) 0 0 (va_A [] sz) := by
  refine Met.ofW (cc := cX12_is) (maxL := 3) (ret := (some .boolean)) (by decide) rfl ?_
  intro p e s mth args below meth c s₁ B hml hv
  obtain ⟨rfl, hsz, hP, hK⟩ := hv
  have hx := B.exec
  have hb := B.bytes
  have hr := B.returns
  have hts := atoms_spec (ws := v_X12_isB) B.pre
  have hown : s.vm.findClass RX12 = some mth.cls := findClass_of_methodNamed B.named
  have hlocks := B.notSynchronized
  clear B
  subst hsz
  have iX12 : ∀ w ∈ wsX120, w ∈ v_X12_isB := (fun _ h => List.mem_cons_of_mem _ (List.mem_append_right _ (List.mem_append_left _ h)))
  generalize hAe : (va_A [] s.heap.size) = A
  have hA : ∀ q : Nat, s.heap.size ≤ q → A q := fun q h => by rw [← hAe]; exact Or.inr h
  have hS : va_S A s.heap s.heap [] := va_S.rf
  have hl := lv_entry ([.ref m, .long p0]) (n := 3) (Nat.le_of_ble_eq_true rfl)
  rw [lg_entry_eq]
  generalize (lg_sl ([.ref m, .long p0]) ++ List.replicate (3 - (lg_sl ([.ref m, .long p0])).length) Slot.unset).toArray = ls at hl ⊢
  generalize ([.ref m, .long p0] : List Value).toArray = av at hts ⊢
  generalize hQ : MQ below _ av s _ _ A = QQ
  have hl : lv_has ls 3 [(0, .ref m), (1, .long p0)] := hl
  have hP : va_P g vwCl [(m, .inr (11, mG m_a m_thrown m_taped m_at m_token m_place m_value m_word m_bad m_badPlace m_fault m_faultPlace m_willing m_will m_forgot m_isDrawn m_x m_begin m_round m_roundCards m_fate m_any m_bothSend m_meanCards m_bestSum m_fitMany m_fitFirst m_fitSecond))] s.heap := hP
  refine lv_aload_n hx hb dX12_is_0 rfl (lv_at hl 0 rfl) ?_
  refine va_get (D := g) (ci := 11) (v := .int m_bad) (C := RX12) (T := TX12) (N := 56) hx hb hts iX12 hown hK hP 0 rfl rfl 12 (by decide) (hts (.fieldLink RX12 159 "CardsAtYuleModel" "bad" "I") (List.mem_cons_of_mem _ (List.mem_append_left _ (List.mem_of_getElem? (i := 0) rfl)))) (fun _ h9 => h9) rfl dX12_is_1 ?_
  refine lv_if_ne (tgt := 28) hx hb dX12_is_4 (by decide) (fun c4 => ?_) (fun c4 => ?_)
  · have f4 := (show m_bad.toInt ≠ 0 from z_ne rfl rfl c4)
    refine lv_iconst (v := 0) hx hb dX12_is_28 (by decide) ?_
    subst hQ
    exact W.zret (v := 0) hx hb hr rfl (fun t ht hW => ⟨⟨0, (), rfl, (show ir (0 : Int32).toInt 0 1 by decide), trivial⟩, hS.F ht⟩) hS.2.2 dX12_is_29
  have f4 := (show m_bad.toInt = 0 from z_eq rfl rfl c4)
  have r4a : ir m_bad.toInt 0 0 := ir_eqa f4 (rg_all m_bad) (ir_c 0) (by decide) (by decide)
  refine lv_aload_n hx hb dX12_is_7 rfl (lv_at hl 0 rfl) ?_
  refine va_get (D := g) (ci := 11) (v := .int m_token) (C := RX12) (T := TX12) (N := 56) hx hb hts iX12 hown hK hP 0 rfl rfl 8 (by decide) (hts (.fieldLink RX12 148 "CardsAtYuleModel" "token" "I") (List.mem_cons_of_mem _ (List.mem_append_left _ (List.mem_of_getElem? (i := 1) rfl)))) (fun _ h9 => h9) rfl dX12_is_8 ?_
  refine lv_iconst (v := 1) hx hb dX12_is_11 (by decide) ?_
  refine lv_icmp_ne (tgt := 28) hx hb dX12_is_12 (by decide) (fun c12 => ?_) (fun c12 => ?_)
  · have f12 := (show m_token.toInt ≠ 1 from z_ne rfl rfl c12)
    refine lv_iconst (v := 0) hx hb dX12_is_28 (by decide) ?_
    subst hQ
    exact W.zret (v := 0) hx hb hr rfl (fun t ht hW => ⟨⟨0, (), rfl, (show ir (0 : Int32).toInt 0 1 by decide), trivial⟩, hS.F ht⟩) hS.2.2 dX12_is_29
  have f12 := (show m_token.toInt = 1 from z_eq rfl rfl c12)
  have r12a : ir m_token.toInt 1 1 := ir_eqa f12 (rg_all m_token) (ir_c 1) (by decide) (by decide)
  refine lv_aload_n hx hb dX12_is_15 rfl (lv_at hl 0 rfl) ?_
  refine va_get (D := g) (ci := 11) (v := .long m_word) (C := RX12) (T := TX12) (N := 56) hx hb hts iX12 hown hK hP 0 rfl rfl 11 (by decide) (hts (.fieldLink RX12 144 "CardsAtYuleModel" "word" "J") (List.mem_cons_of_mem _ (List.mem_append_left _ (List.mem_of_getElem? (i := 2) rfl)))) (fun _ h9 => h9) rfl dX12_is_16 ?_
  refine lv_lload_n hx hb dX12_is_19 rfl (lv_at hl 1 rfl) ?_
  refine W.lcmp hx hb dX12_is_20 ?_
  refine lv_if_ne (tgt := 28) hx hb dX12_is_21 (by decide) (fun c21 => ?_) (fun c21 => ?_)
  · have f21 := (show m_word.toInt ≠ p0.toInt from y_ne rfl rfl c21)
    refine lv_iconst (v := 0) hx hb dX12_is_28 (by decide) ?_
    subst hQ
    exact W.zret (v := 0) hx hb hr rfl (fun t ht hW => ⟨⟨0, (), rfl, (show ir (0 : Int32).toInt 0 1 by decide), trivial⟩, hS.F ht⟩) hS.2.2 dX12_is_29
  have f21 := (show m_word.toInt = p0.toInt from y_eq rfl rfl c21)
  refine lv_iconst (v := 1) hx hb dX12_is_24 (by decide) ?_
  refine lv_goto (tgt := 29) hx hb dX12_is_25 (by decide) ?_
  subst hQ
  exact W.zret (v := 1) hx hb hr rfl (fun t ht hW => ⟨⟨1, (), rfl, (show ir (1 : Int32).toInt 0 1 by decide), trivial⟩, hS.F ht⟩) hS.2.2 dX12_is_29
