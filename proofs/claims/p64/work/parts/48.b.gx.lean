def v_X12_number : List Cond := .code yX12_number cX12_number 4 (some .int) :: (([.fieldLink RX12 159 "CardsAtYuleModel" "bad" "I", .fieldLink RX12 148 "CardsAtYuleModel" "token" "I", .fieldLink RX12 141 "CardsAtYuleModel" "value" "I", .methodLink RX12 112 yX12_in, .static yX12_in, .initialized RX12, .methodLink RX12 169 yX12_next, .instanceMethod yX12_next, .selects RX12 yX12_next yX12_next, .methodLink RX12 175 yX12_fails, .instanceMethod yX12_fails, .selects RX12 yX12_fails yX12_fails] : List Cond) ++ (v_X12_in ++ (v_X12_next ++ (v_X12_fails ++ (wsX120 ++ ([] : List Cond))))))
theorem good_v_X12_number : v_X12_number.all goodWord = true := ga_c (by decide +kernel) (ga_a (by decide +kernel) (ga_a good_v_X12_in (ga_a good_v_X12_next (ga_a good_v_X12_fails (ga_a good_wsX120 rfl)))))
set_option maxHeartbeats 4000000 in
set_option maxRecDepth 100000 in
theorem q_X12_number (l : Launch) (g : va_G) (cI cJ cB cZ cL : ClassId) (p0 : Int32) (p1 : Int32) (m : Nat) (m_a : Nat → Nat) (m_thrown : Int32) (m_taped : Int32) (m_at : Int32) (m_token : Int32) (m_place : Int32) (m_value : Int32) (m_word : Int64) (m_bad : Int32) (m_badPlace : Int32) (m_fault : Int32) (m_faultPlace : Int32) (m_willing : Int32) (m_will : Int32) (m_forgot : Int32) (m_isDrawn : Int32) (m_x : Int64) (m_begin : Int32) (m_round : Int32) (m_roundCards : Int32) (m_fate : Int32) (m_any : Int64) (m_bothSend : Int64) (m_meanCards : Int64) (m_bestSum : Int32) (m_fitMany : Int32) (m_fitFirst : Int64) (m_fitSecond : Int64) (m_tape_c : Nat → Int32) (sz : Nat) (hv_m_taped : ir m_taped.toInt 0 1600) (hv_m_at : ir m_at.toInt 0 1600) (hv_m_will : ir m_will.toInt 0 1) (hv_m_isDrawn : ir m_isDrawn.toInt 0 1) (hx_0 : m_at.toInt ≤ m_taped.toInt) : Met l yX12_number v_X12_number ({ frames := 2, cells := 0, slots := 0, locals := 44 }) (va_Pc [.ref m, .int p0, .int p1] (pRW g (tyT cI cJ cB cZ cL) [(m, .inr (11, mG m_a m_thrown m_taped m_at m_token m_place m_value m_word m_bad m_badPlace m_fault m_faultPlace m_willing m_will m_forgot m_isDrawn m_x m_begin m_round m_roundCards m_fate m_any m_bothSend m_meanCards m_bestSum m_fitMany m_fitFirst m_fitSecond)), ((m_a 5), .inl (cB, 1600, .inl m_tape_c))] sz)) (va_Qi (fun (r : Int32) (u : Int32 × Int32 × Int32 × Int32 × Int64 × Int32 × Int32) => match u with | (n_m_at, n_m_token, n_m_place, n_m_value, n_m_word, n_m_bad, n_m_badPlace) => (ir n_m_at.toInt 0 1600) ∧ ((n_m_at.toInt = m_at.toInt ∧ n_m_token.toInt = m_token.toInt) ∨ (m_at.toInt ≤ n_m_at.toInt ∧ n_m_at.toInt ≤ m_taped.toInt ∧ 0 ≤ n_m_token.toInt ∧ n_m_token.toInt ≤ 4 ∧ (m_at.toInt < n_m_at.toInt ∨ (n_m_token.toInt = 0 ∧ n_m_at.toInt = m_taped.toInt)))) ∧ (r.toInt = p0.toInt ∨ (p0.toInt ≤ r.toInt ∧ r.toInt ≤ p1.toInt))) (fun (u : Int32 × Int32 × Int32 × Int32 × Int64 × Int32 × Int32) (t : State) => bRW g (tyT cI cJ cB cZ cL) (va_A [(m, .inr (11, mG m_a m_thrown m_taped m_at m_token m_place m_value m_word m_bad m_badPlace m_fault m_faultPlace m_willing m_will m_forgot m_isDrawn m_x m_begin m_round m_roundCards m_fate m_any m_bothSend m_meanCards m_bestSum m_fitMany m_fitFirst m_fitSecond)), ((m_a 5), .inl (cB, 1600, .inl m_tape_c))] sz) (match u with | (n_m_at, n_m_token, n_m_place, n_m_value, n_m_word, n_m_bad, n_m_badPlace) => [(m, .inr (11, mG m_a m_thrown m_taped n_m_at n_m_token n_m_place n_m_value n_m_word n_m_bad n_m_badPlace m_fault m_faultPlace m_willing m_will m_forgot m_isDrawn m_x m_begin m_round m_roundCards m_fate m_any m_bothSend m_meanCards m_bestSum m_fitMany m_fitFirst m_fitSecond)), ((m_a 5), .inl (cB, 1600, .inl m_tape_c))]) t) (va_A [(m, .inr (11, mG m_a m_thrown m_taped m_at m_token m_place m_value m_word m_bad m_badPlace m_fault m_faultPlace m_willing m_will m_forgot m_isDrawn m_x m_begin m_round m_roundCards m_fate m_any m_bothSend m_meanCards m_bestSum m_fitMany m_fitFirst m_fitSecond)), ((m_a 5), .inl (cB, 1600, .inl m_tape_c))] sz)) 0 0 (va_A [(m, .inr (11, mG m_a m_thrown m_taped m_at m_token m_place m_value m_word m_bad m_badPlace m_fault m_faultPlace m_willing m_will m_forgot m_isDrawn m_x m_begin m_round m_roundCards m_fate m_any m_bothSend m_meanCards m_bestSum m_fitMany m_fitFirst m_fitSecond)), ((m_a 5), .inl (cB, 1600, .inl m_tape_c))] sz) := by
  refine Met.ofW (cc := cX12_number) (maxL := 4) (ret := (some .int)) (by decide) rfl ?_
  intro p e s mth args below meth c s₁ B hml hv
  obtain ⟨rfl, hsz, hP, hK, hD0⟩ := hv
  have hx := B.exec
  have hb := B.bytes
  have hr := B.returns
  have hts := atoms_spec (ws := v_X12_number) B.pre
  have hown : s.vm.findClass RX12 = some mth.cls := findClass_of_methodNamed B.named
  have hlocks := B.notSynchronized
  clear B
  subst hsz
  have iX12 : ∀ w ∈ wsX120, w ∈ v_X12_number := (fun _ h => List.mem_cons_of_mem _ (List.mem_append_right _ (List.mem_append_right _ (List.mem_append_right _ (List.mem_append_right _ (List.mem_append_left _ h))))))
  have hD := hD0.self (sz := s.heap.size)
  generalize hAe : (va_A [(m, .inr (11, mG m_a m_thrown m_taped m_at m_token m_place m_value m_word m_bad m_badPlace m_fault m_faultPlace m_willing m_will m_forgot m_isDrawn m_x m_begin m_round m_roundCards m_fate m_any m_bothSend m_meanCards m_bestSum m_fitMany m_fitFirst m_fitSecond)), ((m_a 5), .inl (cB, 1600, .inl m_tape_c))] s.heap.size) = A at hD ⊢
  have hA : ∀ q : Nat, s.heap.size ≤ q → A q := fun q h => by rw [← hAe]; exact Or.inr h
  have hS : va_S A s.heap s.heap [] := va_S.rf
  have hl := lv_entry ([.ref m, .int p0, .int p1]) (n := 4) (Nat.le_of_ble_eq_true rfl)
  rw [lg_entry_eq]
  generalize (lg_sl ([.ref m, .int p0, .int p1]) ++ List.replicate (4 - (lg_sl ([.ref m, .int p0, .int p1])).length) Slot.unset).toArray = ls at hl ⊢
  generalize ([.ref m, .int p0, .int p1] : List Value).toArray = av at hts ⊢
  generalize hQ : MQ below _ av s _ _ A = QQ
  have hl : lv_has ls 4 [(0, .ref m), (1, .int p0), (2, .int p1)] := hl
  have hP : va_P g vwCl [(m, .inr (11, mG m_a m_thrown m_taped m_at m_token m_place m_value m_word m_bad m_badPlace m_fault m_faultPlace m_willing m_will m_forgot m_isDrawn m_x m_begin m_round m_roundCards m_fate m_any m_bothSend m_meanCards m_bestSum m_fitMany m_fitFirst m_fitSecond)), ((m_a 5), .inl (cB, 1600, .inl m_tape_c))] s.heap := hP
  refine lv_aload_n hx hb dX12_number_0 rfl (lv_at hl 0 rfl) ?_
  refine va_get (D := g) (ci := 11) (v := .int m_bad) (C := RX12) (T := TX12) (N := 56) hx hb hts iX12 hown hK hP 0 rfl rfl 12 (by decide) (hts (.fieldLink RX12 159 "CardsAtYuleModel" "bad" "I") (List.mem_cons_of_mem _ (List.mem_append_left _ (List.mem_of_getElem? (i := 0) rfl)))) (fun _ h9 => h9) rfl dX12_number_1 ?_
  refine lv_if_eq (tgt := 9) hx hb dX12_number_4 (by decide) (fun c4 => ?_) (fun c4 => ?_)
  rotate_left 1
  · have f4 := (show m_bad.toInt ≠ 0 from z_ne rfl rfl c4)
    refine lv_iload_n hx hb dX12_number_7 rfl (lv_at hl 1 rfl) ?_
    subst hQ
    have hP9 := hP.sub (ws' := [(m, .inr (11, mG m_a m_thrown m_taped m_at m_token m_place m_value m_word m_bad m_badPlace m_fault m_faultPlace m_willing m_will m_forgot m_isDrawn m_x m_begin m_round m_roundCards m_fate m_any m_bothSend m_meanCards m_bestSum m_fitMany m_fitFirst m_fitSecond)), ((m_a 5), .inl (cB, 1600, .inl m_tape_c))]) [0, 1] rfl
    have hD9 := hD.sub (ws' := [(m, .inr (11, mG m_a m_thrown m_taped m_at m_token m_place m_value m_word m_bad m_badPlace m_fault m_faultPlace m_willing m_will m_forgot m_isDrawn m_x m_begin m_round m_roundCards m_fate m_any m_bothSend m_meanCards m_bestSum m_fitMany m_fitFirst m_fitSecond)), ((m_a 5), .inl (cB, 1600, .inl m_tape_c))]) [0, 1] (by decide) rfl
    exact W.iret (v := p0) hx hb hr (fun t ht hW => ⟨⟨p0, (m_at, m_token, m_place, m_value, m_word, m_bad, m_badPlace), rfl, ⟨hv_m_at, (by omega), (by omega)⟩, ⟨by rw [ht]; exact hP9, va_K.moved hW.alike hK, hD9⟩⟩, hS.F ht⟩) hS.2.2 dX12_number_8
  have f4 := (show m_bad.toInt = 0 from z_eq rfl rfl c4)
  have r4a : ir m_bad.toInt 0 0 := ir_eqa f4 (rg_all m_bad) (ir_c 0) (by decide) (by decide)
  refine lv_aload_n hx hb dX12_number_9 rfl (lv_at hl 0 rfl) ?_
  refine va_get (D := g) (ci := 11) (v := .int m_token) (C := RX12) (T := TX12) (N := 56) hx hb hts iX12 hown hK hP 0 rfl rfl 8 (by decide) (hts (.fieldLink RX12 148 "CardsAtYuleModel" "token" "I") (List.mem_cons_of_mem _ (List.mem_append_left _ (List.mem_of_getElem? (i := 1) rfl)))) (fun _ h9 => h9) rfl dX12_number_10 ?_
  refine lv_iconst (v := 2) hx hb dX12_number_13 (by decide) ?_
  refine lv_icmp_eq (tgt := 24) hx hb dX12_number_14 (by decide) (fun c14 => ?_) (fun c14 => ?_)
  rotate_left 1
  · have f14 := (show m_token.toInt ≠ 2 from z_ne rfl rfl c14)
    refine lv_aload_n hx hb dX12_number_17 rfl (lv_at hl 0 rfl) ?_
    refine lv_iconst (v := 1) hx hb dX12_number_18 (by decide) ?_
    refine rw_v (wr := [((m_a 5), .inl (cB, 1600, .inl m_tape_c))]) (va_runV (As := [.int 1]) (rest := []) ⟨hx, hb, hml, hown, hts⟩ (q_X12_fails l g cI cJ cB cZ cL 1 m m_a m_thrown m_taped m_at m_token m_place m_value m_word m_bad m_badPlace m_fault m_faultPlace m_willing m_will m_forgot m_isDrawn m_x m_begin m_round m_roundCards m_fate m_any m_bothSend m_meanCards m_bestSum m_fitMany m_fitFirst m_fitSecond s.heap.size (by decide) hv_m_taped hv_m_at hv_m_will hv_m_isDrawn) (cwV 1 hts (goodIn_app (g_4 (List.mem_cons_of_mem _ (List.mem_append_left _ (List.mem_of_getElem? (i := 9) rfl))) (List.mem_cons_of_mem _ (List.mem_append_left _ (List.mem_of_getElem? (i := 10) rfl))) (List.mem_cons_of_mem _ (List.mem_append_left _ (List.mem_of_getElem? (i := 11) rfl))) (List.mem_cons_of_mem _ (List.mem_append_left _ (List.mem_of_getElem? (i := 5) rfl))) (by decide +kernel)) (goodIn_sub (fun _ h => List.mem_cons_of_mem _ (List.mem_append_right _ (List.mem_append_right _ (List.mem_append_right _ (List.mem_append_left _ h))))) good_v_X12_fails)) rfl rfl rfl (by decide +kernel) ⟨Nat.le_of_ble_eq_true rfl, Nat.le_of_ble_eq_true rfl⟩) (pv_RW (q := (RX12, TX12, 56)) (ci := 11) (q0 := 0) (wc := [(m, .inr (11, mG m_a m_thrown m_taped m_at m_token m_place m_value m_word m_bad m_badPlace m_fault m_faultPlace m_willing m_will m_forgot m_isDrawn m_x m_begin m_round m_roundCards m_fate m_any m_bothSend m_meanCards m_bestSum m_fitMany m_fitFirst m_fitSecond))]) hK hP hD [0] (by decide) rfl rfl rfl) rfl rfl hl.1 rfl (lv_room (Nat.le_of_ble_eq_true rfl)) dX12_number_19 ⟨Nat.le_of_ble_eq_true rfl, Nat.le_of_ble_eq_true rfl⟩) hS hA hP hD [0] [1] rfl rfl (by decide) (by decide) (fun u19 H locs hw19 hP hD hS => ?_)
    obtain ⟨n_m_bad_19, n_m_badPlace_19⟩ := u19
    have hP : va_P g vwCl [((m_a 5), .inl (cB, 1600, .inl m_tape_c)), (m, .inr (11, mG m_a m_thrown m_taped m_at m_token m_place m_value m_word n_m_bad_19 n_m_badPlace_19 m_fault m_faultPlace m_willing m_will m_forgot m_isDrawn m_x m_begin m_round m_roundCards m_fate m_any m_bothSend m_meanCards m_bestSum m_fitMany m_fitFirst m_fitSecond))] H := hP
    have hD : va_D A [((m_a 5), .inl (cB, 1600, .inl m_tape_c)), (m, .inr (11, mG m_a m_thrown m_taped m_at m_token m_place m_value m_word n_m_bad_19 n_m_badPlace_19 m_fault m_faultPlace m_willing m_will m_forgot m_isDrawn m_x m_begin m_round m_roundCards m_fate m_any m_bothSend m_meanCards m_bestSum m_fitMany m_fitFirst m_fitSecond))] := hD
    dsimp only at hw19
    have hw19_0 := hw19
    have hw19_0 : n_m_bad_19.toInt ≠ 0 := hw19_0
    refine lv_iload_n hx hb dX12_number_22 rfl (lv_at hl 1 rfl) ?_
    subst hQ
    have hP9 := hP.sub (ws' := [(m, .inr (11, mG m_a m_thrown m_taped m_at m_token m_place m_value m_word n_m_bad_19 n_m_badPlace_19 m_fault m_faultPlace m_willing m_will m_forgot m_isDrawn m_x m_begin m_round m_roundCards m_fate m_any m_bothSend m_meanCards m_bestSum m_fitMany m_fitFirst m_fitSecond)), ((m_a 5), .inl (cB, 1600, .inl m_tape_c))]) [1, 0] rfl
    have hD9 := hD.sub (ws' := [(m, .inr (11, mG m_a m_thrown m_taped m_at m_token m_place m_value m_word n_m_bad_19 n_m_badPlace_19 m_fault m_faultPlace m_willing m_will m_forgot m_isDrawn m_x m_begin m_round m_roundCards m_fate m_any m_bothSend m_meanCards m_bestSum m_fitMany m_fitFirst m_fitSecond)), ((m_a 5), .inl (cB, 1600, .inl m_tape_c))]) [1, 0] (by decide) rfl
    exact W.iret (v := p0) hx hb hr (fun t ht hW => ⟨⟨p0, (m_at, m_token, m_place, m_value, m_word, n_m_bad_19, n_m_badPlace_19), rfl, ⟨hv_m_at, (by omega), (by omega)⟩, ⟨by rw [ht]; exact hP9, va_K.moved hW.alike hK, hD9⟩⟩, hS.F ht⟩) hS.2.2 dX12_number_23
  have f14 := (show m_token.toInt = 2 from z_eq rfl rfl c14)
  have r14a : ir m_token.toInt 2 2 := ir_eqa f14 (rg_all m_token) (ir_c 2) (by decide) (by decide)
  refine lv_aload_n hx hb dX12_number_24 rfl (lv_at hl 0 rfl) ?_
  refine va_get (D := g) (ci := 11) (v := .int m_value) (C := RX12) (T := TX12) (N := 56) hx hb hts iX12 hown hK hP 0 rfl rfl 10 (by decide) (hts (.fieldLink RX12 141 "CardsAtYuleModel" "value" "I") (List.mem_cons_of_mem _ (List.mem_append_left _ (List.mem_of_getElem? (i := 2) rfl)))) (fun _ h9 => h9) rfl dX12_number_25 ?_
  refine lv_i2l (v := m_value.toInt64) hx hb dX12_number_28 rfl ?_
  refine lv_iload_n hx hb dX12_number_29 rfl (lv_at hl 1 rfl) ?_
  refine lv_i2l (v := p0.toInt64) hx hb dX12_number_30 rfl ?_
  refine lv_iload_n hx hb dX12_number_31 rfl (lv_at hl 2 rfl) ?_
  refine lv_i2l (v := p1.toInt64) hx hb dX12_number_32 rfl ?_
  refine ro_i (va_runS (As := [.long m_value.toInt64, .long p0.toInt64, .long p1.toInt64]) (rest := []) ⟨hx, hb, hml, hown, hts⟩ (q_X12_in l g cI cJ cB cZ cL m_value.toInt64 m_value.toInt p0.toInt64 p0.toInt p1.toInt64 p1.toInt s.heap.size (z_i2l rfl) (z_i2l rfl) (z_i2l rfl)) (va_cwS 3 hts (goodIn_app (g_3 (List.mem_cons_of_mem _ (List.mem_append_left _ (List.mem_of_getElem? (i := 3) rfl))) (List.mem_cons_of_mem _ (List.mem_append_left _ (List.mem_of_getElem? (i := 4) rfl))) (List.mem_cons_of_mem _ (List.mem_append_left _ (List.mem_of_getElem? (i := 5) rfl))) (by decide +kernel)) (goodIn_sub (fun _ h => List.mem_cons_of_mem _ (List.mem_append_right _ (List.mem_append_left _ h))) good_v_X12_in)) rfl rfl rfl (by decide +kernel) ⟨Nat.le_of_ble_eq_true rfl, Nat.le_of_ble_eq_true rfl⟩) (ps_RO (wc := []) hK hP [] rfl) rfl rfl hl.1 rfl (lv_room (Nat.le_of_ble_eq_true rfl)) dX12_number_33 ⟨Nat.le_of_ble_eq_true rfl, Nat.le_of_ble_eq_true rfl⟩) hS hA hP (fun r33 u33 H locs hw33 hP hS => ?_)
  have hw33_0 := hw33
  rcases hw33_0 with ⟨er33, fc33_0, fc33_1⟩ | er33
  rotate_left 1
  · subst er33
    refine lv_if_ne (tgt := 46) hx hb dX12_number_36 (by decide) (fun c => absurd c (by decide)) (fun _ => ?_)
    refine lv_aload_n hx hb dX12_number_39 rfl (lv_at hl 0 rfl) ?_
    refine lv_iconst (v := 2) hx hb dX12_number_40 (by decide) ?_
    refine rw_v (wr := [((m_a 5), .inl (cB, 1600, .inl m_tape_c))]) (va_runV (As := [.int 2]) (rest := []) ⟨hx, hb, hml, hown, hts⟩ (q_X12_fails l g cI cJ cB cZ cL 2 m m_a m_thrown m_taped m_at m_token m_place m_value m_word m_bad m_badPlace m_fault m_faultPlace m_willing m_will m_forgot m_isDrawn m_x m_begin m_round m_roundCards m_fate m_any m_bothSend m_meanCards m_bestSum m_fitMany m_fitFirst m_fitSecond H.size (by decide) hv_m_taped hv_m_at hv_m_will hv_m_isDrawn) (cwV 1 hts (goodIn_app (g_4 (List.mem_cons_of_mem _ (List.mem_append_left _ (List.mem_of_getElem? (i := 9) rfl))) (List.mem_cons_of_mem _ (List.mem_append_left _ (List.mem_of_getElem? (i := 10) rfl))) (List.mem_cons_of_mem _ (List.mem_append_left _ (List.mem_of_getElem? (i := 11) rfl))) (List.mem_cons_of_mem _ (List.mem_append_left _ (List.mem_of_getElem? (i := 5) rfl))) (by decide +kernel)) (goodIn_sub (fun _ h => List.mem_cons_of_mem _ (List.mem_append_right _ (List.mem_append_right _ (List.mem_append_right _ (List.mem_append_left _ h))))) good_v_X12_fails)) rfl rfl rfl (by decide +kernel) ⟨Nat.le_of_ble_eq_true rfl, Nat.le_of_ble_eq_true rfl⟩) (pv_RW (q := (RX12, TX12, 56)) (ci := 11) (q0 := 0) (wc := [(m, .inr (11, mG m_a m_thrown m_taped m_at m_token m_place m_value m_word m_bad m_badPlace m_fault m_faultPlace m_willing m_will m_forgot m_isDrawn m_x m_begin m_round m_roundCards m_fate m_any m_bothSend m_meanCards m_bestSum m_fitMany m_fitFirst m_fitSecond))]) hK hP hD [0] (by decide) rfl rfl rfl) rfl rfl hl.1 rfl (lv_room (Nat.le_of_ble_eq_true rfl)) dX12_number_41 ⟨Nat.le_of_ble_eq_true rfl, Nat.le_of_ble_eq_true rfl⟩) hS hA hP hD [0] [1] rfl rfl (by decide) (by decide) (fun u41 H locs hw41 hP hD hS => ?_)
    obtain ⟨n_m_bad_41, n_m_badPlace_41⟩ := u41
    have hP : va_P g vwCl [((m_a 5), .inl (cB, 1600, .inl m_tape_c)), (m, .inr (11, mG m_a m_thrown m_taped m_at m_token m_place m_value m_word n_m_bad_41 n_m_badPlace_41 m_fault m_faultPlace m_willing m_will m_forgot m_isDrawn m_x m_begin m_round m_roundCards m_fate m_any m_bothSend m_meanCards m_bestSum m_fitMany m_fitFirst m_fitSecond))] H := hP
    have hD : va_D A [((m_a 5), .inl (cB, 1600, .inl m_tape_c)), (m, .inr (11, mG m_a m_thrown m_taped m_at m_token m_place m_value m_word n_m_bad_41 n_m_badPlace_41 m_fault m_faultPlace m_willing m_will m_forgot m_isDrawn m_x m_begin m_round m_roundCards m_fate m_any m_bothSend m_meanCards m_bestSum m_fitMany m_fitFirst m_fitSecond))] := hD
    dsimp only at hw41
    have hw41_0 := hw41
    have hw41_0 : n_m_bad_41.toInt ≠ 0 := hw41_0
    refine lv_iload_n hx hb dX12_number_44 rfl (lv_at hl 1 rfl) ?_
    subst hQ
    have hP9 := hP.sub (ws' := [(m, .inr (11, mG m_a m_thrown m_taped m_at m_token m_place m_value m_word n_m_bad_41 n_m_badPlace_41 m_fault m_faultPlace m_willing m_will m_forgot m_isDrawn m_x m_begin m_round m_roundCards m_fate m_any m_bothSend m_meanCards m_bestSum m_fitMany m_fitFirst m_fitSecond)), ((m_a 5), .inl (cB, 1600, .inl m_tape_c))]) [1, 0] rfl
    have hD9 := hD.sub (ws' := [(m, .inr (11, mG m_a m_thrown m_taped m_at m_token m_place m_value m_word n_m_bad_41 n_m_badPlace_41 m_fault m_faultPlace m_willing m_will m_forgot m_isDrawn m_x m_begin m_round m_roundCards m_fate m_any m_bothSend m_meanCards m_bestSum m_fitMany m_fitFirst m_fitSecond)), ((m_a 5), .inl (cB, 1600, .inl m_tape_c))]) [1, 0] (by decide) rfl
    exact W.iret (v := p0) hx hb hr (fun t ht hW => ⟨⟨p0, (m_at, m_token, m_place, m_value, m_word, n_m_bad_41, n_m_badPlace_41), rfl, ⟨hv_m_at, (by omega), (by omega)⟩, ⟨by rw [ht]; exact hP9, va_K.moved hW.alike hK, hD9⟩⟩, hS.F ht⟩) hS.2.2 dX12_number_45
  subst er33
  have fc33_0 : p0.toInt ≤ m_value.toInt := fc33_0
  have fc33_1 : m_value.toInt ≤ p1.toInt := fc33_1
  refine lv_if_ne (tgt := 46) hx hb dX12_number_36 (by decide) (fun _ => ?_) (fun c => absurd c (by decide))
  refine lv_aload_n hx hb dX12_number_46 rfl (lv_at hl 0 rfl) ?_
  refine va_get (D := g) (ci := 11) (v := .int m_value) (C := RX12) (T := TX12) (N := 56) hx hb hts iX12 hown hK hP 0 rfl rfl 10 (by decide) (hts (.fieldLink RX12 141 "CardsAtYuleModel" "value" "I") (List.mem_cons_of_mem _ (List.mem_append_left _ (List.mem_of_getElem? (i := 2) rfl)))) (fun _ h9 => h9) rfl dX12_number_47 ?_
  refine lv_istore_n (lv' := [(3, .int m_value), (0, .ref m), (1, .int p0), (2, .int p1)]) hx hb dX12_number_50 rfl hl (by decide) rfl (fun ls hl => ?_)
  refine lv_aload_n hx hb dX12_number_51 rfl (lv_at hl 1 rfl) ?_
  refine rw_v (wr := []) (va_runV (As := []) (rest := []) ⟨hx, hb, hml, hown, hts⟩ (q_X12_next l g cI cJ cB cZ cL m m_a m_thrown m_taped m_at m_token m_place m_value m_word m_bad m_badPlace m_fault m_faultPlace m_willing m_will m_forgot m_isDrawn m_x m_begin m_round m_roundCards m_fate m_any m_bothSend m_meanCards m_bestSum m_fitMany m_fitFirst m_fitSecond m_tape_c H.size hv_m_taped hv_m_at hv_m_will hv_m_isDrawn (by omega)) (cwV 0 hts (goodIn_app (g_4 (List.mem_cons_of_mem _ (List.mem_append_left _ (List.mem_of_getElem? (i := 6) rfl))) (List.mem_cons_of_mem _ (List.mem_append_left _ (List.mem_of_getElem? (i := 7) rfl))) (List.mem_cons_of_mem _ (List.mem_append_left _ (List.mem_of_getElem? (i := 8) rfl))) (List.mem_cons_of_mem _ (List.mem_append_left _ (List.mem_of_getElem? (i := 5) rfl))) (by decide +kernel)) (goodIn_sub (fun _ h => List.mem_cons_of_mem _ (List.mem_append_right _ (List.mem_append_right _ (List.mem_append_left _ h)))) good_v_X12_next)) rfl rfl rfl (by decide +kernel) ⟨Nat.le_of_ble_eq_true rfl, Nat.le_of_ble_eq_true rfl⟩) (pv_RW (q := (RX12, TX12, 56)) (ci := 11) (q0 := 0) (wc := [(m, .inr (11, mG m_a m_thrown m_taped m_at m_token m_place m_value m_word m_bad m_badPlace m_fault m_faultPlace m_willing m_will m_forgot m_isDrawn m_x m_begin m_round m_roundCards m_fate m_any m_bothSend m_meanCards m_bestSum m_fitMany m_fitFirst m_fitSecond)), ((m_a 5), .inl (cB, 1600, .inl m_tape_c))]) hK hP hD [0, 1] (by decide) rfl rfl rfl) rfl rfl hl.1 rfl (lv_room (Nat.le_of_ble_eq_true rfl)) dX12_number_52 ⟨Nat.le_of_ble_eq_true rfl, Nat.le_of_ble_eq_true rfl⟩) hS hA hP hD [0, 1] [] rfl rfl (by decide) (by decide) (fun u52 H locs hw52 hP hD hS => ?_)
  obtain ⟨n_m_at_52, n_m_token_52, n_m_place_52, n_m_value_52, n_m_word_52⟩ := u52
  have hP : va_P g vwCl [(m, .inr (11, mG m_a m_thrown m_taped n_m_at_52 n_m_token_52 n_m_place_52 n_m_value_52 n_m_word_52 m_bad m_badPlace m_fault m_faultPlace m_willing m_will m_forgot m_isDrawn m_x m_begin m_round m_roundCards m_fate m_any m_bothSend m_meanCards m_bestSum m_fitMany m_fitFirst m_fitSecond)), ((m_a 5), .inl (cB, 1600, .inl m_tape_c))] H := hP
  have hD : va_D A [(m, .inr (11, mG m_a m_thrown m_taped n_m_at_52 n_m_token_52 n_m_place_52 n_m_value_52 n_m_word_52 m_bad m_badPlace m_fault m_faultPlace m_willing m_will m_forgot m_isDrawn m_x m_begin m_round m_roundCards m_fate m_any m_bothSend m_meanCards m_bestSum m_fitMany m_fitFirst m_fitSecond)), ((m_a 5), .inl (cB, 1600, .inl m_tape_c))] := hD
  dsimp only at hw52
  obtain ⟨hw52_0, hw52_1, hw52_2, hw52_3⟩ := hw52
  have hw52_3 : (m_at.toInt ≤ n_m_at_52.toInt ∧ n_m_at_52.toInt ≤ m_taped.toInt ∧ 0 ≤ n_m_token_52.toInt ∧ n_m_token_52.toInt ≤ 4 ∧ (m_at.toInt < n_m_at_52.toInt ∨ (n_m_token_52.toInt = 0 ∧ n_m_at_52.toInt = m_taped.toInt))) := hw52_3
  refine lv_iload_n hx hb dX12_number_55 rfl (lv_at hl 0 rfl) ?_
  subst hQ
  have hP9 := hP.sub (ws' := [(m, .inr (11, mG m_a m_thrown m_taped n_m_at_52 n_m_token_52 n_m_place_52 n_m_value_52 n_m_word_52 m_bad m_badPlace m_fault m_faultPlace m_willing m_will m_forgot m_isDrawn m_x m_begin m_round m_roundCards m_fate m_any m_bothSend m_meanCards m_bestSum m_fitMany m_fitFirst m_fitSecond)), ((m_a 5), .inl (cB, 1600, .inl m_tape_c))]) [0, 1] rfl
  have hD9 := hD.sub (ws' := [(m, .inr (11, mG m_a m_thrown m_taped n_m_at_52 n_m_token_52 n_m_place_52 n_m_value_52 n_m_word_52 m_bad m_badPlace m_fault m_faultPlace m_willing m_will m_forgot m_isDrawn m_x m_begin m_round m_roundCards m_fate m_any m_bothSend m_meanCards m_bestSum m_fitMany m_fitFirst m_fitSecond)), ((m_a 5), .inl (cB, 1600, .inl m_tape_c))]) [0, 1] (by decide) rfl
  exact W.iret (v := m_value) hx hb hr (fun t ht hW => ⟨⟨m_value, (n_m_at_52, n_m_token_52, n_m_place_52, n_m_value_52, n_m_word_52, m_bad, m_badPlace), rfl, ⟨hw52_0, (by omega), (by omega)⟩, ⟨by rw [ht]; exact hP9, va_K.moved hW.alike hK, hD9⟩⟩, hS.F ht⟩) hS.2.2 dX12_number_56
def v_X12_number_ : List Cond := .code yX12_number_ cX12_number_ 5 (some .int) :: (([.methodLink RX12 178 yX12_asks, .instanceMethod yX12_asks, .selects RX12 yX12_asks yX12_asks, .initialized RX12, .methodLink RX12 182 yX12_number, .instanceMethod yX12_number, .selects RX12 yX12_number yX12_number] : List Cond) ++ (v_X12_asks ++ (v_X12_number ++ ([] : List Cond))))
theorem good_v_X12_number_ : v_X12_number_.all goodWord = true := ga_c (by decide +kernel) (ga_a (by decide +kernel) (ga_a good_v_X12_asks (ga_a good_v_X12_number rfl)))
set_option maxHeartbeats 4000000 in
set_option maxRecDepth 100000 in
theorem q_X12_number_ (l : Launch) (g : va_G) (cI cJ cB cZ cL : ClassId) (p0 : Int64) (p1 : Int32) (p2 : Int32) (m : Nat) (m_a : Nat → Nat) (m_thrown : Int32) (m_taped : Int32) (m_at : Int32) (m_token : Int32) (m_place : Int32) (m_value : Int32) (m_word : Int64) (m_bad : Int32) (m_badPlace : Int32) (m_fault : Int32) (m_faultPlace : Int32) (m_willing : Int32) (m_will : Int32) (m_forgot : Int32) (m_isDrawn : Int32) (m_x : Int64) (m_begin : Int32) (m_round : Int32) (m_roundCards : Int32) (m_fate : Int32) (m_any : Int64) (m_bothSend : Int64) (m_meanCards : Int64) (m_bestSum : Int32) (m_fitMany : Int32) (m_fitFirst : Int64) (m_fitSecond : Int64) (m_tape_c : Nat → Int32) (sz : Nat) (hv_m_taped : ir m_taped.toInt 0 1600) (hv_m_at : ir m_at.toInt 0 1600) (hv_m_will : ir m_will.toInt 0 1) (hv_m_isDrawn : ir m_isDrawn.toInt 0 1) (hx_0 : m_at.toInt ≤ m_taped.toInt) : Met l yX12_number_ v_X12_number_ ({ frames := 4, cells := 0, slots := 0, locals := 88 }) (va_Pc [.ref m, .long p0, .int p1, .int p2] (pRW g (tyT cI cJ cB cZ cL) [(m, .inr (11, mG m_a m_thrown m_taped m_at m_token m_place m_value m_word m_bad m_badPlace m_fault m_faultPlace m_willing m_will m_forgot m_isDrawn m_x m_begin m_round m_roundCards m_fate m_any m_bothSend m_meanCards m_bestSum m_fitMany m_fitFirst m_fitSecond)), ((m_a 5), .inl (cB, 1600, .inl m_tape_c))] sz)) (va_Qi (fun (r : Int32) (u : Int32 × Int32 × Int32 × Int32 × Int64 × Int32 × Int32) => match u with | (n_m_at, n_m_token, n_m_place, n_m_value, n_m_word, n_m_bad, n_m_badPlace) => (ir n_m_at.toInt 0 1600) ∧ ((n_m_at.toInt = m_at.toInt ∧ n_m_token.toInt = m_token.toInt) ∨ (m_at.toInt ≤ n_m_at.toInt ∧ n_m_at.toInt ≤ m_taped.toInt ∧ 0 ≤ n_m_token.toInt ∧ n_m_token.toInt ≤ 4 ∧ (m_at.toInt < n_m_at.toInt ∨ (n_m_token.toInt = 0 ∧ n_m_at.toInt = m_taped.toInt)))) ∧ (r.toInt = p1.toInt ∨ (p1.toInt ≤ r.toInt ∧ r.toInt ≤ p2.toInt))) (fun (u : Int32 × Int32 × Int32 × Int32 × Int64 × Int32 × Int32) (t : State) => bRW g (tyT cI cJ cB cZ cL) (va_A [(m, .inr (11, mG m_a m_thrown m_taped m_at m_token m_place m_value m_word m_bad m_badPlace m_fault m_faultPlace m_willing m_will m_forgot m_isDrawn m_x m_begin m_round m_roundCards m_fate m_any m_bothSend m_meanCards m_bestSum m_fitMany m_fitFirst m_fitSecond)), ((m_a 5), .inl (cB, 1600, .inl m_tape_c))] sz) (match u with | (n_m_at, n_m_token, n_m_place, n_m_value, n_m_word, n_m_bad, n_m_badPlace) => [(m, .inr (11, mG m_a m_thrown m_taped n_m_at n_m_token n_m_place n_m_value n_m_word n_m_bad n_m_badPlace m_fault m_faultPlace m_willing m_will m_forgot m_isDrawn m_x m_begin m_round m_roundCards m_fate m_any m_bothSend m_meanCards m_bestSum m_fitMany m_fitFirst m_fitSecond)), ((m_a 5), .inl (cB, 1600, .inl m_tape_c))]) t) (va_A [(m, .inr (11, mG m_a m_thrown m_taped m_at m_token m_place m_value m_word m_bad m_badPlace m_fault m_faultPlace m_willing m_will m_forgot m_isDrawn m_x m_begin m_round m_roundCards m_fate m_any m_bothSend m_meanCards m_bestSum m_fitMany m_fitFirst m_fitSecond)), ((m_a 5), .inl (cB, 1600, .inl m_tape_c))] sz)) 0 0 (va_A [(m, .inr (11, mG m_a m_thrown m_taped m_at m_token m_place m_value m_word m_bad m_badPlace m_fault m_faultPlace m_willing m_will m_forgot m_isDrawn m_x m_begin m_round m_roundCards m_fate m_any m_bothSend m_meanCards m_bestSum m_fitMany m_fitFirst m_fitSecond)), ((m_a 5), .inl (cB, 1600, .inl m_tape_c))] sz) := by
  refine Met.ofW (cc := cX12_number_) (maxL := 5) (ret := (some .int)) (by decide) rfl ?_
  intro p e s mth args below meth c s₁ B hml hv
  obtain ⟨rfl, hsz, hP, hK, hD0⟩ := hv
  have hx := B.exec
  have hb := B.bytes
  have hr := B.returns
  have hts := atoms_spec (ws := v_X12_number_) B.pre
  have hown : s.vm.findClass RX12 = some mth.cls := findClass_of_methodNamed B.named
  have hlocks := B.notSynchronized
  clear B
  subst hsz
  have hD := hD0.self (sz := s.heap.size)
  generalize hAe : (va_A [(m, .inr (11, mG m_a m_thrown m_taped m_at m_token m_place m_value m_word m_bad m_badPlace m_fault m_faultPlace m_willing m_will m_forgot m_isDrawn m_x m_begin m_round m_roundCards m_fate m_any m_bothSend m_meanCards m_bestSum m_fitMany m_fitFirst m_fitSecond)), ((m_a 5), .inl (cB, 1600, .inl m_tape_c))] s.heap.size) = A at hD ⊢
  have hA : ∀ q : Nat, s.heap.size ≤ q → A q := fun q h => by rw [← hAe]; exact Or.inr h
  have hS : va_S A s.heap s.heap [] := va_S.rf
  have hl := lv_entry ([.ref m, .long p0, .int p1, .int p2]) (n := 5) (Nat.le_of_ble_eq_true rfl)
  rw [lg_entry_eq]
  generalize (lg_sl ([.ref m, .long p0, .int p1, .int p2]) ++ List.replicate (5 - (lg_sl ([.ref m, .long p0, .int p1, .int p2])).length) Slot.unset).toArray = ls at hl ⊢
  generalize ([.ref m, .long p0, .int p1, .int p2] : List Value).toArray = av at hts ⊢
  generalize hQ : MQ below _ av s _ _ A = QQ
  have hl : lv_has ls 5 [(0, .ref m), (1, .long p0), (3, .int p1), (4, .int p2)] := hl
  have hP : va_P g vwCl [(m, .inr (11, mG m_a m_thrown m_taped m_at m_token m_place m_value m_word m_bad m_badPlace m_fault m_faultPlace m_willing m_will m_forgot m_isDrawn m_x m_begin m_round m_roundCards m_fate m_any m_bothSend m_meanCards m_bestSum m_fitMany m_fitFirst m_fitSecond)), ((m_a 5), .inl (cB, 1600, .inl m_tape_c))] s.heap := hP
  refine lv_aload_n hx hb dX12_number__0 rfl (lv_at hl 0 rfl) ?_
  refine lv_lload_n hx hb dX12_number__1 rfl (lv_at hl 1 rfl) ?_
  refine rw_v (wr := []) (va_runV (As := [.long p0]) (rest := []) ⟨hx, hb, hml, hown, hts⟩ (q_X12_asks l g cI cJ cB cZ cL p0 m m_a m_thrown m_taped m_at m_token m_place m_value m_word m_bad m_badPlace m_fault m_faultPlace m_willing m_will m_forgot m_isDrawn m_x m_begin m_round m_roundCards m_fate m_any m_bothSend m_meanCards m_bestSum m_fitMany m_fitFirst m_fitSecond m_tape_c s.heap.size hv_m_taped hv_m_at hv_m_will hv_m_isDrawn (by omega)) (cwV 1 hts (goodIn_app (g_4 (List.mem_cons_of_mem _ (List.mem_append_left _ (List.mem_of_getElem? (i := 0) rfl))) (List.mem_cons_of_mem _ (List.mem_append_left _ (List.mem_of_getElem? (i := 1) rfl))) (List.mem_cons_of_mem _ (List.mem_append_left _ (List.mem_of_getElem? (i := 2) rfl))) (List.mem_cons_of_mem _ (List.mem_append_left _ (List.mem_of_getElem? (i := 3) rfl))) (by decide +kernel)) (goodIn_sub (fun _ h => List.mem_cons_of_mem _ (List.mem_append_right _ (List.mem_append_left _ h))) good_v_X12_asks)) rfl rfl rfl (by decide +kernel) ⟨Nat.le_of_ble_eq_true rfl, Nat.le_of_ble_eq_true rfl⟩) (pv_RW (q := (RX12, TX12, 56)) (ci := 11) (q0 := 0) (wc := [(m, .inr (11, mG m_a m_thrown m_taped m_at m_token m_place m_value m_word m_bad m_badPlace m_fault m_faultPlace m_willing m_will m_forgot m_isDrawn m_x m_begin m_round m_roundCards m_fate m_any m_bothSend m_meanCards m_bestSum m_fitMany m_fitFirst m_fitSecond)), ((m_a 5), .inl (cB, 1600, .inl m_tape_c))]) hK hP hD [0, 1] (by decide) rfl rfl rfl) rfl rfl hl.1 rfl (lv_room (Nat.le_of_ble_eq_true rfl)) dX12_number__2 ⟨Nat.le_of_ble_eq_true rfl, Nat.le_of_ble_eq_true rfl⟩) hS hA hP hD [0, 1] [] rfl rfl (by decide) (by decide) (fun u2 H locs hw2 hP hD hS => ?_)
  obtain ⟨n_m_at_2, n_m_token_2, n_m_place_2, n_m_value_2, n_m_word_2, n_m_bad_2, n_m_badPlace_2⟩ := u2
  have hP : va_P g vwCl [(m, .inr (11, mG m_a m_thrown m_taped n_m_at_2 n_m_token_2 n_m_place_2 n_m_value_2 n_m_word_2 n_m_bad_2 n_m_badPlace_2 m_fault m_faultPlace m_willing m_will m_forgot m_isDrawn m_x m_begin m_round m_roundCards m_fate m_any m_bothSend m_meanCards m_bestSum m_fitMany m_fitFirst m_fitSecond)), ((m_a 5), .inl (cB, 1600, .inl m_tape_c))] H := hP
  have hD : va_D A [(m, .inr (11, mG m_a m_thrown m_taped n_m_at_2 n_m_token_2 n_m_place_2 n_m_value_2 n_m_word_2 n_m_bad_2 n_m_badPlace_2 m_fault m_faultPlace m_willing m_will m_forgot m_isDrawn m_x m_begin m_round m_roundCards m_fate m_any m_bothSend m_meanCards m_bestSum m_fitMany m_fitFirst m_fitSecond)), ((m_a 5), .inl (cB, 1600, .inl m_tape_c))] := hD
  dsimp only at hw2
  obtain ⟨hw2_0, hw2_1⟩ := hw2
  have hw2_1 : (n_m_at_2.toInt = m_at.toInt ∧ n_m_token_2.toInt = m_token.toInt) ∨ (m_at.toInt ≤ n_m_at_2.toInt ∧ n_m_at_2.toInt ≤ m_taped.toInt ∧ 0 ≤ n_m_token_2.toInt ∧ n_m_token_2.toInt ≤ 4 ∧ (m_at.toInt < n_m_at_2.toInt ∨ (n_m_token_2.toInt = 0 ∧ n_m_at_2.toInt = m_taped.toInt))) := hw2_1
  refine lv_aload_n hx hb dX12_number__5 rfl (lv_at hl 0 rfl) ?_
  refine lv_iload_n hx hb dX12_number__6 rfl (lv_at hl 2 rfl) ?_
  refine lv_iload hx hb dX12_number__7 (lv_at hl 3 rfl) ?_
  refine rw_i (wr := []) (va_runV (As := [.int p1, .int p2]) (rest := []) ⟨hx, hb, hml, hown, hts⟩ (q_X12_number l g cI cJ cB cZ cL p1 p2 m m_a m_thrown m_taped n_m_at_2 n_m_token_2 n_m_place_2 n_m_value_2 n_m_word_2 n_m_bad_2 n_m_badPlace_2 m_fault m_faultPlace m_willing m_will m_forgot m_isDrawn m_x m_begin m_round m_roundCards m_fate m_any m_bothSend m_meanCards m_bestSum m_fitMany m_fitFirst m_fitSecond m_tape_c H.size hv_m_taped hw2_0 hv_m_will hv_m_isDrawn (by omega)) (cwV 2 hts (goodIn_app (g_4 (List.mem_cons_of_mem _ (List.mem_append_left _ (List.mem_of_getElem? (i := 4) rfl))) (List.mem_cons_of_mem _ (List.mem_append_left _ (List.mem_of_getElem? (i := 5) rfl))) (List.mem_cons_of_mem _ (List.mem_append_left _ (List.mem_of_getElem? (i := 6) rfl))) (List.mem_cons_of_mem _ (List.mem_append_left _ (List.mem_of_getElem? (i := 3) rfl))) (by decide +kernel)) (goodIn_sub (fun _ h => List.mem_cons_of_mem _ (List.mem_append_right _ (List.mem_append_right _ (List.mem_append_left _ h)))) good_v_X12_number)) rfl rfl rfl (by decide +kernel) ⟨Nat.le_of_ble_eq_true rfl, Nat.le_of_ble_eq_true rfl⟩) (pv_RW (q := (RX12, TX12, 56)) (ci := 11) (q0 := 0) (wc := [(m, .inr (11, mG m_a m_thrown m_taped n_m_at_2 n_m_token_2 n_m_place_2 n_m_value_2 n_m_word_2 n_m_bad_2 n_m_badPlace_2 m_fault m_faultPlace m_willing m_will m_forgot m_isDrawn m_x m_begin m_round m_roundCards m_fate m_any m_bothSend m_meanCards m_bestSum m_fitMany m_fitFirst m_fitSecond)), ((m_a 5), .inl (cB, 1600, .inl m_tape_c))]) hK hP hD [0, 1] (by decide) rfl rfl rfl) rfl rfl hl.1 rfl (lv_room (Nat.le_of_ble_eq_true rfl)) dX12_number__9 ⟨Nat.le_of_ble_eq_true rfl, Nat.le_of_ble_eq_true rfl⟩) hS hA hP hD [0, 1] [] rfl rfl (by decide) (by decide) (fun r9 u9 H locs hw9 hP hD hS => ?_)
  obtain ⟨n_m_at_9, n_m_token_9, n_m_place_9, n_m_value_9, n_m_word_9, n_m_bad_9, n_m_badPlace_9⟩ := u9
  have hP : va_P g vwCl [(m, .inr (11, mG m_a m_thrown m_taped n_m_at_9 n_m_token_9 n_m_place_9 n_m_value_9 n_m_word_9 n_m_bad_9 n_m_badPlace_9 m_fault m_faultPlace m_willing m_will m_forgot m_isDrawn m_x m_begin m_round m_roundCards m_fate m_any m_bothSend m_meanCards m_bestSum m_fitMany m_fitFirst m_fitSecond)), ((m_a 5), .inl (cB, 1600, .inl m_tape_c))] H := hP
  have hD : va_D A [(m, .inr (11, mG m_a m_thrown m_taped n_m_at_9 n_m_token_9 n_m_place_9 n_m_value_9 n_m_word_9 n_m_bad_9 n_m_badPlace_9 m_fault m_faultPlace m_willing m_will m_forgot m_isDrawn m_x m_begin m_round m_roundCards m_fate m_any m_bothSend m_meanCards m_bestSum m_fitMany m_fitFirst m_fitSecond)), ((m_a 5), .inl (cB, 1600, .inl m_tape_c))] := hD
  dsimp only at hw9
  obtain ⟨hw9_0, hw9_1, hw9_2⟩ := hw9
  have hw9_1 : (n_m_at_9.toInt = n_m_at_2.toInt ∧ n_m_token_9.toInt = n_m_token_2.toInt) ∨ (n_m_at_2.toInt ≤ n_m_at_9.toInt ∧ n_m_at_9.toInt ≤ m_taped.toInt ∧ 0 ≤ n_m_token_9.toInt ∧ n_m_token_9.toInt ≤ 4 ∧ (n_m_at_2.toInt < n_m_at_9.toInt ∨ (n_m_token_9.toInt = 0 ∧ n_m_at_9.toInt = m_taped.toInt))) := hw9_1
  have hw9_2 : r9.toInt = p1.toInt ∨ (p1.toInt ≤ r9.toInt ∧ r9.toInt ≤ p2.toInt) := hw9_2
  subst hQ
  have hP9 := hP.sub (ws' := [(m, .inr (11, mG m_a m_thrown m_taped n_m_at_9 n_m_token_9 n_m_place_9 n_m_value_9 n_m_word_9 n_m_bad_9 n_m_badPlace_9 m_fault m_faultPlace m_willing m_will m_forgot m_isDrawn m_x m_begin m_round m_roundCards m_fate m_any m_bothSend m_meanCards m_bestSum m_fitMany m_fitFirst m_fitSecond)), ((m_a 5), .inl (cB, 1600, .inl m_tape_c))]) [0, 1] rfl
  have hD9 := hD.sub (ws' := [(m, .inr (11, mG m_a m_thrown m_taped n_m_at_9 n_m_token_9 n_m_place_9 n_m_value_9 n_m_word_9 n_m_bad_9 n_m_badPlace_9 m_fault m_faultPlace m_willing m_will m_forgot m_isDrawn m_x m_begin m_round m_roundCards m_fate m_any m_bothSend m_meanCards m_bestSum m_fitMany m_fitFirst m_fitSecond)), ((m_a 5), .inl (cB, 1600, .inl m_tape_c))]) [0, 1] (by decide) rfl
  exact W.iret (v := r9) hx hb hr (fun t ht hW => ⟨⟨r9, (n_m_at_9, n_m_token_9, n_m_place_9, n_m_value_9, n_m_word_9, n_m_bad_9, n_m_badPlace_9), rfl, ⟨hw9_0, (by omega), (by omega)⟩, ⟨by rw [ht]; exact hP9, va_K.moved hW.alike hK, hD9⟩⟩, hS.F ht⟩) hS.2.2 dX12_number__12
def v_X12_ends : List Cond := .code yX12_ends cX12_ends 1 none :: (([.fieldLink RX12 148 "CardsAtYuleModel" "token" "I", .fieldLink RX12 159 "CardsAtYuleModel" "bad" "I", .methodLink RX12 169 yX12_next, .instanceMethod yX12_next, .selects RX12 yX12_next yX12_next, .initialized RX12, .methodLink RX12 175 yX12_fails, .instanceMethod yX12_fails, .selects RX12 yX12_fails yX12_fails] : List Cond) ++ (v_X12_next ++ (v_X12_fails ++ (wsX120 ++ ([] : List Cond)))))
theorem good_v_X12_ends : v_X12_ends.all goodWord = true := ga_c (by decide +kernel) (ga_a (by decide +kernel) (ga_a good_v_X12_next (ga_a good_v_X12_fails (ga_a good_wsX120 rfl))))
set_option maxHeartbeats 4000000 in
set_option maxRecDepth 100000 in
theorem q_X12_ends (l : Launch) (g : va_G) (cI cJ cB cZ cL : ClassId) (m : Nat) (m_a : Nat → Nat) (m_thrown : Int32) (m_taped : Int32) (m_at : Int32) (m_token : Int32) (m_place : Int32) (m_value : Int32) (m_word : Int64) (m_bad : Int32) (m_badPlace : Int32) (m_fault : Int32) (m_faultPlace : Int32) (m_willing : Int32) (m_will : Int32) (m_forgot : Int32) (m_isDrawn : Int32) (m_x : Int64) (m_begin : Int32) (m_round : Int32) (m_roundCards : Int32) (m_fate : Int32) (m_any : Int64) (m_bothSend : Int64) (m_meanCards : Int64) (m_bestSum : Int32) (m_fitMany : Int32) (m_fitFirst : Int64) (m_fitSecond : Int64) (m_tape_c : Nat → Int32) (sz : Nat) (hv_m_taped : ir m_taped.toInt 0 1600) (hv_m_at : ir m_at.toInt 0 1600) (hv_m_will : ir m_will.toInt 0 1) (hv_m_isDrawn : ir m_isDrawn.toInt 0 1) (hx_0 : m_at.toInt ≤ m_taped.toInt) : Met l yX12_ends v_X12_ends ({ frames := 2, cells := 0, slots := 0, locals := 44 }) (va_Pc [.ref m] (pRW g (tyT cI cJ cB cZ cL) [(m, .inr (11, mG m_a m_thrown m_taped m_at m_token m_place m_value m_word m_bad m_badPlace m_fault m_faultPlace m_willing m_will m_forgot m_isDrawn m_x m_begin m_round m_roundCards m_fate m_any m_bothSend m_meanCards m_bestSum m_fitMany m_fitFirst m_fitSecond)), ((m_a 5), .inl (cB, 1600, .inl m_tape_c))] sz)) (va_Qv (fun (u : Int32 × Int32 × Int32 × Int32 × Int64 × Int32 × Int32) => match u with | (n_m_at, n_m_token, n_m_place, n_m_value, n_m_word, n_m_bad, n_m_badPlace) => (ir n_m_at.toInt 0 1600) ∧ (n_m_bad.toInt ≠ 0 ∨ (m_at.toInt ≤ n_m_at.toInt ∧ n_m_at.toInt ≤ m_taped.toInt ∧ 0 ≤ n_m_token.toInt ∧ n_m_token.toInt ≤ 4 ∧ (m_at.toInt < n_m_at.toInt ∨ (n_m_token.toInt = 0 ∧ n_m_at.toInt = m_taped.toInt)))) ∧ (n_m_at.toInt ≤ m_taped.toInt)) (fun (u : Int32 × Int32 × Int32 × Int32 × Int64 × Int32 × Int32) (t : State) => bRW g (tyT cI cJ cB cZ cL) (va_A [(m, .inr (11, mG m_a m_thrown m_taped m_at m_token m_place m_value m_word m_bad m_badPlace m_fault m_faultPlace m_willing m_will m_forgot m_isDrawn m_x m_begin m_round m_roundCards m_fate m_any m_bothSend m_meanCards m_bestSum m_fitMany m_fitFirst m_fitSecond)), ((m_a 5), .inl (cB, 1600, .inl m_tape_c))] sz) (match u with | (n_m_at, n_m_token, n_m_place, n_m_value, n_m_word, n_m_bad, n_m_badPlace) => [(m, .inr (11, mG m_a m_thrown m_taped n_m_at n_m_token n_m_place n_m_value n_m_word n_m_bad n_m_badPlace m_fault m_faultPlace m_willing m_will m_forgot m_isDrawn m_x m_begin m_round m_roundCards m_fate m_any m_bothSend m_meanCards m_bestSum m_fitMany m_fitFirst m_fitSecond)), ((m_a 5), .inl (cB, 1600, .inl m_tape_c))]) t) (va_A [(m, .inr (11, mG m_a m_thrown m_taped m_at m_token m_place m_value m_word m_bad m_badPlace m_fault m_faultPlace m_willing m_will m_forgot m_isDrawn m_x m_begin m_round m_roundCards m_fate m_any m_bothSend m_meanCards m_bestSum m_fitMany m_fitFirst m_fitSecond)), ((m_a 5), .inl (cB, 1600, .inl m_tape_c))] sz)) 0 0 (va_A [(m, .inr (11, mG m_a m_thrown m_taped m_at m_token m_place m_value m_word m_bad m_badPlace m_fault m_faultPlace m_willing m_will m_forgot m_isDrawn m_x m_begin m_round m_roundCards m_fate m_any m_bothSend m_meanCards m_bestSum m_fitMany m_fitFirst m_fitSecond)), ((m_a 5), .inl (cB, 1600, .inl m_tape_c))] sz) := by
  refine Met.ofW (cc := cX12_ends) (maxL := 1) (ret := none) (by decide) rfl ?_
  intro p e s mth args below meth c s₁ B hml hv
  obtain ⟨rfl, hsz, hP, hK, hD0⟩ := hv
  have hx := B.exec
  have hb := B.bytes
  have hr := B.returns
  have hts := atoms_spec (ws := v_X12_ends) B.pre
  have hown : s.vm.findClass RX12 = some mth.cls := findClass_of_methodNamed B.named
  have hlocks := B.notSynchronized
  clear B
  subst hsz
  have iX12 : ∀ w ∈ wsX120, w ∈ v_X12_ends := (fun _ h => List.mem_cons_of_mem _ (List.mem_append_right _ (List.mem_append_right _ (List.mem_append_right _ (List.mem_append_left _ h)))))
  have hD := hD0.self (sz := s.heap.size)
  generalize hAe : (va_A [(m, .inr (11, mG m_a m_thrown m_taped m_at m_token m_place m_value m_word m_bad m_badPlace m_fault m_faultPlace m_willing m_will m_forgot m_isDrawn m_x m_begin m_round m_roundCards m_fate m_any m_bothSend m_meanCards m_bestSum m_fitMany m_fitFirst m_fitSecond)), ((m_a 5), .inl (cB, 1600, .inl m_tape_c))] s.heap.size) = A at hD ⊢
  have hA : ∀ q : Nat, s.heap.size ≤ q → A q := fun q h => by rw [← hAe]; exact Or.inr h
  have hS : va_S A s.heap s.heap [] := va_S.rf
  have hl := lv_entry ([.ref m]) (n := 1) (Nat.le_of_ble_eq_true rfl)
  rw [lg_entry_eq]
  generalize (lg_sl ([.ref m]) ++ List.replicate (1 - (lg_sl ([.ref m])).length) Slot.unset).toArray = ls at hl ⊢
  generalize ([.ref m] : List Value).toArray = av at hts ⊢
  generalize hQ : MQ below _ av s _ _ A = QQ
  have hl : lv_has ls 1 [(0, .ref m)] := hl
  have hP : va_P g vwCl [(m, .inr (11, mG m_a m_thrown m_taped m_at m_token m_place m_value m_word m_bad m_badPlace m_fault m_faultPlace m_willing m_will m_forgot m_isDrawn m_x m_begin m_round m_roundCards m_fate m_any m_bothSend m_meanCards m_bestSum m_fitMany m_fitFirst m_fitSecond)), ((m_a 5), .inl (cB, 1600, .inl m_tape_c))] s.heap := hP
  refine lv_aload_n hx hb dX12_ends_0 rfl (lv_at hl 0 rfl) ?_
  refine va_get (D := g) (ci := 11) (v := .int m_token) (C := RX12) (T := TX12) (N := 56) hx hb hts iX12 hown hK hP 0 rfl rfl 8 (by decide) (hts (.fieldLink RX12 148 "CardsAtYuleModel" "token" "I") (List.mem_cons_of_mem _ (List.mem_append_left _ (List.mem_of_getElem? (i := 0) rfl)))) (fun _ h9 => h9) rfl dX12_ends_1 ?_
  refine lv_iconst (v := 3) hx hb dX12_ends_4 (by decide) ?_
  refine lv_icmp_eq (tgt := 13) hx hb dX12_ends_5 (by decide) (fun c5 => ?_) (fun c5 => ?_)
  rotate_left 1
  · have f5 := (show m_token.toInt ≠ 3 from z_ne rfl rfl c5)
    refine lv_aload_n hx hb dX12_ends_8 rfl (lv_at hl 0 rfl) ?_
    refine lv_iconst (v := 1) hx hb dX12_ends_9 (by decide) ?_
    refine rw_v (wr := [((m_a 5), .inl (cB, 1600, .inl m_tape_c))]) (va_runV (As := [.int 1]) (rest := []) ⟨hx, hb, hml, hown, hts⟩ (q_X12_fails l g cI cJ cB cZ cL 1 m m_a m_thrown m_taped m_at m_token m_place m_value m_word m_bad m_badPlace m_fault m_faultPlace m_willing m_will m_forgot m_isDrawn m_x m_begin m_round m_roundCards m_fate m_any m_bothSend m_meanCards m_bestSum m_fitMany m_fitFirst m_fitSecond s.heap.size (by decide) hv_m_taped hv_m_at hv_m_will hv_m_isDrawn) (cwV 1 hts (goodIn_app (g_4 (List.mem_cons_of_mem _ (List.mem_append_left _ (List.mem_of_getElem? (i := 6) rfl))) (List.mem_cons_of_mem _ (List.mem_append_left _ (List.mem_of_getElem? (i := 7) rfl))) (List.mem_cons_of_mem _ (List.mem_append_left _ (List.mem_of_getElem? (i := 8) rfl))) (List.mem_cons_of_mem _ (List.mem_append_left _ (List.mem_of_getElem? (i := 5) rfl))) (by decide +kernel)) (goodIn_sub (fun _ h => List.mem_cons_of_mem _ (List.mem_append_right _ (List.mem_append_right _ (List.mem_append_left _ h)))) good_v_X12_fails)) rfl rfl rfl (by decide +kernel) ⟨Nat.le_of_ble_eq_true rfl, Nat.le_of_ble_eq_true rfl⟩) (pv_RW (q := (RX12, TX12, 56)) (ci := 11) (q0 := 0) (wc := [(m, .inr (11, mG m_a m_thrown m_taped m_at m_token m_place m_value m_word m_bad m_badPlace m_fault m_faultPlace m_willing m_will m_forgot m_isDrawn m_x m_begin m_round m_roundCards m_fate m_any m_bothSend m_meanCards m_bestSum m_fitMany m_fitFirst m_fitSecond))]) hK hP hD [0] (by decide) rfl rfl rfl) rfl rfl hl.1 rfl (lv_room (Nat.le_of_ble_eq_true rfl)) dX12_ends_10 ⟨Nat.le_of_ble_eq_true rfl, Nat.le_of_ble_eq_true rfl⟩) hS hA hP hD [0] [1] rfl rfl (by decide) (by decide) (fun u10 H locs hw10 hP hD hS => ?_)
    obtain ⟨n_m_bad_10, n_m_badPlace_10⟩ := u10
    have hP : va_P g vwCl [((m_a 5), .inl (cB, 1600, .inl m_tape_c)), (m, .inr (11, mG m_a m_thrown m_taped m_at m_token m_place m_value m_word n_m_bad_10 n_m_badPlace_10 m_fault m_faultPlace m_willing m_will m_forgot m_isDrawn m_x m_begin m_round m_roundCards m_fate m_any m_bothSend m_meanCards m_bestSum m_fitMany m_fitFirst m_fitSecond))] H := hP
    have hD : va_D A [((m_a 5), .inl (cB, 1600, .inl m_tape_c)), (m, .inr (11, mG m_a m_thrown m_taped m_at m_token m_place m_value m_word n_m_bad_10 n_m_badPlace_10 m_fault m_faultPlace m_willing m_will m_forgot m_isDrawn m_x m_begin m_round m_roundCards m_fate m_any m_bothSend m_meanCards m_bestSum m_fitMany m_fitFirst m_fitSecond))] := hD
    dsimp only at hw10
    have hw10_0 := hw10
    have hw10_0 : n_m_bad_10.toInt ≠ 0 := hw10_0
    refine lv_aload_n hx hb dX12_ends_13 rfl (lv_at hl 0 rfl) ?_
    refine va_get (D := g) (ci := 11) (v := .int n_m_bad_10) (C := RX12) (T := TX12) (N := 56) hx hb hts iX12 hown hK hP 1 rfl rfl 12 (by decide) (hts (.fieldLink RX12 159 "CardsAtYuleModel" "bad" "I") (List.mem_cons_of_mem _ (List.mem_append_left _ (List.mem_of_getElem? (i := 1) rfl)))) (fun _ h9 => h9) rfl dX12_ends_14 ?_
    refine lv_if_ne (tgt := 24) hx hb dX12_ends_17 (by decide) (fun c17 => ?_) (fun c17 => by exfalso; have f17 := (show n_m_bad_10.toInt = 0 from z_eq rfl rfl c17); have a9 := (rg_all n_m_bad_10); have b9 := (ir_c 0); omega)
    have f17 := (show n_m_bad_10.toInt ≠ 0 from z_ne rfl rfl c17)
    subst hQ
    have hP9 := hP.sub (ws' := [(m, .inr (11, mG m_a m_thrown m_taped m_at m_token m_place m_value m_word n_m_bad_10 n_m_badPlace_10 m_fault m_faultPlace m_willing m_will m_forgot m_isDrawn m_x m_begin m_round m_roundCards m_fate m_any m_bothSend m_meanCards m_bestSum m_fitMany m_fitFirst m_fitSecond)), ((m_a 5), .inl (cB, 1600, .inl m_tape_c))]) [1, 0] rfl
    have hD9 := hD.sub (ws' := [(m, .inr (11, mG m_a m_thrown m_taped m_at m_token m_place m_value m_word n_m_bad_10 n_m_badPlace_10 m_fault m_faultPlace m_willing m_will m_forgot m_isDrawn m_x m_begin m_round m_roundCards m_fate m_any m_bothSend m_meanCards m_bestSum m_fitMany m_fitFirst m_fitSecond)), ((m_a 5), .inl (cB, 1600, .inl m_tape_c))]) [1, 0] (by decide) rfl
    exact W.vret hx hb hr (fun t ht hW => ⟨⟨(m_at, m_token, m_place, m_value, m_word, n_m_bad_10, n_m_badPlace_10), rfl, ⟨hv_m_at, (by omega), (by omega)⟩, ⟨by rw [ht]; exact hP9, va_K.moved hW.alike hK, hD9⟩⟩, hS.F ht⟩) hS.2.2 dX12_ends_24
  have f5 := (show m_token.toInt = 3 from z_eq rfl rfl c5)
  have r5a : ir m_token.toInt 3 3 := ir_eqa f5 (rg_all m_token) (ir_c 3) (by decide) (by decide)
  refine lv_aload_n hx hb dX12_ends_13 rfl (lv_at hl 0 rfl) ?_
  refine va_get (D := g) (ci := 11) (v := .int m_bad) (C := RX12) (T := TX12) (N := 56) hx hb hts iX12 hown hK hP 0 rfl rfl 12 (by decide) (hts (.fieldLink RX12 159 "CardsAtYuleModel" "bad" "I") (List.mem_cons_of_mem _ (List.mem_append_left _ (List.mem_of_getElem? (i := 1) rfl)))) (fun _ h9 => h9) rfl dX12_ends_14 ?_
  refine lv_if_ne (tgt := 24) hx hb dX12_ends_17 (by decide) (fun c17 => ?_) (fun c17 => ?_)
  · have f17 := (show m_bad.toInt ≠ 0 from z_ne rfl rfl c17)
    subst hQ
    have hP9 := hP.sub (ws' := [(m, .inr (11, mG m_a m_thrown m_taped m_at m_token m_place m_value m_word m_bad m_badPlace m_fault m_faultPlace m_willing m_will m_forgot m_isDrawn m_x m_begin m_round m_roundCards m_fate m_any m_bothSend m_meanCards m_bestSum m_fitMany m_fitFirst m_fitSecond)), ((m_a 5), .inl (cB, 1600, .inl m_tape_c))]) [0, 1] rfl
    have hD9 := hD.sub (ws' := [(m, .inr (11, mG m_a m_thrown m_taped m_at m_token m_place m_value m_word m_bad m_badPlace m_fault m_faultPlace m_willing m_will m_forgot m_isDrawn m_x m_begin m_round m_roundCards m_fate m_any m_bothSend m_meanCards m_bestSum m_fitMany m_fitFirst m_fitSecond)), ((m_a 5), .inl (cB, 1600, .inl m_tape_c))]) [0, 1] (by decide) rfl
    exact W.vret hx hb hr (fun t ht hW => ⟨⟨(m_at, m_token, m_place, m_value, m_word, m_bad, m_badPlace), rfl, ⟨hv_m_at, (by omega), (by omega)⟩, ⟨by rw [ht]; exact hP9, va_K.moved hW.alike hK, hD9⟩⟩, hS.F ht⟩) hS.2.2 dX12_ends_24
  have f17 := (show m_bad.toInt = 0 from z_eq rfl rfl c17)
  have r17a : ir m_bad.toInt 0 0 := ir_eqa f17 (rg_all m_bad) (ir_c 0) (by decide) (by decide)
  refine lv_aload_n hx hb dX12_ends_20 rfl (lv_at hl 0 rfl) ?_
  refine rw_v (wr := []) (va_runV (As := []) (rest := []) ⟨hx, hb, hml, hown, hts⟩ (q_X12_next l g cI cJ cB cZ cL m m_a m_thrown m_taped m_at m_token m_place m_value m_word m_bad m_badPlace m_fault m_faultPlace m_willing m_will m_forgot m_isDrawn m_x m_begin m_round m_roundCards m_fate m_any m_bothSend m_meanCards m_bestSum m_fitMany m_fitFirst m_fitSecond m_tape_c s.heap.size hv_m_taped hv_m_at hv_m_will hv_m_isDrawn (by omega)) (cwV 0 hts (goodIn_app (g_4 (List.mem_cons_of_mem _ (List.mem_append_left _ (List.mem_of_getElem? (i := 2) rfl))) (List.mem_cons_of_mem _ (List.mem_append_left _ (List.mem_of_getElem? (i := 3) rfl))) (List.mem_cons_of_mem _ (List.mem_append_left _ (List.mem_of_getElem? (i := 4) rfl))) (List.mem_cons_of_mem _ (List.mem_append_left _ (List.mem_of_getElem? (i := 5) rfl))) (by decide +kernel)) (goodIn_sub (fun _ h => List.mem_cons_of_mem _ (List.mem_append_right _ (List.mem_append_left _ h))) good_v_X12_next)) rfl rfl rfl (by decide +kernel) ⟨Nat.le_of_ble_eq_true rfl, Nat.le_of_ble_eq_true rfl⟩) (pv_RW (q := (RX12, TX12, 56)) (ci := 11) (q0 := 0) (wc := [(m, .inr (11, mG m_a m_thrown m_taped m_at m_token m_place m_value m_word m_bad m_badPlace m_fault m_faultPlace m_willing m_will m_forgot m_isDrawn m_x m_begin m_round m_roundCards m_fate m_any m_bothSend m_meanCards m_bestSum m_fitMany m_fitFirst m_fitSecond)), ((m_a 5), .inl (cB, 1600, .inl m_tape_c))]) hK hP hD [0, 1] (by decide) rfl rfl rfl) rfl rfl hl.1 rfl (lv_room (Nat.le_of_ble_eq_true rfl)) dX12_ends_21 ⟨Nat.le_of_ble_eq_true rfl, Nat.le_of_ble_eq_true rfl⟩) hS hA hP hD [0, 1] [] rfl rfl (by decide) (by decide) (fun u21 H locs hw21 hP hD hS => ?_)
  obtain ⟨n_m_at_21, n_m_token_21, n_m_place_21, n_m_value_21, n_m_word_21⟩ := u21
  have hP : va_P g vwCl [(m, .inr (11, mG m_a m_thrown m_taped n_m_at_21 n_m_token_21 n_m_place_21 n_m_value_21 n_m_word_21 m_bad m_badPlace m_fault m_faultPlace m_willing m_will m_forgot m_isDrawn m_x m_begin m_round m_roundCards m_fate m_any m_bothSend m_meanCards m_bestSum m_fitMany m_fitFirst m_fitSecond)), ((m_a 5), .inl (cB, 1600, .inl m_tape_c))] H := hP
  have hD : va_D A [(m, .inr (11, mG m_a m_thrown m_taped n_m_at_21 n_m_token_21 n_m_place_21 n_m_value_21 n_m_word_21 m_bad m_badPlace m_fault m_faultPlace m_willing m_will m_forgot m_isDrawn m_x m_begin m_round m_roundCards m_fate m_any m_bothSend m_meanCards m_bestSum m_fitMany m_fitFirst m_fitSecond)), ((m_a 5), .inl (cB, 1600, .inl m_tape_c))] := hD
  dsimp only at hw21
  obtain ⟨hw21_0, hw21_1, hw21_2, hw21_3⟩ := hw21
  have hw21_3 : (m_at.toInt ≤ n_m_at_21.toInt ∧ n_m_at_21.toInt ≤ m_taped.toInt ∧ 0 ≤ n_m_token_21.toInt ∧ n_m_token_21.toInt ≤ 4 ∧ (m_at.toInt < n_m_at_21.toInt ∨ (n_m_token_21.toInt = 0 ∧ n_m_at_21.toInt = m_taped.toInt))) := hw21_3
  subst hQ
  have hP9 := hP.sub (ws' := [(m, .inr (11, mG m_a m_thrown m_taped n_m_at_21 n_m_token_21 n_m_place_21 n_m_value_21 n_m_word_21 m_bad m_badPlace m_fault m_faultPlace m_willing m_will m_forgot m_isDrawn m_x m_begin m_round m_roundCards m_fate m_any m_bothSend m_meanCards m_bestSum m_fitMany m_fitFirst m_fitSecond)), ((m_a 5), .inl (cB, 1600, .inl m_tape_c))]) [0, 1] rfl
  have hD9 := hD.sub (ws' := [(m, .inr (11, mG m_a m_thrown m_taped n_m_at_21 n_m_token_21 n_m_place_21 n_m_value_21 n_m_word_21 m_bad m_badPlace m_fault m_faultPlace m_willing m_will m_forgot m_isDrawn m_x m_begin m_round m_roundCards m_fate m_any m_bothSend m_meanCards m_bestSum m_fitMany m_fitFirst m_fitSecond)), ((m_a 5), .inl (cB, 1600, .inl m_tape_c))]) [0, 1] (by decide) rfl
  exact W.vret hx hb hr (fun t ht hW => ⟨⟨(n_m_at_21, n_m_token_21, n_m_place_21, n_m_value_21, n_m_word_21, m_bad, m_badPlace), rfl, ⟨hw21_0, (by omega), (by omega)⟩, ⟨by rw [ht]; exact hP9, va_K.moved hW.alike hK, hD9⟩⟩, hS.F ht⟩) hS.2.2 dX12_ends_24
def v_X12_begins : List Cond := .code yX12_begins cX12_begins 1 none :: (([.fieldLink RX12 159 "CardsAtYuleModel" "bad" "I", .fieldLink RX12 162 "CardsAtYuleModel" "badPlace" "I", .fieldLink RX12 131 "CardsAtYuleModel" "at" "I", .methodLink RX12 169 yX12_next, .instanceMethod yX12_next, .selects RX12 yX12_next yX12_next, .initialized RX12] : List Cond) ++ (v_X12_next ++ (wsX120 ++ ([] : List Cond))))
theorem good_v_X12_begins : v_X12_begins.all goodWord = true := ga_c (by decide +kernel) (ga_a (by decide +kernel) (ga_a good_v_X12_next (ga_a good_wsX120 rfl)))
set_option maxHeartbeats 4000000 in
set_option maxRecDepth 100000 in
theorem q_X12_begins (l : Launch) (g : va_G) (cI cJ cB cZ cL : ClassId) (m : Nat) (m_a : Nat → Nat) (m_thrown : Int32) (m_taped : Int32) (m_at : Int32) (m_token : Int32) (m_place : Int32) (m_value : Int32) (m_word : Int64) (m_bad : Int32) (m_badPlace : Int32) (m_fault : Int32) (m_faultPlace : Int32) (m_willing : Int32) (m_will : Int32) (m_forgot : Int32) (m_isDrawn : Int32) (m_x : Int64) (m_begin : Int32) (m_round : Int32) (m_roundCards : Int32) (m_fate : Int32) (m_any : Int64) (m_bothSend : Int64) (m_meanCards : Int64) (m_bestSum : Int32) (m_fitMany : Int32) (m_fitFirst : Int64) (m_fitSecond : Int64) (m_tape_c : Nat → Int32) (sz : Nat) (hv_m_taped : ir m_taped.toInt 0 1600) (hv_m_at : ir m_at.toInt 0 1600) (hv_m_will : ir m_will.toInt 0 1) (hv_m_isDrawn : ir m_isDrawn.toInt 0 1) : Met l yX12_begins v_X12_begins ({ frames := 2, cells := 0, slots := 0, locals := 44 }) (va_Pc [.ref m] (pRW g (tyT cI cJ cB cZ cL) [(m, .inr (11, mG m_a m_thrown m_taped m_at m_token m_place m_value m_word m_bad m_badPlace m_fault m_faultPlace m_willing m_will m_forgot m_isDrawn m_x m_begin m_round m_roundCards m_fate m_any m_bothSend m_meanCards m_bestSum m_fitMany m_fitFirst m_fitSecond)), ((m_a 5), .inl (cB, 1600, .inl m_tape_c))] sz)) (va_Qv (fun (u : Int32 × Int32 × Int32 × Int32 × Int64 × Int32 × Int32) => match u with | (n_m_at, n_m_token, n_m_place, n_m_value, n_m_word, n_m_bad, n_m_badPlace) => (ir n_m_at.toInt 0 1600) ∧ (ir n_m_token.toInt 0 4) ∧ (ir n_m_place.toInt 0 1600) ∧ (ir n_m_bad.toInt 0 0) ∧ (ir n_m_badPlace.toInt (-1) (-1)) ∧ (n_m_at.toInt ≤ m_taped.toInt)) (fun (u : Int32 × Int32 × Int32 × Int32 × Int64 × Int32 × Int32) (t : State) => bRW g (tyT cI cJ cB cZ cL) (va_A [(m, .inr (11, mG m_a m_thrown m_taped m_at m_token m_place m_value m_word m_bad m_badPlace m_fault m_faultPlace m_willing m_will m_forgot m_isDrawn m_x m_begin m_round m_roundCards m_fate m_any m_bothSend m_meanCards m_bestSum m_fitMany m_fitFirst m_fitSecond)), ((m_a 5), .inl (cB, 1600, .inl m_tape_c))] sz) (match u with | (n_m_at, n_m_token, n_m_place, n_m_value, n_m_word, n_m_bad, n_m_badPlace) => [(m, .inr (11, mG m_a m_thrown m_taped n_m_at n_m_token n_m_place n_m_value n_m_word n_m_bad n_m_badPlace m_fault m_faultPlace m_willing m_will m_forgot m_isDrawn m_x m_begin m_round m_roundCards m_fate m_any m_bothSend m_meanCards m_bestSum m_fitMany m_fitFirst m_fitSecond)), ((m_a 5), .inl (cB, 1600, .inl m_tape_c))]) t) (va_A [(m, .inr (11, mG m_a m_thrown m_taped m_at m_token m_place m_value m_word m_bad m_badPlace m_fault m_faultPlace m_willing m_will m_forgot m_isDrawn m_x m_begin m_round m_roundCards m_fate m_any m_bothSend m_meanCards m_bestSum m_fitMany m_fitFirst m_fitSecond)), ((m_a 5), .inl (cB, 1600, .inl m_tape_c))] sz)) 0 0 (va_A [(m, .inr (11, mG m_a m_thrown m_taped m_at m_token m_place m_value m_word m_bad m_badPlace m_fault m_faultPlace m_willing m_will m_forgot m_isDrawn m_x m_begin m_round m_roundCards m_fate m_any m_bothSend m_meanCards m_bestSum m_fitMany m_fitFirst m_fitSecond)), ((m_a 5), .inl (cB, 1600, .inl m_tape_c))] sz) := by
  refine Met.ofW (cc := cX12_begins) (maxL := 1) (ret := none) (by decide) rfl ?_
  intro p e s mth args below meth c s₁ B hml hv
  obtain ⟨rfl, hsz, hP, hK, hD0⟩ := hv
  have hx := B.exec
  have hb := B.bytes
  have hr := B.returns
  have hts := atoms_spec (ws := v_X12_begins) B.pre
  have hown : s.vm.findClass RX12 = some mth.cls := findClass_of_methodNamed B.named
  have hlocks := B.notSynchronized
  clear B
  subst hsz
  have iX12 : ∀ w ∈ wsX120, w ∈ v_X12_begins := (fun _ h => List.mem_cons_of_mem _ (List.mem_append_right _ (List.mem_append_right _ (List.mem_append_left _ h))))
  have hD := hD0.self (sz := s.heap.size)
  generalize hAe : (va_A [(m, .inr (11, mG m_a m_thrown m_taped m_at m_token m_place m_value m_word m_bad m_badPlace m_fault m_faultPlace m_willing m_will m_forgot m_isDrawn m_x m_begin m_round m_roundCards m_fate m_any m_bothSend m_meanCards m_bestSum m_fitMany m_fitFirst m_fitSecond)), ((m_a 5), .inl (cB, 1600, .inl m_tape_c))] s.heap.size) = A at hD ⊢
  have hA : ∀ q : Nat, s.heap.size ≤ q → A q := fun q h => by rw [← hAe]; exact Or.inr h
  have hS : va_S A s.heap s.heap [] := va_S.rf
  have hl := lv_entry ([.ref m]) (n := 1) (Nat.le_of_ble_eq_true rfl)
  rw [lg_entry_eq]
  generalize (lg_sl ([.ref m]) ++ List.replicate (1 - (lg_sl ([.ref m])).length) Slot.unset).toArray = ls at hl ⊢
  generalize ([.ref m] : List Value).toArray = av at hts ⊢
  generalize hQ : MQ below _ av s _ _ A = QQ
  have hl : lv_has ls 1 [(0, .ref m)] := hl
  have hP : va_P g vwCl [(m, .inr (11, mG m_a m_thrown m_taped m_at m_token m_place m_value m_word m_bad m_badPlace m_fault m_faultPlace m_willing m_will m_forgot m_isDrawn m_x m_begin m_round m_roundCards m_fate m_any m_bothSend m_meanCards m_bestSum m_fitMany m_fitFirst m_fitSecond)), ((m_a 5), .inl (cB, 1600, .inl m_tape_c))] s.heap := hP
  refine lv_aload_n hx hb dX12_begins_0 rfl (lv_at hl 0 rfl) ?_
  refine lv_iconst (v := 0) hx hb dX12_begins_1 (by decide) ?_
  refine va_put (D := g) (ci := 11) (v := .int 0) (ty := .int) (C := RX12) (T := TX12) (N := 56) hx hb hts iX12 tyX12 tyX12_ok nmX12 hown hK hP hD hS 0 rfl rfl 12 (by decide) (hts (.fieldLink RX12 159 "CardsAtYuleModel" "bad" "I") (List.mem_cons_of_mem _ (List.mem_append_left _ (List.mem_of_getElem? (i := 0) rfl)))) (fun _ h9 => h9) rfl (by decide +kernel) rfl rfl (Nat.le_of_ble_eq_true rfl) dX12_begins_2 (fun H locs hP hD hS => ?_)
  have hP : va_P g vwCl [(m, .inr (11, mG m_a m_thrown m_taped m_at m_token m_place m_value m_word 0 m_badPlace m_fault m_faultPlace m_willing m_will m_forgot m_isDrawn m_x m_begin m_round m_roundCards m_fate m_any m_bothSend m_meanCards m_bestSum m_fitMany m_fitFirst m_fitSecond)), ((m_a 5), .inl (cB, 1600, .inl m_tape_c))] H := hP
  have hD : va_D A [(m, .inr (11, mG m_a m_thrown m_taped m_at m_token m_place m_value m_word 0 m_badPlace m_fault m_faultPlace m_willing m_will m_forgot m_isDrawn m_x m_begin m_round m_roundCards m_fate m_any m_bothSend m_meanCards m_bestSum m_fitMany m_fitFirst m_fitSecond)), ((m_a 5), .inl (cB, 1600, .inl m_tape_c))] := hD
  refine lv_aload_n hx hb dX12_begins_5 rfl (lv_at hl 0 rfl) ?_
  refine lv_iconst (v := (-1)) hx hb dX12_begins_6 (by decide) ?_
  refine va_put (D := g) (ci := 11) (v := .int (-1)) (ty := .int) (C := RX12) (T := TX12) (N := 56) hx hb hts iX12 tyX12 tyX12_ok nmX12 hown hK hP hD hS 0 rfl rfl 13 (by decide) (hts (.fieldLink RX12 162 "CardsAtYuleModel" "badPlace" "I") (List.mem_cons_of_mem _ (List.mem_append_left _ (List.mem_of_getElem? (i := 1) rfl)))) (fun _ h9 => h9) rfl (by decide +kernel) rfl rfl (Nat.le_of_ble_eq_true rfl) dX12_begins_7 (fun H locs hP hD hS => ?_)
  have hP : va_P g vwCl [(m, .inr (11, mG m_a m_thrown m_taped m_at m_token m_place m_value m_word 0 (-1) m_fault m_faultPlace m_willing m_will m_forgot m_isDrawn m_x m_begin m_round m_roundCards m_fate m_any m_bothSend m_meanCards m_bestSum m_fitMany m_fitFirst m_fitSecond)), ((m_a 5), .inl (cB, 1600, .inl m_tape_c))] H := hP
  have hD : va_D A [(m, .inr (11, mG m_a m_thrown m_taped m_at m_token m_place m_value m_word 0 (-1) m_fault m_faultPlace m_willing m_will m_forgot m_isDrawn m_x m_begin m_round m_roundCards m_fate m_any m_bothSend m_meanCards m_bestSum m_fitMany m_fitFirst m_fitSecond)), ((m_a 5), .inl (cB, 1600, .inl m_tape_c))] := hD
  refine lv_aload_n hx hb dX12_begins_10 rfl (lv_at hl 0 rfl) ?_
  refine lv_iconst (v := 0) hx hb dX12_begins_11 (by decide) ?_
  refine va_put (D := g) (ci := 11) (v := .int 0) (ty := .int) (C := RX12) (T := TX12) (N := 56) hx hb hts iX12 tyX12 tyX12_ok nmX12 hown hK hP hD hS 0 rfl rfl 7 (by decide) (hts (.fieldLink RX12 131 "CardsAtYuleModel" "at" "I") (List.mem_cons_of_mem _ (List.mem_append_left _ (List.mem_of_getElem? (i := 2) rfl)))) (fun _ h9 => h9) rfl (by decide +kernel) rfl rfl (Nat.le_of_ble_eq_true rfl) dX12_begins_12 (fun H locs hP hD hS => ?_)
  have hP : va_P g vwCl [(m, .inr (11, mG m_a m_thrown m_taped 0 m_token m_place m_value m_word 0 (-1) m_fault m_faultPlace m_willing m_will m_forgot m_isDrawn m_x m_begin m_round m_roundCards m_fate m_any m_bothSend m_meanCards m_bestSum m_fitMany m_fitFirst m_fitSecond)), ((m_a 5), .inl (cB, 1600, .inl m_tape_c))] H := hP
  have hD : va_D A [(m, .inr (11, mG m_a m_thrown m_taped 0 m_token m_place m_value m_word 0 (-1) m_fault m_faultPlace m_willing m_will m_forgot m_isDrawn m_x m_begin m_round m_roundCards m_fate m_any m_bothSend m_meanCards m_bestSum m_fitMany m_fitFirst m_fitSecond)), ((m_a 5), .inl (cB, 1600, .inl m_tape_c))] := hD
  refine lv_aload_n hx hb dX12_begins_15 rfl (lv_at hl 0 rfl) ?_
  refine rw_v (wr := []) (va_runV (As := []) (rest := []) ⟨hx, hb, hml, hown, hts⟩ (q_X12_next l g cI cJ cB cZ cL m m_a m_thrown m_taped 0 m_token m_place m_value m_word 0 (-1) m_fault m_faultPlace m_willing m_will m_forgot m_isDrawn m_x m_begin m_round m_roundCards m_fate m_any m_bothSend m_meanCards m_bestSum m_fitMany m_fitFirst m_fitSecond m_tape_c H.size hv_m_taped (by decide) hv_m_will hv_m_isDrawn (by have kc0 : (0 : Int32).toInt = 0 := rfl; omega)) (cwV 0 hts (goodIn_app (g_4 (List.mem_cons_of_mem _ (List.mem_append_left _ (List.mem_of_getElem? (i := 3) rfl))) (List.mem_cons_of_mem _ (List.mem_append_left _ (List.mem_of_getElem? (i := 4) rfl))) (List.mem_cons_of_mem _ (List.mem_append_left _ (List.mem_of_getElem? (i := 5) rfl))) (List.mem_cons_of_mem _ (List.mem_append_left _ (List.mem_of_getElem? (i := 6) rfl))) (by decide +kernel)) (goodIn_sub (fun _ h => List.mem_cons_of_mem _ (List.mem_append_right _ (List.mem_append_left _ h))) good_v_X12_next)) rfl rfl rfl (by decide +kernel) ⟨Nat.le_of_ble_eq_true rfl, Nat.le_of_ble_eq_true rfl⟩) (pv_RW (q := (RX12, TX12, 56)) (ci := 11) (q0 := 0) (wc := [(m, .inr (11, mG m_a m_thrown m_taped 0 m_token m_place m_value m_word 0 (-1) m_fault m_faultPlace m_willing m_will m_forgot m_isDrawn m_x m_begin m_round m_roundCards m_fate m_any m_bothSend m_meanCards m_bestSum m_fitMany m_fitFirst m_fitSecond)), ((m_a 5), .inl (cB, 1600, .inl m_tape_c))]) hK hP hD [0, 1] (by decide) rfl rfl rfl) rfl rfl hl.1 rfl (lv_room (Nat.le_of_ble_eq_true rfl)) dX12_begins_16 ⟨Nat.le_of_ble_eq_true rfl, Nat.le_of_ble_eq_true rfl⟩) hS hA hP hD [0, 1] [] rfl rfl (by decide) (by decide) (fun u16 H locs hw16 hP hD hS => ?_)
  obtain ⟨n_m_at_16, n_m_token_16, n_m_place_16, n_m_value_16, n_m_word_16⟩ := u16
  have hP : va_P g vwCl [(m, .inr (11, mG m_a m_thrown m_taped n_m_at_16 n_m_token_16 n_m_place_16 n_m_value_16 n_m_word_16 0 (-1) m_fault m_faultPlace m_willing m_will m_forgot m_isDrawn m_x m_begin m_round m_roundCards m_fate m_any m_bothSend m_meanCards m_bestSum m_fitMany m_fitFirst m_fitSecond)), ((m_a 5), .inl (cB, 1600, .inl m_tape_c))] H := hP
  have hD : va_D A [(m, .inr (11, mG m_a m_thrown m_taped n_m_at_16 n_m_token_16 n_m_place_16 n_m_value_16 n_m_word_16 0 (-1) m_fault m_faultPlace m_willing m_will m_forgot m_isDrawn m_x m_begin m_round m_roundCards m_fate m_any m_bothSend m_meanCards m_bestSum m_fitMany m_fitFirst m_fitSecond)), ((m_a 5), .inl (cB, 1600, .inl m_tape_c))] := hD
  dsimp only at hw16
  obtain ⟨hw16_0, hw16_1, hw16_2, hw16_3⟩ := hw16
  have hw16_3 : (0 ≤ n_m_at_16.toInt ∧ n_m_at_16.toInt ≤ m_taped.toInt ∧ 0 ≤ n_m_token_16.toInt ∧ n_m_token_16.toInt ≤ 4 ∧ (0 < n_m_at_16.toInt ∨ (n_m_token_16.toInt = 0 ∧ n_m_at_16.toInt = m_taped.toInt))) := hw16_3
  subst hQ
  have hP9 := hP.sub (ws' := [(m, .inr (11, mG m_a m_thrown m_taped n_m_at_16 n_m_token_16 n_m_place_16 n_m_value_16 n_m_word_16 0 (-1) m_fault m_faultPlace m_willing m_will m_forgot m_isDrawn m_x m_begin m_round m_roundCards m_fate m_any m_bothSend m_meanCards m_bestSum m_fitMany m_fitFirst m_fitSecond)), ((m_a 5), .inl (cB, 1600, .inl m_tape_c))]) [0, 1] rfl
  have hD9 := hD.sub (ws' := [(m, .inr (11, mG m_a m_thrown m_taped n_m_at_16 n_m_token_16 n_m_place_16 n_m_value_16 n_m_word_16 0 (-1) m_fault m_faultPlace m_willing m_will m_forgot m_isDrawn m_x m_begin m_round m_roundCards m_fate m_any m_bothSend m_meanCards m_bestSum m_fitMany m_fitFirst m_fitSecond)), ((m_a 5), .inl (cB, 1600, .inl m_tape_c))]) [0, 1] (by decide) rfl
  exact W.vret hx hb hr (fun t ht hW => ⟨⟨(n_m_at_16, n_m_token_16, n_m_place_16, n_m_value_16, n_m_word_16, 0, (-1)), rfl, ⟨hw16_0, hw16_1, hw16_2, (show ir (0 : Int32).toInt 0 0 by decide), (show ir ((-1) : Int32).toInt (-1) (-1) by decide), (by have kc0 : ((-1) : Int32).toInt = (-1) := rfl; have kc1 : (0 : Int32).toInt = 0 := rfl; omega)⟩, ⟨by rw [ht]; exact hP9, va_K.moved hW.alike hK, hD9⟩⟩, hS.F ht⟩) hS.2.2 dX12_begins_19
def v_X12_isOver : List Cond := .code yX12_isOver cX12_isOver 1 none :: (([.fieldLink RX12 124 "CardsAtYuleModel" "taped" "I", .fieldLink RX12 159 "CardsAtYuleModel" "bad" "I", .fieldLink RX12 186 "CardsAtYuleModel" "fault" "I", .fieldLink RX12 162 "CardsAtYuleModel" "badPlace" "I", .fieldLink RX12 27 "CardsAtYuleModel" "faultPlace" "I"] : List Cond) ++ (wsX120 ++ ([] : List Cond)))
theorem good_v_X12_isOver : v_X12_isOver.all goodWord = true := ga_c (by decide +kernel) (ga_a (by decide +kernel) (ga_a good_wsX120 rfl))
set_option maxHeartbeats 4000000 in
set_option maxRecDepth 100000 in
theorem q_X12_isOver (l : Launch) (g : va_G) (cI cJ cB cZ cL : ClassId) (m : Nat) (m_a : Nat → Nat) (m_thrown : Int32) (m_taped : Int32) (m_at : Int32) (m_token : Int32) (m_place : Int32) (m_value : Int32) (m_word : Int64) (m_bad : Int32) (m_badPlace : Int32) (m_fault : Int32) (m_faultPlace : Int32) (m_willing : Int32) (m_will : Int32) (m_forgot : Int32) (m_isDrawn : Int32) (m_x : Int64) (m_begin : Int32) (m_round : Int32) (m_roundCards : Int32) (m_fate : Int32) (m_any : Int64) (m_bothSend : Int64) (m_meanCards : Int64) (m_bestSum : Int32) (m_fitMany : Int32) (m_fitFirst : Int64) (m_fitSecond : Int64) (sz : Nat) (hv_m_taped : ir m_taped.toInt 0 1600) (hv_m_at : ir m_at.toInt 0 1600) (hv_m_will : ir m_will.toInt 0 1) (hv_m_isDrawn : ir m_isDrawn.toInt 0 1) : Met l yX12_isOver v_X12_isOver ({ frames := 0, cells := 0, slots := 0, locals := 0 }) (va_Pc [.ref m] (pRW g (tyT cI cJ cB cZ cL) [(m, .inr (11, mG m_a m_thrown m_taped m_at m_token m_place m_value m_word m_bad m_badPlace m_fault m_faultPlace m_willing m_will m_forgot m_isDrawn m_x m_begin m_round m_roundCards m_fate m_any m_bothSend m_meanCards m_bestSum m_fitMany m_fitFirst m_fitSecond))] sz)) (va_Qv (fun (u : Int32 × Int32 × Int32) => match u with | (n_m_taped, n_m_fault, n_m_faultPlace) => (ir n_m_taped.toInt 0 0)) (fun (u : Int32 × Int32 × Int32) (t : State) => bRW g (tyT cI cJ cB cZ cL) (va_A [(m, .inr (11, mG m_a m_thrown m_taped m_at m_token m_place m_value m_word m_bad m_badPlace m_fault m_faultPlace m_willing m_will m_forgot m_isDrawn m_x m_begin m_round m_roundCards m_fate m_any m_bothSend m_meanCards m_bestSum m_fitMany m_fitFirst m_fitSecond))] sz) (match u with | (n_m_taped, n_m_fault, n_m_faultPlace) => [(m, .inr (11, mG m_a m_thrown n_m_taped m_at m_token m_place m_value m_word m_bad m_badPlace n_m_fault n_m_faultPlace m_willing m_will m_forgot m_isDrawn m_x m_begin m_round m_roundCards m_fate m_any m_bothSend m_meanCards m_bestSum m_fitMany m_fitFirst m_fitSecond))]) t) (va_A [(m, .inr (11, mG m_a m_thrown m_taped m_at m_token m_place m_value m_word m_bad m_badPlace m_fault m_faultPlace m_willing m_will m_forgot m_isDrawn m_x m_begin m_round m_roundCards m_fate m_any m_bothSend m_meanCards m_bestSum m_fitMany m_fitFirst m_fitSecond))] sz)) 0 0 (va_A [(m, .inr (11, mG m_a m_thrown m_taped m_at m_token m_place m_value m_word m_bad m_badPlace m_fault m_faultPlace m_willing m_will m_forgot m_isDrawn m_x m_begin m_round m_roundCards m_fate m_any m_bothSend m_meanCards m_bestSum m_fitMany m_fitFirst m_fitSecond))] sz) := by
  refine Met.ofW (cc := cX12_isOver) (maxL := 1) (ret := none) (by decide) rfl ?_
  intro p e s mth args below meth c s₁ B hml hv
  obtain ⟨rfl, hsz, hP, hK, hD0⟩ := hv
  have hx := B.exec
  have hb := B.bytes
  have hr := B.returns
  have hts := atoms_spec (ws := v_X12_isOver) B.pre
  have hown : s.vm.findClass RX12 = some mth.cls := findClass_of_methodNamed B.named
  have hlocks := B.notSynchronized
  clear B
  subst hsz
  have iX12 : ∀ w ∈ wsX120, w ∈ v_X12_isOver := (fun _ h => List.mem_cons_of_mem _ (List.mem_append_right _ (List.mem_append_left _ h)))
  have hD := hD0.self (sz := s.heap.size)
  generalize hAe : (va_A [(m, .inr (11, mG m_a m_thrown m_taped m_at m_token m_place m_value m_word m_bad m_badPlace m_fault m_faultPlace m_willing m_will m_forgot m_isDrawn m_x m_begin m_round m_roundCards m_fate m_any m_bothSend m_meanCards m_bestSum m_fitMany m_fitFirst m_fitSecond))] s.heap.size) = A at hD ⊢
  have hA : ∀ q : Nat, s.heap.size ≤ q → A q := fun q h => by rw [← hAe]; exact Or.inr h
  have hS : va_S A s.heap s.heap [] := va_S.rf
  have hl := lv_entry ([.ref m]) (n := 1) (Nat.le_of_ble_eq_true rfl)
  rw [lg_entry_eq]
  generalize (lg_sl ([.ref m]) ++ List.replicate (1 - (lg_sl ([.ref m])).length) Slot.unset).toArray = ls at hl ⊢
  generalize ([.ref m] : List Value).toArray = av at hts ⊢
  generalize hQ : MQ below _ av s _ _ A = QQ
  have hl : lv_has ls 1 [(0, .ref m)] := hl
  have hP : va_P g vwCl [(m, .inr (11, mG m_a m_thrown m_taped m_at m_token m_place m_value m_word m_bad m_badPlace m_fault m_faultPlace m_willing m_will m_forgot m_isDrawn m_x m_begin m_round m_roundCards m_fate m_any m_bothSend m_meanCards m_bestSum m_fitMany m_fitFirst m_fitSecond))] s.heap := hP
  refine lv_aload_n hx hb dX12_isOver_0 rfl (lv_at hl 0 rfl) ?_
  refine lv_iconst (v := 0) hx hb dX12_isOver_1 (by decide) ?_
  refine va_put (D := g) (ci := 11) (v := .int 0) (ty := .int) (C := RX12) (T := TX12) (N := 56) hx hb hts iX12 tyX12 tyX12_ok nmX12 hown hK hP hD hS 0 rfl rfl 6 (by decide) (hts (.fieldLink RX12 124 "CardsAtYuleModel" "taped" "I") (List.mem_cons_of_mem _ (List.mem_append_left _ (List.mem_of_getElem? (i := 0) rfl)))) (fun _ h9 => h9) rfl (by decide +kernel) rfl rfl (Nat.le_of_ble_eq_true rfl) dX12_isOver_2 (fun H locs hP hD hS => ?_)
  have hP : va_P g vwCl [(m, .inr (11, mG m_a m_thrown 0 m_at m_token m_place m_value m_word m_bad m_badPlace m_fault m_faultPlace m_willing m_will m_forgot m_isDrawn m_x m_begin m_round m_roundCards m_fate m_any m_bothSend m_meanCards m_bestSum m_fitMany m_fitFirst m_fitSecond))] H := hP
  have hD : va_D A [(m, .inr (11, mG m_a m_thrown 0 m_at m_token m_place m_value m_word m_bad m_badPlace m_fault m_faultPlace m_willing m_will m_forgot m_isDrawn m_x m_begin m_round m_roundCards m_fate m_any m_bothSend m_meanCards m_bestSum m_fitMany m_fitFirst m_fitSecond))] := hD
  refine lv_aload_n hx hb dX12_isOver_5 rfl (lv_at hl 0 rfl) ?_
  refine lv_aload_n hx hb dX12_isOver_6 rfl (lv_at hl 0 rfl) ?_
  refine va_get (D := g) (ci := 11) (v := .int m_bad) (C := RX12) (T := TX12) (N := 56) hx hb hts iX12 hown hK hP 0 rfl rfl 12 (by decide) (hts (.fieldLink RX12 159 "CardsAtYuleModel" "bad" "I") (List.mem_cons_of_mem _ (List.mem_append_left _ (List.mem_of_getElem? (i := 1) rfl)))) (fun _ h9 => h9) rfl dX12_isOver_7 ?_
  refine va_put (D := g) (ci := 11) (v := .int m_bad) (ty := .int) (C := RX12) (T := TX12) (N := 56) hx hb hts iX12 tyX12 tyX12_ok nmX12 hown hK hP hD hS 0 rfl rfl 14 (by decide) (hts (.fieldLink RX12 186 "CardsAtYuleModel" "fault" "I") (List.mem_cons_of_mem _ (List.mem_append_left _ (List.mem_of_getElem? (i := 2) rfl)))) (fun _ h9 => h9) rfl (by decide +kernel) rfl rfl (Nat.le_of_ble_eq_true rfl) dX12_isOver_10 (fun H locs hP hD hS => ?_)
  have hP : va_P g vwCl [(m, .inr (11, mG m_a m_thrown 0 m_at m_token m_place m_value m_word m_bad m_badPlace m_bad m_faultPlace m_willing m_will m_forgot m_isDrawn m_x m_begin m_round m_roundCards m_fate m_any m_bothSend m_meanCards m_bestSum m_fitMany m_fitFirst m_fitSecond))] H := hP
  have hD : va_D A [(m, .inr (11, mG m_a m_thrown 0 m_at m_token m_place m_value m_word m_bad m_badPlace m_bad m_faultPlace m_willing m_will m_forgot m_isDrawn m_x m_begin m_round m_roundCards m_fate m_any m_bothSend m_meanCards m_bestSum m_fitMany m_fitFirst m_fitSecond))] := hD
  refine lv_aload_n hx hb dX12_isOver_13 rfl (lv_at hl 0 rfl) ?_
  refine lv_aload_n hx hb dX12_isOver_14 rfl (lv_at hl 0 rfl) ?_
  refine va_get (D := g) (ci := 11) (v := .int m_bad) (C := RX12) (T := TX12) (N := 56) hx hb hts iX12 hown hK hP 0 rfl rfl 12 (by decide) (hts (.fieldLink RX12 159 "CardsAtYuleModel" "bad" "I") (List.mem_cons_of_mem _ (List.mem_append_left _ (List.mem_of_getElem? (i := 1) rfl)))) (fun _ h9 => h9) rfl dX12_isOver_15 ?_
  refine lv_if_ne (tgt := 25) hx hb dX12_isOver_18 (by decide) (fun c18 => ?_) (fun c18 => ?_)
  · have f18 := (show m_bad.toInt ≠ 0 from z_ne rfl rfl c18)
    refine lv_aload_n hx hb dX12_isOver_25 rfl (lv_at hl 0 rfl) ?_
    refine va_get (D := g) (ci := 11) (v := .int m_badPlace) (C := RX12) (T := TX12) (N := 56) hx hb hts iX12 hown hK hP 0 rfl rfl 13 (by decide) (hts (.fieldLink RX12 162 "CardsAtYuleModel" "badPlace" "I") (List.mem_cons_of_mem _ (List.mem_append_left _ (List.mem_of_getElem? (i := 3) rfl)))) (fun _ h9 => h9) rfl dX12_isOver_26 ?_
    refine va_put (D := g) (ci := 11) (v := .int m_badPlace) (ty := .int) (C := RX12) (T := TX12) (N := 56) hx hb hts iX12 tyX12 tyX12_ok nmX12 hown hK hP hD hS 0 rfl rfl 15 (by decide) (hts (.fieldLink RX12 27 "CardsAtYuleModel" "faultPlace" "I") (List.mem_cons_of_mem _ (List.mem_append_left _ (List.mem_of_getElem? (i := 4) rfl)))) (fun _ h9 => h9) rfl (by decide +kernel) rfl rfl (Nat.le_of_ble_eq_true rfl) dX12_isOver_29 (fun H locs hP hD hS => ?_)
    have hP : va_P g vwCl [(m, .inr (11, mG m_a m_thrown 0 m_at m_token m_place m_value m_word m_bad m_badPlace m_bad m_badPlace m_willing m_will m_forgot m_isDrawn m_x m_begin m_round m_roundCards m_fate m_any m_bothSend m_meanCards m_bestSum m_fitMany m_fitFirst m_fitSecond))] H := hP
    have hD : va_D A [(m, .inr (11, mG m_a m_thrown 0 m_at m_token m_place m_value m_word m_bad m_badPlace m_bad m_badPlace m_willing m_will m_forgot m_isDrawn m_x m_begin m_round m_roundCards m_fate m_any m_bothSend m_meanCards m_bestSum m_fitMany m_fitFirst m_fitSecond))] := hD
    subst hQ
    have hP9 := hP.sub (ws' := [(m, .inr (11, mG m_a m_thrown 0 m_at m_token m_place m_value m_word m_bad m_badPlace m_bad m_badPlace m_willing m_will m_forgot m_isDrawn m_x m_begin m_round m_roundCards m_fate m_any m_bothSend m_meanCards m_bestSum m_fitMany m_fitFirst m_fitSecond))]) [0] rfl
    have hD9 := hD.sub (ws' := [(m, .inr (11, mG m_a m_thrown 0 m_at m_token m_place m_value m_word m_bad m_badPlace m_bad m_badPlace m_willing m_will m_forgot m_isDrawn m_x m_begin m_round m_roundCards m_fate m_any m_bothSend m_meanCards m_bestSum m_fitMany m_fitFirst m_fitSecond))]) [0] (by decide) rfl
    exact W.vret hx hb hr (fun t ht hW => ⟨⟨(0, m_bad, m_badPlace), rfl, (show ir (0 : Int32).toInt 0 0 by decide), ⟨by rw [ht]; exact hP9, va_K.moved hW.alike hK, hD9⟩⟩, hS.F ht⟩) hS.2.2 dX12_isOver_32
  have f18 := (show m_bad.toInt = 0 from z_eq rfl rfl c18)
  have r18a : ir m_bad.toInt 0 0 := ir_eqa f18 (rg_all m_bad) (ir_c 0) (by decide) (by decide)
  refine lv_iconst (v := (-1)) hx hb dX12_isOver_21 (by decide) ?_
  refine lv_goto (tgt := 29) hx hb dX12_isOver_22 (by decide) ?_
  refine va_put (D := g) (ci := 11) (v := .int (-1)) (ty := .int) (C := RX12) (T := TX12) (N := 56) hx hb hts iX12 tyX12 tyX12_ok nmX12 hown hK hP hD hS 0 rfl rfl 15 (by decide) (hts (.fieldLink RX12 27 "CardsAtYuleModel" "faultPlace" "I") (List.mem_cons_of_mem _ (List.mem_append_left _ (List.mem_of_getElem? (i := 4) rfl)))) (fun _ h9 => h9) rfl (by decide +kernel) rfl rfl (Nat.le_of_ble_eq_true rfl) dX12_isOver_29 (fun H locs hP hD hS => ?_)
  have hP : va_P g vwCl [(m, .inr (11, mG m_a m_thrown 0 m_at m_token m_place m_value m_word m_bad m_badPlace m_bad (-1) m_willing m_will m_forgot m_isDrawn m_x m_begin m_round m_roundCards m_fate m_any m_bothSend m_meanCards m_bestSum m_fitMany m_fitFirst m_fitSecond))] H := hP
  have hD : va_D A [(m, .inr (11, mG m_a m_thrown 0 m_at m_token m_place m_value m_word m_bad m_badPlace m_bad (-1) m_willing m_will m_forgot m_isDrawn m_x m_begin m_round m_roundCards m_fate m_any m_bothSend m_meanCards m_bestSum m_fitMany m_fitFirst m_fitSecond))] := hD
  subst hQ
  have hP9 := hP.sub (ws' := [(m, .inr (11, mG m_a m_thrown 0 m_at m_token m_place m_value m_word m_bad m_badPlace m_bad (-1) m_willing m_will m_forgot m_isDrawn m_x m_begin m_round m_roundCards m_fate m_any m_bothSend m_meanCards m_bestSum m_fitMany m_fitFirst m_fitSecond))]) [0] rfl
  have hD9 := hD.sub (ws' := [(m, .inr (11, mG m_a m_thrown 0 m_at m_token m_place m_value m_word m_bad m_badPlace m_bad (-1) m_willing m_will m_forgot m_isDrawn m_x m_begin m_round m_roundCards m_fate m_any m_bothSend m_meanCards m_bestSum m_fitMany m_fitFirst m_fitSecond))]) [0] (by decide) rfl
  exact W.vret hx hb hr (fun t ht hW => ⟨⟨(0, m_bad, (-1)), rfl, (show ir (0 : Int32).toInt 0 0 by decide), ⟨by rw [ht]; exact hP9, va_K.moved hW.alike hK, hD9⟩⟩, hS.F ht⟩) hS.2.2 dX12_isOver_32
def v_X12_fault : List Cond := .code yX12_fault cX12_fault 2 (some .int) :: (([.fieldLink RX12 107 "CardsAtYuleModel" "thrown" "I", .fieldLink RX12 27 "CardsAtYuleModel" "faultPlace" "I", .fieldLink RX12 186 "CardsAtYuleModel" "fault" "I"] : List Cond) ++ (wsX120 ++ ([] : List Cond)))
theorem good_v_X12_fault : v_X12_fault.all goodWord = true := ga_c (by decide +kernel) (ga_a (by decide +kernel) (ga_a good_wsX120 rfl))
set_option maxHeartbeats 4000000 in
set_option maxRecDepth 100000 in
theorem q_X12_fault (l : Launch) (g : va_G) (cI cJ cB cZ cL : ClassId) (p0 : Int32) (m : Nat) (m_a : Nat → Nat) (m_thrown : Int32) (m_taped : Int32) (m_at : Int32) (m_token : Int32) (m_place : Int32) (m_value : Int32) (m_word : Int64) (m_bad : Int32) (m_badPlace : Int32) (m_fault : Int32) (m_faultPlace : Int32) (m_willing : Int32) (m_will : Int32) (m_forgot : Int32) (m_isDrawn : Int32) (m_x : Int64) (m_begin : Int32) (m_round : Int32) (m_roundCards : Int32) (m_fate : Int32) (m_any : Int64) (m_bothSend : Int64) (m_meanCards : Int64) (m_bestSum : Int32) (m_fitMany : Int32) (m_fitFirst : Int64) (m_fitSecond : Int64) (sz : Nat) (hv_m_taped : ir m_taped.toInt 0 1600) (hv_m_at : ir m_at.toInt 0 1600) (hv_m_will : ir m_will.toInt 0 1) (hv_m_isDrawn : ir m_isDrawn.toInt 0 1) : Met l yX12_fault v_X12_fault ({ frames := 0, cells := 0, slots := 0, locals := 0 }) (va_Pc [.ref m, .int p0] (pRW g (tyT cI cJ cB cZ cL) [(m, .inr (11, mG m_a m_thrown m_taped m_at m_token m_place m_value m_word m_bad m_badPlace m_fault m_faultPlace m_willing m_will m_forgot m_isDrawn m_x m_begin m_round m_roundCards m_fate m_any m_bothSend m_meanCards m_bestSum m_fitMany m_fitFirst m_fitSecond))] sz)) (va_Qi (fun (r : Int32) (u : Int32) => match u with | n_m_thrown => (ir n_m_thrown.toInt 0 0)) (fun (u : Int32) (t : State) => bRW g (tyT cI cJ cB cZ cL) (va_A [(m, .inr (11, mG m_a m_thrown m_taped m_at m_token m_place m_value m_word m_bad m_badPlace m_fault m_faultPlace m_willing m_will m_forgot m_isDrawn m_x m_begin m_round m_roundCards m_fate m_any m_bothSend m_meanCards m_bestSum m_fitMany m_fitFirst m_fitSecond))] sz) (match u with | n_m_thrown => [(m, .inr (11, mG m_a n_m_thrown m_taped m_at m_token m_place m_value m_word m_bad m_badPlace m_fault m_faultPlace m_willing m_will m_forgot m_isDrawn m_x m_begin m_round m_roundCards m_fate m_any m_bothSend m_meanCards m_bestSum m_fitMany m_fitFirst m_fitSecond))]) t) (va_A [(m, .inr (11, mG m_a m_thrown m_taped m_at m_token m_place m_value m_word m_bad m_badPlace m_fault m_faultPlace m_willing m_will m_forgot m_isDrawn m_x m_begin m_round m_roundCards m_fate m_any m_bothSend m_meanCards m_bestSum m_fitMany m_fitFirst m_fitSecond))] sz)) 0 0 (va_A [(m, .inr (11, mG m_a m_thrown m_taped m_at m_token m_place m_value m_word m_bad m_badPlace m_fault m_faultPlace m_willing m_will m_forgot m_isDrawn m_x m_begin m_round m_roundCards m_fate m_any m_bothSend m_meanCards m_bestSum m_fitMany m_fitFirst m_fitSecond))] sz) := by
  refine Met.ofW (cc := cX12_fault) (maxL := 2) (ret := (some .int)) (by decide) rfl ?_
  intro p e s mth args below meth c s₁ B hml hv
  obtain ⟨rfl, hsz, hP, hK, hD0⟩ := hv
  have hx := B.exec
  have hb := B.bytes
  have hr := B.returns
  have hts := atoms_spec (ws := v_X12_fault) B.pre
  have hown : s.vm.findClass RX12 = some mth.cls := findClass_of_methodNamed B.named
  have hlocks := B.notSynchronized
  clear B
  subst hsz
  have iX12 : ∀ w ∈ wsX120, w ∈ v_X12_fault := (fun _ h => List.mem_cons_of_mem _ (List.mem_append_right _ (List.mem_append_left _ h)))
  have hD := hD0.self (sz := s.heap.size)
  generalize hAe : (va_A [(m, .inr (11, mG m_a m_thrown m_taped m_at m_token m_place m_value m_word m_bad m_badPlace m_fault m_faultPlace m_willing m_will m_forgot m_isDrawn m_x m_begin m_round m_roundCards m_fate m_any m_bothSend m_meanCards m_bestSum m_fitMany m_fitFirst m_fitSecond))] s.heap.size) = A at hD ⊢
  have hA : ∀ q : Nat, s.heap.size ≤ q → A q := fun q h => by rw [← hAe]; exact Or.inr h
  have hS : va_S A s.heap s.heap [] := va_S.rf
  have hl := lv_entry ([.ref m, .int p0]) (n := 2) (Nat.le_of_ble_eq_true rfl)
  rw [lg_entry_eq]
  generalize (lg_sl ([.ref m, .int p0]) ++ List.replicate (2 - (lg_sl ([.ref m, .int p0])).length) Slot.unset).toArray = ls at hl ⊢
  generalize ([.ref m, .int p0] : List Value).toArray = av at hts ⊢
  generalize hQ : MQ below _ av s _ _ A = QQ
  have hl : lv_has ls 2 [(0, .ref m), (1, .int p0)] := hl
  have hP : va_P g vwCl [(m, .inr (11, mG m_a m_thrown m_taped m_at m_token m_place m_value m_word m_bad m_badPlace m_fault m_faultPlace m_willing m_will m_forgot m_isDrawn m_x m_begin m_round m_roundCards m_fate m_any m_bothSend m_meanCards m_bestSum m_fitMany m_fitFirst m_fitSecond))] s.heap := hP
  refine lv_aload_n hx hb dX12_fault_0 rfl (lv_at hl 0 rfl) ?_
  refine lv_iconst (v := 0) hx hb dX12_fault_1 (by decide) ?_
  refine va_put (D := g) (ci := 11) (v := .int 0) (ty := .int) (C := RX12) (T := TX12) (N := 56) hx hb hts iX12 tyX12 tyX12_ok nmX12 hown hK hP hD hS 0 rfl rfl 0 (by decide) (hts (.fieldLink RX12 107 "CardsAtYuleModel" "thrown" "I") (List.mem_cons_of_mem _ (List.mem_append_left _ (List.mem_of_getElem? (i := 0) rfl)))) (fun _ h9 => h9) rfl (by decide +kernel) rfl rfl (Nat.le_of_ble_eq_true rfl) dX12_fault_2 (fun H locs hP hD hS => ?_)
  have hP : va_P g vwCl [(m, .inr (11, mG m_a 0 m_taped m_at m_token m_place m_value m_word m_bad m_badPlace m_fault m_faultPlace m_willing m_will m_forgot m_isDrawn m_x m_begin m_round m_roundCards m_fate m_any m_bothSend m_meanCards m_bestSum m_fitMany m_fitFirst m_fitSecond))] H := hP
  have hD : va_D A [(m, .inr (11, mG m_a 0 m_taped m_at m_token m_place m_value m_word m_bad m_badPlace m_fault m_faultPlace m_willing m_will m_forgot m_isDrawn m_x m_begin m_round m_roundCards m_fate m_any m_bothSend m_meanCards m_bestSum m_fitMany m_fitFirst m_fitSecond))] := hD
  refine lv_iload_n hx hb dX12_fault_5 rfl (lv_at hl 1 rfl) ?_
  refine lv_if_ne (tgt := 16) hx hb dX12_fault_6 (by decide) (fun c6 => ?_) (fun c6 => ?_)
  rotate_left 1
  · have f6 := (show p0.toInt = 0 from z_eq rfl rfl c6)
    have r6a : ir p0.toInt 0 0 := ir_eqa f6 (rg_all p0) (ir_c 0) (by decide) (by decide)
    refine lv_aload_n hx hb dX12_fault_9 rfl (lv_at hl 0 rfl) ?_
    refine va_get (D := g) (ci := 11) (v := .int m_fault) (C := RX12) (T := TX12) (N := 56) hx hb hts iX12 hown hK hP 0 rfl rfl 14 (by decide) (hts (.fieldLink RX12 186 "CardsAtYuleModel" "fault" "I") (List.mem_cons_of_mem _ (List.mem_append_left _ (List.mem_of_getElem? (i := 2) rfl)))) (fun _ h9 => h9) rfl dX12_fault_10 ?_
    refine lv_goto (tgt := 29) hx hb dX12_fault_13 (by decide) ?_
    subst hQ
    have hP9 := hP.sub (ws' := [(m, .inr (11, mG m_a 0 m_taped m_at m_token m_place m_value m_word m_bad m_badPlace m_fault m_faultPlace m_willing m_will m_forgot m_isDrawn m_x m_begin m_round m_roundCards m_fate m_any m_bothSend m_meanCards m_bestSum m_fitMany m_fitFirst m_fitSecond))]) [0] rfl
    have hD9 := hD.sub (ws' := [(m, .inr (11, mG m_a 0 m_taped m_at m_token m_place m_value m_word m_bad m_badPlace m_fault m_faultPlace m_willing m_will m_forgot m_isDrawn m_x m_begin m_round m_roundCards m_fate m_any m_bothSend m_meanCards m_bestSum m_fitMany m_fitFirst m_fitSecond))]) [0] (by decide) rfl
    exact W.iret (v := m_fault) hx hb hr (fun t ht hW => ⟨⟨m_fault, 0, rfl, (show ir (0 : Int32).toInt 0 0 by decide), ⟨by rw [ht]; exact hP9, va_K.moved hW.alike hK, hD9⟩⟩, hS.F ht⟩) hS.2.2 dX12_fault_29
  have f6 := (show p0.toInt ≠ 0 from z_ne rfl rfl c6)
  refine lv_iload_n hx hb dX12_fault_16 rfl (lv_at hl 1 rfl) ?_
  refine lv_iconst (v := 1) hx hb dX12_fault_17 (by decide) ?_
  refine lv_icmp_ne (tgt := 28) hx hb dX12_fault_18 (by decide) (fun c18 => ?_) (fun c18 => ?_)
  · have f18 := (show p0.toInt ≠ 1 from z_ne rfl rfl c18)
    refine lv_iconst (v := (-1)) hx hb dX12_fault_28 (by decide) ?_
    subst hQ
    have hP9 := hP.sub (ws' := [(m, .inr (11, mG m_a 0 m_taped m_at m_token m_place m_value m_word m_bad m_badPlace m_fault m_faultPlace m_willing m_will m_forgot m_isDrawn m_x m_begin m_round m_roundCards m_fate m_any m_bothSend m_meanCards m_bestSum m_fitMany m_fitFirst m_fitSecond))]) [0] rfl
    have hD9 := hD.sub (ws' := [(m, .inr (11, mG m_a 0 m_taped m_at m_token m_place m_value m_word m_bad m_badPlace m_fault m_faultPlace m_willing m_will m_forgot m_isDrawn m_x m_begin m_round m_roundCards m_fate m_any m_bothSend m_meanCards m_bestSum m_fitMany m_fitFirst m_fitSecond))]) [0] (by decide) rfl
    exact W.iret (v := (-1)) hx hb hr (fun t ht hW => ⟨⟨(-1), 0, rfl, (show ir (0 : Int32).toInt 0 0 by decide), ⟨by rw [ht]; exact hP9, va_K.moved hW.alike hK, hD9⟩⟩, hS.F ht⟩) hS.2.2 dX12_fault_29
  have f18 := (show p0.toInt = 1 from z_eq rfl rfl c18)
  have r18a : ir p0.toInt 1 1 := ir_eqa f18 (rg_all p0) (ir_c 1) (by decide) (by decide)
  refine lv_aload_n hx hb dX12_fault_21 rfl (lv_at hl 0 rfl) ?_
  refine va_get (D := g) (ci := 11) (v := .int m_faultPlace) (C := RX12) (T := TX12) (N := 56) hx hb hts iX12 hown hK hP 0 rfl rfl 15 (by decide) (hts (.fieldLink RX12 27 "CardsAtYuleModel" "faultPlace" "I") (List.mem_cons_of_mem _ (List.mem_append_left _ (List.mem_of_getElem? (i := 1) rfl)))) (fun _ h9 => h9) rfl dX12_fault_22 ?_
  refine lv_goto (tgt := 29) hx hb dX12_fault_25 (by decide) ?_
  subst hQ
  have hP9 := hP.sub (ws' := [(m, .inr (11, mG m_a 0 m_taped m_at m_token m_place m_value m_word m_bad m_badPlace m_fault m_faultPlace m_willing m_will m_forgot m_isDrawn m_x m_begin m_round m_roundCards m_fate m_any m_bothSend m_meanCards m_bestSum m_fitMany m_fitFirst m_fitSecond))]) [0] rfl
  have hD9 := hD.sub (ws' := [(m, .inr (11, mG m_a 0 m_taped m_at m_token m_place m_value m_word m_bad m_badPlace m_fault m_faultPlace m_willing m_will m_forgot m_isDrawn m_x m_begin m_round m_roundCards m_fate m_any m_bothSend m_meanCards m_bestSum m_fitMany m_fitFirst m_fitSecond))]) [0] (by decide) rfl
  exact W.iret (v := m_faultPlace) hx hb hr (fun t ht hW => ⟨⟨m_faultPlace, 0, rfl, (show ir (0 : Int32).toInt 0 0 by decide), ⟨by rw [ht]; exact hP9, va_K.moved hW.alike hK, hD9⟩⟩, hS.F ht⟩) hS.2.2 dX12_fault_29
def v_X12_hasRead0 : List Cond := .code yX12_hasRead cX12_hasRead 2 (some .int) :: (([.fieldLink RX12 34 "CardsAtYuleModel" "has" "[I"] : List Cond) ++ (wsX120 ++ ([] : List Cond)))
theorem good_v_X12_hasRead0 : v_X12_hasRead0.all goodWord = true := ga_c (by decide +kernel) (ga_a (by decide +kernel) (ga_a good_wsX120 rfl))
set_option maxHeartbeats 4000000 in
set_option maxRecDepth 100000 in
theorem q_X12_hasRead0 (l : Launch) (g : va_G) (cI cJ cB cZ cL : ClassId) (m : Nat) (m_a : Nat → Nat) (m_thrown : Int32) (m_taped : Int32) (m_at : Int32) (m_token : Int32) (m_place : Int32) (m_value : Int32) (m_word : Int64) (m_bad : Int32) (m_badPlace : Int32) (m_fault : Int32) (m_faultPlace : Int32) (m_willing : Int32) (m_will : Int32) (m_forgot : Int32) (m_isDrawn : Int32) (m_x : Int64) (m_begin : Int32) (m_round : Int32) (m_roundCards : Int32) (m_fate : Int32) (m_any : Int64) (m_bothSend : Int64) (m_meanCards : Int64) (m_bestSum : Int32) (m_fitMany : Int32) (m_fitFirst : Int64) (m_fitSecond : Int64) (m_has_c : Nat → Int32) (sz : Nat) (hv_m_taped : ir m_taped.toInt 0 1600) (hv_m_at : ir m_at.toInt 0 1600) (hv_m_will : ir m_will.toInt 0 1) (hv_m_isDrawn : ir m_isDrawn.toInt 0 1) (ha_m_has_c : hasI m_has_c) : Met l yX12_hasRead v_X12_hasRead0 ({ frames := 0, cells := 0, slots := 0, locals := 0 }) (va_Pc [.ref m, .int 0] (pRO g (tyT cI cJ cB cZ cL) [(m, .inr (11, mG m_a m_thrown m_taped m_at m_token m_place m_value m_word m_bad m_badPlace m_fault m_faultPlace m_willing m_will m_forgot m_isDrawn m_x m_begin m_round m_roundCards m_fate m_any m_bothSend m_meanCards m_bestSum m_fitMany m_fitFirst m_fitSecond)), ((m_a 17), .inl (cI, 25, .inl m_has_c))] sz)) (va_Qi (fun (r : Int32) (u : Unit) => (r = m_has_c 20)) (fun (_ : Unit) (_ : State) => True) (va_A [] sz)) 0 0 (va_A [] sz) := by
  refine Met.ofW (cc := cX12_hasRead) (maxL := 2) (ret := (some .int)) (by decide) rfl ?_
  intro p e s mth args below meth c s₁ B hml hv
  obtain ⟨rfl, hsz, hP, hK⟩ := hv
  have hx := B.exec
  have hb := B.bytes
  have hr := B.returns
  have hts := atoms_spec (ws := v_X12_hasRead0) B.pre
  have hown : s.vm.findClass RX12 = some mth.cls := findClass_of_methodNamed B.named
  have hlocks := B.notSynchronized
  clear B
  subst hsz
  have iX12 : ∀ w ∈ wsX120, w ∈ v_X12_hasRead0 := (fun _ h => List.mem_cons_of_mem _ (List.mem_append_right _ (List.mem_append_left _ h)))
  generalize hAe : (va_A [] s.heap.size) = A
  have hA : ∀ q : Nat, s.heap.size ≤ q → A q := fun q h => by rw [← hAe]; exact Or.inr h
  have hS : va_S A s.heap s.heap [] := va_S.rf
  have hl := lv_entry ([.ref m, .int 0]) (n := 2) (Nat.le_of_ble_eq_true rfl)
  rw [lg_entry_eq]
  generalize (lg_sl ([.ref m, .int 0]) ++ List.replicate (2 - (lg_sl ([.ref m, .int 0])).length) Slot.unset).toArray = ls at hl ⊢
  generalize ([.ref m, .int 0] : List Value).toArray = av at hts ⊢
  generalize hQ : MQ below _ av s _ _ A = QQ
  have hl : lv_has ls 2 [(0, .ref m), (1, .int 0)] := hl
  have hP : va_P g vwCl [(m, .inr (11, mG m_a m_thrown m_taped m_at m_token m_place m_value m_word m_bad m_badPlace m_fault m_faultPlace m_willing m_will m_forgot m_isDrawn m_x m_begin m_round m_roundCards m_fate m_any m_bothSend m_meanCards m_bestSum m_fitMany m_fitFirst m_fitSecond)), ((m_a 17), .inl (cI, 25, .inl m_has_c))] s.heap := hP
  refine lv_aload_n hx hb dX12_hasRead_0 rfl (lv_at hl 0 rfl) ?_
  refine va_get (D := g) (ci := 11) (v := .ref (m_a 17)) (C := RX12) (T := TX12) (N := 56) hx hb hts iX12 hown hK hP 0 rfl rfl 17 (by decide) (hts (.fieldLink RX12 34 "CardsAtYuleModel" "has" "[I") (List.mem_cons_of_mem _ (List.mem_append_left _ (List.mem_of_getElem? (i := 0) rfl)))) (fun _ h9 => h9) rfl dX12_hasRead_1 ?_
  refine lv_bipush (v := 20) hx hb dX12_hasRead_4 (by decide) ?_
  refine lv_iload_n hx hb dX12_hasRead_6 rfl (lv_at hl 1 rfl) ?_
  refine lv_iadd hx hb dX12_hasRead_7 ?_
  refine lv_topi (nm_r (e' := 20) (by decide) ?_)
  refine va_iald (D := g) hx hb hK hP 1 0 rfl rfl (vc_in (by decide)) dX12_hasRead_8 ?_
  refine lv_topi (nm_r (e' := (m_has_c 20)) rfl ?_)
  have r8 : ir (m_has_c 20).toInt 0 40 := hasI_0 ha_m_has_c 4 (by decide)
  subst hQ
  exact W.iret (v := (m_has_c 20)) hx hb hr (fun t ht hW => ⟨⟨(m_has_c 20), (), rfl, rfl, trivial⟩, hS.F ht⟩) hS.2.2 dX12_hasRead_9
def v_X12_hasRead3 : List Cond := .code yX12_hasRead cX12_hasRead 2 (some .int) :: (([.fieldLink RX12 34 "CardsAtYuleModel" "has" "[I"] : List Cond) ++ (wsX120 ++ ([] : List Cond)))
theorem good_v_X12_hasRead3 : v_X12_hasRead3.all goodWord = true := ga_c (by decide +kernel) (ga_a (by decide +kernel) (ga_a good_wsX120 rfl))
set_option maxHeartbeats 4000000 in
set_option maxRecDepth 100000 in
theorem q_X12_hasRead3 (l : Launch) (g : va_G) (cI cJ cB cZ cL : ClassId) (m : Nat) (m_a : Nat → Nat) (m_thrown : Int32) (m_taped : Int32) (m_at : Int32) (m_token : Int32) (m_place : Int32) (m_value : Int32) (m_word : Int64) (m_bad : Int32) (m_badPlace : Int32) (m_fault : Int32) (m_faultPlace : Int32) (m_willing : Int32) (m_will : Int32) (m_forgot : Int32) (m_isDrawn : Int32) (m_x : Int64) (m_begin : Int32) (m_round : Int32) (m_roundCards : Int32) (m_fate : Int32) (m_any : Int64) (m_bothSend : Int64) (m_meanCards : Int64) (m_bestSum : Int32) (m_fitMany : Int32) (m_fitFirst : Int64) (m_fitSecond : Int64) (m_has_c : Nat → Int32) (sz : Nat) (hv_m_taped : ir m_taped.toInt 0 1600) (hv_m_at : ir m_at.toInt 0 1600) (hv_m_will : ir m_will.toInt 0 1) (hv_m_isDrawn : ir m_isDrawn.toInt 0 1) (ha_m_has_c : hasI m_has_c) : Met l yX12_hasRead v_X12_hasRead3 ({ frames := 0, cells := 0, slots := 0, locals := 0 }) (va_Pc [.ref m, .int 3] (pRO g (tyT cI cJ cB cZ cL) [(m, .inr (11, mG m_a m_thrown m_taped m_at m_token m_place m_value m_word m_bad m_badPlace m_fault m_faultPlace m_willing m_will m_forgot m_isDrawn m_x m_begin m_round m_roundCards m_fate m_any m_bothSend m_meanCards m_bestSum m_fitMany m_fitFirst m_fitSecond)), ((m_a 17), .inl (cI, 25, .inl m_has_c))] sz)) (va_Qi (fun (r : Int32) (u : Unit) => (r = m_has_c 23)) (fun (_ : Unit) (_ : State) => True) (va_A [] sz)) 0 0 (va_A [] sz) := by
  refine Met.ofW (cc := cX12_hasRead) (maxL := 2) (ret := (some .int)) (by decide) rfl ?_
  intro p e s mth args below meth c s₁ B hml hv
  obtain ⟨rfl, hsz, hP, hK⟩ := hv
  have hx := B.exec
  have hb := B.bytes
  have hr := B.returns
  have hts := atoms_spec (ws := v_X12_hasRead3) B.pre
  have hown : s.vm.findClass RX12 = some mth.cls := findClass_of_methodNamed B.named
  have hlocks := B.notSynchronized
  clear B
  subst hsz
  have iX12 : ∀ w ∈ wsX120, w ∈ v_X12_hasRead3 := (fun _ h => List.mem_cons_of_mem _ (List.mem_append_right _ (List.mem_append_left _ h)))
  generalize hAe : (va_A [] s.heap.size) = A
  have hA : ∀ q : Nat, s.heap.size ≤ q → A q := fun q h => by rw [← hAe]; exact Or.inr h
  have hS : va_S A s.heap s.heap [] := va_S.rf
  have hl := lv_entry ([.ref m, .int 3]) (n := 2) (Nat.le_of_ble_eq_true rfl)
  rw [lg_entry_eq]
  generalize (lg_sl ([.ref m, .int 3]) ++ List.replicate (2 - (lg_sl ([.ref m, .int 3])).length) Slot.unset).toArray = ls at hl ⊢
  generalize ([.ref m, .int 3] : List Value).toArray = av at hts ⊢
  generalize hQ : MQ below _ av s _ _ A = QQ
  have hl : lv_has ls 2 [(0, .ref m), (1, .int 3)] := hl
  have hP : va_P g vwCl [(m, .inr (11, mG m_a m_thrown m_taped m_at m_token m_place m_value m_word m_bad m_badPlace m_fault m_faultPlace m_willing m_will m_forgot m_isDrawn m_x m_begin m_round m_roundCards m_fate m_any m_bothSend m_meanCards m_bestSum m_fitMany m_fitFirst m_fitSecond)), ((m_a 17), .inl (cI, 25, .inl m_has_c))] s.heap := hP
  refine lv_aload_n hx hb dX12_hasRead_0 rfl (lv_at hl 0 rfl) ?_
  refine va_get (D := g) (ci := 11) (v := .ref (m_a 17)) (C := RX12) (T := TX12) (N := 56) hx hb hts iX12 hown hK hP 0 rfl rfl 17 (by decide) (hts (.fieldLink RX12 34 "CardsAtYuleModel" "has" "[I") (List.mem_cons_of_mem _ (List.mem_append_left _ (List.mem_of_getElem? (i := 0) rfl)))) (fun _ h9 => h9) rfl dX12_hasRead_1 ?_
  refine lv_bipush (v := 20) hx hb dX12_hasRead_4 (by decide) ?_
  refine lv_iload_n hx hb dX12_hasRead_6 rfl (lv_at hl 1 rfl) ?_
  refine lv_iadd hx hb dX12_hasRead_7 ?_
  refine lv_topi (nm_r (e' := 23) (by decide) ?_)
  refine va_iald (D := g) hx hb hK hP 1 0 rfl rfl (vc_in (by decide)) dX12_hasRead_8 ?_
  refine lv_topi (nm_r (e' := (m_has_c 23)) rfl ?_)
  have r8 : ir (m_has_c 23).toInt 0 10 := hasI_3 ha_m_has_c 4 (by decide)
  subst hQ
  exact W.iret (v := (m_has_c 23)) hx hb hr (fun t ht hW => ⟨⟨(m_has_c 23), (), rfl, rfl, trivial⟩, hS.F ht⟩) hS.2.2 dX12_hasRead_9
def v_X12_hasRead4 : List Cond := .code yX12_hasRead cX12_hasRead 2 (some .int) :: (([.fieldLink RX12 34 "CardsAtYuleModel" "has" "[I"] : List Cond) ++ (wsX120 ++ ([] : List Cond)))
theorem good_v_X12_hasRead4 : v_X12_hasRead4.all goodWord = true := ga_c (by decide +kernel) (ga_a (by decide +kernel) (ga_a good_wsX120 rfl))
set_option maxHeartbeats 4000000 in
set_option maxRecDepth 100000 in
theorem q_X12_hasRead4 (l : Launch) (g : va_G) (cI cJ cB cZ cL : ClassId) (m : Nat) (m_a : Nat → Nat) (m_thrown : Int32) (m_taped : Int32) (m_at : Int32) (m_token : Int32) (m_place : Int32) (m_value : Int32) (m_word : Int64) (m_bad : Int32) (m_badPlace : Int32) (m_fault : Int32) (m_faultPlace : Int32) (m_willing : Int32) (m_will : Int32) (m_forgot : Int32) (m_isDrawn : Int32) (m_x : Int64) (m_begin : Int32) (m_round : Int32) (m_roundCards : Int32) (m_fate : Int32) (m_any : Int64) (m_bothSend : Int64) (m_meanCards : Int64) (m_bestSum : Int32) (m_fitMany : Int32) (m_fitFirst : Int64) (m_fitSecond : Int64) (m_has_c : Nat → Int32) (sz : Nat) (hv_m_taped : ir m_taped.toInt 0 1600) (hv_m_at : ir m_at.toInt 0 1600) (hv_m_will : ir m_will.toInt 0 1) (hv_m_isDrawn : ir m_isDrawn.toInt 0 1) (ha_m_has_c : hasI m_has_c) : Met l yX12_hasRead v_X12_hasRead4 ({ frames := 0, cells := 0, slots := 0, locals := 0 }) (va_Pc [.ref m, .int 4] (pRO g (tyT cI cJ cB cZ cL) [(m, .inr (11, mG m_a m_thrown m_taped m_at m_token m_place m_value m_word m_bad m_badPlace m_fault m_faultPlace m_willing m_will m_forgot m_isDrawn m_x m_begin m_round m_roundCards m_fate m_any m_bothSend m_meanCards m_bestSum m_fitMany m_fitFirst m_fitSecond)), ((m_a 17), .inl (cI, 25, .inl m_has_c))] sz)) (va_Qi (fun (r : Int32) (u : Unit) => (r = m_has_c 24)) (fun (_ : Unit) (_ : State) => True) (va_A [] sz)) 0 0 (va_A [] sz) := by
  refine Met.ofW (cc := cX12_hasRead) (maxL := 2) (ret := (some .int)) (by decide) rfl ?_
  intro p e s mth args below meth c s₁ B hml hv
  obtain ⟨rfl, hsz, hP, hK⟩ := hv
  have hx := B.exec
  have hb := B.bytes
  have hr := B.returns
  have hts := atoms_spec (ws := v_X12_hasRead4) B.pre
  have hown : s.vm.findClass RX12 = some mth.cls := findClass_of_methodNamed B.named
  have hlocks := B.notSynchronized
  clear B
  subst hsz
  have iX12 : ∀ w ∈ wsX120, w ∈ v_X12_hasRead4 := (fun _ h => List.mem_cons_of_mem _ (List.mem_append_right _ (List.mem_append_left _ h)))
  generalize hAe : (va_A [] s.heap.size) = A
  have hA : ∀ q : Nat, s.heap.size ≤ q → A q := fun q h => by rw [← hAe]; exact Or.inr h
  have hS : va_S A s.heap s.heap [] := va_S.rf
  have hl := lv_entry ([.ref m, .int 4]) (n := 2) (Nat.le_of_ble_eq_true rfl)
  rw [lg_entry_eq]
  generalize (lg_sl ([.ref m, .int 4]) ++ List.replicate (2 - (lg_sl ([.ref m, .int 4])).length) Slot.unset).toArray = ls at hl ⊢
  generalize ([.ref m, .int 4] : List Value).toArray = av at hts ⊢
  generalize hQ : MQ below _ av s _ _ A = QQ
  have hl : lv_has ls 2 [(0, .ref m), (1, .int 4)] := hl
  have hP : va_P g vwCl [(m, .inr (11, mG m_a m_thrown m_taped m_at m_token m_place m_value m_word m_bad m_badPlace m_fault m_faultPlace m_willing m_will m_forgot m_isDrawn m_x m_begin m_round m_roundCards m_fate m_any m_bothSend m_meanCards m_bestSum m_fitMany m_fitFirst m_fitSecond)), ((m_a 17), .inl (cI, 25, .inl m_has_c))] s.heap := hP
  refine lv_aload_n hx hb dX12_hasRead_0 rfl (lv_at hl 0 rfl) ?_
  refine va_get (D := g) (ci := 11) (v := .ref (m_a 17)) (C := RX12) (T := TX12) (N := 56) hx hb hts iX12 hown hK hP 0 rfl rfl 17 (by decide) (hts (.fieldLink RX12 34 "CardsAtYuleModel" "has" "[I") (List.mem_cons_of_mem _ (List.mem_append_left _ (List.mem_of_getElem? (i := 0) rfl)))) (fun _ h9 => h9) rfl dX12_hasRead_1 ?_
  refine lv_bipush (v := 20) hx hb dX12_hasRead_4 (by decide) ?_
  refine lv_iload_n hx hb dX12_hasRead_6 rfl (lv_at hl 1 rfl) ?_
  refine lv_iadd hx hb dX12_hasRead_7 ?_
  refine lv_topi (nm_r (e' := 24) (by decide) ?_)
  refine va_iald (D := g) hx hb hK hP 1 0 rfl rfl (vc_in (by decide)) dX12_hasRead_8 ?_
  refine lv_topi (nm_r (e' := (m_has_c 24)) rfl ?_)
  have r8 : ir (m_has_c 24).toInt 0 16 := hasI_4 ha_m_has_c 4 (by decide)
  subst hQ
  exact W.iret (v := (m_has_c 24)) hx hb hr (fun t ht hW => ⟨⟨(m_has_c 24), (), rfl, rfl, trivial⟩, hS.F ht⟩) hS.2.2 dX12_hasRead_9
def v_X12_personHere : List Cond := .code yX12_personHere cX12_personHere 1 (some .int) :: (([.methodLink RX12 189 yX12_hasRead, .instanceMethod yX12_hasRead, .selects RX12 yX12_hasRead yX12_hasRead, .initialized RX12, .methodLink RX12 182 yX12_number, .instanceMethod yX12_number, .selects RX12 yX12_number yX12_number] : List Cond) ++ (v_X12_hasRead3 ++ (v_X12_number ++ ([] : List Cond))))
theorem good_v_X12_personHere : v_X12_personHere.all goodWord = true := ga_c (by decide +kernel) (ga_a (by decide +kernel) (ga_a good_v_X12_hasRead3 (ga_a good_v_X12_number rfl)))
set_option maxHeartbeats 4000000 in
set_option maxRecDepth 100000 in
theorem q_X12_personHere (l : Launch) (g : va_G) (cI cJ cB cZ cL : ClassId) (m : Nat) (m_a : Nat → Nat) (m_thrown : Int32) (m_taped : Int32) (m_at : Int32) (m_token : Int32) (m_place : Int32) (m_value : Int32) (m_word : Int64) (m_bad : Int32) (m_badPlace : Int32) (m_fault : Int32) (m_faultPlace : Int32) (m_willing : Int32) (m_will : Int32) (m_forgot : Int32) (m_isDrawn : Int32) (m_x : Int64) (m_begin : Int32) (m_round : Int32) (m_roundCards : Int32) (m_fate : Int32) (m_any : Int64) (m_bothSend : Int64) (m_meanCards : Int64) (m_bestSum : Int32) (m_fitMany : Int32) (m_fitFirst : Int64) (m_fitSecond : Int64) (m_has_c : Nat → Int32) (m_tape_c : Nat → Int32) (sz : Nat) (hv_m_taped : ir m_taped.toInt 0 1600) (hv_m_at : ir m_at.toInt 0 1600) (hv_m_will : ir m_will.toInt 0 1) (hv_m_isDrawn : ir m_isDrawn.toInt 0 1) (ha_m_has_c : hasI m_has_c) (hx_0 : m_at.toInt ≤ m_taped.toInt) : Met l yX12_personHere v_X12_personHere ({ frames := 3, cells := 0, slots := 0, locals := 67 }) (va_Pc [.ref m] (pRW g (tyT cI cJ cB cZ cL) [(m, .inr (11, mG m_a m_thrown m_taped m_at m_token m_place m_value m_word m_bad m_badPlace m_fault m_faultPlace m_willing m_will m_forgot m_isDrawn m_x m_begin m_round m_roundCards m_fate m_any m_bothSend m_meanCards m_bestSum m_fitMany m_fitFirst m_fitSecond)), ((m_a 17), .inl (cI, 25, .inl m_has_c)), ((m_a 5), .inl (cB, 1600, .inl m_tape_c))] sz)) (va_Qi (fun (r : Int32) (u : Int32 × Int32 × Int32 × Int32 × Int64 × Int32 × Int32) => match u with | (n_m_at, n_m_token, n_m_place, n_m_value, n_m_word, n_m_bad, n_m_badPlace) => (ir n_m_at.toInt 0 1600) ∧ ((n_m_at.toInt = m_at.toInt ∧ n_m_token.toInt = m_token.toInt) ∨ (m_at.toInt ≤ n_m_at.toInt ∧ n_m_at.toInt ≤ m_taped.toInt ∧ 0 ≤ n_m_token.toInt ∧ n_m_token.toInt ≤ 4 ∧ (m_at.toInt < n_m_at.toInt ∨ (n_m_token.toInt = 0 ∧ n_m_at.toInt = m_taped.toInt)))) ∧ (ir r.toInt 0 9)) (fun (u : Int32 × Int32 × Int32 × Int32 × Int64 × Int32 × Int32) (t : State) => bRW g (tyT cI cJ cB cZ cL) (va_A [(m, .inr (11, mG m_a m_thrown m_taped m_at m_token m_place m_value m_word m_bad m_badPlace m_fault m_faultPlace m_willing m_will m_forgot m_isDrawn m_x m_begin m_round m_roundCards m_fate m_any m_bothSend m_meanCards m_bestSum m_fitMany m_fitFirst m_fitSecond)), ((m_a 17), .inl (cI, 25, .inl m_has_c)), ((m_a 5), .inl (cB, 1600, .inl m_tape_c))] sz) (match u with | (n_m_at, n_m_token, n_m_place, n_m_value, n_m_word, n_m_bad, n_m_badPlace) => [(m, .inr (11, mG m_a m_thrown m_taped n_m_at n_m_token n_m_place n_m_value n_m_word n_m_bad n_m_badPlace m_fault m_faultPlace m_willing m_will m_forgot m_isDrawn m_x m_begin m_round m_roundCards m_fate m_any m_bothSend m_meanCards m_bestSum m_fitMany m_fitFirst m_fitSecond)), ((m_a 17), .inl (cI, 25, .inl m_has_c)), ((m_a 5), .inl (cB, 1600, .inl m_tape_c))]) t) (va_A [(m, .inr (11, mG m_a m_thrown m_taped m_at m_token m_place m_value m_word m_bad m_badPlace m_fault m_faultPlace m_willing m_will m_forgot m_isDrawn m_x m_begin m_round m_roundCards m_fate m_any m_bothSend m_meanCards m_bestSum m_fitMany m_fitFirst m_fitSecond)), ((m_a 17), .inl (cI, 25, .inl m_has_c)), ((m_a 5), .inl (cB, 1600, .inl m_tape_c))] sz)) 0 0 (va_A [(m, .inr (11, mG m_a m_thrown m_taped m_at m_token m_place m_value m_word m_bad m_badPlace m_fault m_faultPlace m_willing m_will m_forgot m_isDrawn m_x m_begin m_round m_roundCards m_fate m_any m_bothSend m_meanCards m_bestSum m_fitMany m_fitFirst m_fitSecond)), ((m_a 17), .inl (cI, 25, .inl m_has_c)), ((m_a 5), .inl (cB, 1600, .inl m_tape_c))] sz) := by
  refine Met.ofW (cc := cX12_personHere) (maxL := 1) (ret := (some .int)) (by decide) rfl ?_
  intro p e s mth args below meth c s₁ B hml hv
  obtain ⟨rfl, hsz, hP, hK, hD0⟩ := hv
  have hx := B.exec
  have hb := B.bytes
  have hr := B.returns
  have hts := atoms_spec (ws := v_X12_personHere) B.pre
  have hown : s.vm.findClass RX12 = some mth.cls := findClass_of_methodNamed B.named
  have hlocks := B.notSynchronized
  clear B
  subst hsz
  have hD := hD0.self (sz := s.heap.size)
  generalize hAe : (va_A [(m, .inr (11, mG m_a m_thrown m_taped m_at m_token m_place m_value m_word m_bad m_badPlace m_fault m_faultPlace m_willing m_will m_forgot m_isDrawn m_x m_begin m_round m_roundCards m_fate m_any m_bothSend m_meanCards m_bestSum m_fitMany m_fitFirst m_fitSecond)), ((m_a 17), .inl (cI, 25, .inl m_has_c)), ((m_a 5), .inl (cB, 1600, .inl m_tape_c))] s.heap.size) = A at hD ⊢
  have hA : ∀ q : Nat, s.heap.size ≤ q → A q := fun q h => by rw [← hAe]; exact Or.inr h
  have hS : va_S A s.heap s.heap [] := va_S.rf
  have hl := lv_entry ([.ref m]) (n := 1) (Nat.le_of_ble_eq_true rfl)
  rw [lg_entry_eq]
  generalize (lg_sl ([.ref m]) ++ List.replicate (1 - (lg_sl ([.ref m])).length) Slot.unset).toArray = ls at hl ⊢
  generalize ([.ref m] : List Value).toArray = av at hts ⊢
  generalize hQ : MQ below _ av s _ _ A = QQ
  have hl : lv_has ls 1 [(0, .ref m)] := hl
  have hP : va_P g vwCl [(m, .inr (11, mG m_a m_thrown m_taped m_at m_token m_place m_value m_word m_bad m_badPlace m_fault m_faultPlace m_willing m_will m_forgot m_isDrawn m_x m_begin m_round m_roundCards m_fate m_any m_bothSend m_meanCards m_bestSum m_fitMany m_fitFirst m_fitSecond)), ((m_a 17), .inl (cI, 25, .inl m_has_c)), ((m_a 5), .inl (cB, 1600, .inl m_tape_c))] s.heap := hP
  refine lv_aload_n hx hb dX12_personHere_0 rfl (lv_at hl 0 rfl) ?_
  refine lv_iconst (v := 0) hx hb dX12_personHere_1 (by decide) ?_
  refine lv_aload_n hx hb dX12_personHere_2 rfl (lv_at hl 0 rfl) ?_
  refine lv_iconst (v := 3) hx hb dX12_personHere_3 (by decide) ?_
  refine ro_i (va_runV (As := [.int 3]) (rest := [.int 0, .ref m]) ⟨hx, hb, hml, hown, hts⟩ (q_X12_hasRead3 l g cI cJ cB cZ cL m m_a m_thrown m_taped m_at m_token m_place m_value m_word m_bad m_badPlace m_fault m_faultPlace m_willing m_will m_forgot m_isDrawn m_x m_begin m_round m_roundCards m_fate m_any m_bothSend m_meanCards m_bestSum m_fitMany m_fitFirst m_fitSecond m_has_c s.heap.size hv_m_taped hv_m_at hv_m_will hv_m_isDrawn ha_m_has_c) (cwV 1 hts (goodIn_app (g_4 (List.mem_cons_of_mem _ (List.mem_append_left _ (List.mem_of_getElem? (i := 0) rfl))) (List.mem_cons_of_mem _ (List.mem_append_left _ (List.mem_of_getElem? (i := 1) rfl))) (List.mem_cons_of_mem _ (List.mem_append_left _ (List.mem_of_getElem? (i := 2) rfl))) (List.mem_cons_of_mem _ (List.mem_append_left _ (List.mem_of_getElem? (i := 3) rfl))) (by decide +kernel)) (goodIn_sub (fun _ h => List.mem_cons_of_mem _ (List.mem_append_right _ (List.mem_append_left _ h))) good_v_X12_hasRead3)) rfl rfl rfl (by decide +kernel) ⟨Nat.le_of_ble_eq_true rfl, Nat.le_of_ble_eq_true rfl⟩) (pv_RO (q := (RX12, TX12, 56)) (ci := 11) (q0 := 0) (wc := [(m, .inr (11, mG m_a m_thrown m_taped m_at m_token m_place m_value m_word m_bad m_badPlace m_fault m_faultPlace m_willing m_will m_forgot m_isDrawn m_x m_begin m_round m_roundCards m_fate m_any m_bothSend m_meanCards m_bestSum m_fitMany m_fitFirst m_fitSecond)), ((m_a 17), .inl (cI, 25, .inl m_has_c))]) hK hP [0, 1] rfl rfl rfl) rfl rfl hl.1 rfl (lv_room (Nat.le_of_ble_eq_true rfl)) dX12_personHere_4 ⟨Nat.le_of_ble_eq_true rfl, Nat.le_of_ble_eq_true rfl⟩) hS hA hP (fun r4 u4 H locs hw4 hP hS => ?_)
  have hw4_0 := hw4
  subst hw4_0
  have rt4 : ir (m_has_c 23).toInt 0 10 := hasI_3 ha_m_has_c 4 (by decide)
  refine lv_iconst (v := 1) hx hb dX12_personHere_7 (by decide) ?_
  refine lv_isub hx hb dX12_personHere_8 ?_
  refine lv_topi (fun y8 e8 => ?_)
  have q8 : y8.toInt = (m_has_c 23).toInt - 1 := by rw [e8]; exact su_z rfl rfl rt4 (ir_c 1) (by decide) (by decide)
  have r8 : ir y8.toInt (-1) 9 := su_r q8 rt4 (ir_c 1) (by decide) (by decide)
  refine rw_i (wr := [((m_a 17), .inl (cI, 25, .inl m_has_c))]) (va_runV (As := [.int 0, .int y8]) (rest := []) ⟨hx, hb, hml, hown, hts⟩ (q_X12_number l g cI cJ cB cZ cL 0 y8 m m_a m_thrown m_taped m_at m_token m_place m_value m_word m_bad m_badPlace m_fault m_faultPlace m_willing m_will m_forgot m_isDrawn m_x m_begin m_round m_roundCards m_fate m_any m_bothSend m_meanCards m_bestSum m_fitMany m_fitFirst m_fitSecond m_tape_c H.size hv_m_taped hv_m_at hv_m_will hv_m_isDrawn (by omega)) (cwV 2 hts (goodIn_app (g_4 (List.mem_cons_of_mem _ (List.mem_append_left _ (List.mem_of_getElem? (i := 4) rfl))) (List.mem_cons_of_mem _ (List.mem_append_left _ (List.mem_of_getElem? (i := 5) rfl))) (List.mem_cons_of_mem _ (List.mem_append_left _ (List.mem_of_getElem? (i := 6) rfl))) (List.mem_cons_of_mem _ (List.mem_append_left _ (List.mem_of_getElem? (i := 3) rfl))) (by decide +kernel)) (goodIn_sub (fun _ h => List.mem_cons_of_mem _ (List.mem_append_right _ (List.mem_append_right _ (List.mem_append_left _ h)))) good_v_X12_number)) rfl rfl rfl (by decide +kernel) ⟨Nat.le_of_ble_eq_true rfl, Nat.le_of_ble_eq_true rfl⟩) (pv_RW (q := (RX12, TX12, 56)) (ci := 11) (q0 := 0) (wc := [(m, .inr (11, mG m_a m_thrown m_taped m_at m_token m_place m_value m_word m_bad m_badPlace m_fault m_faultPlace m_willing m_will m_forgot m_isDrawn m_x m_begin m_round m_roundCards m_fate m_any m_bothSend m_meanCards m_bestSum m_fitMany m_fitFirst m_fitSecond)), ((m_a 5), .inl (cB, 1600, .inl m_tape_c))]) hK hP hD [0, 2] (by decide) rfl rfl rfl) rfl rfl hl.1 rfl (lv_room (Nat.le_of_ble_eq_true rfl)) dX12_personHere_9 ⟨Nat.le_of_ble_eq_true rfl, Nat.le_of_ble_eq_true rfl⟩) hS hA hP hD [0, 2] [1] rfl rfl (by decide) (by decide) (fun r9 u9 H locs hw9 hP hD hS => ?_)
  obtain ⟨n_m_at_9, n_m_token_9, n_m_place_9, n_m_value_9, n_m_word_9, n_m_bad_9, n_m_badPlace_9⟩ := u9
  have hP : va_P g vwCl [((m_a 17), .inl (cI, 25, .inl m_has_c)), (m, .inr (11, mG m_a m_thrown m_taped n_m_at_9 n_m_token_9 n_m_place_9 n_m_value_9 n_m_word_9 n_m_bad_9 n_m_badPlace_9 m_fault m_faultPlace m_willing m_will m_forgot m_isDrawn m_x m_begin m_round m_roundCards m_fate m_any m_bothSend m_meanCards m_bestSum m_fitMany m_fitFirst m_fitSecond)), ((m_a 5), .inl (cB, 1600, .inl m_tape_c))] H := hP
  have hD : va_D A [((m_a 17), .inl (cI, 25, .inl m_has_c)), (m, .inr (11, mG m_a m_thrown m_taped n_m_at_9 n_m_token_9 n_m_place_9 n_m_value_9 n_m_word_9 n_m_bad_9 n_m_badPlace_9 m_fault m_faultPlace m_willing m_will m_forgot m_isDrawn m_x m_begin m_round m_roundCards m_fate m_any m_bothSend m_meanCards m_bestSum m_fitMany m_fitFirst m_fitSecond)), ((m_a 5), .inl (cB, 1600, .inl m_tape_c))] := hD
  dsimp only at hw9
  obtain ⟨hw9_0, hw9_1, hw9_2⟩ := hw9
  have hw9_1 : (n_m_at_9.toInt = m_at.toInt ∧ n_m_token_9.toInt = m_token.toInt) ∨ (m_at.toInt ≤ n_m_at_9.toInt ∧ n_m_at_9.toInt ≤ m_taped.toInt ∧ 0 ≤ n_m_token_9.toInt ∧ n_m_token_9.toInt ≤ 4 ∧ (m_at.toInt < n_m_at_9.toInt ∨ (n_m_token_9.toInt = 0 ∧ n_m_at_9.toInt = m_taped.toInt))) := hw9_1
  have hw9_2 : r9.toInt = 0 ∨ (0 ≤ r9.toInt ∧ r9.toInt ≤ y8.toInt) := hw9_2
  have rc9 : ir r9.toInt 0 9 := by omega
  subst hQ
  have hP9 := hP.sub (ws' := [(m, .inr (11, mG m_a m_thrown m_taped n_m_at_9 n_m_token_9 n_m_place_9 n_m_value_9 n_m_word_9 n_m_bad_9 n_m_badPlace_9 m_fault m_faultPlace m_willing m_will m_forgot m_isDrawn m_x m_begin m_round m_roundCards m_fate m_any m_bothSend m_meanCards m_bestSum m_fitMany m_fitFirst m_fitSecond)), ((m_a 17), .inl (cI, 25, .inl m_has_c)), ((m_a 5), .inl (cB, 1600, .inl m_tape_c))]) [1, 0, 2] rfl
  have hD9 := hD.sub (ws' := [(m, .inr (11, mG m_a m_thrown m_taped n_m_at_9 n_m_token_9 n_m_place_9 n_m_value_9 n_m_word_9 n_m_bad_9 n_m_badPlace_9 m_fault m_faultPlace m_willing m_will m_forgot m_isDrawn m_x m_begin m_round m_roundCards m_fate m_any m_bothSend m_meanCards m_bestSum m_fitMany m_fitFirst m_fitSecond)), ((m_a 17), .inl (cI, 25, .inl m_has_c)), ((m_a 5), .inl (cB, 1600, .inl m_tape_c))]) [1, 0, 2] (by decide) rfl
  exact W.iret (v := r9) hx hb hr (fun t ht hW => ⟨⟨r9, (n_m_at_9, n_m_token_9, n_m_place_9, n_m_value_9, n_m_word_9, n_m_bad_9, n_m_badPlace_9), rfl, ⟨hw9_0, (by omega), rc9⟩, ⟨by rw [ht]; exact hP9, va_K.moved hW.alike hK, hD9⟩⟩, hS.F ht⟩) hS.2.2 dX12_personHere_12
def v_X12_yearHere : List Cond := .code yX12_yearHere cX12_yearHere 1 (some .int) :: (([.methodLink RX12 189 yX12_hasRead, .instanceMethod yX12_hasRead, .selects RX12 yX12_hasRead yX12_hasRead, .initialized RX12, .methodLink RX12 182 yX12_number, .instanceMethod yX12_number, .selects RX12 yX12_number yX12_number] : List Cond) ++ (v_X12_hasRead0 ++ (v_X12_number ++ ([] : List Cond))))
theorem good_v_X12_yearHere : v_X12_yearHere.all goodWord = true := ga_c (by decide +kernel) (ga_a (by decide +kernel) (ga_a good_v_X12_hasRead0 (ga_a good_v_X12_number rfl)))
set_option maxHeartbeats 4000000 in
set_option maxRecDepth 100000 in
theorem q_X12_yearHere (l : Launch) (g : va_G) (cI cJ cB cZ cL : ClassId) (m : Nat) (m_a : Nat → Nat) (m_thrown : Int32) (m_taped : Int32) (m_at : Int32) (m_token : Int32) (m_place : Int32) (m_value : Int32) (m_word : Int64) (m_bad : Int32) (m_badPlace : Int32) (m_fault : Int32) (m_faultPlace : Int32) (m_willing : Int32) (m_will : Int32) (m_forgot : Int32) (m_isDrawn : Int32) (m_x : Int64) (m_begin : Int32) (m_round : Int32) (m_roundCards : Int32) (m_fate : Int32) (m_any : Int64) (m_bothSend : Int64) (m_meanCards : Int64) (m_bestSum : Int32) (m_fitMany : Int32) (m_fitFirst : Int64) (m_fitSecond : Int64) (m_has_c : Nat → Int32) (m_tape_c : Nat → Int32) (sz : Nat) (hv_m_taped : ir m_taped.toInt 0 1600) (hv_m_at : ir m_at.toInt 0 1600) (hv_m_will : ir m_will.toInt 0 1) (hv_m_isDrawn : ir m_isDrawn.toInt 0 1) (ha_m_has_c : hasI m_has_c) (hx_0 : m_at.toInt ≤ m_taped.toInt) : Met l yX12_yearHere v_X12_yearHere ({ frames := 3, cells := 0, slots := 0, locals := 67 }) (va_Pc [.ref m] (pRW g (tyT cI cJ cB cZ cL) [(m, .inr (11, mG m_a m_thrown m_taped m_at m_token m_place m_value m_word m_bad m_badPlace m_fault m_faultPlace m_willing m_will m_forgot m_isDrawn m_x m_begin m_round m_roundCards m_fate m_any m_bothSend m_meanCards m_bestSum m_fitMany m_fitFirst m_fitSecond)), ((m_a 17), .inl (cI, 25, .inl m_has_c)), ((m_a 5), .inl (cB, 1600, .inl m_tape_c))] sz)) (va_Qi (fun (r : Int32) (u : Int32 × Int32 × Int32 × Int32 × Int64 × Int32 × Int32) => match u with | (n_m_at, n_m_token, n_m_place, n_m_value, n_m_word, n_m_bad, n_m_badPlace) => (ir n_m_at.toInt 0 1600) ∧ ((n_m_at.toInt = m_at.toInt ∧ n_m_token.toInt = m_token.toInt) ∨ (m_at.toInt ≤ n_m_at.toInt ∧ n_m_at.toInt ≤ m_taped.toInt ∧ 0 ≤ n_m_token.toInt ∧ n_m_token.toInt ≤ 4 ∧ (m_at.toInt < n_m_at.toInt ∨ (n_m_token.toInt = 0 ∧ n_m_at.toInt = m_taped.toInt)))) ∧ (ir r.toInt 0 39)) (fun (u : Int32 × Int32 × Int32 × Int32 × Int64 × Int32 × Int32) (t : State) => bRW g (tyT cI cJ cB cZ cL) (va_A [(m, .inr (11, mG m_a m_thrown m_taped m_at m_token m_place m_value m_word m_bad m_badPlace m_fault m_faultPlace m_willing m_will m_forgot m_isDrawn m_x m_begin m_round m_roundCards m_fate m_any m_bothSend m_meanCards m_bestSum m_fitMany m_fitFirst m_fitSecond)), ((m_a 17), .inl (cI, 25, .inl m_has_c)), ((m_a 5), .inl (cB, 1600, .inl m_tape_c))] sz) (match u with | (n_m_at, n_m_token, n_m_place, n_m_value, n_m_word, n_m_bad, n_m_badPlace) => [(m, .inr (11, mG m_a m_thrown m_taped n_m_at n_m_token n_m_place n_m_value n_m_word n_m_bad n_m_badPlace m_fault m_faultPlace m_willing m_will m_forgot m_isDrawn m_x m_begin m_round m_roundCards m_fate m_any m_bothSend m_meanCards m_bestSum m_fitMany m_fitFirst m_fitSecond)), ((m_a 17), .inl (cI, 25, .inl m_has_c)), ((m_a 5), .inl (cB, 1600, .inl m_tape_c))]) t) (va_A [(m, .inr (11, mG m_a m_thrown m_taped m_at m_token m_place m_value m_word m_bad m_badPlace m_fault m_faultPlace m_willing m_will m_forgot m_isDrawn m_x m_begin m_round m_roundCards m_fate m_any m_bothSend m_meanCards m_bestSum m_fitMany m_fitFirst m_fitSecond)), ((m_a 17), .inl (cI, 25, .inl m_has_c)), ((m_a 5), .inl (cB, 1600, .inl m_tape_c))] sz)) 0 0 (va_A [(m, .inr (11, mG m_a m_thrown m_taped m_at m_token m_place m_value m_word m_bad m_badPlace m_fault m_faultPlace m_willing m_will m_forgot m_isDrawn m_x m_begin m_round m_roundCards m_fate m_any m_bothSend m_meanCards m_bestSum m_fitMany m_fitFirst m_fitSecond)), ((m_a 17), .inl (cI, 25, .inl m_has_c)), ((m_a 5), .inl (cB, 1600, .inl m_tape_c))] sz) := by
  refine Met.ofW (cc := cX12_yearHere) (maxL := 1) (ret := (some .int)) (by decide) rfl ?_
  intro p e s mth args below meth c s₁ B hml hv
  obtain ⟨rfl, hsz, hP, hK, hD0⟩ := hv
  have hx := B.exec
  have hb := B.bytes
  have hr := B.returns
  have hts := atoms_spec (ws := v_X12_yearHere) B.pre
  have hown : s.vm.findClass RX12 = some mth.cls := findClass_of_methodNamed B.named
  have hlocks := B.notSynchronized
  clear B
  subst hsz
  have hD := hD0.self (sz := s.heap.size)
  generalize hAe : (va_A [(m, .inr (11, mG m_a m_thrown m_taped m_at m_token m_place m_value m_word m_bad m_badPlace m_fault m_faultPlace m_willing m_will m_forgot m_isDrawn m_x m_begin m_round m_roundCards m_fate m_any m_bothSend m_meanCards m_bestSum m_fitMany m_fitFirst m_fitSecond)), ((m_a 17), .inl (cI, 25, .inl m_has_c)), ((m_a 5), .inl (cB, 1600, .inl m_tape_c))] s.heap.size) = A at hD ⊢
  have hA : ∀ q : Nat, s.heap.size ≤ q → A q := fun q h => by rw [← hAe]; exact Or.inr h
  have hS : va_S A s.heap s.heap [] := va_S.rf
  have hl := lv_entry ([.ref m]) (n := 1) (Nat.le_of_ble_eq_true rfl)
  rw [lg_entry_eq]
  generalize (lg_sl ([.ref m]) ++ List.replicate (1 - (lg_sl ([.ref m])).length) Slot.unset).toArray = ls at hl ⊢
  generalize ([.ref m] : List Value).toArray = av at hts ⊢
  generalize hQ : MQ below _ av s _ _ A = QQ
  have hl : lv_has ls 1 [(0, .ref m)] := hl
  have hP : va_P g vwCl [(m, .inr (11, mG m_a m_thrown m_taped m_at m_token m_place m_value m_word m_bad m_badPlace m_fault m_faultPlace m_willing m_will m_forgot m_isDrawn m_x m_begin m_round m_roundCards m_fate m_any m_bothSend m_meanCards m_bestSum m_fitMany m_fitFirst m_fitSecond)), ((m_a 17), .inl (cI, 25, .inl m_has_c)), ((m_a 5), .inl (cB, 1600, .inl m_tape_c))] s.heap := hP
  refine lv_aload_n hx hb dX12_yearHere_0 rfl (lv_at hl 0 rfl) ?_
  refine lv_iconst (v := 0) hx hb dX12_yearHere_1 (by decide) ?_
  refine lv_aload_n hx hb dX12_yearHere_2 rfl (lv_at hl 0 rfl) ?_
  refine lv_iconst (v := 0) hx hb dX12_yearHere_3 (by decide) ?_
  refine ro_i (va_runV (As := [.int 0]) (rest := [.int 0, .ref m]) ⟨hx, hb, hml, hown, hts⟩ (q_X12_hasRead0 l g cI cJ cB cZ cL m m_a m_thrown m_taped m_at m_token m_place m_value m_word m_bad m_badPlace m_fault m_faultPlace m_willing m_will m_forgot m_isDrawn m_x m_begin m_round m_roundCards m_fate m_any m_bothSend m_meanCards m_bestSum m_fitMany m_fitFirst m_fitSecond m_has_c s.heap.size hv_m_taped hv_m_at hv_m_will hv_m_isDrawn ha_m_has_c) (cwV 1 hts (goodIn_app (g_4 (List.mem_cons_of_mem _ (List.mem_append_left _ (List.mem_of_getElem? (i := 0) rfl))) (List.mem_cons_of_mem _ (List.mem_append_left _ (List.mem_of_getElem? (i := 1) rfl))) (List.mem_cons_of_mem _ (List.mem_append_left _ (List.mem_of_getElem? (i := 2) rfl))) (List.mem_cons_of_mem _ (List.mem_append_left _ (List.mem_of_getElem? (i := 3) rfl))) (by decide +kernel)) (goodIn_sub (fun _ h => List.mem_cons_of_mem _ (List.mem_append_right _ (List.mem_append_left _ h))) good_v_X12_hasRead0)) rfl rfl rfl (by decide +kernel) ⟨Nat.le_of_ble_eq_true rfl, Nat.le_of_ble_eq_true rfl⟩) (pv_RO (q := (RX12, TX12, 56)) (ci := 11) (q0 := 0) (wc := [(m, .inr (11, mG m_a m_thrown m_taped m_at m_token m_place m_value m_word m_bad m_badPlace m_fault m_faultPlace m_willing m_will m_forgot m_isDrawn m_x m_begin m_round m_roundCards m_fate m_any m_bothSend m_meanCards m_bestSum m_fitMany m_fitFirst m_fitSecond)), ((m_a 17), .inl (cI, 25, .inl m_has_c))]) hK hP [0, 1] rfl rfl rfl) rfl rfl hl.1 rfl (lv_room (Nat.le_of_ble_eq_true rfl)) dX12_yearHere_4 ⟨Nat.le_of_ble_eq_true rfl, Nat.le_of_ble_eq_true rfl⟩) hS hA hP (fun r4 u4 H locs hw4 hP hS => ?_)
  have hw4_0 := hw4
  subst hw4_0
  have rt4 : ir (m_has_c 20).toInt 0 40 := hasI_0 ha_m_has_c 4 (by decide)
  refine lv_iconst (v := 1) hx hb dX12_yearHere_7 (by decide) ?_
  refine lv_isub hx hb dX12_yearHere_8 ?_
  refine lv_topi (fun y8 e8 => ?_)
  have q8 : y8.toInt = (m_has_c 20).toInt - 1 := by rw [e8]; exact su_z rfl rfl rt4 (ir_c 1) (by decide) (by decide)
  have r8 : ir y8.toInt (-1) 39 := su_r q8 rt4 (ir_c 1) (by decide) (by decide)
  refine rw_i (wr := [((m_a 17), .inl (cI, 25, .inl m_has_c))]) (va_runV (As := [.int 0, .int y8]) (rest := []) ⟨hx, hb, hml, hown, hts⟩ (q_X12_number l g cI cJ cB cZ cL 0 y8 m m_a m_thrown m_taped m_at m_token m_place m_value m_word m_bad m_badPlace m_fault m_faultPlace m_willing m_will m_forgot m_isDrawn m_x m_begin m_round m_roundCards m_fate m_any m_bothSend m_meanCards m_bestSum m_fitMany m_fitFirst m_fitSecond m_tape_c H.size hv_m_taped hv_m_at hv_m_will hv_m_isDrawn (by omega)) (cwV 2 hts (goodIn_app (g_4 (List.mem_cons_of_mem _ (List.mem_append_left _ (List.mem_of_getElem? (i := 4) rfl))) (List.mem_cons_of_mem _ (List.mem_append_left _ (List.mem_of_getElem? (i := 5) rfl))) (List.mem_cons_of_mem _ (List.mem_append_left _ (List.mem_of_getElem? (i := 6) rfl))) (List.mem_cons_of_mem _ (List.mem_append_left _ (List.mem_of_getElem? (i := 3) rfl))) (by decide +kernel)) (goodIn_sub (fun _ h => List.mem_cons_of_mem _ (List.mem_append_right _ (List.mem_append_right _ (List.mem_append_left _ h)))) good_v_X12_number)) rfl rfl rfl (by decide +kernel) ⟨Nat.le_of_ble_eq_true rfl, Nat.le_of_ble_eq_true rfl⟩) (pv_RW (q := (RX12, TX12, 56)) (ci := 11) (q0 := 0) (wc := [(m, .inr (11, mG m_a m_thrown m_taped m_at m_token m_place m_value m_word m_bad m_badPlace m_fault m_faultPlace m_willing m_will m_forgot m_isDrawn m_x m_begin m_round m_roundCards m_fate m_any m_bothSend m_meanCards m_bestSum m_fitMany m_fitFirst m_fitSecond)), ((m_a 5), .inl (cB, 1600, .inl m_tape_c))]) hK hP hD [0, 2] (by decide) rfl rfl rfl) rfl rfl hl.1 rfl (lv_room (Nat.le_of_ble_eq_true rfl)) dX12_yearHere_9 ⟨Nat.le_of_ble_eq_true rfl, Nat.le_of_ble_eq_true rfl⟩) hS hA hP hD [0, 2] [1] rfl rfl (by decide) (by decide) (fun r9 u9 H locs hw9 hP hD hS => ?_)
  obtain ⟨n_m_at_9, n_m_token_9, n_m_place_9, n_m_value_9, n_m_word_9, n_m_bad_9, n_m_badPlace_9⟩ := u9
  have hP : va_P g vwCl [((m_a 17), .inl (cI, 25, .inl m_has_c)), (m, .inr (11, mG m_a m_thrown m_taped n_m_at_9 n_m_token_9 n_m_place_9 n_m_value_9 n_m_word_9 n_m_bad_9 n_m_badPlace_9 m_fault m_faultPlace m_willing m_will m_forgot m_isDrawn m_x m_begin m_round m_roundCards m_fate m_any m_bothSend m_meanCards m_bestSum m_fitMany m_fitFirst m_fitSecond)), ((m_a 5), .inl (cB, 1600, .inl m_tape_c))] H := hP
  have hD : va_D A [((m_a 17), .inl (cI, 25, .inl m_has_c)), (m, .inr (11, mG m_a m_thrown m_taped n_m_at_9 n_m_token_9 n_m_place_9 n_m_value_9 n_m_word_9 n_m_bad_9 n_m_badPlace_9 m_fault m_faultPlace m_willing m_will m_forgot m_isDrawn m_x m_begin m_round m_roundCards m_fate m_any m_bothSend m_meanCards m_bestSum m_fitMany m_fitFirst m_fitSecond)), ((m_a 5), .inl (cB, 1600, .inl m_tape_c))] := hD
  dsimp only at hw9
  obtain ⟨hw9_0, hw9_1, hw9_2⟩ := hw9
  have hw9_1 : (n_m_at_9.toInt = m_at.toInt ∧ n_m_token_9.toInt = m_token.toInt) ∨ (m_at.toInt ≤ n_m_at_9.toInt ∧ n_m_at_9.toInt ≤ m_taped.toInt ∧ 0 ≤ n_m_token_9.toInt ∧ n_m_token_9.toInt ≤ 4 ∧ (m_at.toInt < n_m_at_9.toInt ∨ (n_m_token_9.toInt = 0 ∧ n_m_at_9.toInt = m_taped.toInt))) := hw9_1
  have hw9_2 : r9.toInt = 0 ∨ (0 ≤ r9.toInt ∧ r9.toInt ≤ y8.toInt) := hw9_2
  have rc9 : ir r9.toInt 0 39 := by omega
  subst hQ
  have hP9 := hP.sub (ws' := [(m, .inr (11, mG m_a m_thrown m_taped n_m_at_9 n_m_token_9 n_m_place_9 n_m_value_9 n_m_word_9 n_m_bad_9 n_m_badPlace_9 m_fault m_faultPlace m_willing m_will m_forgot m_isDrawn m_x m_begin m_round m_roundCards m_fate m_any m_bothSend m_meanCards m_bestSum m_fitMany m_fitFirst m_fitSecond)), ((m_a 17), .inl (cI, 25, .inl m_has_c)), ((m_a 5), .inl (cB, 1600, .inl m_tape_c))]) [1, 0, 2] rfl
  have hD9 := hD.sub (ws' := [(m, .inr (11, mG m_a m_thrown m_taped n_m_at_9 n_m_token_9 n_m_place_9 n_m_value_9 n_m_word_9 n_m_bad_9 n_m_badPlace_9 m_fault m_faultPlace m_willing m_will m_forgot m_isDrawn m_x m_begin m_round m_roundCards m_fate m_any m_bothSend m_meanCards m_bestSum m_fitMany m_fitFirst m_fitSecond)), ((m_a 17), .inl (cI, 25, .inl m_has_c)), ((m_a 5), .inl (cB, 1600, .inl m_tape_c))]) [1, 0, 2] (by decide) rfl
  exact W.iret (v := r9) hx hb hr (fun t ht hW => ⟨⟨r9, (n_m_at_9, n_m_token_9, n_m_place_9, n_m_value_9, n_m_word_9, n_m_bad_9, n_m_badPlace_9), rfl, ⟨hw9_0, (by omega), rc9⟩, ⟨by rw [ht]; exact hP9, va_K.moved hW.alike hK, hD9⟩⟩, hS.F ht⟩) hS.2.2 dX12_yearHere_12
def v_X12_isB : List Cond := .code yX12_is cX12_is 3 (some .boolean) :: (([.fieldLink RX12 159 "CardsAtYuleModel" "bad" "I", .fieldLink RX12 148 "CardsAtYuleModel" "token" "I", .fieldLink RX12 144 "CardsAtYuleModel" "word" "J"] : List Cond) ++ (wsX120 ++ ([] : List Cond)))
theorem good_v_X12_isB : v_X12_isB.all goodWord = true := ga_c (by decide +kernel) (ga_a (by decide +kernel) (ga_a good_wsX120 rfl))
set_option maxHeartbeats 4000000 in
set_option maxRecDepth 100000 in
theorem q_X12_isB (l : Launch) (g : va_G) (cI cJ cB cZ cL : ClassId) (p0 : Int64) (m : Nat) (m_a : Nat → Nat) (m_thrown : Int32) (m_taped : Int32) (m_at : Int32) (m_token : Int32) (m_place : Int32) (m_value : Int32) (m_word : Int64) (m_bad : Int32) (m_badPlace : Int32) (m_fault : Int32) (m_faultPlace : Int32) (m_willing : Int32) (m_will : Int32) (m_forgot : Int32) (m_isDrawn : Int32) (m_x : Int64) (m_begin : Int32) (m_round : Int32) (m_roundCards : Int32) (m_fate : Int32) (m_any : Int64) (m_bothSend : Int64) (m_meanCards : Int64) (m_bestSum : Int32) (m_fitMany : Int32) (m_fitFirst : Int64) (m_fitSecond : Int64) (sz : Nat) (hv_m_taped : ir m_taped.toInt 0 1600) (hv_m_at : ir m_at.toInt 0 1600) (hv_m_will : ir m_will.toInt 0 1) (hv_m_isDrawn : ir m_isDrawn.toInt 0 1) : Met l yX12_is v_X12_isB ({ frames := 0, cells := 0, slots := 0, locals := 0 }) (va_Pc [.ref m, .long p0] (pRO g (tyT cI cJ cB cZ cL) [(m, .inr (11, mG m_a m_thrown m_taped m_at m_token m_place m_value m_word m_bad m_badPlace m_fault m_faultPlace m_willing m_will m_forgot m_isDrawn m_x m_begin m_round m_roundCards m_fate m_any m_bothSend m_meanCards m_bestSum m_fitMany m_fitFirst m_fitSecond))] sz)) (va_Qi (fun (r : Int32) (u : Unit) => (ir r.toInt 0 1)) (fun (_ : Unit) (_ : State) => True) (va_A [] sz)) 0 0 (va_A [] sz) := by
  refine Met.ofW (cc := cX12_is) (maxL := 3) (ret := (some .boolean)) (by decide) rfl ?_
  intro p e s mth args below meth c s₁ B hml hv
  obtain ⟨rfl, hsz, hP, hK⟩ := hv
  have hx := B.exec
  have hb := B.bytes
  have hr := B.returns
  have hts := atoms_spec (ws := v_X12_isB) B.pre
  have hown : s.vm.findClass RX12 = some mth.cls := findClass_of_methodNamed B.named
  have hlocks := B.notSynchronized
  clear B
  subst hsz
  have iX12 : ∀ w ∈ wsX120, w ∈ v_X12_isB := (fun _ h => List.mem_cons_of_mem _ (List.mem_append_right _ (List.mem_append_left _ h)))
  generalize hAe : (va_A [] s.heap.size) = A
  have hA : ∀ q : Nat, s.heap.size ≤ q → A q := fun q h => by rw [← hAe]; exact Or.inr h
  have hS : va_S A s.heap s.heap [] := va_S.rf
  have hl := lv_entry ([.ref m, .long p0]) (n := 3) (Nat.le_of_ble_eq_true rfl)
  rw [lg_entry_eq]
  generalize (lg_sl ([.ref m, .long p0]) ++ List.replicate (3 - (lg_sl ([.ref m, .long p0])).length) Slot.unset).toArray = ls at hl ⊢
  generalize ([.ref m, .long p0] : List Value).toArray = av at hts ⊢
  generalize hQ : MQ below _ av s _ _ A = QQ
  have hl : lv_has ls 3 [(0, .ref m), (1, .long p0)] := hl
  have hP : va_P g vwCl [(m, .inr (11, mG m_a m_thrown m_taped m_at m_token m_place m_value m_word m_bad m_badPlace m_fault m_faultPlace m_willing m_will m_forgot m_isDrawn m_x m_begin m_round m_roundCards m_fate m_any m_bothSend m_meanCards m_bestSum m_fitMany m_fitFirst m_fitSecond))] s.heap := hP
  refine lv_aload_n hx hb dX12_is_0 rfl (lv_at hl 0 rfl) ?_
  refine va_get (D := g) (ci := 11) (v := .int m_bad) (C := RX12) (T := TX12) (N := 56) hx hb hts iX12 hown hK hP 0 rfl rfl 12 (by decide) (hts (.fieldLink RX12 159 "CardsAtYuleModel" "bad" "I") (List.mem_cons_of_mem _ (List.mem_append_left _ (List.mem_of_getElem? (i := 0) rfl)))) (fun _ h9 => h9) rfl dX12_is_1 ?_
  refine lv_if_ne (tgt := 28) hx hb dX12_is_4 (by decide) (fun c4 => ?_) (fun c4 => ?_)
  · have f4 := (show m_bad.toInt ≠ 0 from z_ne rfl rfl c4)
    refine lv_iconst (v := 0) hx hb dX12_is_28 (by decide) ?_
    subst hQ
    exact W.zret (v := 0) hx hb hr rfl (fun t ht hW => ⟨⟨0, (), rfl, (show ir (0 : Int32).toInt 0 1 by decide), trivial⟩, hS.F ht⟩) hS.2.2 dX12_is_29
  have f4 := (show m_bad.toInt = 0 from z_eq rfl rfl c4)
  have r4a : ir m_bad.toInt 0 0 := ir_eqa f4 (rg_all m_bad) (ir_c 0) (by decide) (by decide)
  refine lv_aload_n hx hb dX12_is_7 rfl (lv_at hl 0 rfl) ?_
  refine va_get (D := g) (ci := 11) (v := .int m_token) (C := RX12) (T := TX12) (N := 56) hx hb hts iX12 hown hK hP 0 rfl rfl 8 (by decide) (hts (.fieldLink RX12 148 "CardsAtYuleModel" "token" "I") (List.mem_cons_of_mem _ (List.mem_append_left _ (List.mem_of_getElem? (i := 1) rfl)))) (fun _ h9 => h9) rfl dX12_is_8 ?_
  refine lv_iconst (v := 1) hx hb dX12_is_11 (by decide) ?_
  refine lv_icmp_ne (tgt := 28) hx hb dX12_is_12 (by decide) (fun c12 => ?_) (fun c12 => ?_)
  · have f12 := (show m_token.toInt ≠ 1 from z_ne rfl rfl c12)
    refine lv_iconst (v := 0) hx hb dX12_is_28 (by decide) ?_
    subst hQ
    exact W.zret (v := 0) hx hb hr rfl (fun t ht hW => ⟨⟨0, (), rfl, (show ir (0 : Int32).toInt 0 1 by decide), trivial⟩, hS.F ht⟩) hS.2.2 dX12_is_29
  have f12 := (show m_token.toInt = 1 from z_eq rfl rfl c12)
  have r12a : ir m_token.toInt 1 1 := ir_eqa f12 (rg_all m_token) (ir_c 1) (by decide) (by decide)
  refine lv_aload_n hx hb dX12_is_15 rfl (lv_at hl 0 rfl) ?_
  refine va_get (D := g) (ci := 11) (v := .long m_word) (C := RX12) (T := TX12) (N := 56) hx hb hts iX12 hown hK hP 0 rfl rfl 11 (by decide) (hts (.fieldLink RX12 144 "CardsAtYuleModel" "word" "J") (List.mem_cons_of_mem _ (List.mem_append_left _ (List.mem_of_getElem? (i := 2) rfl)))) (fun _ h9 => h9) rfl dX12_is_16 ?_
  refine lv_lload_n hx hb dX12_is_19 rfl (lv_at hl 1 rfl) ?_
  refine W.lcmp hx hb dX12_is_20 ?_
  refine lv_if_ne (tgt := 28) hx hb dX12_is_21 (by decide) (fun c21 => ?_) (fun c21 => ?_)
  · have f21 := (show m_word.toInt ≠ p0.toInt from y_ne rfl rfl c21)
    refine lv_iconst (v := 0) hx hb dX12_is_28 (by decide) ?_
    subst hQ
    exact W.zret (v := 0) hx hb hr rfl (fun t ht hW => ⟨⟨0, (), rfl, (show ir (0 : Int32).toInt 0 1 by decide), trivial⟩, hS.F ht⟩) hS.2.2 dX12_is_29
  have f21 := (show m_word.toInt = p0.toInt from y_eq rfl rfl c21)
  refine lv_iconst (v := 1) hx hb dX12_is_24 (by decide) ?_
  refine lv_goto (tgt := 29) hx hb dX12_is_25 (by decide) ?_
  subst hQ
  exact W.zret (v := 1) hx hb hr rfl (fun t ht hW => ⟨⟨1, (), rfl, (show ir (1 : Int32).toInt 0 1 by decide), trivial⟩, hS.F ht⟩) hS.2.2 dX12_is_29
def v_X12_personLine : List Cond := .code yX12_personLine cX12_personLine 5 none :: (([.methodLink RX12 189 yX12_hasRead, .instanceMethod yX12_hasRead, .selects RX12 yX12_hasRead yX12_hasRead, .initialized RX12, .fieldLink RX12 37 "CardsAtYuleModel" "person" "[I", .constantLong RX12 193 (369932), .methodLink RX12 195 yX12_number_, .instanceMethod yX12_number_, .selects RX12 yX12_number_ yX12_number_, .methodLink RX12 198 yX12_isGood, .instanceMethod yX12_isGood, .selects RX12 yX12_isGood yX12_isGood, .fieldLink RX12 148 "CardsAtYuleModel" "token" "I", .fieldLink RX12 34 "CardsAtYuleModel" "has" "[I", .constantLong RX12 202 (7056369019), .methodLink RX12 165 yX12_is, .instanceMethod yX12_is, .selects RX12 yX12_is yX12_is, .constantLong RX12 204 (2549464462), .fieldLink RX12 159 "CardsAtYuleModel" "bad" "I", .methodLink RX12 169 yX12_next, .instanceMethod yX12_next, .selects RX12 yX12_next yX12_next, .methodLink RX12 182 yX12_number, .instanceMethod yX12_number, .selects RX12 yX12_number yX12_number, .methodLink RX12 175 yX12_fails, .instanceMethod yX12_fails, .selects RX12 yX12_fails yX12_fails] : List Cond) ++ (v_X12_hasRead3 ++ (v_X12_number_ ++ (v_X12_isGood ++ (v_X12_isB ++ (v_X12_next ++ (v_X12_number ++ (v_X12_fails ++ (wsX120 ++ ([] : List Cond))))))))))
theorem good_v_X12_personLine : v_X12_personLine.all goodWord = true := ga_c (by decide +kernel) (ga_a (by decide +kernel) (ga_a good_v_X12_hasRead3 (ga_a good_v_X12_number_ (ga_a good_v_X12_isGood (ga_a good_v_X12_isB (ga_a good_v_X12_next (ga_a good_v_X12_number (ga_a good_v_X12_fails (ga_a good_wsX120 rfl)))))))))
set_option maxHeartbeats 4000000 in
set_option maxRecDepth 100000 in
theorem q_X12_personLine (l : Launch) (g : va_G) (cI cJ cB cZ cL : ClassId) (m : Nat) (m_a : Nat → Nat) (m_thrown : Int32) (m_taped : Int32) (m_at : Int32) (m_token : Int32) (m_place : Int32) (m_value : Int32) (m_word : Int64) (m_bad : Int32) (m_badPlace : Int32) (m_fault : Int32) (m_faultPlace : Int32) (m_willing : Int32) (m_will : Int32) (m_forgot : Int32) (m_isDrawn : Int32) (m_x : Int64) (m_begin : Int32) (m_round : Int32) (m_roundCards : Int32) (m_fate : Int32) (m_any : Int64) (m_bothSend : Int64) (m_meanCards : Int64) (m_bestSum : Int32) (m_fitMany : Int32) (m_fitFirst : Int64) (m_fitSecond : Int64) (m_has_c : Nat → Int32) (m_tape_c : Nat → Int32) (m_person_c : Nat → Int32) (sz : Nat) (hv_m_taped : ir m_taped.toInt 0 1600) (hv_m_at : ir m_at.toInt 0 1600) (hv_m_will : ir m_will.toInt 0 1) (hv_m_isDrawn : ir m_isDrawn.toInt 0 1) (ha_m_has_c : hasI m_has_c) (ha_m_person_c : perI m_person_c) (ht_0 : ir (m_has_c 23).toInt 0 9) (hx_0 : m_at.toInt ≤ m_taped.toInt) : Met l yX12_personLine v_X12_personLine ({ frames := 5, cells := 0, slots := 0, locals := 112 }) (va_Pc [.ref m] (pRW g (tyT cI cJ cB cZ cL) [(m, .inr (11, mG m_a m_thrown m_taped m_at m_token m_place m_value m_word m_bad m_badPlace m_fault m_faultPlace m_willing m_will m_forgot m_isDrawn m_x m_begin m_round m_roundCards m_fate m_any m_bothSend m_meanCards m_bestSum m_fitMany m_fitFirst m_fitSecond)), ((m_a 17), .inl (cI, 25, .inl m_has_c)), ((m_a 5), .inl (cB, 1600, .inl m_tape_c)), ((m_a 18), .inl (cI, 250, .inl m_person_c))] sz)) (va_Qv (fun (u : Int32 × Int32 × Int32 × Int32 × Int64 × Int32 × Int32 × (Nat → Int32) × (Nat → Int32)) => match u with | (n_m_at, n_m_token, n_m_place, n_m_value, n_m_word, n_m_bad, n_m_badPlace, n_m_has_c, n_m_person_c) => (ir n_m_at.toInt 0 1600) ∧ (hasI n_m_has_c) ∧ (perI n_m_person_c) ∧ ((n_m_at.toInt = m_at.toInt ∧ n_m_token.toInt = m_token.toInt) ∨ (m_at.toInt ≤ n_m_at.toInt ∧ n_m_at.toInt ≤ m_taped.toInt ∧ 0 ≤ n_m_token.toInt ∧ n_m_token.toInt ≤ 4 ∧ (m_at.toInt < n_m_at.toInt ∨ (n_m_token.toInt = 0 ∧ n_m_at.toInt = m_taped.toInt))))) (fun (u : Int32 × Int32 × Int32 × Int32 × Int64 × Int32 × Int32 × (Nat → Int32) × (Nat → Int32)) (t : State) => bRW g (tyT cI cJ cB cZ cL) (va_A [(m, .inr (11, mG m_a m_thrown m_taped m_at m_token m_place m_value m_word m_bad m_badPlace m_fault m_faultPlace m_willing m_will m_forgot m_isDrawn m_x m_begin m_round m_roundCards m_fate m_any m_bothSend m_meanCards m_bestSum m_fitMany m_fitFirst m_fitSecond)), ((m_a 17), .inl (cI, 25, .inl m_has_c)), ((m_a 5), .inl (cB, 1600, .inl m_tape_c)), ((m_a 18), .inl (cI, 250, .inl m_person_c))] sz) (match u with | (n_m_at, n_m_token, n_m_place, n_m_value, n_m_word, n_m_bad, n_m_badPlace, n_m_has_c, n_m_person_c) => [(m, .inr (11, mG m_a m_thrown m_taped n_m_at n_m_token n_m_place n_m_value n_m_word n_m_bad n_m_badPlace m_fault m_faultPlace m_willing m_will m_forgot m_isDrawn m_x m_begin m_round m_roundCards m_fate m_any m_bothSend m_meanCards m_bestSum m_fitMany m_fitFirst m_fitSecond)), ((m_a 17), .inl (cI, 25, .inl n_m_has_c)), ((m_a 5), .inl (cB, 1600, .inl m_tape_c)), ((m_a 18), .inl (cI, 250, .inl n_m_person_c))]) t) (va_A [(m, .inr (11, mG m_a m_thrown m_taped m_at m_token m_place m_value m_word m_bad m_badPlace m_fault m_faultPlace m_willing m_will m_forgot m_isDrawn m_x m_begin m_round m_roundCards m_fate m_any m_bothSend m_meanCards m_bestSum m_fitMany m_fitFirst m_fitSecond)), ((m_a 17), .inl (cI, 25, .inl m_has_c)), ((m_a 5), .inl (cB, 1600, .inl m_tape_c)), ((m_a 18), .inl (cI, 250, .inl m_person_c))] sz)) 0 0 (va_A [(m, .inr (11, mG m_a m_thrown m_taped m_at m_token m_place m_value m_word m_bad m_badPlace m_fault m_faultPlace m_willing m_will m_forgot m_isDrawn m_x m_begin m_round m_roundCards m_fate m_any m_bothSend m_meanCards m_bestSum m_fitMany m_fitFirst m_fitSecond)), ((m_a 17), .inl (cI, 25, .inl m_has_c)), ((m_a 5), .inl (cB, 1600, .inl m_tape_c)), ((m_a 18), .inl (cI, 250, .inl m_person_c))] sz) := by
  refine Met.ofW (cc := cX12_personLine) (maxL := 5) (ret := none) (by decide) rfl ?_
  intro p e s mth args below meth c s₁ B hml hv
  obtain ⟨rfl, hsz, hP, hK, hD0⟩ := hv
  have hx := B.exec
  have hb := B.bytes
  have hr := B.returns
  have hts := atoms_spec (ws := v_X12_personLine) B.pre
  have hown : s.vm.findClass RX12 = some mth.cls := findClass_of_methodNamed B.named
  have hlocks := B.notSynchronized
  clear B
  subst hsz
  have iX12 : ∀ w ∈ wsX120, w ∈ v_X12_personLine := (fun _ h => List.mem_cons_of_mem _ (List.mem_append_right _ (List.mem_append_right _ (List.mem_append_right _ (List.mem_append_right _ (List.mem_append_right _ (List.mem_append_right _ (List.mem_append_right _ (List.mem_append_right _ (List.mem_append_left _ h))))))))))
  have hD := hD0.self (sz := s.heap.size)
  generalize hAe : (va_A [(m, .inr (11, mG m_a m_thrown m_taped m_at m_token m_place m_value m_word m_bad m_badPlace m_fault m_faultPlace m_willing m_will m_forgot m_isDrawn m_x m_begin m_round m_roundCards m_fate m_any m_bothSend m_meanCards m_bestSum m_fitMany m_fitFirst m_fitSecond)), ((m_a 17), .inl (cI, 25, .inl m_has_c)), ((m_a 5), .inl (cB, 1600, .inl m_tape_c)), ((m_a 18), .inl (cI, 250, .inl m_person_c))] s.heap.size) = A at hD ⊢
  have hA : ∀ q : Nat, s.heap.size ≤ q → A q := fun q h => by rw [← hAe]; exact Or.inr h
  have hS : va_S A s.heap s.heap [] := va_S.rf
  have hl := lv_entry ([.ref m]) (n := 5) (Nat.le_of_ble_eq_true rfl)
  rw [lg_entry_eq]
  generalize (lg_sl ([.ref m]) ++ List.replicate (5 - (lg_sl ([.ref m])).length) Slot.unset).toArray = ls at hl ⊢
  generalize ([.ref m] : List Value).toArray = av at hts ⊢
  generalize hQ : MQ below _ av s _ _ A = QQ
  have hl : lv_has ls 5 [(0, .ref m)] := hl
  have hP : va_P g vwCl [(m, .inr (11, mG m_a m_thrown m_taped m_at m_token m_place m_value m_word m_bad m_badPlace m_fault m_faultPlace m_willing m_will m_forgot m_isDrawn m_x m_begin m_round m_roundCards m_fate m_any m_bothSend m_meanCards m_bestSum m_fitMany m_fitFirst m_fitSecond)), ((m_a 17), .inl (cI, 25, .inl m_has_c)), ((m_a 5), .inl (cB, 1600, .inl m_tape_c)), ((m_a 18), .inl (cI, 250, .inl m_person_c))] s.heap := hP
  refine lv_iconst (v := 5) hx hb dX12_personLine_0 (by decide) ?_
  refine lv_bipush (v := 40) hx hb dX12_personLine_1 (by decide) ?_
  refine lv_aload_n hx hb dX12_personLine_3 rfl (lv_at hl 0 rfl) ?_
  refine lv_iconst (v := 3) hx hb dX12_personLine_4 (by decide) ?_
  refine ro_i (va_runV (As := [.int 3]) (rest := [.int 40, .int 5]) ⟨hx, hb, hml, hown, hts⟩ (q_X12_hasRead3 l g cI cJ cB cZ cL m m_a m_thrown m_taped m_at m_token m_place m_value m_word m_bad m_badPlace m_fault m_faultPlace m_willing m_will m_forgot m_isDrawn m_x m_begin m_round m_roundCards m_fate m_any m_bothSend m_meanCards m_bestSum m_fitMany m_fitFirst m_fitSecond m_has_c s.heap.size hv_m_taped hv_m_at hv_m_will hv_m_isDrawn ha_m_has_c) (cwV 1 hts (goodIn_app (g_4 (List.mem_cons_of_mem _ (List.mem_append_left _ (List.mem_of_getElem? (i := 0) rfl))) (List.mem_cons_of_mem _ (List.mem_append_left _ (List.mem_of_getElem? (i := 1) rfl))) (List.mem_cons_of_mem _ (List.mem_append_left _ (List.mem_of_getElem? (i := 2) rfl))) (List.mem_cons_of_mem _ (List.mem_append_left _ (List.mem_of_getElem? (i := 3) rfl))) (by decide +kernel)) (goodIn_sub (fun _ h => List.mem_cons_of_mem _ (List.mem_append_right _ (List.mem_append_left _ h))) good_v_X12_hasRead3)) rfl rfl rfl (by decide +kernel) ⟨Nat.le_of_ble_eq_true rfl, Nat.le_of_ble_eq_true rfl⟩) (pv_RO (q := (RX12, TX12, 56)) (ci := 11) (q0 := 0) (wc := [(m, .inr (11, mG m_a m_thrown m_taped m_at m_token m_place m_value m_word m_bad m_badPlace m_fault m_faultPlace m_willing m_will m_forgot m_isDrawn m_x m_begin m_round m_roundCards m_fate m_any m_bothSend m_meanCards m_bestSum m_fitMany m_fitFirst m_fitSecond)), ((m_a 17), .inl (cI, 25, .inl m_has_c))]) hK hP [0, 1] rfl rfl rfl) rfl rfl hl.1 rfl (lv_room (Nat.le_of_ble_eq_true rfl)) dX12_personLine_5 ⟨Nat.le_of_ble_eq_true rfl, Nat.le_of_ble_eq_true rfl⟩) hS hA hP (fun r5 u5 H locs hw5 hP hS => ?_)
  have hw5_0 := hw5
  subst hw5_0
  refine lv_iadd hx hb dX12_personLine_8 ?_
  refine lv_topi (fun y8 e8 => ?_)
  have q8 : y8.toInt = 40 + (m_has_c 23).toInt := by rw [e8]; exact ad_z rfl rfl (ir_c 40) ht_0 (by decide) (by decide)
  have r8 : ir y8.toInt 40 49 := ad_r q8 (ir_c 40) ht_0 (by decide) (by decide)
  refine lv_imul hx hb dX12_personLine_9 ?_
  refine lv_topi (fun y9 e9 => ?_)
  have q9 : y9.toInt = 5 * y8.toInt := by rw [e9]; exact mu_z rfl rfl (ir_c 5) r8 (by decide) (by decide) (by decide)
  have r9 : ir y9.toInt 200 245 := mu_r q9 (ir_c 5) r8 (by decide) (by decide) (by decide) (by decide)
  refine lv_istore_n (lv' := [(1, .int y9), (0, .ref m)]) hx hb dX12_personLine_10 rfl hl (by decide) rfl (fun ls hl => ?_)
  refine lv_aload_n hx hb dX12_personLine_11 rfl (lv_at hl 1 rfl) ?_
  refine va_get (D := g) (ci := 11) (v := .ref (m_a 18)) (C := RX12) (T := TX12) (N := 56) hx hb hts iX12 hown hK hP 0 rfl rfl 18 (by decide) (hts (.fieldLink RX12 37 "CardsAtYuleModel" "person" "[I") (List.mem_cons_of_mem _ (List.mem_append_left _ (List.mem_of_getElem? (i := 4) rfl)))) (fun _ h9 => h9) rfl dX12_personLine_12 ?_
  refine lv_iload_n hx hb dX12_personLine_15 rfl (lv_at hl 0 rfl) ?_
  refine lv_aload_n hx hb dX12_personLine_16 rfl (lv_at hl 1 rfl) ?_
  refine lv_ldc2 (v := 369932) hx hb hown (hts (.constantLong RX12 193 (369932)) (List.mem_cons_of_mem _ (List.mem_append_left _ (List.mem_of_getElem? (i := 5) rfl)))) dX12_personLine_17 ?_
  refine lv_iconst (v := 0) hx hb dX12_personLine_20 (by decide) ?_
  refine lv_bipush (v := 15) hx hb dX12_personLine_21 (by decide) ?_
  refine rw_i (wr := [((m_a 17), .inl (cI, 25, .inl m_has_c)), ((m_a 18), .inl (cI, 250, .inl m_person_c))]) (va_runV (As := [.long 369932, .int 0, .int 15]) (rest := [.int y9, .ref (m_a 18)]) ⟨hx, hb, hml, hown, hts⟩ (q_X12_number_ l g cI cJ cB cZ cL 369932 0 15 m m_a m_thrown m_taped m_at m_token m_place m_value m_word m_bad m_badPlace m_fault m_faultPlace m_willing m_will m_forgot m_isDrawn m_x m_begin m_round m_roundCards m_fate m_any m_bothSend m_meanCards m_bestSum m_fitMany m_fitFirst m_fitSecond m_tape_c H.size hv_m_taped hv_m_at hv_m_will hv_m_isDrawn (by omega)) (cwV 3 hts (goodIn_app (g_4 (List.mem_cons_of_mem _ (List.mem_append_left _ (List.mem_of_getElem? (i := 6) rfl))) (List.mem_cons_of_mem _ (List.mem_append_left _ (List.mem_of_getElem? (i := 7) rfl))) (List.mem_cons_of_mem _ (List.mem_append_left _ (List.mem_of_getElem? (i := 8) rfl))) (List.mem_cons_of_mem _ (List.mem_append_left _ (List.mem_of_getElem? (i := 3) rfl))) (by decide +kernel)) (goodIn_sub (fun _ h => List.mem_cons_of_mem _ (List.mem_append_right _ (List.mem_append_right _ (List.mem_append_left _ h)))) good_v_X12_number_)) rfl rfl rfl (by decide +kernel) ⟨Nat.le_of_ble_eq_true rfl, Nat.le_of_ble_eq_true rfl⟩) (pv_RW (q := (RX12, TX12, 56)) (ci := 11) (q0 := 0) (wc := [(m, .inr (11, mG m_a m_thrown m_taped m_at m_token m_place m_value m_word m_bad m_badPlace m_fault m_faultPlace m_willing m_will m_forgot m_isDrawn m_x m_begin m_round m_roundCards m_fate m_any m_bothSend m_meanCards m_bestSum m_fitMany m_fitFirst m_fitSecond)), ((m_a 5), .inl (cB, 1600, .inl m_tape_c))]) hK hP hD [0, 2] (by decide) rfl rfl rfl) rfl rfl hl.1 rfl (lv_room (Nat.le_of_ble_eq_true rfl)) dX12_personLine_23 ⟨Nat.le_of_ble_eq_true rfl, Nat.le_of_ble_eq_true rfl⟩) hS hA hP hD [0, 2] [1, 3] rfl rfl (by decide) (by decide) (fun r23 u23 H locs hw23 hP hD hS => ?_)
  obtain ⟨n_m_at_23, n_m_token_23, n_m_place_23, n_m_value_23, n_m_word_23, n_m_bad_23, n_m_badPlace_23⟩ := u23
  have hP : va_P g vwCl [((m_a 17), .inl (cI, 25, .inl m_has_c)), ((m_a 18), .inl (cI, 250, .inl m_person_c)), (m, .inr (11, mG m_a m_thrown m_taped n_m_at_23 n_m_token_23 n_m_place_23 n_m_value_23 n_m_word_23 n_m_bad_23 n_m_badPlace_23 m_fault m_faultPlace m_willing m_will m_forgot m_isDrawn m_x m_begin m_round m_roundCards m_fate m_any m_bothSend m_meanCards m_bestSum m_fitMany m_fitFirst m_fitSecond)), ((m_a 5), .inl (cB, 1600, .inl m_tape_c))] H := hP
  have hD : va_D A [((m_a 17), .inl (cI, 25, .inl m_has_c)), ((m_a 18), .inl (cI, 250, .inl m_person_c)), (m, .inr (11, mG m_a m_thrown m_taped n_m_at_23 n_m_token_23 n_m_place_23 n_m_value_23 n_m_word_23 n_m_bad_23 n_m_badPlace_23 m_fault m_faultPlace m_willing m_will m_forgot m_isDrawn m_x m_begin m_round m_roundCards m_fate m_any m_bothSend m_meanCards m_bestSum m_fitMany m_fitFirst m_fitSecond)), ((m_a 5), .inl (cB, 1600, .inl m_tape_c))] := hD
  dsimp only at hw23
  obtain ⟨hw23_0, hw23_1, hw23_2⟩ := hw23
  have hw23_1 : (n_m_at_23.toInt = m_at.toInt ∧ n_m_token_23.toInt = m_token.toInt) ∨ (m_at.toInt ≤ n_m_at_23.toInt ∧ n_m_at_23.toInt ≤ m_taped.toInt ∧ 0 ≤ n_m_token_23.toInt ∧ n_m_token_23.toInt ≤ 4 ∧ (m_at.toInt < n_m_at_23.toInt ∨ (n_m_token_23.toInt = 0 ∧ n_m_at_23.toInt = m_taped.toInt))) := hw23_1
  have hw23_2 : r23.toInt = 0 ∨ (0 ≤ r23.toInt ∧ r23.toInt ≤ 15) := hw23_2
  have rc23 : ir r23.toInt 0 15 := by omega
  refine va_iast (D := g) hx hb hK hP hD hS 1 0 rfl rfl (vi_rg rfl r9 (by decide) (by decide)) dX12_personLine_26 (fun H locs hP hD hS => ?_)
  obtain ⟨g26, e26⟩ : ∃ z, z = upd m_person_c y9.toNatClampNeg r23 := ⟨_, rfl⟩
  have hP : va_P g vwCl [((m_a 17), .inl (cI, 25, .inl m_has_c)), ((m_a 18), .inl (cI, 250, .inl (upd m_person_c y9.toNatClampNeg r23))), (m, .inr (11, mG m_a m_thrown m_taped n_m_at_23 n_m_token_23 n_m_place_23 n_m_value_23 n_m_word_23 n_m_bad_23 n_m_badPlace_23 m_fault m_faultPlace m_willing m_will m_forgot m_isDrawn m_x m_begin m_round m_roundCards m_fate m_any m_bothSend m_meanCards m_bestSum m_fitMany m_fitFirst m_fitSecond)), ((m_a 5), .inl (cB, 1600, .inl m_tape_c))] H := hP
  have hD : va_D A [((m_a 17), .inl (cI, 25, .inl m_has_c)), ((m_a 18), .inl (cI, 250, .inl (upd m_person_c y9.toNatClampNeg r23))), (m, .inr (11, mG m_a m_thrown m_taped n_m_at_23 n_m_token_23 n_m_place_23 n_m_value_23 n_m_word_23 n_m_bad_23 n_m_badPlace_23 m_fault m_faultPlace m_willing m_will m_forgot m_isDrawn m_x m_begin m_round m_roundCards m_fate m_any m_bothSend m_meanCards m_bestSum m_fitMany m_fitFirst m_fitSecond)), ((m_a 5), .inl (cB, 1600, .inl m_tape_c))] := hD
  rw [← e26] at hP hD
  have a26 : perI g26 := by rw [e26]; exact perI_0v ha_m_person_c (by have c0 := cl_t (x := y9) rfl (by omega); omega) rc23
  refine lv_aload_n hx hb dX12_personLine_27 rfl (lv_at hl 1 rfl) ?_
  refine va_get (D := g) (ci := 11) (v := .ref (m_a 18)) (C := RX12) (T := TX12) (N := 56) hx hb hts iX12 hown hK hP 2 rfl rfl 18 (by decide) (hts (.fieldLink RX12 37 "CardsAtYuleModel" "person" "[I") (List.mem_cons_of_mem _ (List.mem_append_left _ (List.mem_of_getElem? (i := 4) rfl)))) (fun _ h9 => h9) rfl dX12_personLine_28 ?_
  refine lv_iload_n hx hb dX12_personLine_31 rfl (lv_at hl 0 rfl) ?_
  refine lv_iconst (v := 1) hx hb dX12_personLine_32 (by decide) ?_
  refine lv_iadd hx hb dX12_personLine_33 ?_
  refine lv_topi (fun y33 e33 => ?_)
  have q33 : y33.toInt = y9.toInt + 1 := by rw [e33]; exact ad_z rfl rfl r9 (ir_c 1) (by decide) (by decide)
  have r33 : ir y33.toInt 201 246 := ad_r q33 r9 (ir_c 1) (by decide) (by decide)
  refine lv_iconst (v := 0) hx hb dX12_personLine_34 (by decide) ?_
  refine va_iast (D := g) hx hb hK hP hD hS 1 0 rfl rfl (vi_rg rfl r33 (by decide) (by decide)) dX12_personLine_35 (fun H locs hP hD hS => ?_)
  obtain ⟨g35, e35⟩ : ∃ z, z = upd g26 y33.toNatClampNeg (0 : Int32) := ⟨_, rfl⟩
  have hP : va_P g vwCl [((m_a 17), .inl (cI, 25, .inl m_has_c)), ((m_a 18), .inl (cI, 250, .inl (upd g26 y33.toNatClampNeg (0 : Int32)))), (m, .inr (11, mG m_a m_thrown m_taped n_m_at_23 n_m_token_23 n_m_place_23 n_m_value_23 n_m_word_23 n_m_bad_23 n_m_badPlace_23 m_fault m_faultPlace m_willing m_will m_forgot m_isDrawn m_x m_begin m_round m_roundCards m_fate m_any m_bothSend m_meanCards m_bestSum m_fitMany m_fitFirst m_fitSecond)), ((m_a 5), .inl (cB, 1600, .inl m_tape_c))] H := hP
  have hD : va_D A [((m_a 17), .inl (cI, 25, .inl m_has_c)), ((m_a 18), .inl (cI, 250, .inl (upd g26 y33.toNatClampNeg (0 : Int32)))), (m, .inr (11, mG m_a m_thrown m_taped n_m_at_23 n_m_token_23 n_m_place_23 n_m_value_23 n_m_word_23 n_m_bad_23 n_m_badPlace_23 m_fault m_faultPlace m_willing m_will m_forgot m_isDrawn m_x m_begin m_round m_roundCards m_fate m_any m_bothSend m_meanCards m_bestSum m_fitMany m_fitFirst m_fitSecond)), ((m_a 5), .inl (cB, 1600, .inl m_tape_c))] := hD
  rw [← e35] at hP hD
  have a35 : perI g35 := by rw [e35]; exact perI_u a26 (ir_w (show ir (0 : Int32).toInt 0 0 by decide) (by decide) (by decide))
  refine lv_aload_n hx hb dX12_personLine_36 rfl (lv_at hl 1 rfl) ?_
  refine va_get (D := g) (ci := 11) (v := .ref (m_a 18)) (C := RX12) (T := TX12) (N := 56) hx hb hts iX12 hown hK hP 2 rfl rfl 18 (by decide) (hts (.fieldLink RX12 37 "CardsAtYuleModel" "person" "[I") (List.mem_cons_of_mem _ (List.mem_append_left _ (List.mem_of_getElem? (i := 4) rfl)))) (fun _ h9 => h9) rfl dX12_personLine_37 ?_
  refine lv_iload_n hx hb dX12_personLine_40 rfl (lv_at hl 0 rfl) ?_
  refine lv_iconst (v := 2) hx hb dX12_personLine_41 (by decide) ?_
  refine lv_iadd hx hb dX12_personLine_42 ?_
  refine lv_topi (fun y42 e42 => ?_)
  have q42 : y42.toInt = y9.toInt + 2 := by rw [e42]; exact ad_z rfl rfl r9 (ir_c 2) (by decide) (by decide)
  have r42 : ir y42.toInt 202 247 := ad_r q42 r9 (ir_c 2) (by decide) (by decide)
  refine lv_iconst (v := 0) hx hb dX12_personLine_43 (by decide) ?_
  refine va_iast (D := g) hx hb hK hP hD hS 1 0 rfl rfl (vi_rg rfl r42 (by decide) (by decide)) dX12_personLine_44 (fun H locs hP hD hS => ?_)
  obtain ⟨g44, e44⟩ : ∃ z, z = upd g35 y42.toNatClampNeg (0 : Int32) := ⟨_, rfl⟩
  have hP : va_P g vwCl [((m_a 17), .inl (cI, 25, .inl m_has_c)), ((m_a 18), .inl (cI, 250, .inl (upd g35 y42.toNatClampNeg (0 : Int32)))), (m, .inr (11, mG m_a m_thrown m_taped n_m_at_23 n_m_token_23 n_m_place_23 n_m_value_23 n_m_word_23 n_m_bad_23 n_m_badPlace_23 m_fault m_faultPlace m_willing m_will m_forgot m_isDrawn m_x m_begin m_round m_roundCards m_fate m_any m_bothSend m_meanCards m_bestSum m_fitMany m_fitFirst m_fitSecond)), ((m_a 5), .inl (cB, 1600, .inl m_tape_c))] H := hP
  have hD : va_D A [((m_a 17), .inl (cI, 25, .inl m_has_c)), ((m_a 18), .inl (cI, 250, .inl (upd g35 y42.toNatClampNeg (0 : Int32)))), (m, .inr (11, mG m_a m_thrown m_taped n_m_at_23 n_m_token_23 n_m_place_23 n_m_value_23 n_m_word_23 n_m_bad_23 n_m_badPlace_23 m_fault m_faultPlace m_willing m_will m_forgot m_isDrawn m_x m_begin m_round m_roundCards m_fate m_any m_bothSend m_meanCards m_bestSum m_fitMany m_fitFirst m_fitSecond)), ((m_a 5), .inl (cB, 1600, .inl m_tape_c))] := hD
  rw [← e44] at hP hD
  have a44 : perI g44 := by rw [e44]; exact perI_n a35 (by have c0 := cl_t (x := y42) rfl (by omega); omega)
  refine lv_aload_n hx hb dX12_personLine_45 rfl (lv_at hl 1 rfl) ?_
  refine va_get (D := g) (ci := 11) (v := .ref (m_a 18)) (C := RX12) (T := TX12) (N := 56) hx hb hts iX12 hown hK hP 2 rfl rfl 18 (by decide) (hts (.fieldLink RX12 37 "CardsAtYuleModel" "person" "[I") (List.mem_cons_of_mem _ (List.mem_append_left _ (List.mem_of_getElem? (i := 4) rfl)))) (fun _ h9 => h9) rfl dX12_personLine_46 ?_
  refine lv_iload_n hx hb dX12_personLine_49 rfl (lv_at hl 0 rfl) ?_
  refine lv_iconst (v := 3) hx hb dX12_personLine_50 (by decide) ?_
  refine lv_iadd hx hb dX12_personLine_51 ?_
  refine lv_topi (fun y51 e51 => ?_)
  have q51 : y51.toInt = y9.toInt + 3 := by rw [e51]; exact ad_z rfl rfl r9 (ir_c 3) (by decide) (by decide)
  have r51 : ir y51.toInt 203 248 := ad_r q51 r9 (ir_c 3) (by decide) (by decide)
  refine lv_iconst (v := (-1)) hx hb dX12_personLine_52 (by decide) ?_
  refine va_iast (D := g) hx hb hK hP hD hS 1 0 rfl rfl (vi_rg rfl r51 (by decide) (by decide)) dX12_personLine_53 (fun H locs hP hD hS => ?_)
  obtain ⟨g53, e53⟩ : ∃ z, z = upd g44 y51.toNatClampNeg ((-1) : Int32) := ⟨_, rfl⟩
  have hP : va_P g vwCl [((m_a 17), .inl (cI, 25, .inl m_has_c)), ((m_a 18), .inl (cI, 250, .inl (upd g44 y51.toNatClampNeg ((-1) : Int32)))), (m, .inr (11, mG m_a m_thrown m_taped n_m_at_23 n_m_token_23 n_m_place_23 n_m_value_23 n_m_word_23 n_m_bad_23 n_m_badPlace_23 m_fault m_faultPlace m_willing m_will m_forgot m_isDrawn m_x m_begin m_round m_roundCards m_fate m_any m_bothSend m_meanCards m_bestSum m_fitMany m_fitFirst m_fitSecond)), ((m_a 5), .inl (cB, 1600, .inl m_tape_c))] H := hP
  have hD : va_D A [((m_a 17), .inl (cI, 25, .inl m_has_c)), ((m_a 18), .inl (cI, 250, .inl (upd g44 y51.toNatClampNeg ((-1) : Int32)))), (m, .inr (11, mG m_a m_thrown m_taped n_m_at_23 n_m_token_23 n_m_place_23 n_m_value_23 n_m_word_23 n_m_bad_23 n_m_badPlace_23 m_fault m_faultPlace m_willing m_will m_forgot m_isDrawn m_x m_begin m_round m_roundCards m_fate m_any m_bothSend m_meanCards m_bestSum m_fitMany m_fitFirst m_fitSecond)), ((m_a 5), .inl (cB, 1600, .inl m_tape_c))] := hD
  rw [← e53] at hP hD
  have a53 : perI g53 := by rw [e53]; exact perI_n a44 (by have c0 := cl_t (x := y51) rfl (by omega); omega)
  refine lv_aload_n hx hb dX12_personLine_54 rfl (lv_at hl 1 rfl) ?_
  refine va_get (D := g) (ci := 11) (v := .ref (m_a 18)) (C := RX12) (T := TX12) (N := 56) hx hb hts iX12 hown hK hP 2 rfl rfl 18 (by decide) (hts (.fieldLink RX12 37 "CardsAtYuleModel" "person" "[I") (List.mem_cons_of_mem _ (List.mem_append_left _ (List.mem_of_getElem? (i := 4) rfl)))) (fun _ h9 => h9) rfl dX12_personLine_55 ?_
  refine lv_iload_n hx hb dX12_personLine_58 rfl (lv_at hl 0 rfl) ?_
  refine lv_iconst (v := 4) hx hb dX12_personLine_59 (by decide) ?_
  refine lv_iadd hx hb dX12_personLine_60 ?_
  refine lv_topi (fun y60 e60 => ?_)
  have q60 : y60.toInt = y9.toInt + 4 := by rw [e60]; exact ad_z rfl rfl r9 (ir_c 4) (by decide) (by decide)
  have r60 : ir y60.toInt 204 249 := ad_r q60 r9 (ir_c 4) (by decide) (by decide)
  refine lv_iconst (v := (-1)) hx hb dX12_personLine_61 (by decide) ?_
  refine va_iast (D := g) hx hb hK hP hD hS 1 0 rfl rfl (vi_rg rfl r60 (by decide) (by decide)) dX12_personLine_62 (fun H locs hP hD hS => ?_)
  obtain ⟨g62, e62⟩ : ∃ z, z = upd g53 y60.toNatClampNeg ((-1) : Int32) := ⟨_, rfl⟩
  have hP : va_P g vwCl [((m_a 17), .inl (cI, 25, .inl m_has_c)), ((m_a 18), .inl (cI, 250, .inl (upd g53 y60.toNatClampNeg ((-1) : Int32)))), (m, .inr (11, mG m_a m_thrown m_taped n_m_at_23 n_m_token_23 n_m_place_23 n_m_value_23 n_m_word_23 n_m_bad_23 n_m_badPlace_23 m_fault m_faultPlace m_willing m_will m_forgot m_isDrawn m_x m_begin m_round m_roundCards m_fate m_any m_bothSend m_meanCards m_bestSum m_fitMany m_fitFirst m_fitSecond)), ((m_a 5), .inl (cB, 1600, .inl m_tape_c))] H := hP
  have hD : va_D A [((m_a 17), .inl (cI, 25, .inl m_has_c)), ((m_a 18), .inl (cI, 250, .inl (upd g53 y60.toNatClampNeg ((-1) : Int32)))), (m, .inr (11, mG m_a m_thrown m_taped n_m_at_23 n_m_token_23 n_m_place_23 n_m_value_23 n_m_word_23 n_m_bad_23 n_m_badPlace_23 m_fault m_faultPlace m_willing m_will m_forgot m_isDrawn m_x m_begin m_round m_roundCards m_fate m_any m_bothSend m_meanCards m_bestSum m_fitMany m_fitFirst m_fitSecond)), ((m_a 5), .inl (cB, 1600, .inl m_tape_c))] := hD
  rw [← e62] at hP hD
  have a62 : perI g62 := by rw [e62]; exact perI_n a53 (by have c0 := cl_t (x := y60) rfl (by omega); omega)
  refine lv_iconst (v := 0) hx hb dX12_personLine_63 (by decide) ?_
  refine lv_istore_n (lv' := [(2, .int 0), (1, .int y9), (0, .ref m)]) hx hb dX12_personLine_64 rfl hl (by decide) rfl (fun ls hl => ?_)
  have J65 : ∀ (n65 : Nat) (j65_l2 : Int32) (j65_m_at : Int32) (j65_m_token : Int32) (j65_m_place : Int32) (j65_m_value : Int32) (j65_m_word : Int64) (j65_m_bad : Int32) (j65_m_badPlace : Int32) (j65_m_a18_c : Nat → Int32) (H : Heap) (locs : List Loc) (ls : Array Slot), (5 * (m_taped.toInt - j65_m_at.toInt) + j65_m_token.toInt).toNat < n65 → (ir j65_l2.toInt 0 1) → (ir j65_m_at.toInt 0 1600) → (perI j65_m_a18_c) → ((j65_m_at.toInt = m_at.toInt ∧ j65_m_token.toInt = m_token.toInt) ∨ (m_at.toInt ≤ j65_m_at.toInt ∧ j65_m_at.toInt ≤ m_taped.toInt ∧ 0 ≤ j65_m_token.toInt ∧ j65_m_token.toInt ≤ 4 ∧ (m_at.toInt < j65_m_at.toInt ∨ (j65_m_token.toInt = 0 ∧ j65_m_at.toInt = m_taped.toInt)))) → va_P g vwCl [((m_a 17), .inl (cI, 25, .inl m_has_c)), ((m_a 18), .inl (cI, 250, .inl j65_m_a18_c)), (m, .inr (11, mG m_a m_thrown m_taped j65_m_at j65_m_token j65_m_place j65_m_value j65_m_word j65_m_bad j65_m_badPlace m_fault m_faultPlace m_willing m_will m_forgot m_isDrawn m_x m_begin m_round m_roundCards m_fate m_any m_bothSend m_meanCards m_bestSum m_fitMany m_fitFirst m_fitSecond)), ((m_a 5), .inl (cB, 1600, .inl m_tape_c))] H → va_D A [((m_a 17), .inl (cI, 25, .inl m_has_c)), ((m_a 18), .inl (cI, 250, .inl j65_m_a18_c)), (m, .inr (11, mG m_a m_thrown m_taped j65_m_at j65_m_token j65_m_place j65_m_value j65_m_word j65_m_bad j65_m_badPlace m_fault m_faultPlace m_willing m_will m_forgot m_isDrawn m_x m_begin m_round m_roundCards m_fate m_any m_bothSend m_meanCards m_bestSum m_fitMany m_fitFirst m_fitSecond)), ((m_a 5), .inl (cB, 1600, .inl m_tape_c))] → va_S A s.heap H locs → lv_has ls 5 [(0, .ref m), (1, .int y9), (2, .int j65_l2)] → W p l e (headSpec v_X12_personLine ({ frames := 5, cells := 0, slots := 0, locals := 112 })).room s mth av below meth c H locs 0 0 QQ (F0 mth 65 ls []) := by
    intro n65
    induction n65 with
    | zero => exact fun j65_l2 j65_m_at j65_m_token j65_m_place j65_m_value j65_m_word j65_m_bad j65_m_badPlace j65_m_a18_c H locs ls hn => absurd hn (Nat.not_lt_zero _)
    | succ n65 ih65 =>
      intro j65_l2 j65_m_at j65_m_token j65_m_place j65_m_value j65_m_word j65_m_bad j65_m_badPlace j65_m_a18_c H locs ls hn65 hj65_l2 hj65_m_at hj65_m_a18_c hi65_0 hP hD hS hl
      refine lv_aload_n hx hb dX12_personLine_65 rfl (lv_at hl 0 rfl) ?_
      refine ro_i (va_runV (As := []) (rest := []) ⟨hx, hb, hml, hown, hts⟩ (q_X12_isGood l g cI cJ cB cZ cL m m_a m_thrown m_taped j65_m_at j65_m_token j65_m_place j65_m_value j65_m_word j65_m_bad j65_m_badPlace m_fault m_faultPlace m_willing m_will m_forgot m_isDrawn m_x m_begin m_round m_roundCards m_fate m_any m_bothSend m_meanCards m_bestSum m_fitMany m_fitFirst m_fitSecond H.size hv_m_taped hj65_m_at hv_m_will hv_m_isDrawn) (cwV 0 hts (goodIn_app (g_4 (List.mem_cons_of_mem _ (List.mem_append_left _ (List.mem_of_getElem? (i := 9) rfl))) (List.mem_cons_of_mem _ (List.mem_append_left _ (List.mem_of_getElem? (i := 10) rfl))) (List.mem_cons_of_mem _ (List.mem_append_left _ (List.mem_of_getElem? (i := 11) rfl))) (List.mem_cons_of_mem _ (List.mem_append_left _ (List.mem_of_getElem? (i := 3) rfl))) (by decide +kernel)) (goodIn_sub (fun _ h => List.mem_cons_of_mem _ (List.mem_append_right _ (List.mem_append_right _ (List.mem_append_right _ (List.mem_append_left _ h))))) good_v_X12_isGood)) rfl rfl rfl (by decide +kernel) ⟨Nat.le_of_ble_eq_true rfl, Nat.le_of_ble_eq_true rfl⟩) (pv_RO (q := (RX12, TX12, 56)) (ci := 11) (q0 := 0) (wc := [(m, .inr (11, mG m_a m_thrown m_taped j65_m_at j65_m_token j65_m_place j65_m_value j65_m_word j65_m_bad j65_m_badPlace m_fault m_faultPlace m_willing m_will m_forgot m_isDrawn m_x m_begin m_round m_roundCards m_fate m_any m_bothSend m_meanCards m_bestSum m_fitMany m_fitFirst m_fitSecond))]) hK hP [2] rfl rfl rfl) rfl rfl hl.1 rfl (lv_room (Nat.le_of_ble_eq_true rfl)) dX12_personLine_66 ⟨Nat.le_of_ble_eq_true rfl, Nat.le_of_ble_eq_true rfl⟩) hS hA hP (fun r66 u66 H locs hw66 hP hS => ?_)
      have hw66_0 := hw66
      rcases hw66_0 with ⟨er66, fc66_0⟩ | ⟨er66, fc66_0⟩
      rotate_left 1
      · subst er66
        have fc66_0 : j65_m_bad.toInt ≠ 0 := fc66_0
        refine lv_if_eq (tgt := 184) hx hb dX12_personLine_69 (by decide) (fun _ => ?_) (fun c => absurd c (by decide))
        have J184 : ∀  (H : Heap) (locs : List Loc) (ls : Array Slot), ((j65_m_at.toInt = m_at.toInt ∧ j65_m_token.toInt = m_token.toInt) ∨ (m_at.toInt ≤ j65_m_at.toInt ∧ j65_m_at.toInt ≤ m_taped.toInt ∧ 0 ≤ j65_m_token.toInt ∧ j65_m_token.toInt ≤ 4 ∧ (m_at.toInt < j65_m_at.toInt ∨ (j65_m_token.toInt = 0 ∧ j65_m_at.toInt = m_taped.toInt)))) → va_P g vwCl [((m_a 17), .inl (cI, 25, .inl m_has_c)), ((m_a 18), .inl (cI, 250, .inl j65_m_a18_c)), (m, .inr (11, mG m_a m_thrown m_taped j65_m_at j65_m_token j65_m_place j65_m_value j65_m_word j65_m_bad j65_m_badPlace m_fault m_faultPlace m_willing m_will m_forgot m_isDrawn m_x m_begin m_round m_roundCards m_fate m_any m_bothSend m_meanCards m_bestSum m_fitMany m_fitFirst m_fitSecond)), ((m_a 5), .inl (cB, 1600, .inl m_tape_c))] H → va_D A [((m_a 17), .inl (cI, 25, .inl m_has_c)), ((m_a 18), .inl (cI, 250, .inl j65_m_a18_c)), (m, .inr (11, mG m_a m_thrown m_taped j65_m_at j65_m_token j65_m_place j65_m_value j65_m_word j65_m_bad j65_m_badPlace m_fault m_faultPlace m_willing m_will m_forgot m_isDrawn m_x m_begin m_round m_roundCards m_fate m_any m_bothSend m_meanCards m_bestSum m_fitMany m_fitFirst m_fitSecond)), ((m_a 5), .inl (cB, 1600, .inl m_tape_c))] → va_S A s.heap H locs → lv_has ls 5 [(0, .ref m)] → W p l e (headSpec v_X12_personLine ({ frames := 5, cells := 0, slots := 0, locals := 112 })).room s mth av below meth c H locs 0 0 QQ (F0 mth 184 ls []) := by
          intro  H locs ls hi184_0 hP hD hS hl
          refine lv_aload_n hx hb dX12_personLine_184 rfl (lv_at hl 0 rfl) ?_
          refine va_get (D := g) (ci := 11) (v := .ref (m_a 17)) (C := RX12) (T := TX12) (N := 56) hx hb hts iX12 hown hK hP 2 rfl rfl 17 (by decide) (hts (.fieldLink RX12 34 "CardsAtYuleModel" "has" "[I") (List.mem_cons_of_mem _ (List.mem_append_left _ (List.mem_of_getElem? (i := 13) rfl)))) (fun _ h9 => h9) rfl dX12_personLine_185 ?_
          refine lv_bipush (v := 23) hx hb dX12_personLine_188 (by decide) ?_
          refine lv_dup2_11 hx hb dX12_personLine_190 rfl rfl ?_
          refine va_iald (D := g) hx hb hK hP 0 0 rfl rfl (vc_in (by decide)) dX12_personLine_191 ?_
          refine lv_topi (nm_r (e' := (m_has_c 23)) rfl ?_)
          refine lv_iconst (v := 1) hx hb dX12_personLine_192 (by decide) ?_
          refine lv_iadd hx hb dX12_personLine_193 ?_
          refine lv_topi (fun y193 e193 => ?_)
          have q193 : y193.toInt = (m_has_c 23).toInt + 1 := by rw [e193]; exact ad_z rfl rfl ht_0 (ir_c 1) (by decide) (by decide)
          have r193 : ir y193.toInt 1 10 := ad_r q193 ht_0 (ir_c 1) (by decide) (by decide)
          refine va_iast (D := g) hx hb hK hP hD hS 0 0 rfl rfl (vc_in (by decide)) dX12_personLine_194 (fun H locs hP hD hS => ?_)
          obtain ⟨g194, e194⟩ : ∃ z, z = upd m_has_c 23 y193 := ⟨_, rfl⟩
          have hP : va_P g vwCl [((m_a 17), .inl (cI, 25, .inl (upd m_has_c 23 y193))), ((m_a 18), .inl (cI, 250, .inl j65_m_a18_c)), (m, .inr (11, mG m_a m_thrown m_taped j65_m_at j65_m_token j65_m_place j65_m_value j65_m_word j65_m_bad j65_m_badPlace m_fault m_faultPlace m_willing m_will m_forgot m_isDrawn m_x m_begin m_round m_roundCards m_fate m_any m_bothSend m_meanCards m_bestSum m_fitMany m_fitFirst m_fitSecond)), ((m_a 5), .inl (cB, 1600, .inl m_tape_c))] H := hP
          have hD : va_D A [((m_a 17), .inl (cI, 25, .inl (upd m_has_c 23 y193))), ((m_a 18), .inl (cI, 250, .inl j65_m_a18_c)), (m, .inr (11, mG m_a m_thrown m_taped j65_m_at j65_m_token j65_m_place j65_m_value j65_m_word j65_m_bad j65_m_badPlace m_fault m_faultPlace m_willing m_will m_forgot m_isDrawn m_x m_begin m_round m_roundCards m_fate m_any m_bothSend m_meanCards m_bestSum m_fitMany m_fitFirst m_fitSecond)), ((m_a 5), .inl (cB, 1600, .inl m_tape_c))] := hD
          rw [← e194] at hP hD
          have a194 : hasI g194 := by rw [e194]; exact hasI_u ha_m_has_c (ir_w r193 (by decide) (by decide))
          subst hQ
          have hP9 := hP.sub (ws' := [(m, .inr (11, mG m_a m_thrown m_taped j65_m_at j65_m_token j65_m_place j65_m_value j65_m_word j65_m_bad j65_m_badPlace m_fault m_faultPlace m_willing m_will m_forgot m_isDrawn m_x m_begin m_round m_roundCards m_fate m_any m_bothSend m_meanCards m_bestSum m_fitMany m_fitFirst m_fitSecond)), ((m_a 17), .inl (cI, 25, .inl g194)), ((m_a 5), .inl (cB, 1600, .inl m_tape_c)), ((m_a 18), .inl (cI, 250, .inl j65_m_a18_c))]) [2, 0, 3, 1] rfl
          have hD9 := hD.sub (ws' := [(m, .inr (11, mG m_a m_thrown m_taped j65_m_at j65_m_token j65_m_place j65_m_value j65_m_word j65_m_bad j65_m_badPlace m_fault m_faultPlace m_willing m_will m_forgot m_isDrawn m_x m_begin m_round m_roundCards m_fate m_any m_bothSend m_meanCards m_bestSum m_fitMany m_fitFirst m_fitSecond)), ((m_a 17), .inl (cI, 25, .inl g194)), ((m_a 5), .inl (cB, 1600, .inl m_tape_c)), ((m_a 18), .inl (cI, 250, .inl j65_m_a18_c))]) [2, 0, 3, 1] (by decide) rfl
          exact W.vret hx hb hr (fun t ht hW => ⟨⟨(j65_m_at, j65_m_token, j65_m_place, j65_m_value, j65_m_word, j65_m_bad, j65_m_badPlace, g194, j65_m_a18_c), rfl, ⟨hj65_m_at, a194, hj65_m_a18_c, (by omega)⟩, ⟨by rw [ht]; exact hP9, va_K.moved hW.alike hK, hD9⟩⟩, hS.F ht⟩) hS.2.2 dX12_personLine_195
        exact J184  _ _ _ (by first | omega | decide) (hP.sub [0, 1, 2, 3] rfl) (hD.sub [0, 1, 2, 3] (by decide) rfl) hS (lv_sub hl [0] rfl)
      subst er66
      have fc66_0 : j65_m_bad.toInt = 0 := fc66_0
      have r66_0a : ir j65_m_bad.toInt 0 0 := ir_eqa fc66_0 (rg_all j65_m_bad) (ir_c 0) (by decide) (by decide)
      refine lv_if_eq (tgt := 184) hx hb dX12_personLine_69 (by decide) (fun c => absurd c (by decide)) (fun _ => ?_)
      refine lv_aload_n hx hb dX12_personLine_72 rfl (lv_at hl 0 rfl) ?_
      refine va_get (D := g) (ci := 11) (v := .int j65_m_token) (C := RX12) (T := TX12) (N := 56) hx hb hts iX12 hown hK hP 2 rfl rfl 8 (by decide) (hts (.fieldLink RX12 148 "CardsAtYuleModel" "token" "I") (List.mem_cons_of_mem _ (List.mem_append_left _ (List.mem_of_getElem? (i := 12) rfl)))) (fun _ h9 => h9) rfl dX12_personLine_73 ?_
      refine lv_iconst (v := 1) hx hb dX12_personLine_76 (by decide) ?_
      refine lv_icmp_ne (tgt := 184) hx hb dX12_personLine_77 (by decide) (fun c77 => ?_) (fun c77 => ?_)
      · have f77 := (show j65_m_token.toInt ≠ 1 from z_ne rfl rfl c77)
        have J184 : ∀  (H : Heap) (locs : List Loc) (ls : Array Slot), ((j65_m_at.toInt = m_at.toInt ∧ j65_m_token.toInt = m_token.toInt) ∨ (m_at.toInt ≤ j65_m_at.toInt ∧ j65_m_at.toInt ≤ m_taped.toInt ∧ 0 ≤ j65_m_token.toInt ∧ j65_m_token.toInt ≤ 4 ∧ (m_at.toInt < j65_m_at.toInt ∨ (j65_m_token.toInt = 0 ∧ j65_m_at.toInt = m_taped.toInt)))) → va_P g vwCl [((m_a 17), .inl (cI, 25, .inl m_has_c)), ((m_a 18), .inl (cI, 250, .inl j65_m_a18_c)), (m, .inr (11, mG m_a m_thrown m_taped j65_m_at j65_m_token j65_m_place j65_m_value j65_m_word j65_m_bad j65_m_badPlace m_fault m_faultPlace m_willing m_will m_forgot m_isDrawn m_x m_begin m_round m_roundCards m_fate m_any m_bothSend m_meanCards m_bestSum m_fitMany m_fitFirst m_fitSecond)), ((m_a 5), .inl (cB, 1600, .inl m_tape_c))] H → va_D A [((m_a 17), .inl (cI, 25, .inl m_has_c)), ((m_a 18), .inl (cI, 250, .inl j65_m_a18_c)), (m, .inr (11, mG m_a m_thrown m_taped j65_m_at j65_m_token j65_m_place j65_m_value j65_m_word j65_m_bad j65_m_badPlace m_fault m_faultPlace m_willing m_will m_forgot m_isDrawn m_x m_begin m_round m_roundCards m_fate m_any m_bothSend m_meanCards m_bestSum m_fitMany m_fitFirst m_fitSecond)), ((m_a 5), .inl (cB, 1600, .inl m_tape_c))] → va_S A s.heap H locs → lv_has ls 5 [(0, .ref m)] → W p l e (headSpec v_X12_personLine ({ frames := 5, cells := 0, slots := 0, locals := 112 })).room s mth av below meth c H locs 0 0 QQ (F0 mth 184 ls []) := by
          intro  H locs ls hi184_0 hP hD hS hl
          refine lv_aload_n hx hb dX12_personLine_184 rfl (lv_at hl 0 rfl) ?_
          refine va_get (D := g) (ci := 11) (v := .ref (m_a 17)) (C := RX12) (T := TX12) (N := 56) hx hb hts iX12 hown hK hP 2 rfl rfl 17 (by decide) (hts (.fieldLink RX12 34 "CardsAtYuleModel" "has" "[I") (List.mem_cons_of_mem _ (List.mem_append_left _ (List.mem_of_getElem? (i := 13) rfl)))) (fun _ h9 => h9) rfl dX12_personLine_185 ?_
          refine lv_bipush (v := 23) hx hb dX12_personLine_188 (by decide) ?_
          refine lv_dup2_11 hx hb dX12_personLine_190 rfl rfl ?_
          refine va_iald (D := g) hx hb hK hP 0 0 rfl rfl (vc_in (by decide)) dX12_personLine_191 ?_
          refine lv_topi (nm_r (e' := (m_has_c 23)) rfl ?_)
          refine lv_iconst (v := 1) hx hb dX12_personLine_192 (by decide) ?_
          refine lv_iadd hx hb dX12_personLine_193 ?_
          refine lv_topi (fun y193 e193 => ?_)
          have q193 : y193.toInt = (m_has_c 23).toInt + 1 := by rw [e193]; exact ad_z rfl rfl ht_0 (ir_c 1) (by decide) (by decide)
          have r193 : ir y193.toInt 1 10 := ad_r q193 ht_0 (ir_c 1) (by decide) (by decide)
          refine va_iast (D := g) hx hb hK hP hD hS 0 0 rfl rfl (vc_in (by decide)) dX12_personLine_194 (fun H locs hP hD hS => ?_)
          obtain ⟨g194, e194⟩ : ∃ z, z = upd m_has_c 23 y193 := ⟨_, rfl⟩
          have hP : va_P g vwCl [((m_a 17), .inl (cI, 25, .inl (upd m_has_c 23 y193))), ((m_a 18), .inl (cI, 250, .inl j65_m_a18_c)), (m, .inr (11, mG m_a m_thrown m_taped j65_m_at j65_m_token j65_m_place j65_m_value j65_m_word j65_m_bad j65_m_badPlace m_fault m_faultPlace m_willing m_will m_forgot m_isDrawn m_x m_begin m_round m_roundCards m_fate m_any m_bothSend m_meanCards m_bestSum m_fitMany m_fitFirst m_fitSecond)), ((m_a 5), .inl (cB, 1600, .inl m_tape_c))] H := hP
          have hD : va_D A [((m_a 17), .inl (cI, 25, .inl (upd m_has_c 23 y193))), ((m_a 18), .inl (cI, 250, .inl j65_m_a18_c)), (m, .inr (11, mG m_a m_thrown m_taped j65_m_at j65_m_token j65_m_place j65_m_value j65_m_word j65_m_bad j65_m_badPlace m_fault m_faultPlace m_willing m_will m_forgot m_isDrawn m_x m_begin m_round m_roundCards m_fate m_any m_bothSend m_meanCards m_bestSum m_fitMany m_fitFirst m_fitSecond)), ((m_a 5), .inl (cB, 1600, .inl m_tape_c))] := hD
          rw [← e194] at hP hD
          have a194 : hasI g194 := by rw [e194]; exact hasI_u ha_m_has_c (ir_w r193 (by decide) (by decide))
          subst hQ
          have hP9 := hP.sub (ws' := [(m, .inr (11, mG m_a m_thrown m_taped j65_m_at j65_m_token j65_m_place j65_m_value j65_m_word j65_m_bad j65_m_badPlace m_fault m_faultPlace m_willing m_will m_forgot m_isDrawn m_x m_begin m_round m_roundCards m_fate m_any m_bothSend m_meanCards m_bestSum m_fitMany m_fitFirst m_fitSecond)), ((m_a 17), .inl (cI, 25, .inl g194)), ((m_a 5), .inl (cB, 1600, .inl m_tape_c)), ((m_a 18), .inl (cI, 250, .inl j65_m_a18_c))]) [2, 0, 3, 1] rfl
          have hD9 := hD.sub (ws' := [(m, .inr (11, mG m_a m_thrown m_taped j65_m_at j65_m_token j65_m_place j65_m_value j65_m_word j65_m_bad j65_m_badPlace m_fault m_faultPlace m_willing m_will m_forgot m_isDrawn m_x m_begin m_round m_roundCards m_fate m_any m_bothSend m_meanCards m_bestSum m_fitMany m_fitFirst m_fitSecond)), ((m_a 17), .inl (cI, 25, .inl g194)), ((m_a 5), .inl (cB, 1600, .inl m_tape_c)), ((m_a 18), .inl (cI, 250, .inl j65_m_a18_c))]) [2, 0, 3, 1] (by decide) rfl
          exact W.vret hx hb hr (fun t ht hW => ⟨⟨(j65_m_at, j65_m_token, j65_m_place, j65_m_value, j65_m_word, j65_m_bad, j65_m_badPlace, g194, j65_m_a18_c), rfl, ⟨hj65_m_at, a194, hj65_m_a18_c, (by omega)⟩, ⟨by rw [ht]; exact hP9, va_K.moved hW.alike hK, hD9⟩⟩, hS.F ht⟩) hS.2.2 dX12_personLine_195
        exact J184  _ _ _ (by first | omega | decide) (hP.sub [0, 1, 2, 3] rfl) (hD.sub [0, 1, 2, 3] (by decide) rfl) hS (lv_sub hl [0] rfl)
      have f77 := (show j65_m_token.toInt = 1 from z_eq rfl rfl c77)
      have r77a : ir j65_m_token.toInt 1 1 := ir_eqa f77 (rg_all j65_m_token) (ir_c 1) (by decide) (by decide)
      refine lv_aload_n hx hb dX12_personLine_80 rfl (lv_at hl 0 rfl) ?_
      refine lv_ldc2 (v := 7056369019) hx hb hown (hts (.constantLong RX12 202 (7056369019)) (List.mem_cons_of_mem _ (List.mem_append_left _ (List.mem_of_getElem? (i := 14) rfl)))) dX12_personLine_81 ?_
      refine ro_i (va_runV (As := [.long 7056369019]) (rest := []) ⟨hx, hb, hml, hown, hts⟩ (q_X12_isB l g cI cJ cB cZ cL 7056369019 m m_a m_thrown m_taped j65_m_at j65_m_token j65_m_place j65_m_value j65_m_word j65_m_bad j65_m_badPlace m_fault m_faultPlace m_willing m_will m_forgot m_isDrawn m_x m_begin m_round m_roundCards m_fate m_any m_bothSend m_meanCards m_bestSum m_fitMany m_fitFirst m_fitSecond H.size hv_m_taped hj65_m_at hv_m_will hv_m_isDrawn) (cwV 1 hts (goodIn_app (g_4 (List.mem_cons_of_mem _ (List.mem_append_left _ (List.mem_of_getElem? (i := 15) rfl))) (List.mem_cons_of_mem _ (List.mem_append_left _ (List.mem_of_getElem? (i := 16) rfl))) (List.mem_cons_of_mem _ (List.mem_append_left _ (List.mem_of_getElem? (i := 17) rfl))) (List.mem_cons_of_mem _ (List.mem_append_left _ (List.mem_of_getElem? (i := 3) rfl))) (by decide +kernel)) (goodIn_sub (fun _ h => List.mem_cons_of_mem _ (List.mem_append_right _ (List.mem_append_right _ (List.mem_append_right _ (List.mem_append_right _ (List.mem_append_left _ h)))))) good_v_X12_isB)) rfl rfl rfl (by decide +kernel) ⟨Nat.le_of_ble_eq_true rfl, Nat.le_of_ble_eq_true rfl⟩) (pv_RO (q := (RX12, TX12, 56)) (ci := 11) (q0 := 0) (wc := [(m, .inr (11, mG m_a m_thrown m_taped j65_m_at j65_m_token j65_m_place j65_m_value j65_m_word j65_m_bad j65_m_badPlace m_fault m_faultPlace m_willing m_will m_forgot m_isDrawn m_x m_begin m_round m_roundCards m_fate m_any m_bothSend m_meanCards m_bestSum m_fitMany m_fitFirst m_fitSecond))]) hK hP [2] rfl rfl rfl) rfl rfl hl.1 rfl (lv_room (Nat.le_of_ble_eq_true rfl)) dX12_personLine_84 ⟨Nat.le_of_ble_eq_true rfl, Nat.le_of_ble_eq_true rfl⟩) hS hA hP (fun r84 u84 H locs hw84 hP hS => ?_)
      have hw84_0 := hw84
      refine lv_istore_n (lv' := [(3, .int r84), (0, .ref m), (1, .int y9), (2, .int j65_l2)]) hx hb dX12_personLine_87 rfl hl (by decide) rfl (fun ls hl => ?_)
      refine lv_aload_n hx hb dX12_personLine_88 rfl (lv_at hl 1 rfl) ?_
      refine lv_ldc2 (v := 2549464462) hx hb hown (hts (.constantLong RX12 204 (2549464462)) (List.mem_cons_of_mem _ (List.mem_append_left _ (List.mem_of_getElem? (i := 18) rfl)))) dX12_personLine_89 ?_
      refine ro_i (va_runV (As := [.long 2549464462]) (rest := []) ⟨hx, hb, hml, hown, hts⟩ (q_X12_isB l g cI cJ cB cZ cL 2549464462 m m_a m_thrown m_taped j65_m_at j65_m_token j65_m_place j65_m_value j65_m_word j65_m_bad j65_m_badPlace m_fault m_faultPlace m_willing m_will m_forgot m_isDrawn m_x m_begin m_round m_roundCards m_fate m_any m_bothSend m_meanCards m_bestSum m_fitMany m_fitFirst m_fitSecond H.size hv_m_taped hj65_m_at hv_m_will hv_m_isDrawn) (cwV 1 hts (goodIn_app (g_4 (List.mem_cons_of_mem _ (List.mem_append_left _ (List.mem_of_getElem? (i := 15) rfl))) (List.mem_cons_of_mem _ (List.mem_append_left _ (List.mem_of_getElem? (i := 16) rfl))) (List.mem_cons_of_mem _ (List.mem_append_left _ (List.mem_of_getElem? (i := 17) rfl))) (List.mem_cons_of_mem _ (List.mem_append_left _ (List.mem_of_getElem? (i := 3) rfl))) (by decide +kernel)) (goodIn_sub (fun _ h => List.mem_cons_of_mem _ (List.mem_append_right _ (List.mem_append_right _ (List.mem_append_right _ (List.mem_append_right _ (List.mem_append_left _ h)))))) good_v_X12_isB)) rfl rfl rfl (by decide +kernel) ⟨Nat.le_of_ble_eq_true rfl, Nat.le_of_ble_eq_true rfl⟩) (pv_RO (q := (RX12, TX12, 56)) (ci := 11) (q0 := 0) (wc := [(m, .inr (11, mG m_a m_thrown m_taped j65_m_at j65_m_token j65_m_place j65_m_value j65_m_word j65_m_bad j65_m_badPlace m_fault m_faultPlace m_willing m_will m_forgot m_isDrawn m_x m_begin m_round m_roundCards m_fate m_any m_bothSend m_meanCards m_bestSum m_fitMany m_fitFirst m_fitSecond))]) hK hP [2] rfl rfl rfl) rfl rfl hl.1 rfl (lv_room (Nat.le_of_ble_eq_true rfl)) dX12_personLine_92 ⟨Nat.le_of_ble_eq_true rfl, Nat.le_of_ble_eq_true rfl⟩) hS hA hP (fun r92 u92 H locs hw92 hP hS => ?_)
      have hw92_0 := hw92
      refine lv_istore (lv' := [(4, .int r92), (3, .int r84), (0, .ref m), (1, .int y9), (2, .int j65_l2)]) hx hb dX12_personLine_95 hl (by decide) rfl (fun ls hl => ?_)
      refine lv_iload_n hx hb dX12_personLine_97 rfl (lv_at hl 1 rfl) ?_
      have J136 : ∀ (j136_m_bad : Int32) (j136_m_badPlace : Int32) (H : Heap) (locs : List Loc) (ls : Array Slot), ((j65_m_at.toInt = m_at.toInt ∧ j65_m_token.toInt = m_token.toInt) ∨ (m_at.toInt ≤ j65_m_at.toInt ∧ j65_m_at.toInt ≤ m_taped.toInt ∧ 0 ≤ j65_m_token.toInt ∧ j65_m_token.toInt ≤ 4 ∧ (m_at.toInt < j65_m_at.toInt ∨ (j65_m_token.toInt = 0 ∧ j65_m_at.toInt = m_taped.toInt)))) → va_P g vwCl [((m_a 17), .inl (cI, 25, .inl m_has_c)), ((m_a 18), .inl (cI, 250, .inl j65_m_a18_c)), (m, .inr (11, mG m_a m_thrown m_taped j65_m_at j65_m_token j65_m_place j65_m_value j65_m_word j136_m_bad j136_m_badPlace m_fault m_faultPlace m_willing m_will m_forgot m_isDrawn m_x m_begin m_round m_roundCards m_fate m_any m_bothSend m_meanCards m_bestSum m_fitMany m_fitFirst m_fitSecond)), ((m_a 5), .inl (cB, 1600, .inl m_tape_c))] H → va_D A [((m_a 17), .inl (cI, 25, .inl m_has_c)), ((m_a 18), .inl (cI, 250, .inl j65_m_a18_c)), (m, .inr (11, mG m_a m_thrown m_taped j65_m_at j65_m_token j65_m_place j65_m_value j65_m_word j136_m_bad j136_m_badPlace m_fault m_faultPlace m_willing m_will m_forgot m_isDrawn m_x m_begin m_round m_roundCards m_fate m_any m_bothSend m_meanCards m_bestSum m_fitMany m_fitFirst m_fitSecond)), ((m_a 5), .inl (cB, 1600, .inl m_tape_c))] → va_S A s.heap H locs → lv_has ls 5 [(0, .ref m), (1, .int y9), (2, .int j65_l2), (3, .int r84)] → W p l e (headSpec v_X12_personLine ({ frames := 5, cells := 0, slots := 0, locals := 112 })).room s mth av below meth c H locs 0 0 QQ (F0 mth 136 ls []) := by
        intro j136_m_bad j136_m_badPlace H locs ls hi136_0 hP hD hS hl
        refine lv_aload_n hx hb dX12_personLine_136 rfl (lv_at hl 0 rfl) ?_
        refine va_get (D := g) (ci := 11) (v := .int j136_m_bad) (C := RX12) (T := TX12) (N := 56) hx hb hts iX12 hown hK hP 2 rfl rfl 12 (by decide) (hts (.fieldLink RX12 159 "CardsAtYuleModel" "bad" "I") (List.mem_cons_of_mem _ (List.mem_append_left _ (List.mem_of_getElem? (i := 19) rfl)))) (fun _ h9 => h9) rfl dX12_personLine_137 ?_
        refine lv_if_eq (tgt := 144) hx hb dX12_personLine_140 (by decide) (fun c140 => ?_) (fun c140 => ?_)
        rotate_left 1
        · have f140 := (show j136_m_bad.toInt ≠ 0 from z_ne rfl rfl c140)
          subst hQ
          have hP9 := hP.sub (ws' := [(m, .inr (11, mG m_a m_thrown m_taped j65_m_at j65_m_token j65_m_place j65_m_value j65_m_word j136_m_bad j136_m_badPlace m_fault m_faultPlace m_willing m_will m_forgot m_isDrawn m_x m_begin m_round m_roundCards m_fate m_any m_bothSend m_meanCards m_bestSum m_fitMany m_fitFirst m_fitSecond)), ((m_a 17), .inl (cI, 25, .inl m_has_c)), ((m_a 5), .inl (cB, 1600, .inl m_tape_c)), ((m_a 18), .inl (cI, 250, .inl j65_m_a18_c))]) [2, 0, 3, 1] rfl
          have hD9 := hD.sub (ws' := [(m, .inr (11, mG m_a m_thrown m_taped j65_m_at j65_m_token j65_m_place j65_m_value j65_m_word j136_m_bad j136_m_badPlace m_fault m_faultPlace m_willing m_will m_forgot m_isDrawn m_x m_begin m_round m_roundCards m_fate m_any m_bothSend m_meanCards m_bestSum m_fitMany m_fitFirst m_fitSecond)), ((m_a 17), .inl (cI, 25, .inl m_has_c)), ((m_a 5), .inl (cB, 1600, .inl m_tape_c)), ((m_a 18), .inl (cI, 250, .inl j65_m_a18_c))]) [2, 0, 3, 1] (by decide) rfl
          exact W.vret hx hb hr (fun t ht hW => ⟨⟨(j65_m_at, j65_m_token, j65_m_place, j65_m_value, j65_m_word, j136_m_bad, j136_m_badPlace, m_has_c, j65_m_a18_c), rfl, ⟨hj65_m_at, ha_m_has_c, hj65_m_a18_c, (by omega)⟩, ⟨by rw [ht]; exact hP9, va_K.moved hW.alike hK, hD9⟩⟩, hS.F ht⟩) hS.2.2 dX12_personLine_143
        have f140 := (show j136_m_bad.toInt = 0 from z_eq rfl rfl c140)
        have r140a : ir j136_m_bad.toInt 0 0 := ir_eqa f140 (rg_all j136_m_bad) (ir_c 0) (by decide) (by decide)
        refine lv_aload_n hx hb dX12_personLine_144 rfl (lv_at hl 0 rfl) ?_
        refine rw_v (wr := [((m_a 17), .inl (cI, 25, .inl m_has_c)), ((m_a 18), .inl (cI, 250, .inl j65_m_a18_c))]) (va_runV (As := []) (rest := []) ⟨hx, hb, hml, hown, hts⟩ (q_X12_next l g cI cJ cB cZ cL m m_a m_thrown m_taped j65_m_at j65_m_token j65_m_place j65_m_value j65_m_word j136_m_bad j136_m_badPlace m_fault m_faultPlace m_willing m_will m_forgot m_isDrawn m_x m_begin m_round m_roundCards m_fate m_any m_bothSend m_meanCards m_bestSum m_fitMany m_fitFirst m_fitSecond m_tape_c H.size hv_m_taped hj65_m_at hv_m_will hv_m_isDrawn (by omega)) (cwV 0 hts (goodIn_app (g_4 (List.mem_cons_of_mem _ (List.mem_append_left _ (List.mem_of_getElem? (i := 20) rfl))) (List.mem_cons_of_mem _ (List.mem_append_left _ (List.mem_of_getElem? (i := 21) rfl))) (List.mem_cons_of_mem _ (List.mem_append_left _ (List.mem_of_getElem? (i := 22) rfl))) (List.mem_cons_of_mem _ (List.mem_append_left _ (List.mem_of_getElem? (i := 3) rfl))) (by decide +kernel)) (goodIn_sub (fun _ h => List.mem_cons_of_mem _ (List.mem_append_right _ (List.mem_append_right _ (List.mem_append_right _ (List.mem_append_right _ (List.mem_append_right _ (List.mem_append_left _ h))))))) good_v_X12_next)) rfl rfl rfl (by decide +kernel) ⟨Nat.le_of_ble_eq_true rfl, Nat.le_of_ble_eq_true rfl⟩) (pv_RW (q := (RX12, TX12, 56)) (ci := 11) (q0 := 0) (wc := [(m, .inr (11, mG m_a m_thrown m_taped j65_m_at j65_m_token j65_m_place j65_m_value j65_m_word j136_m_bad j136_m_badPlace m_fault m_faultPlace m_willing m_will m_forgot m_isDrawn m_x m_begin m_round m_roundCards m_fate m_any m_bothSend m_meanCards m_bestSum m_fitMany m_fitFirst m_fitSecond)), ((m_a 5), .inl (cB, 1600, .inl m_tape_c))]) hK hP hD [2, 3] (by decide) rfl rfl rfl) rfl rfl hl.1 rfl (lv_room (Nat.le_of_ble_eq_true rfl)) dX12_personLine_145 ⟨Nat.le_of_ble_eq_true rfl, Nat.le_of_ble_eq_true rfl⟩) hS hA hP hD [2, 3] [0, 1] rfl rfl (by decide) (by decide) (fun u145 H locs hw145 hP hD hS => ?_)
        obtain ⟨n_m_at_145, n_m_token_145, n_m_place_145, n_m_value_145, n_m_word_145⟩ := u145
        have hP : va_P g vwCl [((m_a 17), .inl (cI, 25, .inl m_has_c)), ((m_a 18), .inl (cI, 250, .inl j65_m_a18_c)), (m, .inr (11, mG m_a m_thrown m_taped n_m_at_145 n_m_token_145 n_m_place_145 n_m_value_145 n_m_word_145 j136_m_bad j136_m_badPlace m_fault m_faultPlace m_willing m_will m_forgot m_isDrawn m_x m_begin m_round m_roundCards m_fate m_any m_bothSend m_meanCards m_bestSum m_fitMany m_fitFirst m_fitSecond)), ((m_a 5), .inl (cB, 1600, .inl m_tape_c))] H := hP
        have hD : va_D A [((m_a 17), .inl (cI, 25, .inl m_has_c)), ((m_a 18), .inl (cI, 250, .inl j65_m_a18_c)), (m, .inr (11, mG m_a m_thrown m_taped n_m_at_145 n_m_token_145 n_m_place_145 n_m_value_145 n_m_word_145 j136_m_bad j136_m_badPlace m_fault m_faultPlace m_willing m_will m_forgot m_isDrawn m_x m_begin m_round m_roundCards m_fate m_any m_bothSend m_meanCards m_bestSum m_fitMany m_fitFirst m_fitSecond)), ((m_a 5), .inl (cB, 1600, .inl m_tape_c))] := hD
        dsimp only at hw145
        obtain ⟨hw145_0, hw145_1, hw145_2, hw145_3⟩ := hw145
        have hw145_3 : (j65_m_at.toInt ≤ n_m_at_145.toInt ∧ n_m_at_145.toInt ≤ m_taped.toInt ∧ 0 ≤ n_m_token_145.toInt ∧ n_m_token_145.toInt ≤ 4 ∧ (j65_m_at.toInt < n_m_at_145.toInt ∨ (n_m_token_145.toInt = 0 ∧ n_m_at_145.toInt = m_taped.toInt))) := hw145_3
        refine lv_iload_n hx hb dX12_personLine_148 rfl (lv_at hl 3 rfl) ?_
        refine lv_if_eq (tgt := 164) hx hb dX12_personLine_149 (by decide) (fun c149 => ?_) (fun c149 => ?_)
        rotate_left 1
        · have f149 := (show r84.toInt ≠ 0 from z_ne rfl rfl c149)
          have r149a : ir r84.toInt 1 1 := ir_nel f149 hw84_0 (by decide) (by decide)
          refine lv_aload_n hx hb dX12_personLine_152 rfl (lv_at hl 0 rfl) ?_
          refine va_get (D := g) (ci := 11) (v := .ref (m_a 18)) (C := RX12) (T := TX12) (N := 56) hx hb hts iX12 hown hK hP 2 rfl rfl 18 (by decide) (hts (.fieldLink RX12 37 "CardsAtYuleModel" "person" "[I") (List.mem_cons_of_mem _ (List.mem_append_left _ (List.mem_of_getElem? (i := 4) rfl)))) (fun _ h9 => h9) rfl dX12_personLine_153 ?_
          refine lv_iload_n hx hb dX12_personLine_156 rfl (lv_at hl 1 rfl) ?_
          refine lv_iconst (v := 1) hx hb dX12_personLine_157 (by decide) ?_
          refine lv_iadd hx hb dX12_personLine_158 ?_
          refine lv_topi (fun y158 e158 => ?_)
          have q158 : y158.toInt = y9.toInt + 1 := by rw [e158]; exact ad_z rfl rfl r9 (ir_c 1) (by decide) (by decide)
          have r158 : ir y158.toInt 201 246 := ad_r q158 r9 (ir_c 1) (by decide) (by decide)
          refine lv_iconst (v := 1) hx hb dX12_personLine_159 (by decide) ?_
          refine va_iast (D := g) hx hb hK hP hD hS 1 0 rfl rfl (vi_rg rfl r158 (by decide) (by decide)) dX12_personLine_160 (fun H locs hP hD hS => ?_)
          obtain ⟨g160, e160⟩ : ∃ z, z = upd j65_m_a18_c y158.toNatClampNeg (1 : Int32) := ⟨_, rfl⟩
          have hP : va_P g vwCl [((m_a 17), .inl (cI, 25, .inl m_has_c)), ((m_a 18), .inl (cI, 250, .inl (upd j65_m_a18_c y158.toNatClampNeg (1 : Int32)))), (m, .inr (11, mG m_a m_thrown m_taped n_m_at_145 n_m_token_145 n_m_place_145 n_m_value_145 n_m_word_145 j136_m_bad j136_m_badPlace m_fault m_faultPlace m_willing m_will m_forgot m_isDrawn m_x m_begin m_round m_roundCards m_fate m_any m_bothSend m_meanCards m_bestSum m_fitMany m_fitFirst m_fitSecond)), ((m_a 5), .inl (cB, 1600, .inl m_tape_c))] H := hP
          have hD : va_D A [((m_a 17), .inl (cI, 25, .inl m_has_c)), ((m_a 18), .inl (cI, 250, .inl (upd j65_m_a18_c y158.toNatClampNeg (1 : Int32)))), (m, .inr (11, mG m_a m_thrown m_taped n_m_at_145 n_m_token_145 n_m_place_145 n_m_value_145 n_m_word_145 j136_m_bad j136_m_badPlace m_fault m_faultPlace m_willing m_will m_forgot m_isDrawn m_x m_begin m_round m_roundCards m_fate m_any m_bothSend m_meanCards m_bestSum m_fitMany m_fitFirst m_fitSecond)), ((m_a 5), .inl (cB, 1600, .inl m_tape_c))] := hD
          rw [← e160] at hP hD
          have a160 : perI g160 := by rw [e160]; exact perI_u hj65_m_a18_c (ir_w (show ir (1 : Int32).toInt 1 1 by decide) (by decide) (by decide))
          refine lv_goto (tgt := 181) hx hb dX12_personLine_161 (by decide) ?_
          refine lv_goto (tgt := 65) hx hb dX12_personLine_181 (by decide) ?_
          exact ih65 j65_l2 n_m_at_145 n_m_token_145 n_m_place_145 n_m_value_145 n_m_word_145 j136_m_bad j136_m_badPlace g160 _ _ _ (by omega) hj65_l2 hw145_0 a160 (by first | omega | decide) (hP.sub [0, 1, 2, 3] rfl) (hD.sub [0, 1, 2, 3] (by decide) rfl) hS (lv_sub hl [0, 1, 2] rfl)
        have f149 := (show r84.toInt = 0 from z_eq rfl rfl c149)
        have r149a : ir r84.toInt 0 0 := ir_eqa f149 hw84_0 (ir_c 0) (by decide) (by decide)
        refine lv_aload_n hx hb dX12_personLine_164 rfl (lv_at hl 0 rfl) ?_
        refine va_get (D := g) (ci := 11) (v := .ref (m_a 18)) (C := RX12) (T := TX12) (N := 56) hx hb hts iX12 hown hK hP 2 rfl rfl 18 (by decide) (hts (.fieldLink RX12 37 "CardsAtYuleModel" "person" "[I") (List.mem_cons_of_mem _ (List.mem_append_left _ (List.mem_of_getElem? (i := 4) rfl)))) (fun _ h9 => h9) rfl dX12_personLine_165 ?_
        refine lv_iload_n hx hb dX12_personLine_168 rfl (lv_at hl 1 rfl) ?_
        refine lv_iconst (v := 2) hx hb dX12_personLine_169 (by decide) ?_
        refine lv_iadd hx hb dX12_personLine_170 ?_
        refine lv_topi (fun y170 e170 => ?_)
        have q170 : y170.toInt = y9.toInt + 2 := by rw [e170]; exact ad_z rfl rfl r9 (ir_c 2) (by decide) (by decide)
        have r170 : ir y170.toInt 202 247 := ad_r q170 r9 (ir_c 2) (by decide) (by decide)
        refine lv_aload_n hx hb dX12_personLine_171 rfl (lv_at hl 0 rfl) ?_
        refine lv_iconst (v := 0) hx hb dX12_personLine_172 (by decide) ?_
        refine lv_bipush (v := 50) hx hb dX12_personLine_173 (by decide) ?_
        refine rw_i (wr := [((m_a 17), .inl (cI, 25, .inl m_has_c)), ((m_a 18), .inl (cI, 250, .inl j65_m_a18_c))]) (va_runV (As := [.int 0, .int 50]) (rest := [.int y170, .ref (m_a 18)]) ⟨hx, hb, hml, hown, hts⟩ (q_X12_number l g cI cJ cB cZ cL 0 50 m m_a m_thrown m_taped n_m_at_145 n_m_token_145 n_m_place_145 n_m_value_145 n_m_word_145 j136_m_bad j136_m_badPlace m_fault m_faultPlace m_willing m_will m_forgot m_isDrawn m_x m_begin m_round m_roundCards m_fate m_any m_bothSend m_meanCards m_bestSum m_fitMany m_fitFirst m_fitSecond m_tape_c H.size hv_m_taped hw145_0 hv_m_will hv_m_isDrawn (by omega)) (cwV 2 hts (goodIn_app (g_4 (List.mem_cons_of_mem _ (List.mem_append_left _ (List.mem_of_getElem? (i := 23) rfl))) (List.mem_cons_of_mem _ (List.mem_append_left _ (List.mem_of_getElem? (i := 24) rfl))) (List.mem_cons_of_mem _ (List.mem_append_left _ (List.mem_of_getElem? (i := 25) rfl))) (List.mem_cons_of_mem _ (List.mem_append_left _ (List.mem_of_getElem? (i := 3) rfl))) (by decide +kernel)) (goodIn_sub (fun _ h => List.mem_cons_of_mem _ (List.mem_append_right _ (List.mem_append_right _ (List.mem_append_right _ (List.mem_append_right _ (List.mem_append_right _ (List.mem_append_right _ (List.mem_append_left _ h)))))))) good_v_X12_number)) rfl rfl rfl (by decide +kernel) ⟨Nat.le_of_ble_eq_true rfl, Nat.le_of_ble_eq_true rfl⟩) (pv_RW (q := (RX12, TX12, 56)) (ci := 11) (q0 := 0) (wc := [(m, .inr (11, mG m_a m_thrown m_taped n_m_at_145 n_m_token_145 n_m_place_145 n_m_value_145 n_m_word_145 j136_m_bad j136_m_badPlace m_fault m_faultPlace m_willing m_will m_forgot m_isDrawn m_x m_begin m_round m_roundCards m_fate m_any m_bothSend m_meanCards m_bestSum m_fitMany m_fitFirst m_fitSecond)), ((m_a 5), .inl (cB, 1600, .inl m_tape_c))]) hK hP hD [2, 3] (by decide) rfl rfl rfl) rfl rfl hl.1 rfl (lv_room (Nat.le_of_ble_eq_true rfl)) dX12_personLine_175 ⟨Nat.le_of_ble_eq_true rfl, Nat.le_of_ble_eq_true rfl⟩) hS hA hP hD [2, 3] [0, 1] rfl rfl (by decide) (by decide) (fun r175 u175 H locs hw175 hP hD hS => ?_)
        obtain ⟨n_m_at_175, n_m_token_175, n_m_place_175, n_m_value_175, n_m_word_175, n_m_bad_175, n_m_badPlace_175⟩ := u175
        have hP : va_P g vwCl [((m_a 17), .inl (cI, 25, .inl m_has_c)), ((m_a 18), .inl (cI, 250, .inl j65_m_a18_c)), (m, .inr (11, mG m_a m_thrown m_taped n_m_at_175 n_m_token_175 n_m_place_175 n_m_value_175 n_m_word_175 n_m_bad_175 n_m_badPlace_175 m_fault m_faultPlace m_willing m_will m_forgot m_isDrawn m_x m_begin m_round m_roundCards m_fate m_any m_bothSend m_meanCards m_bestSum m_fitMany m_fitFirst m_fitSecond)), ((m_a 5), .inl (cB, 1600, .inl m_tape_c))] H := hP
        have hD : va_D A [((m_a 17), .inl (cI, 25, .inl m_has_c)), ((m_a 18), .inl (cI, 250, .inl j65_m_a18_c)), (m, .inr (11, mG m_a m_thrown m_taped n_m_at_175 n_m_token_175 n_m_place_175 n_m_value_175 n_m_word_175 n_m_bad_175 n_m_badPlace_175 m_fault m_faultPlace m_willing m_will m_forgot m_isDrawn m_x m_begin m_round m_roundCards m_fate m_any m_bothSend m_meanCards m_bestSum m_fitMany m_fitFirst m_fitSecond)), ((m_a 5), .inl (cB, 1600, .inl m_tape_c))] := hD
        dsimp only at hw175
        obtain ⟨hw175_0, hw175_1, hw175_2⟩ := hw175
        have hw175_1 : (n_m_at_175.toInt = n_m_at_145.toInt ∧ n_m_token_175.toInt = n_m_token_145.toInt) ∨ (n_m_at_145.toInt ≤ n_m_at_175.toInt ∧ n_m_at_175.toInt ≤ m_taped.toInt ∧ 0 ≤ n_m_token_175.toInt ∧ n_m_token_175.toInt ≤ 4 ∧ (n_m_at_145.toInt < n_m_at_175.toInt ∨ (n_m_token_175.toInt = 0 ∧ n_m_at_175.toInt = m_taped.toInt))) := hw175_1
        have hw175_2 : r175.toInt = 0 ∨ (0 ≤ r175.toInt ∧ r175.toInt ≤ 50) := hw175_2
        have rc175 : ir r175.toInt 0 50 := by omega
        refine va_iast (D := g) hx hb hK hP hD hS 1 0 rfl rfl (vi_rg rfl r170 (by decide) (by decide)) dX12_personLine_178 (fun H locs hP hD hS => ?_)
        obtain ⟨g178, e178⟩ : ∃ z, z = upd j65_m_a18_c y170.toNatClampNeg r175 := ⟨_, rfl⟩
        have hP : va_P g vwCl [((m_a 17), .inl (cI, 25, .inl m_has_c)), ((m_a 18), .inl (cI, 250, .inl (upd j65_m_a18_c y170.toNatClampNeg r175))), (m, .inr (11, mG m_a m_thrown m_taped n_m_at_175 n_m_token_175 n_m_place_175 n_m_value_175 n_m_word_175 n_m_bad_175 n_m_badPlace_175 m_fault m_faultPlace m_willing m_will m_forgot m_isDrawn m_x m_begin m_round m_roundCards m_fate m_any m_bothSend m_meanCards m_bestSum m_fitMany m_fitFirst m_fitSecond)), ((m_a 5), .inl (cB, 1600, .inl m_tape_c))] H := hP
        have hD : va_D A [((m_a 17), .inl (cI, 25, .inl m_has_c)), ((m_a 18), .inl (cI, 250, .inl (upd j65_m_a18_c y170.toNatClampNeg r175))), (m, .inr (11, mG m_a m_thrown m_taped n_m_at_175 n_m_token_175 n_m_place_175 n_m_value_175 n_m_word_175 n_m_bad_175 n_m_badPlace_175 m_fault m_faultPlace m_willing m_will m_forgot m_isDrawn m_x m_begin m_round m_roundCards m_fate m_any m_bothSend m_meanCards m_bestSum m_fitMany m_fitFirst m_fitSecond)), ((m_a 5), .inl (cB, 1600, .inl m_tape_c))] := hD
        rw [← e178] at hP hD
        have a178 : perI g178 := by rw [e178]; exact perI_n hj65_m_a18_c (by have c0 := cl_t (x := y170) rfl (by omega); omega)
        refine lv_iconst (v := 1) hx hb dX12_personLine_179 (by decide) ?_
        refine lv_istore_n (lv' := [(2, .int 1), (0, .ref m), (1, .int y9), (3, .int r84)]) hx hb dX12_personLine_180 rfl hl (by decide) rfl (fun ls hl => ?_)
        refine lv_goto (tgt := 65) hx hb dX12_personLine_181 (by decide) ?_
        exact ih65 1 n_m_at_175 n_m_token_175 n_m_place_175 n_m_value_175 n_m_word_175 n_m_bad_175 n_m_badPlace_175 g178 _ _ _ (by omega) (by decide) hw175_0 a178 (by have kc0 : (1 : Int32).toInt = 1 := rfl; first | omega | decide) (hP.sub [0, 1, 2, 3] rfl) (hD.sub [0, 1, 2, 3] (by decide) rfl) hS (lv_sub hl [1, 2, 0] rfl)
      have J131 : ∀  (H : Heap) (locs : List Loc) (ls : Array Slot), ((j65_m_at.toInt = m_at.toInt ∧ j65_m_token.toInt = m_token.toInt) ∨ (m_at.toInt ≤ j65_m_at.toInt ∧ j65_m_at.toInt ≤ m_taped.toInt ∧ 0 ≤ j65_m_token.toInt ∧ j65_m_token.toInt ≤ 4 ∧ (m_at.toInt < j65_m_at.toInt ∨ (j65_m_token.toInt = 0 ∧ j65_m_at.toInt = m_taped.toInt)))) → va_P g vwCl [((m_a 17), .inl (cI, 25, .inl m_has_c)), ((m_a 18), .inl (cI, 250, .inl j65_m_a18_c)), (m, .inr (11, mG m_a m_thrown m_taped j65_m_at j65_m_token j65_m_place j65_m_value j65_m_word j65_m_bad j65_m_badPlace m_fault m_faultPlace m_willing m_will m_forgot m_isDrawn m_x m_begin m_round m_roundCards m_fate m_any m_bothSend m_meanCards m_bestSum m_fitMany m_fitFirst m_fitSecond)), ((m_a 5), .inl (cB, 1600, .inl m_tape_c))] H → va_D A [((m_a 17), .inl (cI, 25, .inl m_has_c)), ((m_a 18), .inl (cI, 250, .inl j65_m_a18_c)), (m, .inr (11, mG m_a m_thrown m_taped j65_m_at j65_m_token j65_m_place j65_m_value j65_m_word j65_m_bad j65_m_badPlace m_fault m_faultPlace m_willing m_will m_forgot m_isDrawn m_x m_begin m_round m_roundCards m_fate m_any m_bothSend m_meanCards m_bestSum m_fitMany m_fitFirst m_fitSecond)), ((m_a 5), .inl (cB, 1600, .inl m_tape_c))] → va_S A s.heap H locs → lv_has ls 5 [(0, .ref m), (1, .int y9), (2, .int j65_l2), (3, .int r84)] → W p l e (headSpec v_X12_personLine ({ frames := 5, cells := 0, slots := 0, locals := 112 })).room s mth av below meth c H locs 0 0 QQ (F0 mth 131 ls []) := by
        intro  H locs ls hi131_0 hP hD hS hl
        refine lv_aload_n hx hb dX12_personLine_131 rfl (lv_at hl 0 rfl) ?_
        refine lv_iconst (v := 1) hx hb dX12_personLine_132 (by decide) ?_
        refine rw_v (wr := [((m_a 17), .inl (cI, 25, .inl m_has_c)), ((m_a 18), .inl (cI, 250, .inl j65_m_a18_c)), ((m_a 5), .inl (cB, 1600, .inl m_tape_c))]) (va_runV (As := [.int 1]) (rest := []) ⟨hx, hb, hml, hown, hts⟩ (q_X12_fails l g cI cJ cB cZ cL 1 m m_a m_thrown m_taped j65_m_at j65_m_token j65_m_place j65_m_value j65_m_word j65_m_bad j65_m_badPlace m_fault m_faultPlace m_willing m_will m_forgot m_isDrawn m_x m_begin m_round m_roundCards m_fate m_any m_bothSend m_meanCards m_bestSum m_fitMany m_fitFirst m_fitSecond H.size (by decide) hv_m_taped hj65_m_at hv_m_will hv_m_isDrawn) (cwV 1 hts (goodIn_app (g_4 (List.mem_cons_of_mem _ (List.mem_append_left _ (List.mem_of_getElem? (i := 26) rfl))) (List.mem_cons_of_mem _ (List.mem_append_left _ (List.mem_of_getElem? (i := 27) rfl))) (List.mem_cons_of_mem _ (List.mem_append_left _ (List.mem_of_getElem? (i := 28) rfl))) (List.mem_cons_of_mem _ (List.mem_append_left _ (List.mem_of_getElem? (i := 3) rfl))) (by decide +kernel)) (goodIn_sub (fun _ h => List.mem_cons_of_mem _ (List.mem_append_right _ (List.mem_append_right _ (List.mem_append_right _ (List.mem_append_right _ (List.mem_append_right _ (List.mem_append_right _ (List.mem_append_right _ (List.mem_append_left _ h))))))))) good_v_X12_fails)) rfl rfl rfl (by decide +kernel) ⟨Nat.le_of_ble_eq_true rfl, Nat.le_of_ble_eq_true rfl⟩) (pv_RW (q := (RX12, TX12, 56)) (ci := 11) (q0 := 0) (wc := [(m, .inr (11, mG m_a m_thrown m_taped j65_m_at j65_m_token j65_m_place j65_m_value j65_m_word j65_m_bad j65_m_badPlace m_fault m_faultPlace m_willing m_will m_forgot m_isDrawn m_x m_begin m_round m_roundCards m_fate m_any m_bothSend m_meanCards m_bestSum m_fitMany m_fitFirst m_fitSecond))]) hK hP hD [2] (by decide) rfl rfl rfl) rfl rfl hl.1 rfl (lv_room (Nat.le_of_ble_eq_true rfl)) dX12_personLine_133 ⟨Nat.le_of_ble_eq_true rfl, Nat.le_of_ble_eq_true rfl⟩) hS hA hP hD [2] [0, 1, 3] rfl rfl (by decide) (by decide) (fun u133 H locs hw133 hP hD hS => ?_)
        obtain ⟨n_m_bad_133, n_m_badPlace_133⟩ := u133
        have hP : va_P g vwCl [((m_a 17), .inl (cI, 25, .inl m_has_c)), ((m_a 18), .inl (cI, 250, .inl j65_m_a18_c)), ((m_a 5), .inl (cB, 1600, .inl m_tape_c)), (m, .inr (11, mG m_a m_thrown m_taped j65_m_at j65_m_token j65_m_place j65_m_value j65_m_word n_m_bad_133 n_m_badPlace_133 m_fault m_faultPlace m_willing m_will m_forgot m_isDrawn m_x m_begin m_round m_roundCards m_fate m_any m_bothSend m_meanCards m_bestSum m_fitMany m_fitFirst m_fitSecond))] H := hP
        have hD : va_D A [((m_a 17), .inl (cI, 25, .inl m_has_c)), ((m_a 18), .inl (cI, 250, .inl j65_m_a18_c)), ((m_a 5), .inl (cB, 1600, .inl m_tape_c)), (m, .inr (11, mG m_a m_thrown m_taped j65_m_at j65_m_token j65_m_place j65_m_value j65_m_word n_m_bad_133 n_m_badPlace_133 m_fault m_faultPlace m_willing m_will m_forgot m_isDrawn m_x m_begin m_round m_roundCards m_fate m_any m_bothSend m_meanCards m_bestSum m_fitMany m_fitFirst m_fitSecond))] := hD
        dsimp only at hw133
        have hw133_0 := hw133
        have hw133_0 : n_m_bad_133.toInt ≠ 0 := hw133_0
        exact J136 n_m_bad_133 n_m_badPlace_133 _ _ _ (by first | omega | decide) (hP.sub [0, 1, 3, 2] rfl) (hD.sub [0, 1, 3, 2] (by decide) rfl) hS (lv_sub hl [0, 1, 2, 3] rfl)
      have J106 : ∀  (H : Heap) (locs : List Loc) (ls : Array Slot), ((j65_m_at.toInt = m_at.toInt ∧ j65_m_token.toInt = m_token.toInt) ∨ (m_at.toInt ≤ j65_m_at.toInt ∧ j65_m_at.toInt ≤ m_taped.toInt ∧ 0 ≤ j65_m_token.toInt ∧ j65_m_token.toInt ≤ 4 ∧ (m_at.toInt < j65_m_at.toInt ∨ (j65_m_token.toInt = 0 ∧ j65_m_at.toInt = m_taped.toInt)))) → va_P g vwCl [((m_a 17), .inl (cI, 25, .inl m_has_c)), ((m_a 18), .inl (cI, 250, .inl j65_m_a18_c)), (m, .inr (11, mG m_a m_thrown m_taped j65_m_at j65_m_token j65_m_place j65_m_value j65_m_word j65_m_bad j65_m_badPlace m_fault m_faultPlace m_willing m_will m_forgot m_isDrawn m_x m_begin m_round m_roundCards m_fate m_any m_bothSend m_meanCards m_bestSum m_fitMany m_fitFirst m_fitSecond)), ((m_a 5), .inl (cB, 1600, .inl m_tape_c))] H → va_D A [((m_a 17), .inl (cI, 25, .inl m_has_c)), ((m_a 18), .inl (cI, 250, .inl j65_m_a18_c)), (m, .inr (11, mG m_a m_thrown m_taped j65_m_at j65_m_token j65_m_place j65_m_value j65_m_word j65_m_bad j65_m_badPlace m_fault m_faultPlace m_willing m_will m_forgot m_isDrawn m_x m_begin m_round m_roundCards m_fate m_any m_bothSend m_meanCards m_bestSum m_fitMany m_fitFirst m_fitSecond)), ((m_a 5), .inl (cB, 1600, .inl m_tape_c))] → va_S A s.heap H locs → lv_has ls 5 [(0, .ref m), (1, .int y9), (2, .int j65_l2), (3, .int r84), (4, .int r92)] → W p l e (headSpec v_X12_personLine ({ frames := 5, cells := 0, slots := 0, locals := 112 })).room s mth av below meth c H locs 0 0 QQ (F0 mth 106 ls []) := by
        intro  H locs ls hi106_0 hP hD hS hl
        refine lv_iload_n hx hb dX12_personLine_106 rfl (lv_at hl 3 rfl) ?_
        have J122 : ∀  (H : Heap) (locs : List Loc) (ls : Array Slot), ((j65_m_at.toInt = m_at.toInt ∧ j65_m_token.toInt = m_token.toInt) ∨ (m_at.toInt ≤ j65_m_at.toInt ∧ j65_m_at.toInt ≤ m_taped.toInt ∧ 0 ≤ j65_m_token.toInt ∧ j65_m_token.toInt ≤ 4 ∧ (m_at.toInt < j65_m_at.toInt ∨ (j65_m_token.toInt = 0 ∧ j65_m_at.toInt = m_taped.toInt)))) → va_P g vwCl [((m_a 17), .inl (cI, 25, .inl m_has_c)), ((m_a 18), .inl (cI, 250, .inl j65_m_a18_c)), (m, .inr (11, mG m_a m_thrown m_taped j65_m_at j65_m_token j65_m_place j65_m_value j65_m_word j65_m_bad j65_m_badPlace m_fault m_faultPlace m_willing m_will m_forgot m_isDrawn m_x m_begin m_round m_roundCards m_fate m_any m_bothSend m_meanCards m_bestSum m_fitMany m_fitFirst m_fitSecond)), ((m_a 5), .inl (cB, 1600, .inl m_tape_c))] H → va_D A [((m_a 17), .inl (cI, 25, .inl m_has_c)), ((m_a 18), .inl (cI, 250, .inl j65_m_a18_c)), (m, .inr (11, mG m_a m_thrown m_taped j65_m_at j65_m_token j65_m_place j65_m_value j65_m_word j65_m_bad j65_m_badPlace m_fault m_faultPlace m_willing m_will m_forgot m_isDrawn m_x m_begin m_round m_roundCards m_fate m_any m_bothSend m_meanCards m_bestSum m_fitMany m_fitFirst m_fitSecond)), ((m_a 5), .inl (cB, 1600, .inl m_tape_c))] → va_S A s.heap H locs → lv_has ls 5 [(0, .ref m), (1, .int y9), (2, .int j65_l2), (3, .int r84), (4, .int r92)] → W p l e (headSpec v_X12_personLine ({ frames := 5, cells := 0, slots := 0, locals := 112 })).room s mth av below meth c H locs 0 0 QQ (F0 mth 122 ls []) := by
          intro  H locs ls hi122_0 hP hD hS hl
          refine lv_iload hx hb dX12_personLine_122 (lv_at hl 4 rfl) ?_
          refine lv_if_eq (tgt := 136) hx hb dX12_personLine_124 (by decide) (fun c124 => ?_) (fun c124 => ?_)
          · have f124 := (show r92.toInt = 0 from z_eq rfl rfl c124)
            have r124a : ir r92.toInt 0 0 := ir_eqa f124 hw92_0 (ir_c 0) (by decide) (by decide)
            exact J136 j65_m_bad j65_m_badPlace _ _ _ (by first | omega | decide) (hP.sub [0, 1, 2, 3] rfl) (hD.sub [0, 1, 2, 3] (by decide) rfl) hS (lv_sub hl [0, 1, 2, 3] rfl)
          have f124 := (show r92.toInt ≠ 0 from z_ne rfl rfl c124)
          have r124a : ir r92.toInt 1 1 := ir_nel f124 hw92_0 (by decide) (by decide)
          refine lv_iload_n hx hb dX12_personLine_127 rfl (lv_at hl 2 rfl) ?_
          refine lv_if_eq (tgt := 136) hx hb dX12_personLine_128 (by decide) (fun c128 => ?_) (fun c128 => ?_)
          rotate_left 1
          · have f128 := (show j65_l2.toInt ≠ 0 from z_ne rfl rfl c128)
            have r128a : ir j65_l2.toInt 1 1 := ir_nel f128 hj65_l2 (by decide) (by decide)
            exact J131  _ _ _ (by first | omega | decide) (hP.sub [0, 1, 2, 3] rfl) (hD.sub [0, 1, 2, 3] (by decide) rfl) hS (lv_sub hl [0, 1, 2, 3] rfl)
          have f128 := (show j65_l2.toInt = 0 from z_eq rfl rfl c128)
          have r128a : ir j65_l2.toInt 0 0 := ir_eqa f128 hj65_l2 (ir_c 0) (by decide) (by decide)
          exact J136 j65_m_bad j65_m_badPlace _ _ _ (by first | omega | decide) (hP.sub [0, 1, 2, 3] rfl) (hD.sub [0, 1, 2, 3] (by decide) rfl) hS (lv_sub hl [0, 1, 2, 3] rfl)
        refine lv_if_eq (tgt := 122) hx hb dX12_personLine_107 (by decide) (fun c107 => ?_) (fun c107 => ?_)
        · have f107 := (show r84.toInt = 0 from z_eq rfl rfl c107)
          have r107a : ir r84.toInt 0 0 := ir_eqa f107 hw84_0 (ir_c 0) (by decide) (by decide)
          exact J122  _ _ _ (by first | omega | decide) (hP.sub [0, 1, 2, 3] rfl) (hD.sub [0, 1, 2, 3] (by decide) rfl) hS (lv_sub hl [0, 1, 2, 3, 4] rfl)
        have f107 := (show r84.toInt ≠ 0 from z_ne rfl rfl c107)
        have r107a : ir r84.toInt 1 1 := ir_nel f107 hw84_0 (by decide) (by decide)
        refine lv_aload_n hx hb dX12_personLine_110 rfl (lv_at hl 0 rfl) ?_
        refine va_get (D := g) (ci := 11) (v := .ref (m_a 18)) (C := RX12) (T := TX12) (N := 56) hx hb hts iX12 hown hK hP 2 rfl rfl 18 (by decide) (hts (.fieldLink RX12 37 "CardsAtYuleModel" "person" "[I") (List.mem_cons_of_mem _ (List.mem_append_left _ (List.mem_of_getElem? (i := 4) rfl)))) (fun _ h9 => h9) rfl dX12_personLine_111 ?_
        refine lv_iload_n hx hb dX12_personLine_114 rfl (lv_at hl 1 rfl) ?_
        refine lv_iconst (v := 1) hx hb dX12_personLine_115 (by decide) ?_
        refine lv_iadd hx hb dX12_personLine_116 ?_
        refine lv_topi (fun y116 e116 => ?_)
        have q116 : y116.toInt = y9.toInt + 1 := by rw [e116]; exact ad_z rfl rfl r9 (ir_c 1) (by decide) (by decide)
        have r116 : ir y116.toInt 201 246 := ad_r q116 r9 (ir_c 1) (by decide) (by decide)
        refine va_iald (D := g) hx hb hK hP 1 0 rfl rfl (vi_rg rfl r116 (by decide) (by decide)) dX12_personLine_117 ?_
        refine lv_topi (fun y117 e117 => ?_)
        refine lv_iconst (v := 1) hx hb dX12_personLine_118 (by decide) ?_
        refine lv_icmp_eq (tgt := 131) hx hb dX12_personLine_119 (by decide) (fun c119 => ?_) (fun c119 => ?_)
        rotate_left 1
        · have f119 := (show y117.toInt ≠ 1 from z_ne rfl rfl c119)
          exact J122  _ _ _ (by first | omega | decide) (hP.sub [0, 1, 2, 3] rfl) (hD.sub [0, 1, 2, 3] (by decide) rfl) hS (lv_sub hl [0, 1, 2, 3, 4] rfl)
        have f119 := (show y117.toInt = 1 from z_eq rfl rfl c119)
        have r119a : ir y117.toInt 1 1 := ir_eqa f119 (rg_all y117) (ir_c 1) (by decide) (by decide)
        exact J131  _ _ _ (by first | omega | decide) (hP.sub [0, 1, 2, 3] rfl) (hD.sub [0, 1, 2, 3] (by decide) rfl) hS (lv_sub hl [0, 1, 2, 3] rfl)
      refine lv_if_ne (tgt := 106) hx hb dX12_personLine_98 (by decide) (fun c98 => ?_) (fun c98 => ?_)
      · have f98 := (show r84.toInt ≠ 0 from z_ne rfl rfl c98)
        have r98a : ir r84.toInt 1 1 := ir_nel f98 hw84_0 (by decide) (by decide)
        exact J106  _ _ _ (by first | omega | decide) (hP.sub [0, 1, 2, 3] rfl) (hD.sub [0, 1, 2, 3] (by decide) rfl) hS (lv_sub hl [2, 3, 4, 1, 0] rfl)
      have f98 := (show r84.toInt = 0 from z_eq rfl rfl c98)
      have r98a : ir r84.toInt 0 0 := ir_eqa f98 hw84_0 (ir_c 0) (by decide) (by decide)
      refine lv_iload hx hb dX12_personLine_101 (lv_at hl 0 rfl) ?_
      refine lv_if_eq (tgt := 131) hx hb dX12_personLine_103 (by decide) (fun c103 => ?_) (fun c103 => ?_)
      rotate_left 1
      · have f103 := (show r92.toInt ≠ 0 from z_ne rfl rfl c103)
        have r103a : ir r92.toInt 1 1 := ir_nel f103 hw92_0 (by decide) (by decide)
        exact J106  _ _ _ (by first | omega | decide) (hP.sub [0, 1, 2, 3] rfl) (hD.sub [0, 1, 2, 3] (by decide) rfl) hS (lv_sub hl [2, 3, 4, 1, 0] rfl)
      have f103 := (show r92.toInt = 0 from z_eq rfl rfl c103)
      have r103a : ir r92.toInt 0 0 := ir_eqa f103 hw92_0 (ir_c 0) (by decide) (by decide)
      exact J131  _ _ _ (by first | omega | decide) (hP.sub [0, 1, 2, 3] rfl) (hD.sub [0, 1, 2, 3] (by decide) rfl) hS (lv_sub hl [2, 3, 4, 1] rfl)
  exact J65 _ 0 n_m_at_23 n_m_token_23 n_m_place_23 n_m_value_23 n_m_word_23 n_m_bad_23 n_m_badPlace_23 g62 _ _ _ (Nat.lt_succ_self _) (by decide) hw23_0 a62 (by have kc0 : (0 : Int32).toInt = 0 := rfl; first | omega | decide) (hP.sub [0, 1, 2, 3] rfl) (hD.sub [0, 1, 2, 3] (by decide) rfl) hS (lv_sub hl [2, 1, 0] rfl)
def v_X12_pairOf : List Cond := .code yX12_pairOf cX12_pairOf 6 (some .int) :: (([.fieldLink RX12 34 "CardsAtYuleModel" "has" "[I", .fieldLink RX12 40 "CardsAtYuleModel" "pair" "[I"] : List Cond) ++ (wsX120 ++ ([] : List Cond)))
theorem good_v_X12_pairOf : v_X12_pairOf.all goodWord = true := ga_c (by decide +kernel) (ga_a (by decide +kernel) (ga_a good_wsX120 rfl))
set_option maxHeartbeats 4000000 in
set_option maxRecDepth 100000 in
theorem q_X12_pairOf (l : Launch) (g : va_G) (cI cJ cB cZ cL : ClassId) (p0 : Int32) (p1 : Int32) (p2 : Int32) (m : Nat) (m_a : Nat → Nat) (m_thrown : Int32) (m_taped : Int32) (m_at : Int32) (m_token : Int32) (m_place : Int32) (m_value : Int32) (m_word : Int64) (m_bad : Int32) (m_badPlace : Int32) (m_fault : Int32) (m_faultPlace : Int32) (m_willing : Int32) (m_will : Int32) (m_forgot : Int32) (m_isDrawn : Int32) (m_x : Int64) (m_begin : Int32) (m_round : Int32) (m_roundCards : Int32) (m_fate : Int32) (m_any : Int64) (m_bothSend : Int64) (m_meanCards : Int64) (m_bestSum : Int32) (m_fitMany : Int32) (m_fitFirst : Int64) (m_fitSecond : Int64) (m_has_c : Nat → Int32) (m_pair_c : Nat → Int32) (sz : Nat) (hv_p0 : ir p0.toInt 0 4) (hv_m_taped : ir m_taped.toInt 0 1600) (hv_m_at : ir m_at.toInt 0 1600) (hv_m_will : ir m_will.toInt 0 1) (hv_m_isDrawn : ir m_isDrawn.toInt 0 1) (ha_m_has_c : hasI m_has_c) (ha_m_pair_c : ar m_pair_c 240 0 15) : Met l yX12_pairOf v_X12_pairOf ({ frames := 0, cells := 0, slots := 0, locals := 0 }) (va_Pc [.ref m, .int p0, .int p1, .int p2] (pRO g (tyT cI cJ cB cZ cL) [(m, .inr (11, mG m_a m_thrown m_taped m_at m_token m_place m_value m_word m_bad m_badPlace m_fault m_faultPlace m_willing m_will m_forgot m_isDrawn m_x m_begin m_round m_roundCards m_fate m_any m_bothSend m_meanCards m_bestSum m_fitMany m_fitFirst m_fitSecond)), ((m_a 17), .inl (cI, 25, .inl m_has_c)), ((m_a 19), .inl (cI, 240, .inl m_pair_c))] sz)) (va_Qi (fun (r : Int32) (u : Unit) => (ir r.toInt (-1) 15)) (fun (_ : Unit) (_ : State) => True) (va_A [] sz)) 0 0 (va_A [] sz) := by
  refine Met.ofW (cc := cX12_pairOf) (maxL := 6) (ret := (some .int)) (by decide) rfl ?_
  intro p e s mth args below meth c s₁ B hml hv
  obtain ⟨rfl, hsz, hP, hK⟩ := hv
  have hx := B.exec
  have hb := B.bytes
  have hr := B.returns
  have hts := atoms_spec (ws := v_X12_pairOf) B.pre
  have hown : s.vm.findClass RX12 = some mth.cls := findClass_of_methodNamed B.named
  have hlocks := B.notSynchronized
  clear B
  subst hsz
  have iX12 : ∀ w ∈ wsX120, w ∈ v_X12_pairOf := (fun _ h => List.mem_cons_of_mem _ (List.mem_append_right _ (List.mem_append_left _ h)))
  generalize hAe : (va_A [] s.heap.size) = A
  have hA : ∀ q : Nat, s.heap.size ≤ q → A q := fun q h => by rw [← hAe]; exact Or.inr h
  have hS : va_S A s.heap s.heap [] := va_S.rf
  have hl := lv_entry ([.ref m, .int p0, .int p1, .int p2]) (n := 6) (Nat.le_of_ble_eq_true rfl)
  rw [lg_entry_eq]
  generalize (lg_sl ([.ref m, .int p0, .int p1, .int p2]) ++ List.replicate (6 - (lg_sl ([.ref m, .int p0, .int p1, .int p2])).length) Slot.unset).toArray = ls at hl ⊢
  generalize ([.ref m, .int p0, .int p1, .int p2] : List Value).toArray = av at hts ⊢
  generalize hQ : MQ below _ av s _ _ A = QQ
  have hl : lv_has ls 6 [(0, .ref m), (1, .int p0), (2, .int p1), (3, .int p2)] := hl
  have hP : va_P g vwCl [(m, .inr (11, mG m_a m_thrown m_taped m_at m_token m_place m_value m_word m_bad m_badPlace m_fault m_faultPlace m_willing m_will m_forgot m_isDrawn m_x m_begin m_round m_roundCards m_fate m_any m_bothSend m_meanCards m_bestSum m_fitMany m_fitFirst m_fitSecond)), ((m_a 17), .inl (cI, 25, .inl m_has_c)), ((m_a 19), .inl (cI, 240, .inl m_pair_c))] s.heap := hP
  refine lv_iconst (v := 0) hx hb dX12_pairOf_0 (by decide) ?_
  refine lv_istore (lv' := [(4, .int 0), (0, .ref m), (1, .int p0), (2, .int p1), (3, .int p2)]) hx hb dX12_pairOf_1 hl (by decide) rfl (fun ls hl => ?_)
  have J3 : ∀ (n3 : Nat) (j3_l4 : Int32) (H : Heap) (locs : List Loc) (ls : Array Slot), (17 - j3_l4.toInt).toNat < n3 → (ir j3_l4.toInt 0 16) → va_P g vwCl [(m, .inr (11, mG m_a m_thrown m_taped m_at m_token m_place m_value m_word m_bad m_badPlace m_fault m_faultPlace m_willing m_will m_forgot m_isDrawn m_x m_begin m_round m_roundCards m_fate m_any m_bothSend m_meanCards m_bestSum m_fitMany m_fitFirst m_fitSecond)), ((m_a 17), .inl (cI, 25, .inl m_has_c)), ((m_a 19), .inl (cI, 240, .inl m_pair_c))] H → va_S A s.heap H locs → lv_has ls 6 [(0, .ref m), (1, .int p0), (2, .int p1), (3, .int p2), (4, .int j3_l4)] → W p l e (headSpec v_X12_pairOf ({ frames := 0, cells := 0, slots := 0, locals := 0 })).room s mth av below meth c H locs 0 0 QQ (F0 mth 3 ls []) := by
    intro n3
    induction n3 with
    | zero => exact fun j3_l4 H locs ls hn => absurd hn (Nat.not_lt_zero _)
    | succ n3 ih3 =>
      intro j3_l4 H locs ls hn3 hj3_l4 hP hS hl
      refine lv_iload hx hb dX12_pairOf_3 (lv_at hl 4 rfl) ?_
      refine lv_aload_n hx hb dX12_pairOf_5 rfl (lv_at hl 0 rfl) ?_
      refine va_get (D := g) (ci := 11) (v := .ref (m_a 17)) (C := RX12) (T := TX12) (N := 56) hx hb hts iX12 hown hK hP 0 rfl rfl 17 (by decide) (hts (.fieldLink RX12 34 "CardsAtYuleModel" "has" "[I") (List.mem_cons_of_mem _ (List.mem_append_left _ (List.mem_of_getElem? (i := 0) rfl)))) (fun _ h9 => h9) rfl dX12_pairOf_6 ?_
      refine lv_iconst (v := 5) hx hb dX12_pairOf_9 (by decide) ?_
      refine lv_iload_n hx hb dX12_pairOf_10 rfl (lv_at hl 1 rfl) ?_
      refine lv_imul hx hb dX12_pairOf_11 ?_
      refine lv_topi (fun y11 e11 => ?_)
      have q11 : y11.toInt = 5 * p0.toInt := by rw [e11]; exact mu_z rfl rfl (ir_c 5) hv_p0 (by decide) (by decide) (by decide)
      have r11 : ir y11.toInt 0 20 := mu_r q11 (ir_c 5) hv_p0 (by decide) (by decide) (by decide) (by decide)
      refine lv_iconst (v := 4) hx hb dX12_pairOf_12 (by decide) ?_
      refine lv_iadd hx hb dX12_pairOf_13 ?_
      refine lv_topi (fun y13 e13 => ?_)
      have q13 : y13.toInt = y11.toInt + 4 := by rw [e13]; exact ad_z rfl rfl r11 (ir_c 4) (by decide) (by decide)
      have r13 : ir y13.toInt 4 24 := ad_r q13 r11 (ir_c 4) (by decide) (by decide)
      refine va_iald (D := g) hx hb hK hP 1 0 rfl rfl (vi_rg rfl r13 (by decide) (by decide)) dX12_pairOf_14 ?_
      refine lv_topi (fun y14 e14 => ?_)
      have r14 : ir y14.toInt 0 16 := by rw [e14]; exact hasI_i4 ha_m_has_c (x := p0) (by omega) (by omega)
      refine lv_icmp_ge (tgt := 86) hx hb dX12_pairOf_15 (by decide) (fun c15 => ?_) (fun c15 => ?_)
      · have f15 := (show y14.toInt ≤ j3_l4.toInt from z_le rfl rfl c15)
        refine lv_iconst (v := (-1)) hx hb dX12_pairOf_86 (by decide) ?_
        subst hQ
        exact W.iret (v := (-1)) hx hb hr (fun t ht hW => ⟨⟨(-1), (), rfl, (show ir ((-1) : Int32).toInt (-1) 15 by decide), trivial⟩, hS.F ht⟩) hS.2.2 dX12_pairOf_87
      have f15 := (show j3_l4.toInt < y14.toInt from z_nle rfl rfl c15)
      have r15a : ir j3_l4.toInt 0 15 := ir_lta f15 hj3_l4 r14 (by decide)
      have r15b : ir y14.toInt 1 16 := ir_ltb f15 hj3_l4 r14 (by decide)
      refine lv_iconst (v := 3) hx hb dX12_pairOf_18 (by decide) ?_
      refine lv_bipush (v := 16) hx hb dX12_pairOf_19 (by decide) ?_
      refine lv_iload_n hx hb dX12_pairOf_21 rfl (lv_at hl 1 rfl) ?_
      refine lv_imul hx hb dX12_pairOf_22 ?_
      refine lv_topi (fun y22 e22 => ?_)
      have q22 : y22.toInt = 16 * p0.toInt := by rw [e22]; exact mu_z rfl rfl (ir_c 16) hv_p0 (by decide) (by decide) (by decide)
      have r22 : ir y22.toInt 0 64 := mu_r q22 (ir_c 16) hv_p0 (by decide) (by decide) (by decide) (by decide)
      refine lv_iload hx hb dX12_pairOf_23 (lv_at hl 4 rfl) ?_
      refine lv_iadd hx hb dX12_pairOf_25 ?_
      refine lv_topi (fun y25 e25 => ?_)
      have q25 : y25.toInt = y22.toInt + j3_l4.toInt := by rw [e25]; exact ad_z rfl rfl r22 r15a (by decide) (by decide)
      have r25 : ir y25.toInt 0 79 := ad_r q25 r22 r15a (by decide) (by decide)
      refine lv_imul hx hb dX12_pairOf_26 ?_
      refine lv_topi (fun y26 e26 => ?_)
      have q26 : y26.toInt = 3 * y25.toInt := by rw [e26]; exact mu_z rfl rfl (ir_c 3) r25 (by decide) (by decide) (by decide)
      have r26 : ir y26.toInt 0 237 := mu_r q26 (ir_c 3) r25 (by decide) (by decide) (by decide) (by decide)
      refine lv_istore (lv' := [(5, .int y26), (0, .ref m), (1, .int p0), (2, .int p1), (3, .int p2), (4, .int j3_l4)]) hx hb dX12_pairOf_27 hl (by decide) rfl (fun ls hl => ?_)
      refine lv_aload_n hx hb dX12_pairOf_29 rfl (lv_at hl 1 rfl) ?_
      refine va_get (D := g) (ci := 11) (v := .ref (m_a 19)) (C := RX12) (T := TX12) (N := 56) hx hb hts iX12 hown hK hP 0 rfl rfl 19 (by decide) (hts (.fieldLink RX12 40 "CardsAtYuleModel" "pair" "[I") (List.mem_cons_of_mem _ (List.mem_append_left _ (List.mem_of_getElem? (i := 1) rfl)))) (fun _ h9 => h9) rfl dX12_pairOf_30 ?_
      refine lv_iload hx hb dX12_pairOf_33 (lv_at hl 0 rfl) ?_
      refine va_iald (D := g) hx hb hK hP 2 0 rfl rfl (vi_rg rfl r26 (by decide) (by decide)) dX12_pairOf_35 ?_
      refine lv_topi (fun y35 e35 => ?_)
      have r35 : ir y35.toInt 0 15 := by rw [e35]; exact ha_m_pair_c _ (vi_cl (vi_rg rfl r26 (by decide) (by decide)))
      refine lv_iload_n hx hb dX12_pairOf_36 rfl (lv_at hl 3 rfl) ?_
      have J53 : ∀  (H : Heap) (locs : List Loc) (ls : Array Slot), va_P g vwCl [(m, .inr (11, mG m_a m_thrown m_taped m_at m_token m_place m_value m_word m_bad m_badPlace m_fault m_faultPlace m_willing m_will m_forgot m_isDrawn m_x m_begin m_round m_roundCards m_fate m_any m_bothSend m_meanCards m_bestSum m_fitMany m_fitFirst m_fitSecond)), ((m_a 17), .inl (cI, 25, .inl m_has_c)), ((m_a 19), .inl (cI, 240, .inl m_pair_c))] H → va_S A s.heap H locs → lv_has ls 6 [(0, .ref m), (1, .int p0), (2, .int p1), (3, .int p2), (4, .int j3_l4), (5, .int y26)] → W p l e (headSpec v_X12_pairOf ({ frames := 0, cells := 0, slots := 0, locals := 0 })).room s mth av below meth c H locs 0 0 QQ (F0 mth 53 ls []) := by
        intro  H locs ls  hP hS hl
        refine lv_aload_n hx hb dX12_pairOf_53 rfl (lv_at hl 0 rfl) ?_
        refine va_get (D := g) (ci := 11) (v := .ref (m_a 19)) (C := RX12) (T := TX12) (N := 56) hx hb hts iX12 hown hK hP 0 rfl rfl 19 (by decide) (hts (.fieldLink RX12 40 "CardsAtYuleModel" "pair" "[I") (List.mem_cons_of_mem _ (List.mem_append_left _ (List.mem_of_getElem? (i := 1) rfl)))) (fun _ h9 => h9) rfl dX12_pairOf_54 ?_
        refine lv_iload hx hb dX12_pairOf_57 (lv_at hl 5 rfl) ?_
        refine va_iald (D := g) hx hb hK hP 2 0 rfl rfl (vi_rg rfl r26 (by decide) (by decide)) dX12_pairOf_59 ?_
        refine lv_topi (fun y59 e59 => ?_)
        have r59 : ir y59.toInt 0 15 := by rw [e59]; exact ha_m_pair_c _ (vi_cl (vi_rg rfl r26 (by decide) (by decide)))
        refine lv_iload_n hx hb dX12_pairOf_60 rfl (lv_at hl 3 rfl) ?_
        have J80 : ∀  (H : Heap) (locs : List Loc) (ls : Array Slot), va_P g vwCl [(m, .inr (11, mG m_a m_thrown m_taped m_at m_token m_place m_value m_word m_bad m_badPlace m_fault m_faultPlace m_willing m_will m_forgot m_isDrawn m_x m_begin m_round m_roundCards m_fate m_any m_bothSend m_meanCards m_bestSum m_fitMany m_fitFirst m_fitSecond)), ((m_a 17), .inl (cI, 25, .inl m_has_c)), ((m_a 19), .inl (cI, 240, .inl m_pair_c))] H → va_S A s.heap H locs → lv_has ls 6 [(0, .ref m), (1, .int p0), (2, .int p1), (3, .int p2), (4, .int j3_l4)] → W p l e (headSpec v_X12_pairOf ({ frames := 0, cells := 0, slots := 0, locals := 0 })).room s mth av below meth c H locs 0 0 QQ (F0 mth 80 ls []) := by
          intro  H locs ls  hP hS hl
          obtain ⟨y80, e80⟩ : ∃ y : Int32, y = j3_l4 + 1 := ⟨_, rfl⟩
          have q80 : y80.toInt = j3_l4.toInt + 1 := by rw [e80]; exact ad_z rfl rfl r15a (ir_c 1) (by decide) (by decide)
          have r80 : ir y80.toInt 1 16 := ad_r q80 r15a (ir_c 1) (by decide) (by decide)
          refine lv_iinc (v := y80) (lv' := [(4, .int y80), (0, .ref m), (1, .int p0), (2, .int p1), (3, .int p2)]) hx hb dX12_pairOf_80 hl (k := 4) rfl e80.symm (by decide) rfl (fun ls hl => ?_)
          refine lv_goto (tgt := 3) hx hb dX12_pairOf_83 (by decide) ?_
          exact ih3 y80 _ _ _ (by omega) (ir_w r80 (by decide) (by decide)) (hP.sub [0, 1, 2] rfl) hS (lv_sub hl [1, 2, 3, 4, 0] rfl)
        refine lv_icmp_ne (tgt := 80) hx hb dX12_pairOf_61 (by decide) (fun c61 => ?_) (fun c61 => ?_)
        · have f61 := (show y59.toInt ≠ p2.toInt from z_ne rfl rfl c61)
          exact J80  _ _ _  (hP.sub [0, 1, 2] rfl) hS (lv_sub hl [0, 1, 2, 3, 4] rfl)
        have f61 := (show y59.toInt = p2.toInt from z_eq rfl rfl c61)
        have r61b : ir p2.toInt 0 15 := ir_eqb f61 r59 (rg_all p2) (by decide) (by decide)
        refine lv_aload_n hx hb dX12_pairOf_64 rfl (lv_at hl 0 rfl) ?_
        refine va_get (D := g) (ci := 11) (v := .ref (m_a 19)) (C := RX12) (T := TX12) (N := 56) hx hb hts iX12 hown hK hP 0 rfl rfl 19 (by decide) (hts (.fieldLink RX12 40 "CardsAtYuleModel" "pair" "[I") (List.mem_cons_of_mem _ (List.mem_append_left _ (List.mem_of_getElem? (i := 1) rfl)))) (fun _ h9 => h9) rfl dX12_pairOf_65 ?_
        refine lv_iload hx hb dX12_pairOf_68 (lv_at hl 5 rfl) ?_
        refine lv_iconst (v := 1) hx hb dX12_pairOf_70 (by decide) ?_
        refine lv_iadd hx hb dX12_pairOf_71 ?_
        refine lv_topi (fun y71 e71 => ?_)
        have q71 : y71.toInt = y26.toInt + 1 := by rw [e71]; exact ad_z rfl rfl r26 (ir_c 1) (by decide) (by decide)
        have r71 : ir y71.toInt 1 238 := ad_r q71 r26 (ir_c 1) (by decide) (by decide)
        refine va_iald (D := g) hx hb hK hP 2 0 rfl rfl (vi_rg rfl r71 (by decide) (by decide)) dX12_pairOf_72 ?_
        refine lv_topi (fun y72 e72 => ?_)
        have r72 : ir y72.toInt 0 15 := by rw [e72]; exact ha_m_pair_c _ (vi_cl (vi_rg rfl r71 (by decide) (by decide)))
        refine lv_iload_n hx hb dX12_pairOf_73 rfl (lv_at hl 2 rfl) ?_
        refine lv_icmp_ne (tgt := 80) hx hb dX12_pairOf_74 (by decide) (fun c74 => ?_) (fun c74 => ?_)
        · have f74 := (show y72.toInt ≠ p1.toInt from z_ne rfl rfl c74)
          exact J80  _ _ _  (hP.sub [0, 1, 2] rfl) hS (lv_sub hl [0, 1, 2, 3, 4] rfl)
        have f74 := (show y72.toInt = p1.toInt from z_eq rfl rfl c74)
        have r74b : ir p1.toInt 0 15 := ir_eqb f74 r72 (rg_all p1) (by decide) (by decide)
        refine lv_iload hx hb dX12_pairOf_77 (lv_at hl 4 rfl) ?_
        subst hQ
        exact W.iret (v := j3_l4) hx hb hr (fun t ht hW => ⟨⟨j3_l4, (), rfl, (ir_w r15a (by decide) (by decide)), trivial⟩, hS.F ht⟩) hS.2.2 dX12_pairOf_79
      refine lv_icmp_ne (tgt := 53) hx hb dX12_pairOf_37 (by decide) (fun c37 => ?_) (fun c37 => ?_)
      · have f37 := (show y35.toInt ≠ p1.toInt from z_ne rfl rfl c37)
        exact J53  _ _ _  (hP.sub [0, 1, 2] rfl) hS (lv_sub hl [1, 2, 3, 4, 5, 0] rfl)
      have f37 := (show y35.toInt = p1.toInt from z_eq rfl rfl c37)
      have r37b : ir p1.toInt 0 15 := ir_eqb f37 r35 (rg_all p1) (by decide) (by decide)
      refine lv_aload_n hx hb dX12_pairOf_40 rfl (lv_at hl 1 rfl) ?_
      refine va_get (D := g) (ci := 11) (v := .ref (m_a 19)) (C := RX12) (T := TX12) (N := 56) hx hb hts iX12 hown hK hP 0 rfl rfl 19 (by decide) (hts (.fieldLink RX12 40 "CardsAtYuleModel" "pair" "[I") (List.mem_cons_of_mem _ (List.mem_append_left _ (List.mem_of_getElem? (i := 1) rfl)))) (fun _ h9 => h9) rfl dX12_pairOf_41 ?_
      refine lv_iload hx hb dX12_pairOf_44 (lv_at hl 0 rfl) ?_
      refine lv_iconst (v := 1) hx hb dX12_pairOf_46 (by decide) ?_
      refine lv_iadd hx hb dX12_pairOf_47 ?_
      refine lv_topi (fun y47 e47 => ?_)
      have q47 : y47.toInt = y26.toInt + 1 := by rw [e47]; exact ad_z rfl rfl r26 (ir_c 1) (by decide) (by decide)
      have r47 : ir y47.toInt 1 238 := ad_r q47 r26 (ir_c 1) (by decide) (by decide)
      refine va_iald (D := g) hx hb hK hP 2 0 rfl rfl (vi_rg rfl r47 (by decide) (by decide)) dX12_pairOf_48 ?_
      refine lv_topi (fun y48 e48 => ?_)
      have r48 : ir y48.toInt 0 15 := by rw [e48]; exact ha_m_pair_c _ (vi_cl (vi_rg rfl r47 (by decide) (by decide)))
      refine lv_iload_n hx hb dX12_pairOf_49 rfl (lv_at hl 4 rfl) ?_
      refine lv_icmp_eq (tgt := 77) hx hb dX12_pairOf_50 (by decide) (fun c50 => ?_) (fun c50 => ?_)
      rotate_left 1
      · have f50 := (show y48.toInt ≠ p2.toInt from z_ne rfl rfl c50)
        exact J53  _ _ _  (hP.sub [0, 1, 2] rfl) hS (lv_sub hl [1, 2, 3, 4, 5, 0] rfl)
      have f50 := (show y48.toInt = p2.toInt from z_eq rfl rfl c50)
      have r50b : ir p2.toInt 0 15 := ir_eqb f50 r48 (rg_all p2) (by decide) (by decide)
      refine lv_iload hx hb dX12_pairOf_77 (lv_at hl 5 rfl) ?_
      subst hQ
      exact W.iret (v := j3_l4) hx hb hr (fun t ht hW => ⟨⟨j3_l4, (), rfl, (ir_w r15a (by decide) (by decide)), trivial⟩, hS.F ht⟩) hS.2.2 dX12_pairOf_79
  exact J3 _ 0 _ _ _ (Nat.lt_succ_self _) (by decide) (hP.sub [0, 1, 2] rfl) hS (lv_sub hl [1, 2, 3, 4, 0] rfl)
def v_X12_pairLine : List Cond := .code yX12_pairLine cX12_pairLine 6 none :: (([.methodLink RX12 189 yX12_hasRead, .instanceMethod yX12_hasRead, .selects RX12 yX12_hasRead yX12_hasRead, .initialized RX12, .methodLink RX12 206 yX12_personHere, .instanceMethod yX12_personHere, .selects RX12 yX12_personHere yX12_personHere, .fieldLink RX12 159 "CardsAtYuleModel" "bad" "I", .constantLong RX12 214 (1166981), .methodLink RX12 195 yX12_number_, .instanceMethod yX12_number_, .selects RX12 yX12_number_ yX12_number_, .fieldLink RX12 40 "CardsAtYuleModel" "pair" "[I", .fieldLink RX12 43 "CardsAtYuleModel" "lost" "[J", .fieldLink RX12 34 "CardsAtYuleModel" "has" "[I", .fieldLink RX12 148 "CardsAtYuleModel" "token" "I", .fieldLink RX12 141 "CardsAtYuleModel" "value" "I", .methodLink RX12 175 yX12_fails, .instanceMethod yX12_fails, .selects RX12 yX12_fails yX12_fails, .methodLink RX12 210 yX12_pairOf, .instanceMethod yX12_pairOf, .selects RX12 yX12_pairOf yX12_pairOf] : List Cond) ++ (v_X12_hasRead4 ++ (v_X12_personHere ++ (v_X12_number_ ++ (v_X12_hasRead3 ++ (v_X12_fails ++ (v_X12_pairOf ++ (wsX120 ++ ([] : List Cond)))))))))
theorem good_v_X12_pairLine : v_X12_pairLine.all goodWord = true := ga_c (by decide +kernel) (ga_a (by decide +kernel) (ga_a good_v_X12_hasRead4 (ga_a good_v_X12_personHere (ga_a good_v_X12_number_ (ga_a good_v_X12_hasRead3 (ga_a good_v_X12_fails (ga_a good_v_X12_pairOf (ga_a good_wsX120 rfl))))))))
set_option maxHeartbeats 4000000 in
set_option maxRecDepth 100000 in
theorem q_X12_pairLine (l : Launch) (g : va_G) (cI cJ cB cZ cL : ClassId) (m : Nat) (m_a : Nat → Nat) (m_thrown : Int32) (m_taped : Int32) (m_at : Int32) (m_token : Int32) (m_place : Int32) (m_value : Int32) (m_word : Int64) (m_bad : Int32) (m_badPlace : Int32) (m_fault : Int32) (m_faultPlace : Int32) (m_willing : Int32) (m_will : Int32) (m_forgot : Int32) (m_isDrawn : Int32) (m_x : Int64) (m_begin : Int32) (m_round : Int32) (m_roundCards : Int32) (m_fate : Int32) (m_any : Int64) (m_bothSend : Int64) (m_meanCards : Int64) (m_bestSum : Int32) (m_fitMany : Int32) (m_fitFirst : Int64) (m_fitSecond : Int64) (m_has_c : Nat → Int32) (m_tape_c : Nat → Int32) (m_pair_c : Nat → Int32) (m_lost_c : Nat → Int64) (sz : Nat) (hv_m_taped : ir m_taped.toInt 0 1600) (hv_m_at : ir m_at.toInt 0 1600) (hv_m_will : ir m_will.toInt 0 1) (hv_m_isDrawn : ir m_isDrawn.toInt 0 1) (ha_m_has_c : hasI m_has_c) (ha_m_pair_c : ar m_pair_c 240 0 15) (ht_0 : ir (m_has_c 24).toInt 0 15) (hx_0 : m_at.toInt ≤ m_taped.toInt) : Met l yX12_pairLine v_X12_pairLine ({ frames := 5, cells := 0, slots := 0, locals := 112 }) (va_Pc [.ref m] (pRW g (tyT cI cJ cB cZ cL) [(m, .inr (11, mG m_a m_thrown m_taped m_at m_token m_place m_value m_word m_bad m_badPlace m_fault m_faultPlace m_willing m_will m_forgot m_isDrawn m_x m_begin m_round m_roundCards m_fate m_any m_bothSend m_meanCards m_bestSum m_fitMany m_fitFirst m_fitSecond)), ((m_a 17), .inl (cI, 25, .inl m_has_c)), ((m_a 5), .inl (cB, 1600, .inl m_tape_c)), ((m_a 19), .inl (cI, 240, .inl m_pair_c)), ((m_a 20), .inl (cJ, 160, .inr (.inl m_lost_c)))] sz)) (va_Qv (fun (u : Int32 × Int32 × Int32 × Int32 × Int64 × Int32 × Int32 × (Nat → Int32) × (Nat → Int32) × (Nat → Int64)) => match u with | (n_m_at, n_m_token, n_m_place, n_m_value, n_m_word, n_m_bad, n_m_badPlace, n_m_has_c, n_m_pair_c, n_m_lost_c) => (ir n_m_at.toInt 0 1600) ∧ (hasI n_m_has_c) ∧ (ar n_m_pair_c 240 0 15) ∧ ((n_m_at.toInt = m_at.toInt ∧ n_m_token.toInt = m_token.toInt) ∨ (m_at.toInt ≤ n_m_at.toInt ∧ n_m_at.toInt ≤ m_taped.toInt ∧ 0 ≤ n_m_token.toInt ∧ n_m_token.toInt ≤ 4 ∧ (m_at.toInt < n_m_at.toInt ∨ (n_m_token.toInt = 0 ∧ n_m_at.toInt = m_taped.toInt))))) (fun (u : Int32 × Int32 × Int32 × Int32 × Int64 × Int32 × Int32 × (Nat → Int32) × (Nat → Int32) × (Nat → Int64)) (t : State) => bRW g (tyT cI cJ cB cZ cL) (va_A [(m, .inr (11, mG m_a m_thrown m_taped m_at m_token m_place m_value m_word m_bad m_badPlace m_fault m_faultPlace m_willing m_will m_forgot m_isDrawn m_x m_begin m_round m_roundCards m_fate m_any m_bothSend m_meanCards m_bestSum m_fitMany m_fitFirst m_fitSecond)), ((m_a 17), .inl (cI, 25, .inl m_has_c)), ((m_a 5), .inl (cB, 1600, .inl m_tape_c)), ((m_a 19), .inl (cI, 240, .inl m_pair_c)), ((m_a 20), .inl (cJ, 160, .inr (.inl m_lost_c)))] sz) (match u with | (n_m_at, n_m_token, n_m_place, n_m_value, n_m_word, n_m_bad, n_m_badPlace, n_m_has_c, n_m_pair_c, n_m_lost_c) => [(m, .inr (11, mG m_a m_thrown m_taped n_m_at n_m_token n_m_place n_m_value n_m_word n_m_bad n_m_badPlace m_fault m_faultPlace m_willing m_will m_forgot m_isDrawn m_x m_begin m_round m_roundCards m_fate m_any m_bothSend m_meanCards m_bestSum m_fitMany m_fitFirst m_fitSecond)), ((m_a 17), .inl (cI, 25, .inl n_m_has_c)), ((m_a 5), .inl (cB, 1600, .inl m_tape_c)), ((m_a 19), .inl (cI, 240, .inl n_m_pair_c)), ((m_a 20), .inl (cJ, 160, .inr (.inl n_m_lost_c)))]) t) (va_A [(m, .inr (11, mG m_a m_thrown m_taped m_at m_token m_place m_value m_word m_bad m_badPlace m_fault m_faultPlace m_willing m_will m_forgot m_isDrawn m_x m_begin m_round m_roundCards m_fate m_any m_bothSend m_meanCards m_bestSum m_fitMany m_fitFirst m_fitSecond)), ((m_a 17), .inl (cI, 25, .inl m_has_c)), ((m_a 5), .inl (cB, 1600, .inl m_tape_c)), ((m_a 19), .inl (cI, 240, .inl m_pair_c)), ((m_a 20), .inl (cJ, 160, .inr (.inl m_lost_c)))] sz)) 0 0 (va_A [(m, .inr (11, mG m_a m_thrown m_taped m_at m_token m_place m_value m_word m_bad m_badPlace m_fault m_faultPlace m_willing m_will m_forgot m_isDrawn m_x m_begin m_round m_roundCards m_fate m_any m_bothSend m_meanCards m_bestSum m_fitMany m_fitFirst m_fitSecond)), ((m_a 17), .inl (cI, 25, .inl m_has_c)), ((m_a 5), .inl (cB, 1600, .inl m_tape_c)), ((m_a 19), .inl (cI, 240, .inl m_pair_c)), ((m_a 20), .inl (cJ, 160, .inr (.inl m_lost_c)))] sz) := by
  refine Met.ofW (cc := cX12_pairLine) (maxL := 6) (ret := none) (by decide) rfl ?_
  intro p e s mth args below meth c s₁ B hml hv
  obtain ⟨rfl, hsz, hP, hK, hD0⟩ := hv
  have hx := B.exec
  have hb := B.bytes
  have hr := B.returns
  have hts := atoms_spec (ws := v_X12_pairLine) B.pre
  have hown : s.vm.findClass RX12 = some mth.cls := findClass_of_methodNamed B.named
  have hlocks := B.notSynchronized
  clear B
  subst hsz
  have iX12 : ∀ w ∈ wsX120, w ∈ v_X12_pairLine := (fun _ h => List.mem_cons_of_mem _ (List.mem_append_right _ (List.mem_append_right _ (List.mem_append_right _ (List.mem_append_right _ (List.mem_append_right _ (List.mem_append_right _ (List.mem_append_right _ (List.mem_append_left _ h)))))))))
  have hD := hD0.self (sz := s.heap.size)
  generalize hAe : (va_A [(m, .inr (11, mG m_a m_thrown m_taped m_at m_token m_place m_value m_word m_bad m_badPlace m_fault m_faultPlace m_willing m_will m_forgot m_isDrawn m_x m_begin m_round m_roundCards m_fate m_any m_bothSend m_meanCards m_bestSum m_fitMany m_fitFirst m_fitSecond)), ((m_a 17), .inl (cI, 25, .inl m_has_c)), ((m_a 5), .inl (cB, 1600, .inl m_tape_c)), ((m_a 19), .inl (cI, 240, .inl m_pair_c)), ((m_a 20), .inl (cJ, 160, .inr (.inl m_lost_c)))] s.heap.size) = A at hD ⊢
  have hA : ∀ q : Nat, s.heap.size ≤ q → A q := fun q h => by rw [← hAe]; exact Or.inr h
  have hS : va_S A s.heap s.heap [] := va_S.rf
  have hl := lv_entry ([.ref m]) (n := 6) (Nat.le_of_ble_eq_true rfl)
  rw [lg_entry_eq]
  generalize (lg_sl ([.ref m]) ++ List.replicate (6 - (lg_sl ([.ref m])).length) Slot.unset).toArray = ls at hl ⊢
  generalize ([.ref m] : List Value).toArray = av at hts ⊢
  generalize hQ : MQ below _ av s _ _ A = QQ
  have hl : lv_has ls 6 [(0, .ref m)] := hl
  have hP : va_P g vwCl [(m, .inr (11, mG m_a m_thrown m_taped m_at m_token m_place m_value m_word m_bad m_badPlace m_fault m_faultPlace m_willing m_will m_forgot m_isDrawn m_x m_begin m_round m_roundCards m_fate m_any m_bothSend m_meanCards m_bestSum m_fitMany m_fitFirst m_fitSecond)), ((m_a 17), .inl (cI, 25, .inl m_has_c)), ((m_a 5), .inl (cB, 1600, .inl m_tape_c)), ((m_a 19), .inl (cI, 240, .inl m_pair_c)), ((m_a 20), .inl (cJ, 160, .inr (.inl m_lost_c)))] s.heap := hP
  refine lv_aload_n hx hb dX12_pairLine_0 rfl (lv_at hl 0 rfl) ?_
  refine lv_iconst (v := 4) hx hb dX12_pairLine_1 (by decide) ?_
  refine ro_i (va_runV (As := [.int 4]) (rest := []) ⟨hx, hb, hml, hown, hts⟩ (q_X12_hasRead4 l g cI cJ cB cZ cL m m_a m_thrown m_taped m_at m_token m_place m_value m_word m_bad m_badPlace m_fault m_faultPlace m_willing m_will m_forgot m_isDrawn m_x m_begin m_round m_roundCards m_fate m_any m_bothSend m_meanCards m_bestSum m_fitMany m_fitFirst m_fitSecond m_has_c s.heap.size hv_m_taped hv_m_at hv_m_will hv_m_isDrawn ha_m_has_c) (cwV 1 hts (goodIn_app (g_4 (List.mem_cons_of_mem _ (List.mem_append_left _ (List.mem_of_getElem? (i := 0) rfl))) (List.mem_cons_of_mem _ (List.mem_append_left _ (List.mem_of_getElem? (i := 1) rfl))) (List.mem_cons_of_mem _ (List.mem_append_left _ (List.mem_of_getElem? (i := 2) rfl))) (List.mem_cons_of_mem _ (List.mem_append_left _ (List.mem_of_getElem? (i := 3) rfl))) (by decide +kernel)) (goodIn_sub (fun _ h => List.mem_cons_of_mem _ (List.mem_append_right _ (List.mem_append_left _ h))) good_v_X12_hasRead4)) rfl rfl rfl (by decide +kernel) ⟨Nat.le_of_ble_eq_true rfl, Nat.le_of_ble_eq_true rfl⟩) (pv_RO (q := (RX12, TX12, 56)) (ci := 11) (q0 := 0) (wc := [(m, .inr (11, mG m_a m_thrown m_taped m_at m_token m_place m_value m_word m_bad m_badPlace m_fault m_faultPlace m_willing m_will m_forgot m_isDrawn m_x m_begin m_round m_roundCards m_fate m_any m_bothSend m_meanCards m_bestSum m_fitMany m_fitFirst m_fitSecond)), ((m_a 17), .inl (cI, 25, .inl m_has_c))]) hK hP [0, 1] rfl rfl rfl) rfl rfl hl.1 rfl (lv_room (Nat.le_of_ble_eq_true rfl)) dX12_pairLine_2 ⟨Nat.le_of_ble_eq_true rfl, Nat.le_of_ble_eq_true rfl⟩) hS hA hP (fun r2 u2 H locs hw2 hP hS => ?_)
  have hw2_0 := hw2
  subst hw2_0
  refine lv_istore_n (lv' := [(1, .int (m_has_c 24)), (0, .ref m)]) hx hb dX12_pairLine_5 rfl hl (by decide) rfl (fun ls hl => ?_)
  refine lv_iconst (v := 3) hx hb dX12_pairLine_6 (by decide) ?_
  refine lv_bipush (v := 64) hx hb dX12_pairLine_7 (by decide) ?_
  refine lv_iload_n hx hb dX12_pairLine_9 rfl (lv_at hl 0 rfl) ?_
  refine lv_iadd hx hb dX12_pairLine_10 ?_
  refine lv_topi (fun y10 e10 => ?_)
  have q10 : y10.toInt = 64 + (m_has_c 24).toInt := by rw [e10]; exact ad_z rfl rfl (ir_c 64) ht_0 (by decide) (by decide)
  have r10 : ir y10.toInt 64 79 := ad_r q10 (ir_c 64) ht_0 (by decide) (by decide)
  refine lv_imul hx hb dX12_pairLine_11 ?_
  refine lv_topi (fun y11 e11 => ?_)
  have q11 : y11.toInt = 3 * y10.toInt := by rw [e11]; exact mu_z rfl rfl (ir_c 3) r10 (by decide) (by decide) (by decide)
  have r11 : ir y11.toInt 192 237 := mu_r q11 (ir_c 3) r10 (by decide) (by decide) (by decide) (by decide)
  refine lv_istore_n (lv' := [(2, .int y11), (1, .int (m_has_c 24)), (0, .ref m)]) hx hb dX12_pairLine_12 rfl hl (by decide) rfl (fun ls hl => ?_)
  refine lv_aload_n hx hb dX12_pairLine_13 rfl (lv_at hl 2 rfl) ?_
  refine rw_i (wr := [((m_a 19), .inl (cI, 240, .inl m_pair_c)), ((m_a 20), .inl (cJ, 160, .inr (.inl m_lost_c)))]) (va_runV (As := []) (rest := []) ⟨hx, hb, hml, hown, hts⟩ (q_X12_personHere l g cI cJ cB cZ cL m m_a m_thrown m_taped m_at m_token m_place m_value m_word m_bad m_badPlace m_fault m_faultPlace m_willing m_will m_forgot m_isDrawn m_x m_begin m_round m_roundCards m_fate m_any m_bothSend m_meanCards m_bestSum m_fitMany m_fitFirst m_fitSecond m_has_c m_tape_c H.size hv_m_taped hv_m_at hv_m_will hv_m_isDrawn ha_m_has_c (by omega)) (cwV 0 hts (goodIn_app (g_4 (List.mem_cons_of_mem _ (List.mem_append_left _ (List.mem_of_getElem? (i := 4) rfl))) (List.mem_cons_of_mem _ (List.mem_append_left _ (List.mem_of_getElem? (i := 5) rfl))) (List.mem_cons_of_mem _ (List.mem_append_left _ (List.mem_of_getElem? (i := 6) rfl))) (List.mem_cons_of_mem _ (List.mem_append_left _ (List.mem_of_getElem? (i := 3) rfl))) (by decide +kernel)) (goodIn_sub (fun _ h => List.mem_cons_of_mem _ (List.mem_append_right _ (List.mem_append_right _ (List.mem_append_left _ h)))) good_v_X12_personHere)) rfl rfl rfl (by decide +kernel) ⟨Nat.le_of_ble_eq_true rfl, Nat.le_of_ble_eq_true rfl⟩) (pv_RW (q := (RX12, TX12, 56)) (ci := 11) (q0 := 0) (wc := [(m, .inr (11, mG m_a m_thrown m_taped m_at m_token m_place m_value m_word m_bad m_badPlace m_fault m_faultPlace m_willing m_will m_forgot m_isDrawn m_x m_begin m_round m_roundCards m_fate m_any m_bothSend m_meanCards m_bestSum m_fitMany m_fitFirst m_fitSecond)), ((m_a 17), .inl (cI, 25, .inl m_has_c)), ((m_a 5), .inl (cB, 1600, .inl m_tape_c))]) hK hP hD [0, 1, 2] (by decide) rfl rfl rfl) rfl rfl hl.1 rfl (lv_room (Nat.le_of_ble_eq_true rfl)) dX12_pairLine_14 ⟨Nat.le_of_ble_eq_true rfl, Nat.le_of_ble_eq_true rfl⟩) hS hA hP hD [0, 1, 2] [3, 4] rfl rfl (by decide) (by decide) (fun r14 u14 H locs hw14 hP hD hS => ?_)
  obtain ⟨n_m_at_14, n_m_token_14, n_m_place_14, n_m_value_14, n_m_word_14, n_m_bad_14, n_m_badPlace_14⟩ := u14
  have hP : va_P g vwCl [((m_a 19), .inl (cI, 240, .inl m_pair_c)), ((m_a 20), .inl (cJ, 160, .inr (.inl m_lost_c))), (m, .inr (11, mG m_a m_thrown m_taped n_m_at_14 n_m_token_14 n_m_place_14 n_m_value_14 n_m_word_14 n_m_bad_14 n_m_badPlace_14 m_fault m_faultPlace m_willing m_will m_forgot m_isDrawn m_x m_begin m_round m_roundCards m_fate m_any m_bothSend m_meanCards m_bestSum m_fitMany m_fitFirst m_fitSecond)), ((m_a 17), .inl (cI, 25, .inl m_has_c)), ((m_a 5), .inl (cB, 1600, .inl m_tape_c))] H := hP
  have hD : va_D A [((m_a 19), .inl (cI, 240, .inl m_pair_c)), ((m_a 20), .inl (cJ, 160, .inr (.inl m_lost_c))), (m, .inr (11, mG m_a m_thrown m_taped n_m_at_14 n_m_token_14 n_m_place_14 n_m_value_14 n_m_word_14 n_m_bad_14 n_m_badPlace_14 m_fault m_faultPlace m_willing m_will m_forgot m_isDrawn m_x m_begin m_round m_roundCards m_fate m_any m_bothSend m_meanCards m_bestSum m_fitMany m_fitFirst m_fitSecond)), ((m_a 17), .inl (cI, 25, .inl m_has_c)), ((m_a 5), .inl (cB, 1600, .inl m_tape_c))] := hD
  dsimp only at hw14
  obtain ⟨hw14_0, hw14_1, hw14_2⟩ := hw14
  have hw14_1 : (n_m_at_14.toInt = m_at.toInt ∧ n_m_token_14.toInt = m_token.toInt) ∨ (m_at.toInt ≤ n_m_at_14.toInt ∧ n_m_at_14.toInt ≤ m_taped.toInt ∧ 0 ≤ n_m_token_14.toInt ∧ n_m_token_14.toInt ≤ 4 ∧ (m_at.toInt < n_m_at_14.toInt ∨ (n_m_token_14.toInt = 0 ∧ n_m_at_14.toInt = m_taped.toInt))) := hw14_1
  refine lv_istore_n (lv' := [(3, .int r14), (2, .int y11), (1, .int (m_has_c 24)), (0, .ref m)]) hx hb dX12_pairLine_17 rfl hl (by decide) rfl (fun ls hl => ?_)
  refine lv_aload_n hx hb dX12_pairLine_18 rfl (lv_at hl 3 rfl) ?_
  refine va_get (D := g) (ci := 11) (v := .int n_m_bad_14) (C := RX12) (T := TX12) (N := 56) hx hb hts iX12 hown hK hP 2 rfl rfl 12 (by decide) (hts (.fieldLink RX12 159 "CardsAtYuleModel" "bad" "I") (List.mem_cons_of_mem _ (List.mem_append_left _ (List.mem_of_getElem? (i := 7) rfl)))) (fun _ h9 => h9) rfl dX12_pairLine_19 ?_
  have J72 : ∀ (j72_m_bad : Int32) (j72_m_badPlace : Int32) (H : Heap) (locs : List Loc) (ls : Array Slot), ((n_m_at_14.toInt = m_at.toInt ∧ n_m_token_14.toInt = m_token.toInt) ∨ (m_at.toInt ≤ n_m_at_14.toInt ∧ n_m_at_14.toInt ≤ m_taped.toInt ∧ 0 ≤ n_m_token_14.toInt ∧ n_m_token_14.toInt ≤ 4 ∧ (m_at.toInt < n_m_at_14.toInt ∨ (n_m_token_14.toInt = 0 ∧ n_m_at_14.toInt = m_taped.toInt)))) → va_P g vwCl [((m_a 19), .inl (cI, 240, .inl m_pair_c)), ((m_a 20), .inl (cJ, 160, .inr (.inl m_lost_c))), (m, .inr (11, mG m_a m_thrown m_taped n_m_at_14 n_m_token_14 n_m_place_14 n_m_value_14 n_m_word_14 j72_m_bad j72_m_badPlace m_fault m_faultPlace m_willing m_will m_forgot m_isDrawn m_x m_begin m_round m_roundCards m_fate m_any m_bothSend m_meanCards m_bestSum m_fitMany m_fitFirst m_fitSecond)), ((m_a 17), .inl (cI, 25, .inl m_has_c)), ((m_a 5), .inl (cB, 1600, .inl m_tape_c))] H → va_D A [((m_a 19), .inl (cI, 240, .inl m_pair_c)), ((m_a 20), .inl (cJ, 160, .inr (.inl m_lost_c))), (m, .inr (11, mG m_a m_thrown m_taped n_m_at_14 n_m_token_14 n_m_place_14 n_m_value_14 n_m_word_14 j72_m_bad j72_m_badPlace m_fault m_faultPlace m_willing m_will m_forgot m_isDrawn m_x m_begin m_round m_roundCards m_fate m_any m_bothSend m_meanCards m_bestSum m_fitMany m_fitFirst m_fitSecond)), ((m_a 17), .inl (cI, 25, .inl m_has_c)), ((m_a 5), .inl (cB, 1600, .inl m_tape_c))] → va_S A s.heap H locs → lv_has ls 6 [(0, .ref m), (1, .int (m_has_c 24)), (2, .int y11), (3, .int r14)] → W p l e (headSpec v_X12_pairLine ({ frames := 5, cells := 0, slots := 0, locals := 112 })).room s mth av below meth c H locs 0 0 QQ (F0 mth 72 ls []) := by
    intro j72_m_bad j72_m_badPlace H locs ls hi72_0 hP hD hS hl
    refine lv_aload_n hx hb dX12_pairLine_72 rfl (lv_at hl 0 rfl) ?_
    refine rw_i (wr := [((m_a 19), .inl (cI, 240, .inl m_pair_c)), ((m_a 20), .inl (cJ, 160, .inr (.inl m_lost_c)))]) (va_runV (As := []) (rest := []) ⟨hx, hb, hml, hown, hts⟩ (q_X12_personHere l g cI cJ cB cZ cL m m_a m_thrown m_taped n_m_at_14 n_m_token_14 n_m_place_14 n_m_value_14 n_m_word_14 j72_m_bad j72_m_badPlace m_fault m_faultPlace m_willing m_will m_forgot m_isDrawn m_x m_begin m_round m_roundCards m_fate m_any m_bothSend m_meanCards m_bestSum m_fitMany m_fitFirst m_fitSecond m_has_c m_tape_c H.size hv_m_taped hw14_0 hv_m_will hv_m_isDrawn ha_m_has_c (by omega)) (cwV 0 hts (goodIn_app (g_4 (List.mem_cons_of_mem _ (List.mem_append_left _ (List.mem_of_getElem? (i := 4) rfl))) (List.mem_cons_of_mem _ (List.mem_append_left _ (List.mem_of_getElem? (i := 5) rfl))) (List.mem_cons_of_mem _ (List.mem_append_left _ (List.mem_of_getElem? (i := 6) rfl))) (List.mem_cons_of_mem _ (List.mem_append_left _ (List.mem_of_getElem? (i := 3) rfl))) (by decide +kernel)) (goodIn_sub (fun _ h => List.mem_cons_of_mem _ (List.mem_append_right _ (List.mem_append_right _ (List.mem_append_left _ h)))) good_v_X12_personHere)) rfl rfl rfl (by decide +kernel) ⟨Nat.le_of_ble_eq_true rfl, Nat.le_of_ble_eq_true rfl⟩) (pv_RW (q := (RX12, TX12, 56)) (ci := 11) (q0 := 0) (wc := [(m, .inr (11, mG m_a m_thrown m_taped n_m_at_14 n_m_token_14 n_m_place_14 n_m_value_14 n_m_word_14 j72_m_bad j72_m_badPlace m_fault m_faultPlace m_willing m_will m_forgot m_isDrawn m_x m_begin m_round m_roundCards m_fate m_any m_bothSend m_meanCards m_bestSum m_fitMany m_fitFirst m_fitSecond)), ((m_a 17), .inl (cI, 25, .inl m_has_c)), ((m_a 5), .inl (cB, 1600, .inl m_tape_c))]) hK hP hD [2, 3, 4] (by decide) rfl rfl rfl) rfl rfl hl.1 rfl (lv_room (Nat.le_of_ble_eq_true rfl)) dX12_pairLine_73 ⟨Nat.le_of_ble_eq_true rfl, Nat.le_of_ble_eq_true rfl⟩) hS hA hP hD [2, 3, 4] [0, 1] rfl rfl (by decide) (by decide) (fun r73 u73 H locs hw73 hP hD hS => ?_)
    obtain ⟨n_m_at_73, n_m_token_73, n_m_place_73, n_m_value_73, n_m_word_73, n_m_bad_73, n_m_badPlace_73⟩ := u73
    have hP : va_P g vwCl [((m_a 19), .inl (cI, 240, .inl m_pair_c)), ((m_a 20), .inl (cJ, 160, .inr (.inl m_lost_c))), (m, .inr (11, mG m_a m_thrown m_taped n_m_at_73 n_m_token_73 n_m_place_73 n_m_value_73 n_m_word_73 n_m_bad_73 n_m_badPlace_73 m_fault m_faultPlace m_willing m_will m_forgot m_isDrawn m_x m_begin m_round m_roundCards m_fate m_any m_bothSend m_meanCards m_bestSum m_fitMany m_fitFirst m_fitSecond)), ((m_a 17), .inl (cI, 25, .inl m_has_c)), ((m_a 5), .inl (cB, 1600, .inl m_tape_c))] H := hP
    have hD : va_D A [((m_a 19), .inl (cI, 240, .inl m_pair_c)), ((m_a 20), .inl (cJ, 160, .inr (.inl m_lost_c))), (m, .inr (11, mG m_a m_thrown m_taped n_m_at_73 n_m_token_73 n_m_place_73 n_m_value_73 n_m_word_73 n_m_bad_73 n_m_badPlace_73 m_fault m_faultPlace m_willing m_will m_forgot m_isDrawn m_x m_begin m_round m_roundCards m_fate m_any m_bothSend m_meanCards m_bestSum m_fitMany m_fitFirst m_fitSecond)), ((m_a 17), .inl (cI, 25, .inl m_has_c)), ((m_a 5), .inl (cB, 1600, .inl m_tape_c))] := hD
    dsimp only at hw73
    obtain ⟨hw73_0, hw73_1, hw73_2⟩ := hw73
    have hw73_1 : (n_m_at_73.toInt = n_m_at_14.toInt ∧ n_m_token_73.toInt = n_m_token_14.toInt) ∨ (n_m_at_14.toInt ≤ n_m_at_73.toInt ∧ n_m_at_73.toInt ≤ m_taped.toInt ∧ 0 ≤ n_m_token_73.toInt ∧ n_m_token_73.toInt ≤ 4 ∧ (n_m_at_14.toInt < n_m_at_73.toInt ∨ (n_m_token_73.toInt = 0 ∧ n_m_at_73.toInt = m_taped.toInt))) := hw73_1
    refine lv_istore (lv' := [(4, .int r73), (0, .ref m), (1, .int (m_has_c 24)), (2, .int y11), (3, .int r14)]) hx hb dX12_pairLine_76 hl (by decide) rfl (fun ls hl => ?_)
    refine lv_aload_n hx hb dX12_pairLine_78 rfl (lv_at hl 1 rfl) ?_
    refine lv_ldc2 (v := 1166981) hx hb hown (hts (.constantLong RX12 214 (1166981)) (List.mem_cons_of_mem _ (List.mem_append_left _ (List.mem_of_getElem? (i := 8) rfl)))) dX12_pairLine_79 ?_
    refine lv_iconst (v := 0) hx hb dX12_pairLine_82 (by decide) ?_
    refine lv_bipush (v := 15) hx hb dX12_pairLine_83 (by decide) ?_
    refine rw_i (wr := [((m_a 19), .inl (cI, 240, .inl m_pair_c)), ((m_a 20), .inl (cJ, 160, .inr (.inl m_lost_c))), ((m_a 17), .inl (cI, 25, .inl m_has_c))]) (va_runV (As := [.long 1166981, .int 0, .int 15]) (rest := []) ⟨hx, hb, hml, hown, hts⟩ (q_X12_number_ l g cI cJ cB cZ cL 1166981 0 15 m m_a m_thrown m_taped n_m_at_73 n_m_token_73 n_m_place_73 n_m_value_73 n_m_word_73 n_m_bad_73 n_m_badPlace_73 m_fault m_faultPlace m_willing m_will m_forgot m_isDrawn m_x m_begin m_round m_roundCards m_fate m_any m_bothSend m_meanCards m_bestSum m_fitMany m_fitFirst m_fitSecond m_tape_c H.size hv_m_taped hw73_0 hv_m_will hv_m_isDrawn (by omega)) (cwV 3 hts (goodIn_app (g_4 (List.mem_cons_of_mem _ (List.mem_append_left _ (List.mem_of_getElem? (i := 9) rfl))) (List.mem_cons_of_mem _ (List.mem_append_left _ (List.mem_of_getElem? (i := 10) rfl))) (List.mem_cons_of_mem _ (List.mem_append_left _ (List.mem_of_getElem? (i := 11) rfl))) (List.mem_cons_of_mem _ (List.mem_append_left _ (List.mem_of_getElem? (i := 3) rfl))) (by decide +kernel)) (goodIn_sub (fun _ h => List.mem_cons_of_mem _ (List.mem_append_right _ (List.mem_append_right _ (List.mem_append_right _ (List.mem_append_left _ h))))) good_v_X12_number_)) rfl rfl rfl (by decide +kernel) ⟨Nat.le_of_ble_eq_true rfl, Nat.le_of_ble_eq_true rfl⟩) (pv_RW (q := (RX12, TX12, 56)) (ci := 11) (q0 := 0) (wc := [(m, .inr (11, mG m_a m_thrown m_taped n_m_at_73 n_m_token_73 n_m_place_73 n_m_value_73 n_m_word_73 n_m_bad_73 n_m_badPlace_73 m_fault m_faultPlace m_willing m_will m_forgot m_isDrawn m_x m_begin m_round m_roundCards m_fate m_any m_bothSend m_meanCards m_bestSum m_fitMany m_fitFirst m_fitSecond)), ((m_a 5), .inl (cB, 1600, .inl m_tape_c))]) hK hP hD [2, 4] (by decide) rfl rfl rfl) rfl rfl hl.1 rfl (lv_room (Nat.le_of_ble_eq_true rfl)) dX12_pairLine_85 ⟨Nat.le_of_ble_eq_true rfl, Nat.le_of_ble_eq_true rfl⟩) hS hA hP hD [2, 4] [0, 1, 3] rfl rfl (by decide) (by decide) (fun r85 u85 H locs hw85 hP hD hS => ?_)
    obtain ⟨n_m_at_85, n_m_token_85, n_m_place_85, n_m_value_85, n_m_word_85, n_m_bad_85, n_m_badPlace_85⟩ := u85
    have hP : va_P g vwCl [((m_a 19), .inl (cI, 240, .inl m_pair_c)), ((m_a 20), .inl (cJ, 160, .inr (.inl m_lost_c))), ((m_a 17), .inl (cI, 25, .inl m_has_c)), (m, .inr (11, mG m_a m_thrown m_taped n_m_at_85 n_m_token_85 n_m_place_85 n_m_value_85 n_m_word_85 n_m_bad_85 n_m_badPlace_85 m_fault m_faultPlace m_willing m_will m_forgot m_isDrawn m_x m_begin m_round m_roundCards m_fate m_any m_bothSend m_meanCards m_bestSum m_fitMany m_fitFirst m_fitSecond)), ((m_a 5), .inl (cB, 1600, .inl m_tape_c))] H := hP
    have hD : va_D A [((m_a 19), .inl (cI, 240, .inl m_pair_c)), ((m_a 20), .inl (cJ, 160, .inr (.inl m_lost_c))), ((m_a 17), .inl (cI, 25, .inl m_has_c)), (m, .inr (11, mG m_a m_thrown m_taped n_m_at_85 n_m_token_85 n_m_place_85 n_m_value_85 n_m_word_85 n_m_bad_85 n_m_badPlace_85 m_fault m_faultPlace m_willing m_will m_forgot m_isDrawn m_x m_begin m_round m_roundCards m_fate m_any m_bothSend m_meanCards m_bestSum m_fitMany m_fitFirst m_fitSecond)), ((m_a 5), .inl (cB, 1600, .inl m_tape_c))] := hD
    dsimp only at hw85
    obtain ⟨hw85_0, hw85_1, hw85_2⟩ := hw85
    have hw85_1 : (n_m_at_85.toInt = n_m_at_73.toInt ∧ n_m_token_85.toInt = n_m_token_73.toInt) ∨ (n_m_at_73.toInt ≤ n_m_at_85.toInt ∧ n_m_at_85.toInt ≤ m_taped.toInt ∧ 0 ≤ n_m_token_85.toInt ∧ n_m_token_85.toInt ≤ 4 ∧ (n_m_at_73.toInt < n_m_at_85.toInt ∨ (n_m_token_85.toInt = 0 ∧ n_m_at_85.toInt = m_taped.toInt))) := hw85_1
    have hw85_2 : r85.toInt = 0 ∨ (0 ≤ r85.toInt ∧ r85.toInt ≤ 15) := hw85_2
    have rc85 : ir r85.toInt 0 15 := by omega
    refine lv_istore (lv' := [(5, .int r85), (4, .int r73), (0, .ref m), (1, .int (m_has_c 24)), (2, .int y11), (3, .int r14)]) hx hb dX12_pairLine_88 hl (by decide) rfl (fun ls hl => ?_)
    refine lv_aload_n hx hb dX12_pairLine_90 rfl (lv_at hl 2 rfl) ?_
    refine va_get (D := g) (ci := 11) (v := .int n_m_bad_85) (C := RX12) (T := TX12) (N := 56) hx hb hts iX12 hown hK hP 3 rfl rfl 12 (by decide) (hts (.fieldLink RX12 159 "CardsAtYuleModel" "bad" "I") (List.mem_cons_of_mem _ (List.mem_append_left _ (List.mem_of_getElem? (i := 7) rfl)))) (fun _ h9 => h9) rfl dX12_pairLine_91 ?_
    refine lv_if_eq (tgt := 98) hx hb dX12_pairLine_94 (by decide) (fun c94 => ?_) (fun c94 => ?_)
    rotate_left 1
    · have f94 := (show n_m_bad_85.toInt ≠ 0 from z_ne rfl rfl c94)
      subst hQ
      have hP9 := hP.sub (ws' := [(m, .inr (11, mG m_a m_thrown m_taped n_m_at_85 n_m_token_85 n_m_place_85 n_m_value_85 n_m_word_85 n_m_bad_85 n_m_badPlace_85 m_fault m_faultPlace m_willing m_will m_forgot m_isDrawn m_x m_begin m_round m_roundCards m_fate m_any m_bothSend m_meanCards m_bestSum m_fitMany m_fitFirst m_fitSecond)), ((m_a 17), .inl (cI, 25, .inl m_has_c)), ((m_a 5), .inl (cB, 1600, .inl m_tape_c)), ((m_a 19), .inl (cI, 240, .inl m_pair_c)), ((m_a 20), .inl (cJ, 160, .inr (.inl m_lost_c)))]) [3, 2, 4, 0, 1] rfl
      have hD9 := hD.sub (ws' := [(m, .inr (11, mG m_a m_thrown m_taped n_m_at_85 n_m_token_85 n_m_place_85 n_m_value_85 n_m_word_85 n_m_bad_85 n_m_badPlace_85 m_fault m_faultPlace m_willing m_will m_forgot m_isDrawn m_x m_begin m_round m_roundCards m_fate m_any m_bothSend m_meanCards m_bestSum m_fitMany m_fitFirst m_fitSecond)), ((m_a 17), .inl (cI, 25, .inl m_has_c)), ((m_a 5), .inl (cB, 1600, .inl m_tape_c)), ((m_a 19), .inl (cI, 240, .inl m_pair_c)), ((m_a 20), .inl (cJ, 160, .inr (.inl m_lost_c)))]) [3, 2, 4, 0, 1] (by decide) rfl
      exact W.vret hx hb hr (fun t ht hW => ⟨⟨(n_m_at_85, n_m_token_85, n_m_place_85, n_m_value_85, n_m_word_85, n_m_bad_85, n_m_badPlace_85, m_has_c, m_pair_c, m_lost_c), rfl, ⟨hw85_0, ha_m_has_c, ha_m_pair_c, (by omega)⟩, ⟨by rw [ht]; exact hP9, va_K.moved hW.alike hK, hD9⟩⟩, hS.F ht⟩) hS.2.2 dX12_pairLine_97
    have f94 := (show n_m_bad_85.toInt = 0 from z_eq rfl rfl c94)
    have r94a : ir n_m_bad_85.toInt 0 0 := ir_eqa f94 (rg_all n_m_bad_85) (ir_c 0) (by decide) (by decide)
    refine lv_aload_n hx hb dX12_pairLine_98 rfl (lv_at hl 2 rfl) ?_
    refine va_get (D := g) (ci := 11) (v := .ref (m_a 19)) (C := RX12) (T := TX12) (N := 56) hx hb hts iX12 hown hK hP 3 rfl rfl 19 (by decide) (hts (.fieldLink RX12 40 "CardsAtYuleModel" "pair" "[I") (List.mem_cons_of_mem _ (List.mem_append_left _ (List.mem_of_getElem? (i := 12) rfl)))) (fun _ h9 => h9) rfl dX12_pairLine_99 ?_
    refine lv_iload_n hx hb dX12_pairLine_102 rfl (lv_at hl 4 rfl) ?_
    refine lv_iload_n hx hb dX12_pairLine_103 rfl (lv_at hl 5 rfl) ?_
    refine va_iast (D := g) hx hb hK hP hD hS 0 0 rfl rfl (vi_rg rfl r11 (by decide) (by decide)) dX12_pairLine_104 (fun H locs hP hD hS => ?_)
    obtain ⟨g104, e104⟩ : ∃ z, z = upd m_pair_c y11.toNatClampNeg r14 := ⟨_, rfl⟩
    have hP : va_P g vwCl [((m_a 19), .inl (cI, 240, .inl (upd m_pair_c y11.toNatClampNeg r14))), ((m_a 20), .inl (cJ, 160, .inr (.inl m_lost_c))), ((m_a 17), .inl (cI, 25, .inl m_has_c)), (m, .inr (11, mG m_a m_thrown m_taped n_m_at_85 n_m_token_85 n_m_place_85 n_m_value_85 n_m_word_85 n_m_bad_85 n_m_badPlace_85 m_fault m_faultPlace m_willing m_will m_forgot m_isDrawn m_x m_begin m_round m_roundCards m_fate m_any m_bothSend m_meanCards m_bestSum m_fitMany m_fitFirst m_fitSecond)), ((m_a 5), .inl (cB, 1600, .inl m_tape_c))] H := hP
    have hD : va_D A [((m_a 19), .inl (cI, 240, .inl (upd m_pair_c y11.toNatClampNeg r14))), ((m_a 20), .inl (cJ, 160, .inr (.inl m_lost_c))), ((m_a 17), .inl (cI, 25, .inl m_has_c)), (m, .inr (11, mG m_a m_thrown m_taped n_m_at_85 n_m_token_85 n_m_place_85 n_m_value_85 n_m_word_85 n_m_bad_85 n_m_badPlace_85 m_fault m_faultPlace m_willing m_will m_forgot m_isDrawn m_x m_begin m_round m_roundCards m_fate m_any m_bothSend m_meanCards m_bestSum m_fitMany m_fitFirst m_fitSecond)), ((m_a 5), .inl (cB, 1600, .inl m_tape_c))] := hD
    rw [← e104] at hP hD
    have a104 : ar g104 240 0 15 := by rw [e104]; exact ar_u ha_m_pair_c (ir_w hw14_2 (by decide) (by decide))
    refine lv_aload_n hx hb dX12_pairLine_105 rfl (lv_at hl 2 rfl) ?_
    refine va_get (D := g) (ci := 11) (v := .ref (m_a 19)) (C := RX12) (T := TX12) (N := 56) hx hb hts iX12 hown hK hP 3 rfl rfl 19 (by decide) (hts (.fieldLink RX12 40 "CardsAtYuleModel" "pair" "[I") (List.mem_cons_of_mem _ (List.mem_append_left _ (List.mem_of_getElem? (i := 12) rfl)))) (fun _ h9 => h9) rfl dX12_pairLine_106 ?_
    refine lv_iload_n hx hb dX12_pairLine_109 rfl (lv_at hl 4 rfl) ?_
    refine lv_iconst (v := 1) hx hb dX12_pairLine_110 (by decide) ?_
    refine lv_iadd hx hb dX12_pairLine_111 ?_
    refine lv_topi (fun y111 e111 => ?_)
    have q111 : y111.toInt = y11.toInt + 1 := by rw [e111]; exact ad_z rfl rfl r11 (ir_c 1) (by decide) (by decide)
    have r111 : ir y111.toInt 193 238 := ad_r q111 r11 (ir_c 1) (by decide) (by decide)
    refine lv_iload hx hb dX12_pairLine_112 (lv_at hl 1 rfl) ?_
    refine va_iast (D := g) hx hb hK hP hD hS 0 0 rfl rfl (vi_rg rfl r111 (by decide) (by decide)) dX12_pairLine_114 (fun H locs hP hD hS => ?_)
    obtain ⟨g114, e114⟩ : ∃ z, z = upd g104 y111.toNatClampNeg r73 := ⟨_, rfl⟩
    have hP : va_P g vwCl [((m_a 19), .inl (cI, 240, .inl (upd g104 y111.toNatClampNeg r73))), ((m_a 20), .inl (cJ, 160, .inr (.inl m_lost_c))), ((m_a 17), .inl (cI, 25, .inl m_has_c)), (m, .inr (11, mG m_a m_thrown m_taped n_m_at_85 n_m_token_85 n_m_place_85 n_m_value_85 n_m_word_85 n_m_bad_85 n_m_badPlace_85 m_fault m_faultPlace m_willing m_will m_forgot m_isDrawn m_x m_begin m_round m_roundCards m_fate m_any m_bothSend m_meanCards m_bestSum m_fitMany m_fitFirst m_fitSecond)), ((m_a 5), .inl (cB, 1600, .inl m_tape_c))] H := hP
    have hD : va_D A [((m_a 19), .inl (cI, 240, .inl (upd g104 y111.toNatClampNeg r73))), ((m_a 20), .inl (cJ, 160, .inr (.inl m_lost_c))), ((m_a 17), .inl (cI, 25, .inl m_has_c)), (m, .inr (11, mG m_a m_thrown m_taped n_m_at_85 n_m_token_85 n_m_place_85 n_m_value_85 n_m_word_85 n_m_bad_85 n_m_badPlace_85 m_fault m_faultPlace m_willing m_will m_forgot m_isDrawn m_x m_begin m_round m_roundCards m_fate m_any m_bothSend m_meanCards m_bestSum m_fitMany m_fitFirst m_fitSecond)), ((m_a 5), .inl (cB, 1600, .inl m_tape_c))] := hD
    rw [← e114] at hP hD
    have a114 : ar g114 240 0 15 := by rw [e114]; exact ar_u a104 (ir_w hw73_2 (by decide) (by decide))
    refine lv_aload_n hx hb dX12_pairLine_115 rfl (lv_at hl 2 rfl) ?_
    refine va_get (D := g) (ci := 11) (v := .ref (m_a 19)) (C := RX12) (T := TX12) (N := 56) hx hb hts iX12 hown hK hP 3 rfl rfl 19 (by decide) (hts (.fieldLink RX12 40 "CardsAtYuleModel" "pair" "[I") (List.mem_cons_of_mem _ (List.mem_append_left _ (List.mem_of_getElem? (i := 12) rfl)))) (fun _ h9 => h9) rfl dX12_pairLine_116 ?_
    refine lv_iload_n hx hb dX12_pairLine_119 rfl (lv_at hl 4 rfl) ?_
    refine lv_iconst (v := 2) hx hb dX12_pairLine_120 (by decide) ?_
    refine lv_iadd hx hb dX12_pairLine_121 ?_
    refine lv_topi (fun y121 e121 => ?_)
    have q121 : y121.toInt = y11.toInt + 2 := by rw [e121]; exact ad_z rfl rfl r11 (ir_c 2) (by decide) (by decide)
    have r121 : ir y121.toInt 194 239 := ad_r q121 r11 (ir_c 2) (by decide) (by decide)
    refine lv_iload hx hb dX12_pairLine_122 (lv_at hl 0 rfl) ?_
    refine va_iast (D := g) hx hb hK hP hD hS 0 0 rfl rfl (vi_rg rfl r121 (by decide) (by decide)) dX12_pairLine_124 (fun H locs hP hD hS => ?_)
    obtain ⟨g124, e124⟩ : ∃ z, z = upd g114 y121.toNatClampNeg r85 := ⟨_, rfl⟩
    have hP : va_P g vwCl [((m_a 19), .inl (cI, 240, .inl (upd g114 y121.toNatClampNeg r85))), ((m_a 20), .inl (cJ, 160, .inr (.inl m_lost_c))), ((m_a 17), .inl (cI, 25, .inl m_has_c)), (m, .inr (11, mG m_a m_thrown m_taped n_m_at_85 n_m_token_85 n_m_place_85 n_m_value_85 n_m_word_85 n_m_bad_85 n_m_badPlace_85 m_fault m_faultPlace m_willing m_will m_forgot m_isDrawn m_x m_begin m_round m_roundCards m_fate m_any m_bothSend m_meanCards m_bestSum m_fitMany m_fitFirst m_fitSecond)), ((m_a 5), .inl (cB, 1600, .inl m_tape_c))] H := hP
    have hD : va_D A [((m_a 19), .inl (cI, 240, .inl (upd g114 y121.toNatClampNeg r85))), ((m_a 20), .inl (cJ, 160, .inr (.inl m_lost_c))), ((m_a 17), .inl (cI, 25, .inl m_has_c)), (m, .inr (11, mG m_a m_thrown m_taped n_m_at_85 n_m_token_85 n_m_place_85 n_m_value_85 n_m_word_85 n_m_bad_85 n_m_badPlace_85 m_fault m_faultPlace m_willing m_will m_forgot m_isDrawn m_x m_begin m_round m_roundCards m_fate m_any m_bothSend m_meanCards m_bestSum m_fitMany m_fitFirst m_fitSecond)), ((m_a 5), .inl (cB, 1600, .inl m_tape_c))] := hD
    rw [← e124] at hP hD
    have a124 : ar g124 240 0 15 := by rw [e124]; exact ar_u a114 rc85
    refine lv_aload_n hx hb dX12_pairLine_125 rfl (lv_at hl 2 rfl) ?_
    refine va_get (D := g) (ci := 11) (v := .ref (m_a 20)) (C := RX12) (T := TX12) (N := 56) hx hb hts iX12 hown hK hP 3 rfl rfl 20 (by decide) (hts (.fieldLink RX12 43 "CardsAtYuleModel" "lost" "[J") (List.mem_cons_of_mem _ (List.mem_append_left _ (List.mem_of_getElem? (i := 13) rfl)))) (fun _ h9 => h9) rfl dX12_pairLine_126 ?_
    refine lv_iconst (v := 2) hx hb dX12_pairLine_129 (by decide) ?_
    refine lv_bipush (v := 64) hx hb dX12_pairLine_130 (by decide) ?_
    refine lv_iload_n hx hb dX12_pairLine_132 rfl (lv_at hl 3 rfl) ?_
    refine lv_iadd hx hb dX12_pairLine_133 ?_
    refine lv_topi (fun y133 e133 => ?_)
    have q133 : y133.toInt = 64 + (m_has_c 24).toInt := by rw [e133]; exact ad_z rfl rfl (ir_c 64) ht_0 (by decide) (by decide)
    have r133 : ir y133.toInt 64 79 := ad_r q133 (ir_c 64) ht_0 (by decide) (by decide)
    refine lv_imul hx hb dX12_pairLine_134 ?_
    refine lv_topi (fun y134 e134 => ?_)
    have q134 : y134.toInt = 2 * y133.toInt := by rw [e134]; exact mu_z rfl rfl (ir_c 2) r133 (by decide) (by decide) (by decide)
    have r134 : ir y134.toInt 128 158 := mu_r q134 (ir_c 2) r133 (by decide) (by decide) (by decide) (by decide)
    refine lv_lconst (v := 0) hx hb dX12_pairLine_135 (by decide) ?_
    refine va_last (D := g) hx hb hK hP hD hS 1 1 rfl rfl (vi_rg rfl r134 (by decide) (by decide)) dX12_pairLine_136 (fun H locs hP hD hS => ?_)
    obtain ⟨g136, e136⟩ : ∃ z, z = vp_updL m_lost_c y134.toNatClampNeg (0 : Int64) := ⟨_, rfl⟩
    have hP : va_P g vwCl [((m_a 19), .inl (cI, 240, .inl g124)), ((m_a 20), .inl (cJ, 160, .inr (.inl (vp_updL m_lost_c y134.toNatClampNeg (0 : Int64))))), ((m_a 17), .inl (cI, 25, .inl m_has_c)), (m, .inr (11, mG m_a m_thrown m_taped n_m_at_85 n_m_token_85 n_m_place_85 n_m_value_85 n_m_word_85 n_m_bad_85 n_m_badPlace_85 m_fault m_faultPlace m_willing m_will m_forgot m_isDrawn m_x m_begin m_round m_roundCards m_fate m_any m_bothSend m_meanCards m_bestSum m_fitMany m_fitFirst m_fitSecond)), ((m_a 5), .inl (cB, 1600, .inl m_tape_c))] H := hP
    have hD : va_D A [((m_a 19), .inl (cI, 240, .inl g124)), ((m_a 20), .inl (cJ, 160, .inr (.inl (vp_updL m_lost_c y134.toNatClampNeg (0 : Int64))))), ((m_a 17), .inl (cI, 25, .inl m_has_c)), (m, .inr (11, mG m_a m_thrown m_taped n_m_at_85 n_m_token_85 n_m_place_85 n_m_value_85 n_m_word_85 n_m_bad_85 n_m_badPlace_85 m_fault m_faultPlace m_willing m_will m_forgot m_isDrawn m_x m_begin m_round m_roundCards m_fate m_any m_bothSend m_meanCards m_bestSum m_fitMany m_fitFirst m_fitSecond)), ((m_a 5), .inl (cB, 1600, .inl m_tape_c))] := hD
    rw [← e136] at hP hD
    refine lv_aload_n hx hb dX12_pairLine_137 rfl (lv_at hl 2 rfl) ?_
    refine va_get (D := g) (ci := 11) (v := .ref (m_a 20)) (C := RX12) (T := TX12) (N := 56) hx hb hts iX12 hown hK hP 3 rfl rfl 20 (by decide) (hts (.fieldLink RX12 43 "CardsAtYuleModel" "lost" "[J") (List.mem_cons_of_mem _ (List.mem_append_left _ (List.mem_of_getElem? (i := 13) rfl)))) (fun _ h9 => h9) rfl dX12_pairLine_138 ?_
    refine lv_iconst (v := 2) hx hb dX12_pairLine_141 (by decide) ?_
    refine lv_bipush (v := 64) hx hb dX12_pairLine_142 (by decide) ?_
    refine lv_iload_n hx hb dX12_pairLine_144 rfl (lv_at hl 3 rfl) ?_
    refine lv_iadd hx hb dX12_pairLine_145 ?_
    refine lv_topi (fun y145 e145 => ?_)
    have q145 : y145.toInt = 64 + (m_has_c 24).toInt := by rw [e145]; exact ad_z rfl rfl (ir_c 64) ht_0 (by decide) (by decide)
    have r145 : ir y145.toInt 64 79 := ad_r q145 (ir_c 64) ht_0 (by decide) (by decide)
    refine lv_imul hx hb dX12_pairLine_146 ?_
    refine lv_topi (fun y146 e146 => ?_)
    have q146 : y146.toInt = 2 * y145.toInt := by rw [e146]; exact mu_z rfl rfl (ir_c 2) r145 (by decide) (by decide) (by decide)
    have r146 : ir y146.toInt 128 158 := mu_r q146 (ir_c 2) r145 (by decide) (by decide) (by decide) (by decide)
    refine lv_iconst (v := 1) hx hb dX12_pairLine_147 (by decide) ?_
    refine lv_iadd hx hb dX12_pairLine_148 ?_
    refine lv_topi (fun y148 e148 => ?_)
    have q148 : y148.toInt = y146.toInt + 1 := by rw [e148]; exact ad_z rfl rfl r146 (ir_c 1) (by decide) (by decide)
    have r148 : ir y148.toInt 129 159 := ad_r q148 r146 (ir_c 1) (by decide) (by decide)
    refine lv_lconst (v := 0) hx hb dX12_pairLine_149 (by decide) ?_
    refine va_last (D := g) hx hb hK hP hD hS 1 1 rfl rfl (vi_rg rfl r148 (by decide) (by decide)) dX12_pairLine_150 (fun H locs hP hD hS => ?_)
    obtain ⟨g150, e150⟩ : ∃ z, z = vp_updL g136 y148.toNatClampNeg (0 : Int64) := ⟨_, rfl⟩
    have hP : va_P g vwCl [((m_a 19), .inl (cI, 240, .inl g124)), ((m_a 20), .inl (cJ, 160, .inr (.inl (vp_updL g136 y148.toNatClampNeg (0 : Int64))))), ((m_a 17), .inl (cI, 25, .inl m_has_c)), (m, .inr (11, mG m_a m_thrown m_taped n_m_at_85 n_m_token_85 n_m_place_85 n_m_value_85 n_m_word_85 n_m_bad_85 n_m_badPlace_85 m_fault m_faultPlace m_willing m_will m_forgot m_isDrawn m_x m_begin m_round m_roundCards m_fate m_any m_bothSend m_meanCards m_bestSum m_fitMany m_fitFirst m_fitSecond)), ((m_a 5), .inl (cB, 1600, .inl m_tape_c))] H := hP
    have hD : va_D A [((m_a 19), .inl (cI, 240, .inl g124)), ((m_a 20), .inl (cJ, 160, .inr (.inl (vp_updL g136 y148.toNatClampNeg (0 : Int64))))), ((m_a 17), .inl (cI, 25, .inl m_has_c)), (m, .inr (11, mG m_a m_thrown m_taped n_m_at_85 n_m_token_85 n_m_place_85 n_m_value_85 n_m_word_85 n_m_bad_85 n_m_badPlace_85 m_fault m_faultPlace m_willing m_will m_forgot m_isDrawn m_x m_begin m_round m_roundCards m_fate m_any m_bothSend m_meanCards m_bestSum m_fitMany m_fitFirst m_fitSecond)), ((m_a 5), .inl (cB, 1600, .inl m_tape_c))] := hD
    rw [← e150] at hP hD
    refine lv_aload_n hx hb dX12_pairLine_151 rfl (lv_at hl 2 rfl) ?_
    refine va_get (D := g) (ci := 11) (v := .ref (m_a 17)) (C := RX12) (T := TX12) (N := 56) hx hb hts iX12 hown hK hP 3 rfl rfl 17 (by decide) (hts (.fieldLink RX12 34 "CardsAtYuleModel" "has" "[I") (List.mem_cons_of_mem _ (List.mem_append_left _ (List.mem_of_getElem? (i := 14) rfl)))) (fun _ h9 => h9) rfl dX12_pairLine_152 ?_
    refine lv_bipush (v := 24) hx hb dX12_pairLine_155 (by decide) ?_
    refine lv_dup2_11 hx hb dX12_pairLine_157 rfl rfl ?_
    refine va_iald (D := g) hx hb hK hP 2 0 rfl rfl (vc_in (by decide)) dX12_pairLine_158 ?_
    refine lv_topi (nm_r (e' := (m_has_c 24)) rfl ?_)
    refine lv_iconst (v := 1) hx hb dX12_pairLine_159 (by decide) ?_
    refine lv_iadd hx hb dX12_pairLine_160 ?_
    refine lv_topi (fun y160 e160 => ?_)
    have q160 : y160.toInt = (m_has_c 24).toInt + 1 := by rw [e160]; exact ad_z rfl rfl ht_0 (ir_c 1) (by decide) (by decide)
    have r160 : ir y160.toInt 1 16 := ad_r q160 ht_0 (ir_c 1) (by decide) (by decide)
    refine va_iast (D := g) hx hb hK hP hD hS 2 0 rfl rfl (vc_in (by decide)) dX12_pairLine_161 (fun H locs hP hD hS => ?_)
    obtain ⟨g161, e161⟩ : ∃ z, z = upd m_has_c 24 y160 := ⟨_, rfl⟩
    have hP : va_P g vwCl [((m_a 19), .inl (cI, 240, .inl g124)), ((m_a 20), .inl (cJ, 160, .inr (.inl g150))), ((m_a 17), .inl (cI, 25, .inl (upd m_has_c 24 y160))), (m, .inr (11, mG m_a m_thrown m_taped n_m_at_85 n_m_token_85 n_m_place_85 n_m_value_85 n_m_word_85 n_m_bad_85 n_m_badPlace_85 m_fault m_faultPlace m_willing m_will m_forgot m_isDrawn m_x m_begin m_round m_roundCards m_fate m_any m_bothSend m_meanCards m_bestSum m_fitMany m_fitFirst m_fitSecond)), ((m_a 5), .inl (cB, 1600, .inl m_tape_c))] H := hP
    have hD : va_D A [((m_a 19), .inl (cI, 240, .inl g124)), ((m_a 20), .inl (cJ, 160, .inr (.inl g150))), ((m_a 17), .inl (cI, 25, .inl (upd m_has_c 24 y160))), (m, .inr (11, mG m_a m_thrown m_taped n_m_at_85 n_m_token_85 n_m_place_85 n_m_value_85 n_m_word_85 n_m_bad_85 n_m_badPlace_85 m_fault m_faultPlace m_willing m_will m_forgot m_isDrawn m_x m_begin m_round m_roundCards m_fate m_any m_bothSend m_meanCards m_bestSum m_fitMany m_fitFirst m_fitSecond)), ((m_a 5), .inl (cB, 1600, .inl m_tape_c))] := hD
    rw [← e161] at hP hD
    have a161 : hasI g161 := by rw [e161]; exact hasI_u4 ha_m_has_c 4 (ir_w r160 (by decide) (by decide))
    subst hQ
    have hP9 := hP.sub (ws' := [(m, .inr (11, mG m_a m_thrown m_taped n_m_at_85 n_m_token_85 n_m_place_85 n_m_value_85 n_m_word_85 n_m_bad_85 n_m_badPlace_85 m_fault m_faultPlace m_willing m_will m_forgot m_isDrawn m_x m_begin m_round m_roundCards m_fate m_any m_bothSend m_meanCards m_bestSum m_fitMany m_fitFirst m_fitSecond)), ((m_a 17), .inl (cI, 25, .inl g161)), ((m_a 5), .inl (cB, 1600, .inl m_tape_c)), ((m_a 19), .inl (cI, 240, .inl g124)), ((m_a 20), .inl (cJ, 160, .inr (.inl g150)))]) [3, 2, 4, 0, 1] rfl
    have hD9 := hD.sub (ws' := [(m, .inr (11, mG m_a m_thrown m_taped n_m_at_85 n_m_token_85 n_m_place_85 n_m_value_85 n_m_word_85 n_m_bad_85 n_m_badPlace_85 m_fault m_faultPlace m_willing m_will m_forgot m_isDrawn m_x m_begin m_round m_roundCards m_fate m_any m_bothSend m_meanCards m_bestSum m_fitMany m_fitFirst m_fitSecond)), ((m_a 17), .inl (cI, 25, .inl g161)), ((m_a 5), .inl (cB, 1600, .inl m_tape_c)), ((m_a 19), .inl (cI, 240, .inl g124)), ((m_a 20), .inl (cJ, 160, .inr (.inl g150)))]) [3, 2, 4, 0, 1] (by decide) rfl
    exact W.vret hx hb hr (fun t ht hW => ⟨⟨(n_m_at_85, n_m_token_85, n_m_place_85, n_m_value_85, n_m_word_85, n_m_bad_85, n_m_badPlace_85, g161, g124, g150), rfl, ⟨hw85_0, a161, a124, (by omega)⟩, ⟨by rw [ht]; exact hP9, va_K.moved hW.alike hK, hD9⟩⟩, hS.F ht⟩) hS.2.2 dX12_pairLine_162
  refine lv_if_ne (tgt := 72) hx hb dX12_pairLine_22 (by decide) (fun c22 => ?_) (fun c22 => ?_)
  · have f22 := (show n_m_bad_14.toInt ≠ 0 from z_ne rfl rfl c22)
    exact J72 n_m_bad_14 n_m_badPlace_14 _ _ _ (by first | omega | decide) (hP.sub [0, 1, 2, 3, 4] rfl) (hD.sub [0, 1, 2, 3, 4] (by decide) rfl) hS (lv_sub hl [3, 2, 1, 0] rfl)
  have f22 := (show n_m_bad_14.toInt = 0 from z_eq rfl rfl c22)
  have r22a : ir n_m_bad_14.toInt 0 0 := ir_eqa f22 (rg_all n_m_bad_14) (ir_c 0) (by decide) (by decide)
  refine lv_aload_n hx hb dX12_pairLine_25 rfl (lv_at hl 3 rfl) ?_
  refine va_get (D := g) (ci := 11) (v := .int n_m_token_14) (C := RX12) (T := TX12) (N := 56) hx hb hts iX12 hown hK hP 2 rfl rfl 8 (by decide) (hts (.fieldLink RX12 148 "CardsAtYuleModel" "token" "I") (List.mem_cons_of_mem _ (List.mem_append_left _ (List.mem_of_getElem? (i := 15) rfl)))) (fun _ h9 => h9) rfl dX12_pairLine_26 ?_
  refine lv_iconst (v := 2) hx hb dX12_pairLine_29 (by decide) ?_
  refine lv_icmp_ne (tgt := 72) hx hb dX12_pairLine_30 (by decide) (fun c30 => ?_) (fun c30 => ?_)
  · have f30 := (show n_m_token_14.toInt ≠ 2 from z_ne rfl rfl c30)
    exact J72 n_m_bad_14 n_m_badPlace_14 _ _ _ (by first | omega | decide) (hP.sub [0, 1, 2, 3, 4] rfl) (hD.sub [0, 1, 2, 3, 4] (by decide) rfl) hS (lv_sub hl [3, 2, 1, 0] rfl)
  have f30 := (show n_m_token_14.toInt = 2 from z_eq rfl rfl c30)
  have r30a : ir n_m_token_14.toInt 2 2 := ir_eqa f30 (rg_all n_m_token_14) (ir_c 2) (by decide) (by decide)
  refine lv_aload_n hx hb dX12_pairLine_33 rfl (lv_at hl 3 rfl) ?_
  refine va_get (D := g) (ci := 11) (v := .int n_m_value_14) (C := RX12) (T := TX12) (N := 56) hx hb hts iX12 hown hK hP 2 rfl rfl 10 (by decide) (hts (.fieldLink RX12 141 "CardsAtYuleModel" "value" "I") (List.mem_cons_of_mem _ (List.mem_append_left _ (List.mem_of_getElem? (i := 16) rfl)))) (fun _ h9 => h9) rfl dX12_pairLine_34 ?_
  refine lv_aload_n hx hb dX12_pairLine_37 rfl (lv_at hl 3 rfl) ?_
  refine lv_iconst (v := 3) hx hb dX12_pairLine_38 (by decide) ?_
  refine ro_i (va_runV (As := [.int 3]) (rest := [.int n_m_value_14]) ⟨hx, hb, hml, hown, hts⟩ (q_X12_hasRead3 l g cI cJ cB cZ cL m m_a m_thrown m_taped n_m_at_14 n_m_token_14 n_m_place_14 n_m_value_14 n_m_word_14 n_m_bad_14 n_m_badPlace_14 m_fault m_faultPlace m_willing m_will m_forgot m_isDrawn m_x m_begin m_round m_roundCards m_fate m_any m_bothSend m_meanCards m_bestSum m_fitMany m_fitFirst m_fitSecond m_has_c H.size hv_m_taped hw14_0 hv_m_will hv_m_isDrawn ha_m_has_c) (cwV 1 hts (goodIn_app (g_4 (List.mem_cons_of_mem _ (List.mem_append_left _ (List.mem_of_getElem? (i := 0) rfl))) (List.mem_cons_of_mem _ (List.mem_append_left _ (List.mem_of_getElem? (i := 1) rfl))) (List.mem_cons_of_mem _ (List.mem_append_left _ (List.mem_of_getElem? (i := 2) rfl))) (List.mem_cons_of_mem _ (List.mem_append_left _ (List.mem_of_getElem? (i := 3) rfl))) (by decide +kernel)) (goodIn_sub (fun _ h => List.mem_cons_of_mem _ (List.mem_append_right _ (List.mem_append_right _ (List.mem_append_right _ (List.mem_append_right _ (List.mem_append_left _ h)))))) good_v_X12_hasRead3)) rfl rfl rfl (by decide +kernel) ⟨Nat.le_of_ble_eq_true rfl, Nat.le_of_ble_eq_true rfl⟩) (pv_RO (q := (RX12, TX12, 56)) (ci := 11) (q0 := 0) (wc := [(m, .inr (11, mG m_a m_thrown m_taped n_m_at_14 n_m_token_14 n_m_place_14 n_m_value_14 n_m_word_14 n_m_bad_14 n_m_badPlace_14 m_fault m_faultPlace m_willing m_will m_forgot m_isDrawn m_x m_begin m_round m_roundCards m_fate m_any m_bothSend m_meanCards m_bestSum m_fitMany m_fitFirst m_fitSecond)), ((m_a 17), .inl (cI, 25, .inl m_has_c))]) hK hP [2, 3] rfl rfl rfl) rfl rfl hl.1 rfl (lv_room (Nat.le_of_ble_eq_true rfl)) dX12_pairLine_39 ⟨Nat.le_of_ble_eq_true rfl, Nat.le_of_ble_eq_true rfl⟩) hS hA hP (fun r39 u39 H locs hw39 hP hS => ?_)
  have hw39_0 := hw39
  subst hw39_0
  have rt39 : ir (m_has_c 23).toInt 0 10 := hasI_3 ha_m_has_c 4 (by decide)
  refine lv_icmp_ge (tgt := 72) hx hb dX12_pairLine_42 (by decide) (fun c42 => ?_) (fun c42 => ?_)
  · have f42 := (show (m_has_c 23).toInt ≤ n_m_value_14.toInt from z_le rfl rfl c42)
    have r42a : ir n_m_value_14.toInt 0 2147483647 := ir_leb f42 rt39 (rg_all n_m_value_14) (by decide)
    exact J72 n_m_bad_14 n_m_badPlace_14 _ _ _ (by first | omega | decide) (hP.sub [0, 1, 2, 3, 4] rfl) (hD.sub [0, 1, 2, 3, 4] (by decide) rfl) hS (lv_sub hl [3, 2, 1, 0] rfl)
  have f42 := (show n_m_value_14.toInt < (m_has_c 23).toInt from z_nle rfl rfl c42)
  have r42a : ir n_m_value_14.toInt (-2147483648) 9 := ir_lta f42 (rg_all n_m_value_14) rt39 (by decide)
  refine lv_aload_n hx hb dX12_pairLine_45 rfl (lv_at hl 3 rfl) ?_
  refine va_get (D := g) (ci := 11) (v := .int n_m_value_14) (C := RX12) (T := TX12) (N := 56) hx hb hts iX12 hown hK hP 2 rfl rfl 10 (by decide) (hts (.fieldLink RX12 141 "CardsAtYuleModel" "value" "I") (List.mem_cons_of_mem _ (List.mem_append_left _ (List.mem_of_getElem? (i := 16) rfl)))) (fun _ h9 => h9) rfl dX12_pairLine_46 ?_
  refine lv_iload_n hx hb dX12_pairLine_49 rfl (lv_at hl 0 rfl) ?_
  have J67 : ∀  (H : Heap) (locs : List Loc) (ls : Array Slot), ((n_m_at_14.toInt = m_at.toInt ∧ n_m_token_14.toInt = m_token.toInt) ∨ (m_at.toInt ≤ n_m_at_14.toInt ∧ n_m_at_14.toInt ≤ m_taped.toInt ∧ 0 ≤ n_m_token_14.toInt ∧ n_m_token_14.toInt ≤ 4 ∧ (m_at.toInt < n_m_at_14.toInt ∨ (n_m_token_14.toInt = 0 ∧ n_m_at_14.toInt = m_taped.toInt)))) → va_P g vwCl [((m_a 19), .inl (cI, 240, .inl m_pair_c)), ((m_a 20), .inl (cJ, 160, .inr (.inl m_lost_c))), (m, .inr (11, mG m_a m_thrown m_taped n_m_at_14 n_m_token_14 n_m_place_14 n_m_value_14 n_m_word_14 n_m_bad_14 n_m_badPlace_14 m_fault m_faultPlace m_willing m_will m_forgot m_isDrawn m_x m_begin m_round m_roundCards m_fate m_any m_bothSend m_meanCards m_bestSum m_fitMany m_fitFirst m_fitSecond)), ((m_a 17), .inl (cI, 25, .inl m_has_c)), ((m_a 5), .inl (cB, 1600, .inl m_tape_c))] H → va_D A [((m_a 19), .inl (cI, 240, .inl m_pair_c)), ((m_a 20), .inl (cJ, 160, .inr (.inl m_lost_c))), (m, .inr (11, mG m_a m_thrown m_taped n_m_at_14 n_m_token_14 n_m_place_14 n_m_value_14 n_m_word_14 n_m_bad_14 n_m_badPlace_14 m_fault m_faultPlace m_willing m_will m_forgot m_isDrawn m_x m_begin m_round m_roundCards m_fate m_any m_bothSend m_meanCards m_bestSum m_fitMany m_fitFirst m_fitSecond)), ((m_a 17), .inl (cI, 25, .inl m_has_c)), ((m_a 5), .inl (cB, 1600, .inl m_tape_c))] → va_S A s.heap H locs → lv_has ls 6 [(0, .ref m), (1, .int (m_has_c 24)), (2, .int y11), (3, .int r14)] → W p l e (headSpec v_X12_pairLine ({ frames := 5, cells := 0, slots := 0, locals := 112 })).room s mth av below meth c H locs 0 0 QQ (F0 mth 67 ls []) := by
    intro  H locs ls hi67_0 hP hD hS hl
    refine lv_aload_n hx hb dX12_pairLine_67 rfl (lv_at hl 0 rfl) ?_
    refine lv_iconst (v := 2) hx hb dX12_pairLine_68 (by decide) ?_
    refine rw_v (wr := [((m_a 19), .inl (cI, 240, .inl m_pair_c)), ((m_a 20), .inl (cJ, 160, .inr (.inl m_lost_c))), ((m_a 17), .inl (cI, 25, .inl m_has_c)), ((m_a 5), .inl (cB, 1600, .inl m_tape_c))]) (va_runV (As := [.int 2]) (rest := []) ⟨hx, hb, hml, hown, hts⟩ (q_X12_fails l g cI cJ cB cZ cL 2 m m_a m_thrown m_taped n_m_at_14 n_m_token_14 n_m_place_14 n_m_value_14 n_m_word_14 n_m_bad_14 n_m_badPlace_14 m_fault m_faultPlace m_willing m_will m_forgot m_isDrawn m_x m_begin m_round m_roundCards m_fate m_any m_bothSend m_meanCards m_bestSum m_fitMany m_fitFirst m_fitSecond H.size (by decide) hv_m_taped hw14_0 hv_m_will hv_m_isDrawn) (cwV 1 hts (goodIn_app (g_4 (List.mem_cons_of_mem _ (List.mem_append_left _ (List.mem_of_getElem? (i := 17) rfl))) (List.mem_cons_of_mem _ (List.mem_append_left _ (List.mem_of_getElem? (i := 18) rfl))) (List.mem_cons_of_mem _ (List.mem_append_left _ (List.mem_of_getElem? (i := 19) rfl))) (List.mem_cons_of_mem _ (List.mem_append_left _ (List.mem_of_getElem? (i := 3) rfl))) (by decide +kernel)) (goodIn_sub (fun _ h => List.mem_cons_of_mem _ (List.mem_append_right _ (List.mem_append_right _ (List.mem_append_right _ (List.mem_append_right _ (List.mem_append_right _ (List.mem_append_left _ h))))))) good_v_X12_fails)) rfl rfl rfl (by decide +kernel) ⟨Nat.le_of_ble_eq_true rfl, Nat.le_of_ble_eq_true rfl⟩) (pv_RW (q := (RX12, TX12, 56)) (ci := 11) (q0 := 0) (wc := [(m, .inr (11, mG m_a m_thrown m_taped n_m_at_14 n_m_token_14 n_m_place_14 n_m_value_14 n_m_word_14 n_m_bad_14 n_m_badPlace_14 m_fault m_faultPlace m_willing m_will m_forgot m_isDrawn m_x m_begin m_round m_roundCards m_fate m_any m_bothSend m_meanCards m_bestSum m_fitMany m_fitFirst m_fitSecond))]) hK hP hD [2] (by decide) rfl rfl rfl) rfl rfl hl.1 rfl (lv_room (Nat.le_of_ble_eq_true rfl)) dX12_pairLine_69 ⟨Nat.le_of_ble_eq_true rfl, Nat.le_of_ble_eq_true rfl⟩) hS hA hP hD [2] [0, 1, 3, 4] rfl rfl (by decide) (by decide) (fun u69 H locs hw69 hP hD hS => ?_)
    obtain ⟨n_m_bad_69, n_m_badPlace_69⟩ := u69
    have hP : va_P g vwCl [((m_a 19), .inl (cI, 240, .inl m_pair_c)), ((m_a 20), .inl (cJ, 160, .inr (.inl m_lost_c))), ((m_a 17), .inl (cI, 25, .inl m_has_c)), ((m_a 5), .inl (cB, 1600, .inl m_tape_c)), (m, .inr (11, mG m_a m_thrown m_taped n_m_at_14 n_m_token_14 n_m_place_14 n_m_value_14 n_m_word_14 n_m_bad_69 n_m_badPlace_69 m_fault m_faultPlace m_willing m_will m_forgot m_isDrawn m_x m_begin m_round m_roundCards m_fate m_any m_bothSend m_meanCards m_bestSum m_fitMany m_fitFirst m_fitSecond))] H := hP
    have hD : va_D A [((m_a 19), .inl (cI, 240, .inl m_pair_c)), ((m_a 20), .inl (cJ, 160, .inr (.inl m_lost_c))), ((m_a 17), .inl (cI, 25, .inl m_has_c)), ((m_a 5), .inl (cB, 1600, .inl m_tape_c)), (m, .inr (11, mG m_a m_thrown m_taped n_m_at_14 n_m_token_14 n_m_place_14 n_m_value_14 n_m_word_14 n_m_bad_69 n_m_badPlace_69 m_fault m_faultPlace m_willing m_will m_forgot m_isDrawn m_x m_begin m_round m_roundCards m_fate m_any m_bothSend m_meanCards m_bestSum m_fitMany m_fitFirst m_fitSecond))] := hD
    dsimp only at hw69
    have hw69_0 := hw69
    have hw69_0 : n_m_bad_69.toInt ≠ 0 := hw69_0
    exact J72 n_m_bad_69 n_m_badPlace_69 _ _ _ (by first | omega | decide) (hP.sub [0, 1, 4, 2, 3] rfl) (hD.sub [0, 1, 4, 2, 3] (by decide) rfl) hS (lv_sub hl [0, 1, 2, 3] rfl)
  refine lv_icmp_eq (tgt := 67) hx hb dX12_pairLine_50 (by decide) (fun c50 => ?_) (fun c50 => ?_)
  · have f50 := (show n_m_value_14.toInt = r14.toInt from z_eq rfl rfl c50)
    have r50a : ir n_m_value_14.toInt 0 9 := ir_eqa f50 r42a hw14_2 (by decide) (by decide)
    exact J67  _ _ _ (by first | omega | decide) (hP.sub [0, 1, 2, 3, 4] rfl) (hD.sub [0, 1, 2, 3, 4] (by decide) rfl) hS (lv_sub hl [3, 2, 1, 0] rfl)
  have f50 := (show n_m_value_14.toInt ≠ r14.toInt from z_ne rfl rfl c50)
  refine lv_aload_n hx hb dX12_pairLine_53 rfl (lv_at hl 3 rfl) ?_
  refine lv_iconst (v := 4) hx hb dX12_pairLine_54 (by decide) ?_
  refine lv_iload_n hx hb dX12_pairLine_55 rfl (lv_at hl 0 rfl) ?_
  refine lv_aload_n hx hb dX12_pairLine_56 rfl (lv_at hl 3 rfl) ?_
  refine va_get (D := g) (ci := 11) (v := .int n_m_value_14) (C := RX12) (T := TX12) (N := 56) hx hb hts iX12 hown hK hP 2 rfl rfl 10 (by decide) (hts (.fieldLink RX12 141 "CardsAtYuleModel" "value" "I") (List.mem_cons_of_mem _ (List.mem_append_left _ (List.mem_of_getElem? (i := 16) rfl)))) (fun _ h9 => h9) rfl dX12_pairLine_57 ?_
  refine ro_i (va_runV (As := [.int 4, .int r14, .int n_m_value_14]) (rest := []) ⟨hx, hb, hml, hown, hts⟩ (q_X12_pairOf l g cI cJ cB cZ cL 4 r14 n_m_value_14 m m_a m_thrown m_taped n_m_at_14 n_m_token_14 n_m_place_14 n_m_value_14 n_m_word_14 n_m_bad_14 n_m_badPlace_14 m_fault m_faultPlace m_willing m_will m_forgot m_isDrawn m_x m_begin m_round m_roundCards m_fate m_any m_bothSend m_meanCards m_bestSum m_fitMany m_fitFirst m_fitSecond m_has_c m_pair_c H.size (by decide) hv_m_taped hw14_0 hv_m_will hv_m_isDrawn ha_m_has_c ha_m_pair_c) (cwV 3 hts (goodIn_app (g_4 (List.mem_cons_of_mem _ (List.mem_append_left _ (List.mem_of_getElem? (i := 20) rfl))) (List.mem_cons_of_mem _ (List.mem_append_left _ (List.mem_of_getElem? (i := 21) rfl))) (List.mem_cons_of_mem _ (List.mem_append_left _ (List.mem_of_getElem? (i := 22) rfl))) (List.mem_cons_of_mem _ (List.mem_append_left _ (List.mem_of_getElem? (i := 3) rfl))) (by decide +kernel)) (goodIn_sub (fun _ h => List.mem_cons_of_mem _ (List.mem_append_right _ (List.mem_append_right _ (List.mem_append_right _ (List.mem_append_right _ (List.mem_append_right _ (List.mem_append_right _ (List.mem_append_left _ h)))))))) good_v_X12_pairOf)) rfl rfl rfl (by decide +kernel) ⟨Nat.le_of_ble_eq_true rfl, Nat.le_of_ble_eq_true rfl⟩) (pv_RO (q := (RX12, TX12, 56)) (ci := 11) (q0 := 0) (wc := [(m, .inr (11, mG m_a m_thrown m_taped n_m_at_14 n_m_token_14 n_m_place_14 n_m_value_14 n_m_word_14 n_m_bad_14 n_m_badPlace_14 m_fault m_faultPlace m_willing m_will m_forgot m_isDrawn m_x m_begin m_round m_roundCards m_fate m_any m_bothSend m_meanCards m_bestSum m_fitMany m_fitFirst m_fitSecond)), ((m_a 17), .inl (cI, 25, .inl m_has_c)), ((m_a 19), .inl (cI, 240, .inl m_pair_c))]) hK hP [2, 3, 0] rfl rfl rfl) rfl rfl hl.1 rfl (lv_room (Nat.le_of_ble_eq_true rfl)) dX12_pairLine_60 ⟨Nat.le_of_ble_eq_true rfl, Nat.le_of_ble_eq_true rfl⟩) hS hA hP (fun r60 u60 H locs hw60 hP hS => ?_)
  have hw60_0 := hw60
  refine lv_iconst (v := (-1)) hx hb dX12_pairLine_63 (by decide) ?_
  refine lv_icmp_eq (tgt := 72) hx hb dX12_pairLine_64 (by decide) (fun c64 => ?_) (fun c64 => ?_)
  rotate_left 1
  · have f64 := (show r60.toInt ≠ (-1) from z_ne rfl rfl c64)
    have r64a : ir r60.toInt 0 15 := ir_nel f64 hw60_0 (by decide) (by decide)
    exact J67  _ _ _ (by first | omega | decide) (hP.sub [0, 1, 2, 3, 4] rfl) (hD.sub [0, 1, 2, 3, 4] (by decide) rfl) hS (lv_sub hl [3, 2, 1, 0] rfl)
  have f64 := (show r60.toInt = (-1) from z_eq rfl rfl c64)
  have r64a : ir r60.toInt (-1) (-1) := ir_eqa f64 hw60_0 (ir_c (-1)) (by decide) (by decide)
  exact J72 n_m_bad_14 n_m_badPlace_14 _ _ _ (by first | omega | decide) (hP.sub [0, 1, 2, 3, 4] rfl) (hD.sub [0, 1, 2, 3, 4] (by decide) rfl) hS (lv_sub hl [3, 2, 1, 0] rfl)
def v_X12_lostLine : List Cond := .code yX12_lostLine cX12_lostLine 6 none :: (([.methodLink RX12 216 yX12_yearHere, .instanceMethod yX12_yearHere, .selects RX12 yX12_yearHere yX12_yearHere, .initialized RX12, .methodLink RX12 206 yX12_personHere, .instanceMethod yX12_personHere, .selects RX12 yX12_personHere yX12_personHere, .fieldLink RX12 159 "CardsAtYuleModel" "bad" "I", .methodLink RX12 210 yX12_pairOf, .instanceMethod yX12_pairOf, .selects RX12 yX12_pairOf yX12_pairOf, .fieldLink RX12 40 "CardsAtYuleModel" "pair" "[I", .fieldLink RX12 43 "CardsAtYuleModel" "lost" "[J", .fieldLink RX12 148 "CardsAtYuleModel" "token" "I", .fieldLink RX12 141 "CardsAtYuleModel" "value" "I", .methodLink RX12 189 yX12_hasRead, .instanceMethod yX12_hasRead, .selects RX12 yX12_hasRead yX12_hasRead, .methodLink RX12 175 yX12_fails, .instanceMethod yX12_fails, .selects RX12 yX12_fails yX12_fails] : List Cond) ++ (v_X12_yearHere ++ (v_X12_personHere ++ (v_X12_pairOf ++ (v_X12_hasRead3 ++ (v_X12_fails ++ (wsX120 ++ ([] : List Cond))))))))
theorem good_v_X12_lostLine : v_X12_lostLine.all goodWord = true := ga_c (by decide +kernel) (ga_a (by decide +kernel) (ga_a good_v_X12_yearHere (ga_a good_v_X12_personHere (ga_a good_v_X12_pairOf (ga_a good_v_X12_hasRead3 (ga_a good_v_X12_fails (ga_a good_wsX120 rfl)))))))
set_option maxHeartbeats 4000000 in
set_option maxRecDepth 100000 in
theorem q_X12_lostLine (l : Launch) (g : va_G) (cI cJ cB cZ cL : ClassId) (m : Nat) (m_a : Nat → Nat) (m_thrown : Int32) (m_taped : Int32) (m_at : Int32) (m_token : Int32) (m_place : Int32) (m_value : Int32) (m_word : Int64) (m_bad : Int32) (m_badPlace : Int32) (m_fault : Int32) (m_faultPlace : Int32) (m_willing : Int32) (m_will : Int32) (m_forgot : Int32) (m_isDrawn : Int32) (m_x : Int64) (m_begin : Int32) (m_round : Int32) (m_roundCards : Int32) (m_fate : Int32) (m_any : Int64) (m_bothSend : Int64) (m_meanCards : Int64) (m_bestSum : Int32) (m_fitMany : Int32) (m_fitFirst : Int64) (m_fitSecond : Int64) (m_has_c : Nat → Int32) (m_tape_c : Nat → Int32) (m_pair_c : Nat → Int32) (m_lost_c : Nat → Int64) (sz : Nat) (hv_m_taped : ir m_taped.toInt 0 1600) (hv_m_at : ir m_at.toInt 0 1600) (hv_m_will : ir m_will.toInt 0 1) (hv_m_isDrawn : ir m_isDrawn.toInt 0 1) (ha_m_has_c : hasI m_has_c) (ha_m_pair_c : ar m_pair_c 240 0 15) (hx_0 : m_at.toInt ≤ m_taped.toInt) : Met l yX12_lostLine v_X12_lostLine ({ frames := 4, cells := 0, slots := 0, locals := 87 }) (va_Pc [.ref m] (pRW g (tyT cI cJ cB cZ cL) [(m, .inr (11, mG m_a m_thrown m_taped m_at m_token m_place m_value m_word m_bad m_badPlace m_fault m_faultPlace m_willing m_will m_forgot m_isDrawn m_x m_begin m_round m_roundCards m_fate m_any m_bothSend m_meanCards m_bestSum m_fitMany m_fitFirst m_fitSecond)), ((m_a 17), .inl (cI, 25, .inl m_has_c)), ((m_a 5), .inl (cB, 1600, .inl m_tape_c)), ((m_a 19), .inl (cI, 240, .inl m_pair_c)), ((m_a 20), .inl (cJ, 160, .inr (.inl m_lost_c)))] sz)) (va_Qv (fun (u : Int32 × Int32 × Int32 × Int32 × Int64 × Int32 × Int32 × (Nat → Int64)) => match u with | (n_m_at, n_m_token, n_m_place, n_m_value, n_m_word, n_m_bad, n_m_badPlace, n_m_lost_c) => (ir n_m_at.toInt 0 1600) ∧ ((n_m_at.toInt = m_at.toInt ∧ n_m_token.toInt = m_token.toInt) ∨ (m_at.toInt ≤ n_m_at.toInt ∧ n_m_at.toInt ≤ m_taped.toInt ∧ 0 ≤ n_m_token.toInt ∧ n_m_token.toInt ≤ 4 ∧ (m_at.toInt < n_m_at.toInt ∨ (n_m_token.toInt = 0 ∧ n_m_at.toInt = m_taped.toInt))))) (fun (u : Int32 × Int32 × Int32 × Int32 × Int64 × Int32 × Int32 × (Nat → Int64)) (t : State) => bRW g (tyT cI cJ cB cZ cL) (va_A [(m, .inr (11, mG m_a m_thrown m_taped m_at m_token m_place m_value m_word m_bad m_badPlace m_fault m_faultPlace m_willing m_will m_forgot m_isDrawn m_x m_begin m_round m_roundCards m_fate m_any m_bothSend m_meanCards m_bestSum m_fitMany m_fitFirst m_fitSecond)), ((m_a 17), .inl (cI, 25, .inl m_has_c)), ((m_a 5), .inl (cB, 1600, .inl m_tape_c)), ((m_a 19), .inl (cI, 240, .inl m_pair_c)), ((m_a 20), .inl (cJ, 160, .inr (.inl m_lost_c)))] sz) (match u with | (n_m_at, n_m_token, n_m_place, n_m_value, n_m_word, n_m_bad, n_m_badPlace, n_m_lost_c) => [(m, .inr (11, mG m_a m_thrown m_taped n_m_at n_m_token n_m_place n_m_value n_m_word n_m_bad n_m_badPlace m_fault m_faultPlace m_willing m_will m_forgot m_isDrawn m_x m_begin m_round m_roundCards m_fate m_any m_bothSend m_meanCards m_bestSum m_fitMany m_fitFirst m_fitSecond)), ((m_a 17), .inl (cI, 25, .inl m_has_c)), ((m_a 5), .inl (cB, 1600, .inl m_tape_c)), ((m_a 19), .inl (cI, 240, .inl m_pair_c)), ((m_a 20), .inl (cJ, 160, .inr (.inl n_m_lost_c)))]) t) (va_A [(m, .inr (11, mG m_a m_thrown m_taped m_at m_token m_place m_value m_word m_bad m_badPlace m_fault m_faultPlace m_willing m_will m_forgot m_isDrawn m_x m_begin m_round m_roundCards m_fate m_any m_bothSend m_meanCards m_bestSum m_fitMany m_fitFirst m_fitSecond)), ((m_a 17), .inl (cI, 25, .inl m_has_c)), ((m_a 5), .inl (cB, 1600, .inl m_tape_c)), ((m_a 19), .inl (cI, 240, .inl m_pair_c)), ((m_a 20), .inl (cJ, 160, .inr (.inl m_lost_c)))] sz)) 0 0 (va_A [(m, .inr (11, mG m_a m_thrown m_taped m_at m_token m_place m_value m_word m_bad m_badPlace m_fault m_faultPlace m_willing m_will m_forgot m_isDrawn m_x m_begin m_round m_roundCards m_fate m_any m_bothSend m_meanCards m_bestSum m_fitMany m_fitFirst m_fitSecond)), ((m_a 17), .inl (cI, 25, .inl m_has_c)), ((m_a 5), .inl (cB, 1600, .inl m_tape_c)), ((m_a 19), .inl (cI, 240, .inl m_pair_c)), ((m_a 20), .inl (cJ, 160, .inr (.inl m_lost_c)))] sz) := by
  refine Met.ofW (cc := cX12_lostLine) (maxL := 6) (ret := none) (by decide) rfl ?_
  intro p e s mth args below meth c s₁ B hml hv
  obtain ⟨rfl, hsz, hP, hK, hD0⟩ := hv
  have hx := B.exec
  have hb := B.bytes
  have hr := B.returns
  have hts := atoms_spec (ws := v_X12_lostLine) B.pre
  have hown : s.vm.findClass RX12 = some mth.cls := findClass_of_methodNamed B.named
  have hlocks := B.notSynchronized
  clear B
  subst hsz
  have iX12 : ∀ w ∈ wsX120, w ∈ v_X12_lostLine := (fun _ h => List.mem_cons_of_mem _ (List.mem_append_right _ (List.mem_append_right _ (List.mem_append_right _ (List.mem_append_right _ (List.mem_append_right _ (List.mem_append_right _ (List.mem_append_left _ h))))))))
  have hD := hD0.self (sz := s.heap.size)
  generalize hAe : (va_A [(m, .inr (11, mG m_a m_thrown m_taped m_at m_token m_place m_value m_word m_bad m_badPlace m_fault m_faultPlace m_willing m_will m_forgot m_isDrawn m_x m_begin m_round m_roundCards m_fate m_any m_bothSend m_meanCards m_bestSum m_fitMany m_fitFirst m_fitSecond)), ((m_a 17), .inl (cI, 25, .inl m_has_c)), ((m_a 5), .inl (cB, 1600, .inl m_tape_c)), ((m_a 19), .inl (cI, 240, .inl m_pair_c)), ((m_a 20), .inl (cJ, 160, .inr (.inl m_lost_c)))] s.heap.size) = A at hD ⊢
  have hA : ∀ q : Nat, s.heap.size ≤ q → A q := fun q h => by rw [← hAe]; exact Or.inr h
  have hS : va_S A s.heap s.heap [] := va_S.rf
  have hl := lv_entry ([.ref m]) (n := 6) (Nat.le_of_ble_eq_true rfl)
  rw [lg_entry_eq]
  generalize (lg_sl ([.ref m]) ++ List.replicate (6 - (lg_sl ([.ref m])).length) Slot.unset).toArray = ls at hl ⊢
  generalize ([.ref m] : List Value).toArray = av at hts ⊢
  generalize hQ : MQ below _ av s _ _ A = QQ
  have hl : lv_has ls 6 [(0, .ref m)] := hl
  have hP : va_P g vwCl [(m, .inr (11, mG m_a m_thrown m_taped m_at m_token m_place m_value m_word m_bad m_badPlace m_fault m_faultPlace m_willing m_will m_forgot m_isDrawn m_x m_begin m_round m_roundCards m_fate m_any m_bothSend m_meanCards m_bestSum m_fitMany m_fitFirst m_fitSecond)), ((m_a 17), .inl (cI, 25, .inl m_has_c)), ((m_a 5), .inl (cB, 1600, .inl m_tape_c)), ((m_a 19), .inl (cI, 240, .inl m_pair_c)), ((m_a 20), .inl (cJ, 160, .inr (.inl m_lost_c)))] s.heap := hP
  refine lv_aload_n hx hb dX12_lostLine_0 rfl (lv_at hl 0 rfl) ?_
  refine rw_i (wr := [((m_a 19), .inl (cI, 240, .inl m_pair_c)), ((m_a 20), .inl (cJ, 160, .inr (.inl m_lost_c)))]) (va_runV (As := []) (rest := []) ⟨hx, hb, hml, hown, hts⟩ (q_X12_yearHere l g cI cJ cB cZ cL m m_a m_thrown m_taped m_at m_token m_place m_value m_word m_bad m_badPlace m_fault m_faultPlace m_willing m_will m_forgot m_isDrawn m_x m_begin m_round m_roundCards m_fate m_any m_bothSend m_meanCards m_bestSum m_fitMany m_fitFirst m_fitSecond m_has_c m_tape_c s.heap.size hv_m_taped hv_m_at hv_m_will hv_m_isDrawn ha_m_has_c (by omega)) (cwV 0 hts (goodIn_app (g_4 (List.mem_cons_of_mem _ (List.mem_append_left _ (List.mem_of_getElem? (i := 0) rfl))) (List.mem_cons_of_mem _ (List.mem_append_left _ (List.mem_of_getElem? (i := 1) rfl))) (List.mem_cons_of_mem _ (List.mem_append_left _ (List.mem_of_getElem? (i := 2) rfl))) (List.mem_cons_of_mem _ (List.mem_append_left _ (List.mem_of_getElem? (i := 3) rfl))) (by decide +kernel)) (goodIn_sub (fun _ h => List.mem_cons_of_mem _ (List.mem_append_right _ (List.mem_append_left _ h))) good_v_X12_yearHere)) rfl rfl rfl (by decide +kernel) ⟨Nat.le_of_ble_eq_true rfl, Nat.le_of_ble_eq_true rfl⟩) (pv_RW (q := (RX12, TX12, 56)) (ci := 11) (q0 := 0) (wc := [(m, .inr (11, mG m_a m_thrown m_taped m_at m_token m_place m_value m_word m_bad m_badPlace m_fault m_faultPlace m_willing m_will m_forgot m_isDrawn m_x m_begin m_round m_roundCards m_fate m_any m_bothSend m_meanCards m_bestSum m_fitMany m_fitFirst m_fitSecond)), ((m_a 17), .inl (cI, 25, .inl m_has_c)), ((m_a 5), .inl (cB, 1600, .inl m_tape_c))]) hK hP hD [0, 1, 2] (by decide) rfl rfl rfl) rfl rfl hl.1 rfl (lv_room (Nat.le_of_ble_eq_true rfl)) dX12_lostLine_1 ⟨Nat.le_of_ble_eq_true rfl, Nat.le_of_ble_eq_true rfl⟩) hS hA hP hD [0, 1, 2] [3, 4] rfl rfl (by decide) (by decide) (fun r1 u1 H locs hw1 hP hD hS => ?_)
  obtain ⟨n_m_at_1, n_m_token_1, n_m_place_1, n_m_value_1, n_m_word_1, n_m_bad_1, n_m_badPlace_1⟩ := u1
  have hP : va_P g vwCl [((m_a 19), .inl (cI, 240, .inl m_pair_c)), ((m_a 20), .inl (cJ, 160, .inr (.inl m_lost_c))), (m, .inr (11, mG m_a m_thrown m_taped n_m_at_1 n_m_token_1 n_m_place_1 n_m_value_1 n_m_word_1 n_m_bad_1 n_m_badPlace_1 m_fault m_faultPlace m_willing m_will m_forgot m_isDrawn m_x m_begin m_round m_roundCards m_fate m_any m_bothSend m_meanCards m_bestSum m_fitMany m_fitFirst m_fitSecond)), ((m_a 17), .inl (cI, 25, .inl m_has_c)), ((m_a 5), .inl (cB, 1600, .inl m_tape_c))] H := hP
  have hD : va_D A [((m_a 19), .inl (cI, 240, .inl m_pair_c)), ((m_a 20), .inl (cJ, 160, .inr (.inl m_lost_c))), (m, .inr (11, mG m_a m_thrown m_taped n_m_at_1 n_m_token_1 n_m_place_1 n_m_value_1 n_m_word_1 n_m_bad_1 n_m_badPlace_1 m_fault m_faultPlace m_willing m_will m_forgot m_isDrawn m_x m_begin m_round m_roundCards m_fate m_any m_bothSend m_meanCards m_bestSum m_fitMany m_fitFirst m_fitSecond)), ((m_a 17), .inl (cI, 25, .inl m_has_c)), ((m_a 5), .inl (cB, 1600, .inl m_tape_c))] := hD
  dsimp only at hw1
  obtain ⟨hw1_0, hw1_1, hw1_2⟩ := hw1
  have hw1_1 : (n_m_at_1.toInt = m_at.toInt ∧ n_m_token_1.toInt = m_token.toInt) ∨ (m_at.toInt ≤ n_m_at_1.toInt ∧ n_m_at_1.toInt ≤ m_taped.toInt ∧ 0 ≤ n_m_token_1.toInt ∧ n_m_token_1.toInt ≤ 4 ∧ (m_at.toInt < n_m_at_1.toInt ∨ (n_m_token_1.toInt = 0 ∧ n_m_at_1.toInt = m_taped.toInt))) := hw1_1
  refine lv_istore_n (lv' := [(1, .int r1), (0, .ref m)]) hx hb dX12_lostLine_4 rfl hl (by decide) rfl (fun ls hl => ?_)
  refine lv_aload_n hx hb dX12_lostLine_5 rfl (lv_at hl 1 rfl) ?_
  refine rw_i (wr := [((m_a 19), .inl (cI, 240, .inl m_pair_c)), ((m_a 20), .inl (cJ, 160, .inr (.inl m_lost_c)))]) (va_runV (As := []) (rest := []) ⟨hx, hb, hml, hown, hts⟩ (q_X12_personHere l g cI cJ cB cZ cL m m_a m_thrown m_taped n_m_at_1 n_m_token_1 n_m_place_1 n_m_value_1 n_m_word_1 n_m_bad_1 n_m_badPlace_1 m_fault m_faultPlace m_willing m_will m_forgot m_isDrawn m_x m_begin m_round m_roundCards m_fate m_any m_bothSend m_meanCards m_bestSum m_fitMany m_fitFirst m_fitSecond m_has_c m_tape_c H.size hv_m_taped hw1_0 hv_m_will hv_m_isDrawn ha_m_has_c (by omega)) (cwV 0 hts (goodIn_app (g_4 (List.mem_cons_of_mem _ (List.mem_append_left _ (List.mem_of_getElem? (i := 4) rfl))) (List.mem_cons_of_mem _ (List.mem_append_left _ (List.mem_of_getElem? (i := 5) rfl))) (List.mem_cons_of_mem _ (List.mem_append_left _ (List.mem_of_getElem? (i := 6) rfl))) (List.mem_cons_of_mem _ (List.mem_append_left _ (List.mem_of_getElem? (i := 3) rfl))) (by decide +kernel)) (goodIn_sub (fun _ h => List.mem_cons_of_mem _ (List.mem_append_right _ (List.mem_append_right _ (List.mem_append_left _ h)))) good_v_X12_personHere)) rfl rfl rfl (by decide +kernel) ⟨Nat.le_of_ble_eq_true rfl, Nat.le_of_ble_eq_true rfl⟩) (pv_RW (q := (RX12, TX12, 56)) (ci := 11) (q0 := 0) (wc := [(m, .inr (11, mG m_a m_thrown m_taped n_m_at_1 n_m_token_1 n_m_place_1 n_m_value_1 n_m_word_1 n_m_bad_1 n_m_badPlace_1 m_fault m_faultPlace m_willing m_will m_forgot m_isDrawn m_x m_begin m_round m_roundCards m_fate m_any m_bothSend m_meanCards m_bestSum m_fitMany m_fitFirst m_fitSecond)), ((m_a 17), .inl (cI, 25, .inl m_has_c)), ((m_a 5), .inl (cB, 1600, .inl m_tape_c))]) hK hP hD [2, 3, 4] (by decide) rfl rfl rfl) rfl rfl hl.1 rfl (lv_room (Nat.le_of_ble_eq_true rfl)) dX12_lostLine_6 ⟨Nat.le_of_ble_eq_true rfl, Nat.le_of_ble_eq_true rfl⟩) hS hA hP hD [2, 3, 4] [0, 1] rfl rfl (by decide) (by decide) (fun r6 u6 H locs hw6 hP hD hS => ?_)
  obtain ⟨n_m_at_6, n_m_token_6, n_m_place_6, n_m_value_6, n_m_word_6, n_m_bad_6, n_m_badPlace_6⟩ := u6
  have hP : va_P g vwCl [((m_a 19), .inl (cI, 240, .inl m_pair_c)), ((m_a 20), .inl (cJ, 160, .inr (.inl m_lost_c))), (m, .inr (11, mG m_a m_thrown m_taped n_m_at_6 n_m_token_6 n_m_place_6 n_m_value_6 n_m_word_6 n_m_bad_6 n_m_badPlace_6 m_fault m_faultPlace m_willing m_will m_forgot m_isDrawn m_x m_begin m_round m_roundCards m_fate m_any m_bothSend m_meanCards m_bestSum m_fitMany m_fitFirst m_fitSecond)), ((m_a 17), .inl (cI, 25, .inl m_has_c)), ((m_a 5), .inl (cB, 1600, .inl m_tape_c))] H := hP
  have hD : va_D A [((m_a 19), .inl (cI, 240, .inl m_pair_c)), ((m_a 20), .inl (cJ, 160, .inr (.inl m_lost_c))), (m, .inr (11, mG m_a m_thrown m_taped n_m_at_6 n_m_token_6 n_m_place_6 n_m_value_6 n_m_word_6 n_m_bad_6 n_m_badPlace_6 m_fault m_faultPlace m_willing m_will m_forgot m_isDrawn m_x m_begin m_round m_roundCards m_fate m_any m_bothSend m_meanCards m_bestSum m_fitMany m_fitFirst m_fitSecond)), ((m_a 17), .inl (cI, 25, .inl m_has_c)), ((m_a 5), .inl (cB, 1600, .inl m_tape_c))] := hD
  dsimp only at hw6
  obtain ⟨hw6_0, hw6_1, hw6_2⟩ := hw6
  have hw6_1 : (n_m_at_6.toInt = n_m_at_1.toInt ∧ n_m_token_6.toInt = n_m_token_1.toInt) ∨ (n_m_at_1.toInt ≤ n_m_at_6.toInt ∧ n_m_at_6.toInt ≤ m_taped.toInt ∧ 0 ≤ n_m_token_6.toInt ∧ n_m_token_6.toInt ≤ 4 ∧ (n_m_at_1.toInt < n_m_at_6.toInt ∨ (n_m_token_6.toInt = 0 ∧ n_m_at_6.toInt = m_taped.toInt))) := hw6_1
  refine lv_istore_n (lv' := [(2, .int r6), (1, .int r1), (0, .ref m)]) hx hb dX12_lostLine_9 rfl hl (by decide) rfl (fun ls hl => ?_)
  refine lv_aload_n hx hb dX12_lostLine_10 rfl (lv_at hl 2 rfl) ?_
  refine va_get (D := g) (ci := 11) (v := .int n_m_bad_6) (C := RX12) (T := TX12) (N := 56) hx hb hts iX12 hown hK hP 2 rfl rfl 12 (by decide) (hts (.fieldLink RX12 159 "CardsAtYuleModel" "bad" "I") (List.mem_cons_of_mem _ (List.mem_append_left _ (List.mem_of_getElem? (i := 7) rfl)))) (fun _ h9 => h9) rfl dX12_lostLine_11 ?_
  have J56 : ∀ (j56_m_bad : Int32) (j56_m_badPlace : Int32) (H : Heap) (locs : List Loc) (ls : Array Slot), ((n_m_at_6.toInt = m_at.toInt ∧ n_m_token_6.toInt = m_token.toInt) ∨ (m_at.toInt ≤ n_m_at_6.toInt ∧ n_m_at_6.toInt ≤ m_taped.toInt ∧ 0 ≤ n_m_token_6.toInt ∧ n_m_token_6.toInt ≤ 4 ∧ (m_at.toInt < n_m_at_6.toInt ∨ (n_m_token_6.toInt = 0 ∧ n_m_at_6.toInt = m_taped.toInt)))) → va_P g vwCl [((m_a 19), .inl (cI, 240, .inl m_pair_c)), ((m_a 20), .inl (cJ, 160, .inr (.inl m_lost_c))), (m, .inr (11, mG m_a m_thrown m_taped n_m_at_6 n_m_token_6 n_m_place_6 n_m_value_6 n_m_word_6 j56_m_bad j56_m_badPlace m_fault m_faultPlace m_willing m_will m_forgot m_isDrawn m_x m_begin m_round m_roundCards m_fate m_any m_bothSend m_meanCards m_bestSum m_fitMany m_fitFirst m_fitSecond)), ((m_a 17), .inl (cI, 25, .inl m_has_c)), ((m_a 5), .inl (cB, 1600, .inl m_tape_c))] H → va_D A [((m_a 19), .inl (cI, 240, .inl m_pair_c)), ((m_a 20), .inl (cJ, 160, .inr (.inl m_lost_c))), (m, .inr (11, mG m_a m_thrown m_taped n_m_at_6 n_m_token_6 n_m_place_6 n_m_value_6 n_m_word_6 j56_m_bad j56_m_badPlace m_fault m_faultPlace m_willing m_will m_forgot m_isDrawn m_x m_begin m_round m_roundCards m_fate m_any m_bothSend m_meanCards m_bestSum m_fitMany m_fitFirst m_fitSecond)), ((m_a 17), .inl (cI, 25, .inl m_has_c)), ((m_a 5), .inl (cB, 1600, .inl m_tape_c))] → va_S A s.heap H locs → lv_has ls 6 [(0, .ref m), (1, .int r1), (2, .int r6)] → W p l e (headSpec v_X12_lostLine ({ frames := 4, cells := 0, slots := 0, locals := 87 })).room s mth av below meth c H locs 0 0 QQ (F0 mth 56 ls []) := by
    intro j56_m_bad j56_m_badPlace H locs ls hi56_0 hP hD hS hl
    refine lv_aload_n hx hb dX12_lostLine_56 rfl (lv_at hl 0 rfl) ?_
    refine rw_i (wr := [((m_a 19), .inl (cI, 240, .inl m_pair_c)), ((m_a 20), .inl (cJ, 160, .inr (.inl m_lost_c)))]) (va_runV (As := []) (rest := []) ⟨hx, hb, hml, hown, hts⟩ (q_X12_personHere l g cI cJ cB cZ cL m m_a m_thrown m_taped n_m_at_6 n_m_token_6 n_m_place_6 n_m_value_6 n_m_word_6 j56_m_bad j56_m_badPlace m_fault m_faultPlace m_willing m_will m_forgot m_isDrawn m_x m_begin m_round m_roundCards m_fate m_any m_bothSend m_meanCards m_bestSum m_fitMany m_fitFirst m_fitSecond m_has_c m_tape_c H.size hv_m_taped hw6_0 hv_m_will hv_m_isDrawn ha_m_has_c (by omega)) (cwV 0 hts (goodIn_app (g_4 (List.mem_cons_of_mem _ (List.mem_append_left _ (List.mem_of_getElem? (i := 4) rfl))) (List.mem_cons_of_mem _ (List.mem_append_left _ (List.mem_of_getElem? (i := 5) rfl))) (List.mem_cons_of_mem _ (List.mem_append_left _ (List.mem_of_getElem? (i := 6) rfl))) (List.mem_cons_of_mem _ (List.mem_append_left _ (List.mem_of_getElem? (i := 3) rfl))) (by decide +kernel)) (goodIn_sub (fun _ h => List.mem_cons_of_mem _ (List.mem_append_right _ (List.mem_append_right _ (List.mem_append_left _ h)))) good_v_X12_personHere)) rfl rfl rfl (by decide +kernel) ⟨Nat.le_of_ble_eq_true rfl, Nat.le_of_ble_eq_true rfl⟩) (pv_RW (q := (RX12, TX12, 56)) (ci := 11) (q0 := 0) (wc := [(m, .inr (11, mG m_a m_thrown m_taped n_m_at_6 n_m_token_6 n_m_place_6 n_m_value_6 n_m_word_6 j56_m_bad j56_m_badPlace m_fault m_faultPlace m_willing m_will m_forgot m_isDrawn m_x m_begin m_round m_roundCards m_fate m_any m_bothSend m_meanCards m_bestSum m_fitMany m_fitFirst m_fitSecond)), ((m_a 17), .inl (cI, 25, .inl m_has_c)), ((m_a 5), .inl (cB, 1600, .inl m_tape_c))]) hK hP hD [2, 3, 4] (by decide) rfl rfl rfl) rfl rfl hl.1 rfl (lv_room (Nat.le_of_ble_eq_true rfl)) dX12_lostLine_57 ⟨Nat.le_of_ble_eq_true rfl, Nat.le_of_ble_eq_true rfl⟩) hS hA hP hD [2, 3, 4] [0, 1] rfl rfl (by decide) (by decide) (fun r57 u57 H locs hw57 hP hD hS => ?_)
    obtain ⟨n_m_at_57, n_m_token_57, n_m_place_57, n_m_value_57, n_m_word_57, n_m_bad_57, n_m_badPlace_57⟩ := u57
    have hP : va_P g vwCl [((m_a 19), .inl (cI, 240, .inl m_pair_c)), ((m_a 20), .inl (cJ, 160, .inr (.inl m_lost_c))), (m, .inr (11, mG m_a m_thrown m_taped n_m_at_57 n_m_token_57 n_m_place_57 n_m_value_57 n_m_word_57 n_m_bad_57 n_m_badPlace_57 m_fault m_faultPlace m_willing m_will m_forgot m_isDrawn m_x m_begin m_round m_roundCards m_fate m_any m_bothSend m_meanCards m_bestSum m_fitMany m_fitFirst m_fitSecond)), ((m_a 17), .inl (cI, 25, .inl m_has_c)), ((m_a 5), .inl (cB, 1600, .inl m_tape_c))] H := hP
    have hD : va_D A [((m_a 19), .inl (cI, 240, .inl m_pair_c)), ((m_a 20), .inl (cJ, 160, .inr (.inl m_lost_c))), (m, .inr (11, mG m_a m_thrown m_taped n_m_at_57 n_m_token_57 n_m_place_57 n_m_value_57 n_m_word_57 n_m_bad_57 n_m_badPlace_57 m_fault m_faultPlace m_willing m_will m_forgot m_isDrawn m_x m_begin m_round m_roundCards m_fate m_any m_bothSend m_meanCards m_bestSum m_fitMany m_fitFirst m_fitSecond)), ((m_a 17), .inl (cI, 25, .inl m_has_c)), ((m_a 5), .inl (cB, 1600, .inl m_tape_c))] := hD
    dsimp only at hw57
    obtain ⟨hw57_0, hw57_1, hw57_2⟩ := hw57
    have hw57_1 : (n_m_at_57.toInt = n_m_at_6.toInt ∧ n_m_token_57.toInt = n_m_token_6.toInt) ∨ (n_m_at_6.toInt ≤ n_m_at_57.toInt ∧ n_m_at_57.toInt ≤ m_taped.toInt ∧ 0 ≤ n_m_token_57.toInt ∧ n_m_token_57.toInt ≤ 4 ∧ (n_m_at_6.toInt < n_m_at_57.toInt ∨ (n_m_token_57.toInt = 0 ∧ n_m_at_57.toInt = m_taped.toInt))) := hw57_1
    refine lv_istore_n (lv' := [(3, .int r57), (0, .ref m), (1, .int r1), (2, .int r6)]) hx hb dX12_lostLine_60 rfl hl (by decide) rfl (fun ls hl => ?_)
    refine lv_aload_n hx hb dX12_lostLine_61 rfl (lv_at hl 1 rfl) ?_
    refine va_get (D := g) (ci := 11) (v := .int n_m_bad_57) (C := RX12) (T := TX12) (N := 56) hx hb hts iX12 hown hK hP 2 rfl rfl 12 (by decide) (hts (.fieldLink RX12 159 "CardsAtYuleModel" "bad" "I") (List.mem_cons_of_mem _ (List.mem_append_left _ (List.mem_of_getElem? (i := 7) rfl)))) (fun _ h9 => h9) rfl dX12_lostLine_62 ?_
    refine lv_if_eq (tgt := 69) hx hb dX12_lostLine_65 (by decide) (fun c65 => ?_) (fun c65 => ?_)
    rotate_left 1
    · have f65 := (show n_m_bad_57.toInt ≠ 0 from z_ne rfl rfl c65)
      subst hQ
      have hP9 := hP.sub (ws' := [(m, .inr (11, mG m_a m_thrown m_taped n_m_at_57 n_m_token_57 n_m_place_57 n_m_value_57 n_m_word_57 n_m_bad_57 n_m_badPlace_57 m_fault m_faultPlace m_willing m_will m_forgot m_isDrawn m_x m_begin m_round m_roundCards m_fate m_any m_bothSend m_meanCards m_bestSum m_fitMany m_fitFirst m_fitSecond)), ((m_a 17), .inl (cI, 25, .inl m_has_c)), ((m_a 5), .inl (cB, 1600, .inl m_tape_c)), ((m_a 19), .inl (cI, 240, .inl m_pair_c)), ((m_a 20), .inl (cJ, 160, .inr (.inl m_lost_c)))]) [2, 3, 4, 0, 1] rfl
      have hD9 := hD.sub (ws' := [(m, .inr (11, mG m_a m_thrown m_taped n_m_at_57 n_m_token_57 n_m_place_57 n_m_value_57 n_m_word_57 n_m_bad_57 n_m_badPlace_57 m_fault m_faultPlace m_willing m_will m_forgot m_isDrawn m_x m_begin m_round m_roundCards m_fate m_any m_bothSend m_meanCards m_bestSum m_fitMany m_fitFirst m_fitSecond)), ((m_a 17), .inl (cI, 25, .inl m_has_c)), ((m_a 5), .inl (cB, 1600, .inl m_tape_c)), ((m_a 19), .inl (cI, 240, .inl m_pair_c)), ((m_a 20), .inl (cJ, 160, .inr (.inl m_lost_c)))]) [2, 3, 4, 0, 1] (by decide) rfl
      exact W.vret hx hb hr (fun t ht hW => ⟨⟨(n_m_at_57, n_m_token_57, n_m_place_57, n_m_value_57, n_m_word_57, n_m_bad_57, n_m_badPlace_57, m_lost_c), rfl, ⟨hw57_0, (by omega)⟩, ⟨by rw [ht]; exact hP9, va_K.moved hW.alike hK, hD9⟩⟩, hS.F ht⟩) hS.2.2 dX12_lostLine_68
    have f65 := (show n_m_bad_57.toInt = 0 from z_eq rfl rfl c65)
    have r65a : ir n_m_bad_57.toInt 0 0 := ir_eqa f65 (rg_all n_m_bad_57) (ir_c 0) (by decide) (by decide)
    refine lv_aload_n hx hb dX12_lostLine_69 rfl (lv_at hl 1 rfl) ?_
    refine lv_iconst (v := 4) hx hb dX12_lostLine_70 (by decide) ?_
    refine lv_iload_n hx hb dX12_lostLine_71 rfl (lv_at hl 3 rfl) ?_
    refine lv_iload_n hx hb dX12_lostLine_72 rfl (lv_at hl 0 rfl) ?_
    refine ro_i (va_runV (As := [.int 4, .int r6, .int r57]) (rest := []) ⟨hx, hb, hml, hown, hts⟩ (q_X12_pairOf l g cI cJ cB cZ cL 4 r6 r57 m m_a m_thrown m_taped n_m_at_57 n_m_token_57 n_m_place_57 n_m_value_57 n_m_word_57 n_m_bad_57 n_m_badPlace_57 m_fault m_faultPlace m_willing m_will m_forgot m_isDrawn m_x m_begin m_round m_roundCards m_fate m_any m_bothSend m_meanCards m_bestSum m_fitMany m_fitFirst m_fitSecond m_has_c m_pair_c H.size (by decide) hv_m_taped hw57_0 hv_m_will hv_m_isDrawn ha_m_has_c ha_m_pair_c) (cwV 3 hts (goodIn_app (g_4 (List.mem_cons_of_mem _ (List.mem_append_left _ (List.mem_of_getElem? (i := 8) rfl))) (List.mem_cons_of_mem _ (List.mem_append_left _ (List.mem_of_getElem? (i := 9) rfl))) (List.mem_cons_of_mem _ (List.mem_append_left _ (List.mem_of_getElem? (i := 10) rfl))) (List.mem_cons_of_mem _ (List.mem_append_left _ (List.mem_of_getElem? (i := 3) rfl))) (by decide +kernel)) (goodIn_sub (fun _ h => List.mem_cons_of_mem _ (List.mem_append_right _ (List.mem_append_right _ (List.mem_append_right _ (List.mem_append_left _ h))))) good_v_X12_pairOf)) rfl rfl rfl (by decide +kernel) ⟨Nat.le_of_ble_eq_true rfl, Nat.le_of_ble_eq_true rfl⟩) (pv_RO (q := (RX12, TX12, 56)) (ci := 11) (q0 := 0) (wc := [(m, .inr (11, mG m_a m_thrown m_taped n_m_at_57 n_m_token_57 n_m_place_57 n_m_value_57 n_m_word_57 n_m_bad_57 n_m_badPlace_57 m_fault m_faultPlace m_willing m_will m_forgot m_isDrawn m_x m_begin m_round m_roundCards m_fate m_any m_bothSend m_meanCards m_bestSum m_fitMany m_fitFirst m_fitSecond)), ((m_a 17), .inl (cI, 25, .inl m_has_c)), ((m_a 19), .inl (cI, 240, .inl m_pair_c))]) hK hP [2, 3, 0] rfl rfl rfl) rfl rfl hl.1 rfl (lv_room (Nat.le_of_ble_eq_true rfl)) dX12_lostLine_73 ⟨Nat.le_of_ble_eq_true rfl, Nat.le_of_ble_eq_true rfl⟩) hS hA hP (fun r73 u73 H locs hw73 hP hS => ?_)
    have hw73_0 := hw73
    refine lv_istore (lv' := [(4, .int r73), (3, .int r57), (0, .ref m), (1, .int r1), (2, .int r6)]) hx hb dX12_lostLine_76 hl (by decide) rfl (fun ls hl => ?_)
    refine lv_aload_n hx hb dX12_lostLine_78 rfl (lv_at hl 2 rfl) ?_
    refine va_get (D := g) (ci := 11) (v := .ref (m_a 19)) (C := RX12) (T := TX12) (N := 56) hx hb hts iX12 hown hK hP 2 rfl rfl 19 (by decide) (hts (.fieldLink RX12 40 "CardsAtYuleModel" "pair" "[I") (List.mem_cons_of_mem _ (List.mem_append_left _ (List.mem_of_getElem? (i := 11) rfl)))) (fun _ h9 => h9) rfl dX12_lostLine_79 ?_
    refine lv_iconst (v := 3) hx hb dX12_lostLine_82 (by decide) ?_
    refine lv_bipush (v := 64) hx hb dX12_lostLine_83 (by decide) ?_
    refine lv_iload hx hb dX12_lostLine_85 (lv_at hl 0 rfl) ?_
    refine lv_iadd hx hb dX12_lostLine_87 ?_
    refine lv_topi (fun y87 e87 => ?_)
    have q87 : y87.toInt = 64 + r73.toInt := by rw [e87]; exact ad_z rfl rfl (ir_c 64) hw73_0 (by decide) (by decide)
    have r87 : ir y87.toInt 63 79 := ad_r q87 (ir_c 64) hw73_0 (by decide) (by decide)
    refine lv_imul hx hb dX12_lostLine_88 ?_
    refine lv_topi (fun y88 e88 => ?_)
    have q88 : y88.toInt = 3 * y87.toInt := by rw [e88]; exact mu_z rfl rfl (ir_c 3) r87 (by decide) (by decide) (by decide)
    have r88 : ir y88.toInt 189 237 := mu_r q88 (ir_c 3) r87 (by decide) (by decide) (by decide) (by decide)
    refine va_iald (D := g) hx hb hK hP 0 0 rfl rfl (vi_rg rfl r88 (by decide) (by decide)) dX12_lostLine_89 ?_
    refine lv_topi (fun y89 e89 => ?_)
    have r89 : ir y89.toInt 0 15 := by rw [e89]; exact ha_m_pair_c _ (vi_cl (vi_rg rfl r88 (by decide) (by decide)))
    refine lv_iload_n hx hb dX12_lostLine_90 rfl (lv_at hl 4 rfl) ?_
    have J99 : ∀ (j99_s0 : Int32) (H : Heap) (locs : List Loc) (ls : Array Slot), (ir j99_s0.toInt 0 1) → ((n_m_at_57.toInt = m_at.toInt ∧ n_m_token_57.toInt = m_token.toInt) ∨ (m_at.toInt ≤ n_m_at_57.toInt ∧ n_m_at_57.toInt ≤ m_taped.toInt ∧ 0 ≤ n_m_token_57.toInt ∧ n_m_token_57.toInt ≤ 4 ∧ (m_at.toInt < n_m_at_57.toInt ∨ (n_m_token_57.toInt = 0 ∧ n_m_at_57.toInt = m_taped.toInt)))) → va_P g vwCl [((m_a 19), .inl (cI, 240, .inl m_pair_c)), ((m_a 20), .inl (cJ, 160, .inr (.inl m_lost_c))), (m, .inr (11, mG m_a m_thrown m_taped n_m_at_57 n_m_token_57 n_m_place_57 n_m_value_57 n_m_word_57 n_m_bad_57 n_m_badPlace_57 m_fault m_faultPlace m_willing m_will m_forgot m_isDrawn m_x m_begin m_round m_roundCards m_fate m_any m_bothSend m_meanCards m_bestSum m_fitMany m_fitFirst m_fitSecond)), ((m_a 17), .inl (cI, 25, .inl m_has_c)), ((m_a 5), .inl (cB, 1600, .inl m_tape_c))] H → va_D A [((m_a 19), .inl (cI, 240, .inl m_pair_c)), ((m_a 20), .inl (cJ, 160, .inr (.inl m_lost_c))), (m, .inr (11, mG m_a m_thrown m_taped n_m_at_57 n_m_token_57 n_m_place_57 n_m_value_57 n_m_word_57 n_m_bad_57 n_m_badPlace_57 m_fault m_faultPlace m_willing m_will m_forgot m_isDrawn m_x m_begin m_round m_roundCards m_fate m_any m_bothSend m_meanCards m_bestSum m_fitMany m_fitFirst m_fitSecond)), ((m_a 17), .inl (cI, 25, .inl m_has_c)), ((m_a 5), .inl (cB, 1600, .inl m_tape_c))] → va_S A s.heap H locs → lv_has ls 6 [(0, .ref m), (1, .int r1), (4, .int r73)] → W p l e (headSpec v_X12_lostLine ({ frames := 4, cells := 0, slots := 0, locals := 87 })).room s mth av below meth c H locs 0 0 QQ (F0 mth 99 ls [.int j99_s0]) := by
      intro j99_s0 H locs ls hj99_s0 hi99_0 hP hD hS hl
      refine lv_istore (lv' := [(5, .int j99_s0), (0, .ref m), (1, .int r1), (4, .int r73)]) hx hb dX12_lostLine_99 hl (by decide) rfl (fun ls hl => ?_)
      refine lv_aload_n hx hb dX12_lostLine_101 rfl (lv_at hl 1 rfl) ?_
      refine va_get (D := g) (ci := 11) (v := .ref (m_a 20)) (C := RX12) (T := TX12) (N := 56) hx hb hts iX12 hown hK hP 2 rfl rfl 20 (by decide) (hts (.fieldLink RX12 43 "CardsAtYuleModel" "lost" "[J") (List.mem_cons_of_mem _ (List.mem_append_left _ (List.mem_of_getElem? (i := 12) rfl)))) (fun _ h9 => h9) rfl dX12_lostLine_102 ?_
      refine lv_iconst (v := 2) hx hb dX12_lostLine_105 (by decide) ?_
      refine lv_bipush (v := 64) hx hb dX12_lostLine_106 (by decide) ?_
      refine lv_iload hx hb dX12_lostLine_108 (lv_at hl 3 rfl) ?_
      refine lv_iadd hx hb dX12_lostLine_110 ?_
      refine lv_topi (fun y110 e110 => ?_)
      have q110 : y110.toInt = 64 + r73.toInt := by rw [e110]; exact ad_z rfl rfl (ir_c 64) hw73_0 (by decide) (by decide)
      have r110 : ir y110.toInt 63 79 := ad_r q110 (ir_c 64) hw73_0 (by decide) (by decide)
      refine lv_imul hx hb dX12_lostLine_111 ?_
      refine lv_topi (fun y111 e111 => ?_)
      have q111 : y111.toInt = 2 * y110.toInt := by rw [e111]; exact mu_z rfl rfl (ir_c 2) r110 (by decide) (by decide) (by decide)
      have r111 : ir y111.toInt 126 158 := mu_r q111 (ir_c 2) r110 (by decide) (by decide) (by decide) (by decide)
      refine lv_iload hx hb dX12_lostLine_112 (lv_at hl 0 rfl) ?_
      refine lv_iadd hx hb dX12_lostLine_114 ?_
      refine lv_topi (fun y114 e114 => ?_)
      have q114 : y114.toInt = y111.toInt + j99_s0.toInt := by rw [e114]; exact ad_z rfl rfl r111 hj99_s0 (by decide) (by decide)
      have r114 : ir y114.toInt 126 159 := ad_r q114 r111 hj99_s0 (by decide) (by decide)
      refine lv_dup2_11 hx hb dX12_lostLine_115 rfl rfl ?_
      refine va_lald (D := g) hx hb hK hP 1 1 rfl rfl (vi_rg rfl r114 (by decide) (by decide)) dX12_lostLine_116 ?_
      refine lv_topl (fun y116 e116 => ?_)
      refine lv_lconst (v := 1) hx hb dX12_lostLine_117 (by decide) ?_
      refine lv_iload_n hx hb dX12_lostLine_118 rfl (lv_at hl 2 rfl) ?_
      refine lv_lshl (v := (1 <<< (r1.toInt64 &&& 63))) hx hb dX12_lostLine_119 rfl ?_
      refine lv_topl (fun y119 e119 => ?_)
      refine lv_lor hx hb dX12_lostLine_120 ?_
      refine lv_topl (fun y120 e120 => ?_)
      refine va_last (D := g) hx hb hK hP hD hS 1 1 rfl rfl (vi_rg rfl r114 (by decide) (by decide)) dX12_lostLine_121 (fun H locs hP hD hS => ?_)
      obtain ⟨g121, e121⟩ : ∃ z, z = vp_updL m_lost_c y114.toNatClampNeg y120 := ⟨_, rfl⟩
      have hP : va_P g vwCl [((m_a 19), .inl (cI, 240, .inl m_pair_c)), ((m_a 20), .inl (cJ, 160, .inr (.inl (vp_updL m_lost_c y114.toNatClampNeg y120)))), (m, .inr (11, mG m_a m_thrown m_taped n_m_at_57 n_m_token_57 n_m_place_57 n_m_value_57 n_m_word_57 n_m_bad_57 n_m_badPlace_57 m_fault m_faultPlace m_willing m_will m_forgot m_isDrawn m_x m_begin m_round m_roundCards m_fate m_any m_bothSend m_meanCards m_bestSum m_fitMany m_fitFirst m_fitSecond)), ((m_a 17), .inl (cI, 25, .inl m_has_c)), ((m_a 5), .inl (cB, 1600, .inl m_tape_c))] H := hP
      have hD : va_D A [((m_a 19), .inl (cI, 240, .inl m_pair_c)), ((m_a 20), .inl (cJ, 160, .inr (.inl (vp_updL m_lost_c y114.toNatClampNeg y120)))), (m, .inr (11, mG m_a m_thrown m_taped n_m_at_57 n_m_token_57 n_m_place_57 n_m_value_57 n_m_word_57 n_m_bad_57 n_m_badPlace_57 m_fault m_faultPlace m_willing m_will m_forgot m_isDrawn m_x m_begin m_round m_roundCards m_fate m_any m_bothSend m_meanCards m_bestSum m_fitMany m_fitFirst m_fitSecond)), ((m_a 17), .inl (cI, 25, .inl m_has_c)), ((m_a 5), .inl (cB, 1600, .inl m_tape_c))] := hD
      rw [← e121] at hP hD
      subst hQ
      have hP9 := hP.sub (ws' := [(m, .inr (11, mG m_a m_thrown m_taped n_m_at_57 n_m_token_57 n_m_place_57 n_m_value_57 n_m_word_57 n_m_bad_57 n_m_badPlace_57 m_fault m_faultPlace m_willing m_will m_forgot m_isDrawn m_x m_begin m_round m_roundCards m_fate m_any m_bothSend m_meanCards m_bestSum m_fitMany m_fitFirst m_fitSecond)), ((m_a 17), .inl (cI, 25, .inl m_has_c)), ((m_a 5), .inl (cB, 1600, .inl m_tape_c)), ((m_a 19), .inl (cI, 240, .inl m_pair_c)), ((m_a 20), .inl (cJ, 160, .inr (.inl g121)))]) [2, 3, 4, 0, 1] rfl
      have hD9 := hD.sub (ws' := [(m, .inr (11, mG m_a m_thrown m_taped n_m_at_57 n_m_token_57 n_m_place_57 n_m_value_57 n_m_word_57 n_m_bad_57 n_m_badPlace_57 m_fault m_faultPlace m_willing m_will m_forgot m_isDrawn m_x m_begin m_round m_roundCards m_fate m_any m_bothSend m_meanCards m_bestSum m_fitMany m_fitFirst m_fitSecond)), ((m_a 17), .inl (cI, 25, .inl m_has_c)), ((m_a 5), .inl (cB, 1600, .inl m_tape_c)), ((m_a 19), .inl (cI, 240, .inl m_pair_c)), ((m_a 20), .inl (cJ, 160, .inr (.inl g121)))]) [2, 3, 4, 0, 1] (by decide) rfl
      exact W.vret hx hb hr (fun t ht hW => ⟨⟨(n_m_at_57, n_m_token_57, n_m_place_57, n_m_value_57, n_m_word_57, n_m_bad_57, n_m_badPlace_57, g121), rfl, ⟨hw57_0, (by omega)⟩, ⟨by rw [ht]; exact hP9, va_K.moved hW.alike hK, hD9⟩⟩, hS.F ht⟩) hS.2.2 dX12_lostLine_122
    refine lv_icmp_ne (tgt := 98) hx hb dX12_lostLine_91 (by decide) (fun c91 => ?_) (fun c91 => ?_)
    · have f91 := (show y89.toInt ≠ r6.toInt from z_ne rfl rfl c91)
      refine lv_iconst (v := 1) hx hb dX12_lostLine_98 (by decide) ?_
      exact J99 1 _ _ _ (by decide) (by have kc0 : (1 : Int32).toInt = 1 := rfl; first | omega | decide) (hP.sub [0, 1, 2, 3, 4] rfl) (hD.sub [0, 1, 2, 3, 4] (by decide) rfl) hS (lv_sub hl [2, 3, 0] rfl)
    have f91 := (show y89.toInt = r6.toInt from z_eq rfl rfl c91)
    have r91a : ir y89.toInt 0 9 := ir_eqa f91 r89 hw6_2 (by decide) (by decide)
    refine lv_iconst (v := 0) hx hb dX12_lostLine_94 (by decide) ?_
    refine lv_goto (tgt := 99) hx hb dX12_lostLine_95 (by decide) ?_
    exact J99 0 _ _ _ (by decide) (by have kc0 : (0 : Int32).toInt = 0 := rfl; first | omega | decide) (hP.sub [0, 1, 2, 3, 4] rfl) (hD.sub [0, 1, 2, 3, 4] (by decide) rfl) hS (lv_sub hl [2, 3, 0] rfl)
  refine lv_if_ne (tgt := 56) hx hb dX12_lostLine_14 (by decide) (fun c14 => ?_) (fun c14 => ?_)
  · have f14 := (show n_m_bad_6.toInt ≠ 0 from z_ne rfl rfl c14)
    exact J56 n_m_bad_6 n_m_badPlace_6 _ _ _ (by first | omega | decide) (hP.sub [0, 1, 2, 3, 4] rfl) (hD.sub [0, 1, 2, 3, 4] (by decide) rfl) hS (lv_sub hl [2, 1, 0] rfl)
  have f14 := (show n_m_bad_6.toInt = 0 from z_eq rfl rfl c14)
  have r14a : ir n_m_bad_6.toInt 0 0 := ir_eqa f14 (rg_all n_m_bad_6) (ir_c 0) (by decide) (by decide)
  refine lv_aload_n hx hb dX12_lostLine_17 rfl (lv_at hl 2 rfl) ?_
  refine va_get (D := g) (ci := 11) (v := .int n_m_token_6) (C := RX12) (T := TX12) (N := 56) hx hb hts iX12 hown hK hP 2 rfl rfl 8 (by decide) (hts (.fieldLink RX12 148 "CardsAtYuleModel" "token" "I") (List.mem_cons_of_mem _ (List.mem_append_left _ (List.mem_of_getElem? (i := 13) rfl)))) (fun _ h9 => h9) rfl dX12_lostLine_18 ?_
  refine lv_iconst (v := 2) hx hb dX12_lostLine_21 (by decide) ?_
  refine lv_icmp_ne (tgt := 56) hx hb dX12_lostLine_22 (by decide) (fun c22 => ?_) (fun c22 => ?_)
  · have f22 := (show n_m_token_6.toInt ≠ 2 from z_ne rfl rfl c22)
    exact J56 n_m_bad_6 n_m_badPlace_6 _ _ _ (by first | omega | decide) (hP.sub [0, 1, 2, 3, 4] rfl) (hD.sub [0, 1, 2, 3, 4] (by decide) rfl) hS (lv_sub hl [2, 1, 0] rfl)
  have f22 := (show n_m_token_6.toInt = 2 from z_eq rfl rfl c22)
  have r22a : ir n_m_token_6.toInt 2 2 := ir_eqa f22 (rg_all n_m_token_6) (ir_c 2) (by decide) (by decide)
  refine lv_aload_n hx hb dX12_lostLine_25 rfl (lv_at hl 2 rfl) ?_
  refine va_get (D := g) (ci := 11) (v := .int n_m_value_6) (C := RX12) (T := TX12) (N := 56) hx hb hts iX12 hown hK hP 2 rfl rfl 10 (by decide) (hts (.fieldLink RX12 141 "CardsAtYuleModel" "value" "I") (List.mem_cons_of_mem _ (List.mem_append_left _ (List.mem_of_getElem? (i := 14) rfl)))) (fun _ h9 => h9) rfl dX12_lostLine_26 ?_
  refine lv_aload_n hx hb dX12_lostLine_29 rfl (lv_at hl 2 rfl) ?_
  refine lv_iconst (v := 3) hx hb dX12_lostLine_30 (by decide) ?_
  refine ro_i (va_runV (As := [.int 3]) (rest := [.int n_m_value_6]) ⟨hx, hb, hml, hown, hts⟩ (q_X12_hasRead3 l g cI cJ cB cZ cL m m_a m_thrown m_taped n_m_at_6 n_m_token_6 n_m_place_6 n_m_value_6 n_m_word_6 n_m_bad_6 n_m_badPlace_6 m_fault m_faultPlace m_willing m_will m_forgot m_isDrawn m_x m_begin m_round m_roundCards m_fate m_any m_bothSend m_meanCards m_bestSum m_fitMany m_fitFirst m_fitSecond m_has_c H.size hv_m_taped hw6_0 hv_m_will hv_m_isDrawn ha_m_has_c) (cwV 1 hts (goodIn_app (g_4 (List.mem_cons_of_mem _ (List.mem_append_left _ (List.mem_of_getElem? (i := 15) rfl))) (List.mem_cons_of_mem _ (List.mem_append_left _ (List.mem_of_getElem? (i := 16) rfl))) (List.mem_cons_of_mem _ (List.mem_append_left _ (List.mem_of_getElem? (i := 17) rfl))) (List.mem_cons_of_mem _ (List.mem_append_left _ (List.mem_of_getElem? (i := 3) rfl))) (by decide +kernel)) (goodIn_sub (fun _ h => List.mem_cons_of_mem _ (List.mem_append_right _ (List.mem_append_right _ (List.mem_append_right _ (List.mem_append_right _ (List.mem_append_left _ h)))))) good_v_X12_hasRead3)) rfl rfl rfl (by decide +kernel) ⟨Nat.le_of_ble_eq_true rfl, Nat.le_of_ble_eq_true rfl⟩) (pv_RO (q := (RX12, TX12, 56)) (ci := 11) (q0 := 0) (wc := [(m, .inr (11, mG m_a m_thrown m_taped n_m_at_6 n_m_token_6 n_m_place_6 n_m_value_6 n_m_word_6 n_m_bad_6 n_m_badPlace_6 m_fault m_faultPlace m_willing m_will m_forgot m_isDrawn m_x m_begin m_round m_roundCards m_fate m_any m_bothSend m_meanCards m_bestSum m_fitMany m_fitFirst m_fitSecond)), ((m_a 17), .inl (cI, 25, .inl m_has_c))]) hK hP [2, 3] rfl rfl rfl) rfl rfl hl.1 rfl (lv_room (Nat.le_of_ble_eq_true rfl)) dX12_lostLine_31 ⟨Nat.le_of_ble_eq_true rfl, Nat.le_of_ble_eq_true rfl⟩) hS hA hP (fun r31 u31 H locs hw31 hP hS => ?_)
  have hw31_0 := hw31
  subst hw31_0
  have rt31 : ir (m_has_c 23).toInt 0 10 := hasI_3 ha_m_has_c 4 (by decide)
  refine lv_icmp_ge (tgt := 56) hx hb dX12_lostLine_34 (by decide) (fun c34 => ?_) (fun c34 => ?_)
  · have f34 := (show (m_has_c 23).toInt ≤ n_m_value_6.toInt from z_le rfl rfl c34)
    have r34a : ir n_m_value_6.toInt 0 2147483647 := ir_leb f34 rt31 (rg_all n_m_value_6) (by decide)
    exact J56 n_m_bad_6 n_m_badPlace_6 _ _ _ (by first | omega | decide) (hP.sub [0, 1, 2, 3, 4] rfl) (hD.sub [0, 1, 2, 3, 4] (by decide) rfl) hS (lv_sub hl [2, 1, 0] rfl)
  have f34 := (show n_m_value_6.toInt < (m_has_c 23).toInt from z_nle rfl rfl c34)
  have r34a : ir n_m_value_6.toInt (-2147483648) 9 := ir_lta f34 (rg_all n_m_value_6) rt31 (by decide)
  refine lv_aload_n hx hb dX12_lostLine_37 rfl (lv_at hl 2 rfl) ?_
  refine lv_iconst (v := 4) hx hb dX12_lostLine_38 (by decide) ?_
  refine lv_iload_n hx hb dX12_lostLine_39 rfl (lv_at hl 0 rfl) ?_
  refine lv_aload_n hx hb dX12_lostLine_40 rfl (lv_at hl 2 rfl) ?_
  refine va_get (D := g) (ci := 11) (v := .int n_m_value_6) (C := RX12) (T := TX12) (N := 56) hx hb hts iX12 hown hK hP 2 rfl rfl 10 (by decide) (hts (.fieldLink RX12 141 "CardsAtYuleModel" "value" "I") (List.mem_cons_of_mem _ (List.mem_append_left _ (List.mem_of_getElem? (i := 14) rfl)))) (fun _ h9 => h9) rfl dX12_lostLine_41 ?_
  refine ro_i (va_runV (As := [.int 4, .int r6, .int n_m_value_6]) (rest := []) ⟨hx, hb, hml, hown, hts⟩ (q_X12_pairOf l g cI cJ cB cZ cL 4 r6 n_m_value_6 m m_a m_thrown m_taped n_m_at_6 n_m_token_6 n_m_place_6 n_m_value_6 n_m_word_6 n_m_bad_6 n_m_badPlace_6 m_fault m_faultPlace m_willing m_will m_forgot m_isDrawn m_x m_begin m_round m_roundCards m_fate m_any m_bothSend m_meanCards m_bestSum m_fitMany m_fitFirst m_fitSecond m_has_c m_pair_c H.size (by decide) hv_m_taped hw6_0 hv_m_will hv_m_isDrawn ha_m_has_c ha_m_pair_c) (cwV 3 hts (goodIn_app (g_4 (List.mem_cons_of_mem _ (List.mem_append_left _ (List.mem_of_getElem? (i := 8) rfl))) (List.mem_cons_of_mem _ (List.mem_append_left _ (List.mem_of_getElem? (i := 9) rfl))) (List.mem_cons_of_mem _ (List.mem_append_left _ (List.mem_of_getElem? (i := 10) rfl))) (List.mem_cons_of_mem _ (List.mem_append_left _ (List.mem_of_getElem? (i := 3) rfl))) (by decide +kernel)) (goodIn_sub (fun _ h => List.mem_cons_of_mem _ (List.mem_append_right _ (List.mem_append_right _ (List.mem_append_right _ (List.mem_append_left _ h))))) good_v_X12_pairOf)) rfl rfl rfl (by decide +kernel) ⟨Nat.le_of_ble_eq_true rfl, Nat.le_of_ble_eq_true rfl⟩) (pv_RO (q := (RX12, TX12, 56)) (ci := 11) (q0 := 0) (wc := [(m, .inr (11, mG m_a m_thrown m_taped n_m_at_6 n_m_token_6 n_m_place_6 n_m_value_6 n_m_word_6 n_m_bad_6 n_m_badPlace_6 m_fault m_faultPlace m_willing m_will m_forgot m_isDrawn m_x m_begin m_round m_roundCards m_fate m_any m_bothSend m_meanCards m_bestSum m_fitMany m_fitFirst m_fitSecond)), ((m_a 17), .inl (cI, 25, .inl m_has_c)), ((m_a 19), .inl (cI, 240, .inl m_pair_c))]) hK hP [2, 3, 0] rfl rfl rfl) rfl rfl hl.1 rfl (lv_room (Nat.le_of_ble_eq_true rfl)) dX12_lostLine_44 ⟨Nat.le_of_ble_eq_true rfl, Nat.le_of_ble_eq_true rfl⟩) hS hA hP (fun r44 u44 H locs hw44 hP hS => ?_)
  have hw44_0 := hw44
  refine lv_iconst (v := (-1)) hx hb dX12_lostLine_47 (by decide) ?_
  refine lv_icmp_ne (tgt := 56) hx hb dX12_lostLine_48 (by decide) (fun c48 => ?_) (fun c48 => ?_)
  · have f48 := (show r44.toInt ≠ (-1) from z_ne rfl rfl c48)
    have r48a : ir r44.toInt 0 15 := ir_nel f48 hw44_0 (by decide) (by decide)
    exact J56 n_m_bad_6 n_m_badPlace_6 _ _ _ (by first | omega | decide) (hP.sub [0, 1, 2, 3, 4] rfl) (hD.sub [0, 1, 2, 3, 4] (by decide) rfl) hS (lv_sub hl [2, 1, 0] rfl)
  have f48 := (show r44.toInt = (-1) from z_eq rfl rfl c48)
  have r48a : ir r44.toInt (-1) (-1) := ir_eqa f48 hw44_0 (ir_c (-1)) (by decide) (by decide)
  refine lv_aload_n hx hb dX12_lostLine_51 rfl (lv_at hl 2 rfl) ?_
  refine lv_iconst (v := 2) hx hb dX12_lostLine_52 (by decide) ?_
  refine rw_v (wr := [((m_a 19), .inl (cI, 240, .inl m_pair_c)), ((m_a 20), .inl (cJ, 160, .inr (.inl m_lost_c))), ((m_a 17), .inl (cI, 25, .inl m_has_c)), ((m_a 5), .inl (cB, 1600, .inl m_tape_c))]) (va_runV (As := [.int 2]) (rest := []) ⟨hx, hb, hml, hown, hts⟩ (q_X12_fails l g cI cJ cB cZ cL 2 m m_a m_thrown m_taped n_m_at_6 n_m_token_6 n_m_place_6 n_m_value_6 n_m_word_6 n_m_bad_6 n_m_badPlace_6 m_fault m_faultPlace m_willing m_will m_forgot m_isDrawn m_x m_begin m_round m_roundCards m_fate m_any m_bothSend m_meanCards m_bestSum m_fitMany m_fitFirst m_fitSecond H.size (by decide) hv_m_taped hw6_0 hv_m_will hv_m_isDrawn) (cwV 1 hts (goodIn_app (g_4 (List.mem_cons_of_mem _ (List.mem_append_left _ (List.mem_of_getElem? (i := 18) rfl))) (List.mem_cons_of_mem _ (List.mem_append_left _ (List.mem_of_getElem? (i := 19) rfl))) (List.mem_cons_of_mem _ (List.mem_append_left _ (List.mem_of_getElem? (i := 20) rfl))) (List.mem_cons_of_mem _ (List.mem_append_left _ (List.mem_of_getElem? (i := 3) rfl))) (by decide +kernel)) (goodIn_sub (fun _ h => List.mem_cons_of_mem _ (List.mem_append_right _ (List.mem_append_right _ (List.mem_append_right _ (List.mem_append_right _ (List.mem_append_right _ (List.mem_append_left _ h))))))) good_v_X12_fails)) rfl rfl rfl (by decide +kernel) ⟨Nat.le_of_ble_eq_true rfl, Nat.le_of_ble_eq_true rfl⟩) (pv_RW (q := (RX12, TX12, 56)) (ci := 11) (q0 := 0) (wc := [(m, .inr (11, mG m_a m_thrown m_taped n_m_at_6 n_m_token_6 n_m_place_6 n_m_value_6 n_m_word_6 n_m_bad_6 n_m_badPlace_6 m_fault m_faultPlace m_willing m_will m_forgot m_isDrawn m_x m_begin m_round m_roundCards m_fate m_any m_bothSend m_meanCards m_bestSum m_fitMany m_fitFirst m_fitSecond))]) hK hP hD [2] (by decide) rfl rfl rfl) rfl rfl hl.1 rfl (lv_room (Nat.le_of_ble_eq_true rfl)) dX12_lostLine_53 ⟨Nat.le_of_ble_eq_true rfl, Nat.le_of_ble_eq_true rfl⟩) hS hA hP hD [2] [0, 1, 3, 4] rfl rfl (by decide) (by decide) (fun u53 H locs hw53 hP hD hS => ?_)
  obtain ⟨n_m_bad_53, n_m_badPlace_53⟩ := u53
  have hP : va_P g vwCl [((m_a 19), .inl (cI, 240, .inl m_pair_c)), ((m_a 20), .inl (cJ, 160, .inr (.inl m_lost_c))), ((m_a 17), .inl (cI, 25, .inl m_has_c)), ((m_a 5), .inl (cB, 1600, .inl m_tape_c)), (m, .inr (11, mG m_a m_thrown m_taped n_m_at_6 n_m_token_6 n_m_place_6 n_m_value_6 n_m_word_6 n_m_bad_53 n_m_badPlace_53 m_fault m_faultPlace m_willing m_will m_forgot m_isDrawn m_x m_begin m_round m_roundCards m_fate m_any m_bothSend m_meanCards m_bestSum m_fitMany m_fitFirst m_fitSecond))] H := hP
  have hD : va_D A [((m_a 19), .inl (cI, 240, .inl m_pair_c)), ((m_a 20), .inl (cJ, 160, .inr (.inl m_lost_c))), ((m_a 17), .inl (cI, 25, .inl m_has_c)), ((m_a 5), .inl (cB, 1600, .inl m_tape_c)), (m, .inr (11, mG m_a m_thrown m_taped n_m_at_6 n_m_token_6 n_m_place_6 n_m_value_6 n_m_word_6 n_m_bad_53 n_m_badPlace_53 m_fault m_faultPlace m_willing m_will m_forgot m_isDrawn m_x m_begin m_round m_roundCards m_fate m_any m_bothSend m_meanCards m_bestSum m_fitMany m_fitFirst m_fitSecond))] := hD
  dsimp only at hw53
  have hw53_0 := hw53
  have hw53_0 : n_m_bad_53.toInt ≠ 0 := hw53_0
  exact J56 n_m_bad_53 n_m_badPlace_53 _ _ _ (by first | omega | decide) (hP.sub [0, 1, 4, 2, 3] rfl) (hD.sub [0, 1, 4, 2, 3] (by decide) rfl) hS (lv_sub hl [2, 1, 0] rfl)
