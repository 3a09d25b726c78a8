def v_X12_feed : List Cond := .code yX12_feed cX12_feed 6 (some .int) :: (([.fieldLink RX12 107 "CardsAtYuleModel" "thrown" "I", .fieldLink RX12 124 "CardsAtYuleModel" "taped" "I", .methodLink RX12 127 yX12_four, .instanceMethod yX12_four, .selects RX12 yX12_four yX12_four, .initialized RX12] : List Cond) ++ (v_X12_four ++ (wsX120 ++ ([] : List Cond))))
theorem good_v_X12_feed : v_X12_feed.all goodWord = true := ga_c (by decide +kernel) (ga_a (by decide +kernel) (ga_a good_v_X12_four (ga_a good_wsX120 rfl)))
set_option maxHeartbeats 4000000 in
set_option maxRecDepth 100000 in
theorem q_X12_feed (l : Launch) (g : va_G) (cI cJ cB cZ cL : ClassId) (p0 : Int32) (p1 : Int32) (p2 : Int32) (p3 : Int32) (p4 : Int32) (m : Nat) (m_a : Nat → Nat) (m_thrown : Int32) (m_taped : Int32) (m_at : Int32) (m_token : Int32) (m_place : Int32) (m_value : Int32) (m_word : Int64) (m_bad : Int32) (m_badPlace : Int32) (m_fault : Int32) (m_faultPlace : Int32) (m_willing : Int32) (m_will : Int32) (m_forgot : Int32) (m_isDrawn : Int32) (m_x : Int64) (m_begin : Int32) (m_round : Int32) (m_roundCards : Int32) (m_fate : Int32) (m_any : Int64) (m_bothSend : Int64) (m_meanCards : Int64) (m_bestSum : Int32) (m_fitMany : Int32) (m_fitFirst : Int64) (m_fitSecond : Int64) (m_tape_c : Nat → Int32) (sz : Nat) (hv_m_taped : ir m_taped.toInt 0 1600) (hv_m_at : ir m_at.toInt 0 1600) (hv_m_will : ir m_will.toInt 0 1) (hv_m_isDrawn : ir m_isDrawn.toInt 0 1) : Met l yX12_feed v_X12_feed ({ frames := 1, cells := 0, slots := 0, locals := 22 }) (va_Pc [.ref m, .int p0, .int p1, .int p2, .int p3, .int p4] (pRW g (tyT cI cJ cB cZ cL) [(m, .inr (11, mG m_a m_thrown m_taped m_at m_token m_place m_value m_word m_bad m_badPlace m_fault m_faultPlace m_willing m_will m_forgot m_isDrawn m_x m_begin m_round m_roundCards m_fate m_any m_bothSend m_meanCards m_bestSum m_fitMany m_fitFirst m_fitSecond)), ((m_a 5), .inl (cB, 1600, .inl m_tape_c))] sz)) (va_Qi (fun (r : Int32) (u : Int32 × Int32 × (Nat → Int32)) => match u with | (n_m_thrown, n_m_taped, n_m_tape_c) => (ir n_m_thrown.toInt 0 0) ∧ (ir n_m_taped.toInt 0 1600) ∧ (ir r.toInt (-1) 1600)) (fun (u : Int32 × Int32 × (Nat → Int32)) (t : State) => bRW g (tyT cI cJ cB cZ cL) (va_A [(m, .inr (11, mG m_a m_thrown m_taped m_at m_token m_place m_value m_word m_bad m_badPlace m_fault m_faultPlace m_willing m_will m_forgot m_isDrawn m_x m_begin m_round m_roundCards m_fate m_any m_bothSend m_meanCards m_bestSum m_fitMany m_fitFirst m_fitSecond)), ((m_a 5), .inl (cB, 1600, .inl m_tape_c))] sz) (match u with | (n_m_thrown, n_m_taped, n_m_tape_c) => [(m, .inr (11, mG m_a n_m_thrown n_m_taped m_at m_token m_place m_value m_word m_bad m_badPlace m_fault m_faultPlace m_willing m_will m_forgot m_isDrawn m_x m_begin m_round m_roundCards m_fate m_any m_bothSend m_meanCards m_bestSum m_fitMany m_fitFirst m_fitSecond)), ((m_a 5), .inl (cB, 1600, .inl n_m_tape_c))]) t) (va_A [(m, .inr (11, mG m_a m_thrown m_taped m_at m_token m_place m_value m_word m_bad m_badPlace m_fault m_faultPlace m_willing m_will m_forgot m_isDrawn m_x m_begin m_round m_roundCards m_fate m_any m_bothSend m_meanCards m_bestSum m_fitMany m_fitFirst m_fitSecond)), ((m_a 5), .inl (cB, 1600, .inl m_tape_c))] sz)) 0 0 (va_A [(m, .inr (11, mG m_a m_thrown m_taped m_at m_token m_place m_value m_word m_bad m_badPlace m_fault m_faultPlace m_willing m_will m_forgot m_isDrawn m_x m_begin m_round m_roundCards m_fate m_any m_bothSend m_meanCards m_bestSum m_fitMany m_fitFirst m_fitSecond)), ((m_a 5), .inl (cB, 1600, .inl m_tape_c))] sz) := by
  refine Met.ofW (cc := cX12_feed) (maxL := 6) (ret := (some .int)) (by decide) rfl ?_
  intro p e s mth args below meth c s₁ B hml hv
  obtain ⟨rfl, hsz, hP, hK, hD0⟩ := hv
  have hx := B.exec
  have hb := B.bytes
  have hr := B.returns
  have hts := atoms_spec (ws := v_X12_feed) B.pre
  have hown : s.vm.findClass RX12 = some mth.cls := findClass_of_methodNamed B.named
  have hlocks := B.notSynchronized
  clear B
  subst hsz
  have iX12 : ∀ w ∈ wsX120, w ∈ v_X12_feed := (fun _ h => List.mem_cons_of_mem _ (List.mem_append_right _ (List.mem_append_right _ (List.mem_append_left _ h))))
  have hD := hD0.self (sz := s.heap.size)
  generalize hAe : (va_A [(m, .inr (11, mG m_a m_thrown m_taped m_at m_token m_place m_value m_word m_bad m_badPlace m_fault m_faultPlace m_willing m_will m_forgot m_isDrawn m_x m_begin m_round m_roundCards m_fate m_any m_bothSend m_meanCards m_bestSum m_fitMany m_fitFirst m_fitSecond)), ((m_a 5), .inl (cB, 1600, .inl m_tape_c))] s.heap.size) = A at hD ⊢
  have hA : ∀ q : Nat, s.heap.size ≤ q → A q := fun q h => by rw [← hAe]; exact Or.inr h
  have hS : va_S A s.heap s.heap [] := va_S.rf
  have hl := lv_entry ([.ref m, .int p0, .int p1, .int p2, .int p3, .int p4]) (n := 6) (Nat.le_of_ble_eq_true rfl)
  rw [lg_entry_eq]
  generalize (lg_sl ([.ref m, .int p0, .int p1, .int p2, .int p3, .int p4]) ++ List.replicate (6 - (lg_sl ([.ref m, .int p0, .int p1, .int p2, .int p3, .int p4])).length) Slot.unset).toArray = ls at hl ⊢
  generalize ([.ref m, .int p0, .int p1, .int p2, .int p3, .int p4] : List Value).toArray = av at hts ⊢
  generalize hQ : MQ below _ av s _ _ A = QQ
  have hl : lv_has ls 6 [(0, .ref m), (1, .int p0), (2, .int p1), (3, .int p2), (4, .int p3), (5, .int p4)] := hl
  have hP : va_P g vwCl [(m, .inr (11, mG m_a m_thrown m_taped m_at m_token m_place m_value m_word m_bad m_badPlace m_fault m_faultPlace m_willing m_will m_forgot m_isDrawn m_x m_begin m_round m_roundCards m_fate m_any m_bothSend m_meanCards m_bestSum m_fitMany m_fitFirst m_fitSecond)), ((m_a 5), .inl (cB, 1600, .inl m_tape_c))] s.heap := hP
  refine lv_aload_n hx hb dX12_feed_0 rfl (lv_at hl 0 rfl) ?_
  refine lv_iconst (v := 0) hx hb dX12_feed_1 (by decide) ?_
  refine va_put (D := g) (ci := 11) (v := .int 0) (ty := .int) (C := RX12) (T := TX12) (N := 56) hx hb hts iX12 tyX12 tyX12_ok nmX12 hown hK hP hD hS 0 rfl rfl 0 (by decide) (hts (.fieldLink RX12 107 "CardsAtYuleModel" "thrown" "I") (List.mem_cons_of_mem _ (List.mem_append_left _ (List.mem_of_getElem? (i := 0) rfl)))) (fun _ h9 => h9) rfl (by decide +kernel) rfl rfl (Nat.le_of_ble_eq_true rfl) dX12_feed_2 (fun H locs hP hD hS => ?_)
  have hP : va_P g vwCl [(m, .inr (11, mG m_a 0 m_taped m_at m_token m_place m_value m_word m_bad m_badPlace m_fault m_faultPlace m_willing m_will m_forgot m_isDrawn m_x m_begin m_round m_roundCards m_fate m_any m_bothSend m_meanCards m_bestSum m_fitMany m_fitFirst m_fitSecond)), ((m_a 5), .inl (cB, 1600, .inl m_tape_c))] H := hP
  have hD : va_D A [(m, .inr (11, mG m_a 0 m_taped m_at m_token m_place m_value m_word m_bad m_badPlace m_fault m_faultPlace m_willing m_will m_forgot m_isDrawn m_x m_begin m_round m_roundCards m_fate m_any m_bothSend m_meanCards m_bestSum m_fitMany m_fitFirst m_fitSecond)), ((m_a 5), .inl (cB, 1600, .inl m_tape_c))] := hD
  refine lv_aload_n hx hb dX12_feed_5 rfl (lv_at hl 0 rfl) ?_
  refine va_get (D := g) (ci := 11) (v := .int m_taped) (C := RX12) (T := TX12) (N := 56) hx hb hts iX12 hown hK hP 0 rfl rfl 6 (by decide) (hts (.fieldLink RX12 124 "CardsAtYuleModel" "taped" "I") (List.mem_cons_of_mem _ (List.mem_append_left _ (List.mem_of_getElem? (i := 1) rfl)))) (fun _ h9 => h9) rfl dX12_feed_6 ?_
  refine lv_bipush (v := 20) hx hb dX12_feed_9 (by decide) ?_
  refine lv_iadd hx hb dX12_feed_11 ?_
  refine lv_topi (fun y11 e11 => ?_)
  have q11 : y11.toInt = m_taped.toInt + 20 := by rw [e11]; exact ad_z rfl rfl hv_m_taped (ir_c 20) (by decide) (by decide)
  have r11 : ir y11.toInt 20 1620 := ad_r q11 hv_m_taped (ir_c 20) (by decide) (by decide)
  refine lv_sipush (v := 1600) hx hb dX12_feed_12 (by decide) ?_
  refine lv_icmp_le (tgt := 20) hx hb dX12_feed_15 (by decide) (fun c15 => ?_) (fun c15 => ?_)
  rotate_left 1
  · have f15 := (show 1600 < y11.toInt from z_nle rfl rfl c15)
    have r15a : ir y11.toInt 1601 1620 := ir_ltb f15 (ir_c 1600) r11 (by decide)
    refine lv_iconst (v := (-1)) hx hb dX12_feed_18 (by decide) ?_
    subst hQ
    have hP9 := hP.sub (ws' := [(m, .inr (11, mG m_a 0 m_taped m_at m_token m_place m_value m_word m_bad m_badPlace m_fault m_faultPlace m_willing m_will m_forgot m_isDrawn m_x m_begin m_round m_roundCards m_fate m_any m_bothSend m_meanCards m_bestSum m_fitMany m_fitFirst m_fitSecond)), ((m_a 5), .inl (cB, 1600, .inl m_tape_c))]) [0, 1] rfl
    have hD9 := hD.sub (ws' := [(m, .inr (11, mG m_a 0 m_taped m_at m_token m_place m_value m_word m_bad m_badPlace m_fault m_faultPlace m_willing m_will m_forgot m_isDrawn m_x m_begin m_round m_roundCards m_fate m_any m_bothSend m_meanCards m_bestSum m_fitMany m_fitFirst m_fitSecond)), ((m_a 5), .inl (cB, 1600, .inl m_tape_c))]) [0, 1] (by decide) rfl
    exact W.iret (v := (-1)) hx hb hr (fun t ht hW => ⟨⟨(-1), (0, m_taped, m_tape_c), rfl, ⟨(show ir (0 : Int32).toInt 0 0 by decide), hv_m_taped, (show ir ((-1) : Int32).toInt (-1) 1600 by decide)⟩, ⟨by rw [ht]; exact hP9, va_K.moved hW.alike hK, hD9⟩⟩, hS.F ht⟩) hS.2.2 dX12_feed_19
  have f15 := (show y11.toInt ≤ 1600 from z_le rfl rfl c15)
  have r15a : ir y11.toInt 20 1600 := ir_lea f15 r11 (ir_c 1600) (by decide)
  refine lv_aload_n hx hb dX12_feed_20 rfl (lv_at hl 0 rfl) ?_
  refine lv_iload_n hx hb dX12_feed_21 rfl (lv_at hl 1 rfl) ?_
  refine rw_v (wr := []) (va_runV (As := [.int p0]) (rest := []) ⟨hx, hb, hml, hown, hts⟩ (q_X12_four l g cI cJ cB cZ cL p0 m m_a 0 m_taped m_at m_token m_place m_value m_word m_bad m_badPlace m_fault m_faultPlace m_willing m_will m_forgot m_isDrawn m_x m_begin m_round m_roundCards m_fate m_any m_bothSend m_meanCards m_bestSum m_fitMany m_fitFirst m_fitSecond m_tape_c H.size (by omega) hv_m_at hv_m_will hv_m_isDrawn) (cwV 1 hts (goodIn_app (g_4 (List.mem_cons_of_mem _ (List.mem_append_left _ (List.mem_of_getElem? (i := 2) rfl))) (List.mem_cons_of_mem _ (List.mem_append_left _ (List.mem_of_getElem? (i := 3) rfl))) (List.mem_cons_of_mem _ (List.mem_append_left _ (List.mem_of_getElem? (i := 4) rfl))) (List.mem_cons_of_mem _ (List.mem_append_left _ (List.mem_of_getElem? (i := 5) rfl))) (by decide +kernel)) (goodIn_sub (fun _ h => List.mem_cons_of_mem _ (List.mem_append_right _ (List.mem_append_left _ h))) good_v_X12_four)) rfl rfl rfl (by decide +kernel) ⟨Nat.le_of_ble_eq_true rfl, Nat.le_of_ble_eq_true rfl⟩) (pv_RW (q := (RX12, TX12, 56)) (ci := 11) (q0 := 0) (wc := [(m, .inr (11, mG m_a 0 m_taped m_at m_token m_place m_value m_word m_bad m_badPlace m_fault m_faultPlace m_willing m_will m_forgot m_isDrawn m_x m_begin m_round m_roundCards m_fate m_any m_bothSend m_meanCards m_bestSum m_fitMany m_fitFirst m_fitSecond)), ((m_a 5), .inl (cB, 1600, .inl m_tape_c))]) hK hP hD [0, 1] (by decide) rfl rfl rfl) rfl rfl hl.1 rfl (lv_room (Nat.le_of_ble_eq_true rfl)) dX12_feed_22 ⟨Nat.le_of_ble_eq_true rfl, Nat.le_of_ble_eq_true rfl⟩) hS hA hP hD [0, 1] [] rfl rfl (by decide) (by decide) (fun u22 H locs hw22 hP hD hS => ?_)
  obtain ⟨n_m_taped_22, n_m_tape_c_22⟩ := u22
  have hP : va_P g vwCl [(m, .inr (11, mG m_a 0 n_m_taped_22 m_at m_token m_place m_value m_word m_bad m_badPlace m_fault m_faultPlace m_willing m_will m_forgot m_isDrawn m_x m_begin m_round m_roundCards m_fate m_any m_bothSend m_meanCards m_bestSum m_fitMany m_fitFirst m_fitSecond)), ((m_a 5), .inl (cB, 1600, .inl n_m_tape_c_22))] H := hP
  have hD : va_D A [(m, .inr (11, mG m_a 0 n_m_taped_22 m_at m_token m_place m_value m_word m_bad m_badPlace m_fault m_faultPlace m_willing m_will m_forgot m_isDrawn m_x m_begin m_round m_roundCards m_fate m_any m_bothSend m_meanCards m_bestSum m_fitMany m_fitFirst m_fitSecond)), ((m_a 5), .inl (cB, 1600, .inl n_m_tape_c_22))] := hD
  dsimp only at hw22
  obtain ⟨hw22_0, hw22_1⟩ := hw22
  have hw22_1 : n_m_taped_22.toInt = m_taped.toInt + 4 := hw22_1
  refine lv_aload_n hx hb dX12_feed_25 rfl (lv_at hl 0 rfl) ?_
  refine lv_iload_n hx hb dX12_feed_26 rfl (lv_at hl 2 rfl) ?_
  refine rw_v (wr := []) (va_runV (As := [.int p1]) (rest := []) ⟨hx, hb, hml, hown, hts⟩ (q_X12_four l g cI cJ cB cZ cL p1 m m_a 0 n_m_taped_22 m_at m_token m_place m_value m_word m_bad m_badPlace m_fault m_faultPlace m_willing m_will m_forgot m_isDrawn m_x m_begin m_round m_roundCards m_fate m_any m_bothSend m_meanCards m_bestSum m_fitMany m_fitFirst m_fitSecond n_m_tape_c_22 H.size (by omega) hv_m_at hv_m_will hv_m_isDrawn) (cwV 1 hts (goodIn_app (g_4 (List.mem_cons_of_mem _ (List.mem_append_left _ (List.mem_of_getElem? (i := 2) rfl))) (List.mem_cons_of_mem _ (List.mem_append_left _ (List.mem_of_getElem? (i := 3) rfl))) (List.mem_cons_of_mem _ (List.mem_append_left _ (List.mem_of_getElem? (i := 4) rfl))) (List.mem_cons_of_mem _ (List.mem_append_left _ (List.mem_of_getElem? (i := 5) rfl))) (by decide +kernel)) (goodIn_sub (fun _ h => List.mem_cons_of_mem _ (List.mem_append_right _ (List.mem_append_left _ h))) good_v_X12_four)) rfl rfl rfl (by decide +kernel) ⟨Nat.le_of_ble_eq_true rfl, Nat.le_of_ble_eq_true rfl⟩) (pv_RW (q := (RX12, TX12, 56)) (ci := 11) (q0 := 0) (wc := [(m, .inr (11, mG m_a 0 n_m_taped_22 m_at m_token m_place m_value m_word m_bad m_badPlace m_fault m_faultPlace m_willing m_will m_forgot m_isDrawn m_x m_begin m_round m_roundCards m_fate m_any m_bothSend m_meanCards m_bestSum m_fitMany m_fitFirst m_fitSecond)), ((m_a 5), .inl (cB, 1600, .inl n_m_tape_c_22))]) hK hP hD [0, 1] (by decide) rfl rfl rfl) rfl rfl hl.1 rfl (lv_room (Nat.le_of_ble_eq_true rfl)) dX12_feed_27 ⟨Nat.le_of_ble_eq_true rfl, Nat.le_of_ble_eq_true rfl⟩) hS hA hP hD [0, 1] [] rfl rfl (by decide) (by decide) (fun u27 H locs hw27 hP hD hS => ?_)
  obtain ⟨n_m_taped_27, n_m_tape_c_27⟩ := u27
  have hP : va_P g vwCl [(m, .inr (11, mG m_a 0 n_m_taped_27 m_at m_token m_place m_value m_word m_bad m_badPlace m_fault m_faultPlace m_willing m_will m_forgot m_isDrawn m_x m_begin m_round m_roundCards m_fate m_any m_bothSend m_meanCards m_bestSum m_fitMany m_fitFirst m_fitSecond)), ((m_a 5), .inl (cB, 1600, .inl n_m_tape_c_27))] H := hP
  have hD : va_D A [(m, .inr (11, mG m_a 0 n_m_taped_27 m_at m_token m_place m_value m_word m_bad m_badPlace m_fault m_faultPlace m_willing m_will m_forgot m_isDrawn m_x m_begin m_round m_roundCards m_fate m_any m_bothSend m_meanCards m_bestSum m_fitMany m_fitFirst m_fitSecond)), ((m_a 5), .inl (cB, 1600, .inl n_m_tape_c_27))] := hD
  dsimp only at hw27
  obtain ⟨hw27_0, hw27_1⟩ := hw27
  have hw27_1 : n_m_taped_27.toInt = n_m_taped_22.toInt + 4 := hw27_1
  refine lv_aload_n hx hb dX12_feed_30 rfl (lv_at hl 0 rfl) ?_
  refine lv_iload_n hx hb dX12_feed_31 rfl (lv_at hl 3 rfl) ?_
  refine rw_v (wr := []) (va_runV (As := [.int p2]) (rest := []) ⟨hx, hb, hml, hown, hts⟩ (q_X12_four l g cI cJ cB cZ cL p2 m m_a 0 n_m_taped_27 m_at m_token m_place m_value m_word m_bad m_badPlace m_fault m_faultPlace m_willing m_will m_forgot m_isDrawn m_x m_begin m_round m_roundCards m_fate m_any m_bothSend m_meanCards m_bestSum m_fitMany m_fitFirst m_fitSecond n_m_tape_c_27 H.size (by omega) hv_m_at hv_m_will hv_m_isDrawn) (cwV 1 hts (goodIn_app (g_4 (List.mem_cons_of_mem _ (List.mem_append_left _ (List.mem_of_getElem? (i := 2) rfl))) (List.mem_cons_of_mem _ (List.mem_append_left _ (List.mem_of_getElem? (i := 3) rfl))) (List.mem_cons_of_mem _ (List.mem_append_left _ (List.mem_of_getElem? (i := 4) rfl))) (List.mem_cons_of_mem _ (List.mem_append_left _ (List.mem_of_getElem? (i := 5) rfl))) (by decide +kernel)) (goodIn_sub (fun _ h => List.mem_cons_of_mem _ (List.mem_append_right _ (List.mem_append_left _ h))) good_v_X12_four)) rfl rfl rfl (by decide +kernel) ⟨Nat.le_of_ble_eq_true rfl, Nat.le_of_ble_eq_true rfl⟩) (pv_RW (q := (RX12, TX12, 56)) (ci := 11) (q0 := 0) (wc := [(m, .inr (11, mG m_a 0 n_m_taped_27 m_at m_token m_place m_value m_word m_bad m_badPlace m_fault m_faultPlace m_willing m_will m_forgot m_isDrawn m_x m_begin m_round m_roundCards m_fate m_any m_bothSend m_meanCards m_bestSum m_fitMany m_fitFirst m_fitSecond)), ((m_a 5), .inl (cB, 1600, .inl n_m_tape_c_27))]) hK hP hD [0, 1] (by decide) rfl rfl rfl) rfl rfl hl.1 rfl (lv_room (Nat.le_of_ble_eq_true rfl)) dX12_feed_32 ⟨Nat.le_of_ble_eq_true rfl, Nat.le_of_ble_eq_true rfl⟩) hS hA hP hD [0, 1] [] rfl rfl (by decide) (by decide) (fun u32 H locs hw32 hP hD hS => ?_)
  obtain ⟨n_m_taped_32, n_m_tape_c_32⟩ := u32
  have hP : va_P g vwCl [(m, .inr (11, mG m_a 0 n_m_taped_32 m_at m_token m_place m_value m_word m_bad m_badPlace m_fault m_faultPlace m_willing m_will m_forgot m_isDrawn m_x m_begin m_round m_roundCards m_fate m_any m_bothSend m_meanCards m_bestSum m_fitMany m_fitFirst m_fitSecond)), ((m_a 5), .inl (cB, 1600, .inl n_m_tape_c_32))] H := hP
  have hD : va_D A [(m, .inr (11, mG m_a 0 n_m_taped_32 m_at m_token m_place m_value m_word m_bad m_badPlace m_fault m_faultPlace m_willing m_will m_forgot m_isDrawn m_x m_begin m_round m_roundCards m_fate m_any m_bothSend m_meanCards m_bestSum m_fitMany m_fitFirst m_fitSecond)), ((m_a 5), .inl (cB, 1600, .inl n_m_tape_c_32))] := hD
  dsimp only at hw32
  obtain ⟨hw32_0, hw32_1⟩ := hw32
  have hw32_1 : n_m_taped_32.toInt = n_m_taped_27.toInt + 4 := hw32_1
  refine lv_aload_n hx hb dX12_feed_35 rfl (lv_at hl 0 rfl) ?_
  refine lv_iload hx hb dX12_feed_36 (lv_at hl 4 rfl) ?_
  refine rw_v (wr := []) (va_runV (As := [.int p3]) (rest := []) ⟨hx, hb, hml, hown, hts⟩ (q_X12_four l g cI cJ cB cZ cL p3 m m_a 0 n_m_taped_32 m_at m_token m_place m_value m_word m_bad m_badPlace m_fault m_faultPlace m_willing m_will m_forgot m_isDrawn m_x m_begin m_round m_roundCards m_fate m_any m_bothSend m_meanCards m_bestSum m_fitMany m_fitFirst m_fitSecond n_m_tape_c_32 H.size (by omega) hv_m_at hv_m_will hv_m_isDrawn) (cwV 1 hts (goodIn_app (g_4 (List.mem_cons_of_mem _ (List.mem_append_left _ (List.mem_of_getElem? (i := 2) rfl))) (List.mem_cons_of_mem _ (List.mem_append_left _ (List.mem_of_getElem? (i := 3) rfl))) (List.mem_cons_of_mem _ (List.mem_append_left _ (List.mem_of_getElem? (i := 4) rfl))) (List.mem_cons_of_mem _ (List.mem_append_left _ (List.mem_of_getElem? (i := 5) rfl))) (by decide +kernel)) (goodIn_sub (fun _ h => List.mem_cons_of_mem _ (List.mem_append_right _ (List.mem_append_left _ h))) good_v_X12_four)) rfl rfl rfl (by decide +kernel) ⟨Nat.le_of_ble_eq_true rfl, Nat.le_of_ble_eq_true rfl⟩) (pv_RW (q := (RX12, TX12, 56)) (ci := 11) (q0 := 0) (wc := [(m, .inr (11, mG m_a 0 n_m_taped_32 m_at m_token m_place m_value m_word m_bad m_badPlace m_fault m_faultPlace m_willing m_will m_forgot m_isDrawn m_x m_begin m_round m_roundCards m_fate m_any m_bothSend m_meanCards m_bestSum m_fitMany m_fitFirst m_fitSecond)), ((m_a 5), .inl (cB, 1600, .inl n_m_tape_c_32))]) hK hP hD [0, 1] (by decide) rfl rfl rfl) rfl rfl hl.1 rfl (lv_room (Nat.le_of_ble_eq_true rfl)) dX12_feed_38 ⟨Nat.le_of_ble_eq_true rfl, Nat.le_of_ble_eq_true rfl⟩) hS hA hP hD [0, 1] [] rfl rfl (by decide) (by decide) (fun u38 H locs hw38 hP hD hS => ?_)
  obtain ⟨n_m_taped_38, n_m_tape_c_38⟩ := u38
  have hP : va_P g vwCl [(m, .inr (11, mG m_a 0 n_m_taped_38 m_at m_token m_place m_value m_word m_bad m_badPlace m_fault m_faultPlace m_willing m_will m_forgot m_isDrawn m_x m_begin m_round m_roundCards m_fate m_any m_bothSend m_meanCards m_bestSum m_fitMany m_fitFirst m_fitSecond)), ((m_a 5), .inl (cB, 1600, .inl n_m_tape_c_38))] H := hP
  have hD : va_D A [(m, .inr (11, mG m_a 0 n_m_taped_38 m_at m_token m_place m_value m_word m_bad m_badPlace m_fault m_faultPlace m_willing m_will m_forgot m_isDrawn m_x m_begin m_round m_roundCards m_fate m_any m_bothSend m_meanCards m_bestSum m_fitMany m_fitFirst m_fitSecond)), ((m_a 5), .inl (cB, 1600, .inl n_m_tape_c_38))] := hD
  dsimp only at hw38
  obtain ⟨hw38_0, hw38_1⟩ := hw38
  have hw38_1 : n_m_taped_38.toInt = n_m_taped_32.toInt + 4 := hw38_1
  refine lv_aload_n hx hb dX12_feed_41 rfl (lv_at hl 0 rfl) ?_
  refine lv_iload hx hb dX12_feed_42 (lv_at hl 5 rfl) ?_
  refine rw_v (wr := []) (va_runV (As := [.int p4]) (rest := []) ⟨hx, hb, hml, hown, hts⟩ (q_X12_four l g cI cJ cB cZ cL p4 m m_a 0 n_m_taped_38 m_at m_token m_place m_value m_word m_bad m_badPlace m_fault m_faultPlace m_willing m_will m_forgot m_isDrawn m_x m_begin m_round m_roundCards m_fate m_any m_bothSend m_meanCards m_bestSum m_fitMany m_fitFirst m_fitSecond n_m_tape_c_38 H.size (by omega) hv_m_at hv_m_will hv_m_isDrawn) (cwV 1 hts (goodIn_app (g_4 (List.mem_cons_of_mem _ (List.mem_append_left _ (List.mem_of_getElem? (i := 2) rfl))) (List.mem_cons_of_mem _ (List.mem_append_left _ (List.mem_of_getElem? (i := 3) rfl))) (List.mem_cons_of_mem _ (List.mem_append_left _ (List.mem_of_getElem? (i := 4) rfl))) (List.mem_cons_of_mem _ (List.mem_append_left _ (List.mem_of_getElem? (i := 5) rfl))) (by decide +kernel)) (goodIn_sub (fun _ h => List.mem_cons_of_mem _ (List.mem_append_right _ (List.mem_append_left _ h))) good_v_X12_four)) rfl rfl rfl (by decide +kernel) ⟨Nat.le_of_ble_eq_true rfl, Nat.le_of_ble_eq_true rfl⟩) (pv_RW (q := (RX12, TX12, 56)) (ci := 11) (q0 := 0) (wc := [(m, .inr (11, mG m_a 0 n_m_taped_38 m_at m_token m_place m_value m_word m_bad m_badPlace m_fault m_faultPlace m_willing m_will m_forgot m_isDrawn m_x m_begin m_round m_roundCards m_fate m_any m_bothSend m_meanCards m_bestSum m_fitMany m_fitFirst m_fitSecond)), ((m_a 5), .inl (cB, 1600, .inl n_m_tape_c_38))]) hK hP hD [0, 1] (by decide) rfl rfl rfl) rfl rfl hl.1 rfl (lv_room (Nat.le_of_ble_eq_true rfl)) dX12_feed_44 ⟨Nat.le_of_ble_eq_true rfl, Nat.le_of_ble_eq_true rfl⟩) hS hA hP hD [0, 1] [] rfl rfl (by decide) (by decide) (fun u44 H locs hw44 hP hD hS => ?_)
  obtain ⟨n_m_taped_44, n_m_tape_c_44⟩ := u44
  have hP : va_P g vwCl [(m, .inr (11, mG m_a 0 n_m_taped_44 m_at m_token m_place m_value m_word m_bad m_badPlace m_fault m_faultPlace m_willing m_will m_forgot m_isDrawn m_x m_begin m_round m_roundCards m_fate m_any m_bothSend m_meanCards m_bestSum m_fitMany m_fitFirst m_fitSecond)), ((m_a 5), .inl (cB, 1600, .inl n_m_tape_c_44))] H := hP
  have hD : va_D A [(m, .inr (11, mG m_a 0 n_m_taped_44 m_at m_token m_place m_value m_word m_bad m_badPlace m_fault m_faultPlace m_willing m_will m_forgot m_isDrawn m_x m_begin m_round m_roundCards m_fate m_any m_bothSend m_meanCards m_bestSum m_fitMany m_fitFirst m_fitSecond)), ((m_a 5), .inl (cB, 1600, .inl n_m_tape_c_44))] := hD
  dsimp only at hw44
  obtain ⟨hw44_0, hw44_1⟩ := hw44
  have hw44_1 : n_m_taped_44.toInt = n_m_taped_38.toInt + 4 := hw44_1
  refine lv_aload_n hx hb dX12_feed_47 rfl (lv_at hl 0 rfl) ?_
  refine va_get (D := g) (ci := 11) (v := .int n_m_taped_44) (C := RX12) (T := TX12) (N := 56) hx hb hts iX12 hown hK hP 0 rfl rfl 6 (by decide) (hts (.fieldLink RX12 124 "CardsAtYuleModel" "taped" "I") (List.mem_cons_of_mem _ (List.mem_append_left _ (List.mem_of_getElem? (i := 1) rfl)))) (fun _ h9 => h9) rfl dX12_feed_48 ?_
  subst hQ
  have hP9 := hP.sub (ws' := [(m, .inr (11, mG m_a 0 n_m_taped_44 m_at m_token m_place m_value m_word m_bad m_badPlace m_fault m_faultPlace m_willing m_will m_forgot m_isDrawn m_x m_begin m_round m_roundCards m_fate m_any m_bothSend m_meanCards m_bestSum m_fitMany m_fitFirst m_fitSecond)), ((m_a 5), .inl (cB, 1600, .inl n_m_tape_c_44))]) [0, 1] rfl
  have hD9 := hD.sub (ws' := [(m, .inr (11, mG m_a 0 n_m_taped_44 m_at m_token m_place m_value m_word m_bad m_badPlace m_fault m_faultPlace m_willing m_will m_forgot m_isDrawn m_x m_begin m_round m_roundCards m_fate m_any m_bothSend m_meanCards m_bestSum m_fitMany m_fitFirst m_fitSecond)), ((m_a 5), .inl (cB, 1600, .inl n_m_tape_c_44))]) [0, 1] (by decide) rfl
  exact W.iret (v := n_m_taped_44) hx hb hr (fun t ht hW => ⟨⟨n_m_taped_44, (0, n_m_taped_44, n_m_tape_c_44), rfl, ⟨(show ir (0 : Int32).toInt 0 0 by decide), hw44_0, (ir_w hw44_0 (by decide) (by decide))⟩, ⟨by rw [ht]; exact hP9, va_K.moved hW.alike hK, hD9⟩⟩, hS.F ht⟩) hS.2.2 dX12_feed_51
def v_X12_end : List Cond := .code yX12_end cX12_end 2 (some .int) :: (([.fieldLink RX12 107 "CardsAtYuleModel" "thrown" "I", .fieldLink RX12 124 "CardsAtYuleModel" "taped" "I", .methodLink RX12 112 yX12_in, .static yX12_in, .initialized RX12] : List Cond) ++ (v_X12_in ++ (wsX120 ++ ([] : List Cond))))
theorem good_v_X12_end : v_X12_end.all goodWord = true := ga_c (by decide +kernel) (ga_a (by decide +kernel) (ga_a good_v_X12_in (ga_a good_wsX120 rfl)))
set_option maxHeartbeats 4000000 in
set_option maxRecDepth 100000 in
theorem q_X12_end (l : Launch) (g : va_G) (cI cJ cB cZ cL : ClassId) (p0 : Int32) (m : Nat) (m_a : Nat → Nat) (m_thrown : Int32) (m_taped : Int32) (m_at : Int32) (m_token : Int32) (m_place : Int32) (m_value : Int32) (m_word : Int64) (m_bad : Int32) (m_badPlace : Int32) (m_fault : Int32) (m_faultPlace : Int32) (m_willing : Int32) (m_will : Int32) (m_forgot : Int32) (m_isDrawn : Int32) (m_x : Int64) (m_begin : Int32) (m_round : Int32) (m_roundCards : Int32) (m_fate : Int32) (m_any : Int64) (m_bothSend : Int64) (m_meanCards : Int64) (m_bestSum : Int32) (m_fitMany : Int32) (m_fitFirst : Int64) (m_fitSecond : Int64) (sz : Nat) (hv_m_taped : ir m_taped.toInt 0 1600) (hv_m_at : ir m_at.toInt 0 1600) (hv_m_will : ir m_will.toInt 0 1) (hv_m_isDrawn : ir m_isDrawn.toInt 0 1) : Met l yX12_end v_X12_end ({ frames := 1, cells := 0, slots := 0, locals := 25 }) (va_Pc [.ref m, .int p0] (pRW g (tyT cI cJ cB cZ cL) [(m, .inr (11, mG m_a m_thrown m_taped m_at m_token m_place m_value m_word m_bad m_badPlace m_fault m_faultPlace m_willing m_will m_forgot m_isDrawn m_x m_begin m_round m_roundCards m_fate m_any m_bothSend m_meanCards m_bestSum m_fitMany m_fitFirst m_fitSecond))] sz)) (va_Qi (fun (r : Int32) (u : Int32 × Int32) => match u with | (n_m_thrown, n_m_taped) => (ir n_m_thrown.toInt 0 0) ∧ (ir n_m_taped.toInt 0 1600) ∧ (ir r.toInt (-1) 1600)) (fun (u : Int32 × Int32) (t : State) => bRW g (tyT cI cJ cB cZ cL) (va_A [(m, .inr (11, mG m_a m_thrown m_taped m_at m_token m_place m_value m_word m_bad m_badPlace m_fault m_faultPlace m_willing m_will m_forgot m_isDrawn m_x m_begin m_round m_roundCards m_fate m_any m_bothSend m_meanCards m_bestSum m_fitMany m_fitFirst m_fitSecond))] sz) (match u with | (n_m_thrown, n_m_taped) => [(m, .inr (11, mG m_a n_m_thrown n_m_taped m_at m_token m_place m_value m_word m_bad m_badPlace m_fault m_faultPlace m_willing m_will m_forgot m_isDrawn m_x m_begin m_round m_roundCards m_fate m_any m_bothSend m_meanCards m_bestSum m_fitMany m_fitFirst m_fitSecond))]) t) (va_A [(m, .inr (11, mG m_a m_thrown m_taped m_at m_token m_place m_value m_word m_bad m_badPlace m_fault m_faultPlace m_willing m_will m_forgot m_isDrawn m_x m_begin m_round m_roundCards m_fate m_any m_bothSend m_meanCards m_bestSum m_fitMany m_fitFirst m_fitSecond))] sz)) 0 0 (va_A [(m, .inr (11, mG m_a m_thrown m_taped m_at m_token m_place m_value m_word m_bad m_badPlace m_fault m_faultPlace m_willing m_will m_forgot m_isDrawn m_x m_begin m_round m_roundCards m_fate m_any m_bothSend m_meanCards m_bestSum m_fitMany m_fitFirst m_fitSecond))] sz) := by
  refine Met.ofW (cc := cX12_end) (maxL := 2) (ret := (some .int)) (by decide) rfl ?_
  intro p e s mth args below meth c s₁ B hml hv
  obtain ⟨rfl, hsz, hP, hK, hD0⟩ := hv
  have hx := B.exec
  have hb := B.bytes
  have hr := B.returns
  have hts := atoms_spec (ws := v_X12_end) B.pre
  have hown : s.vm.findClass RX12 = some mth.cls := findClass_of_methodNamed B.named
  have hlocks := B.notSynchronized
  clear B
  subst hsz
  have iX12 : ∀ w ∈ wsX120, w ∈ v_X12_end := (fun _ h => List.mem_cons_of_mem _ (List.mem_append_right _ (List.mem_append_right _ (List.mem_append_left _ h))))
  have hD := hD0.self (sz := s.heap.size)
  generalize hAe : (va_A [(m, .inr (11, mG m_a m_thrown m_taped m_at m_token m_place m_value m_word m_bad m_badPlace m_fault m_faultPlace m_willing m_will m_forgot m_isDrawn m_x m_begin m_round m_roundCards m_fate m_any m_bothSend m_meanCards m_bestSum m_fitMany m_fitFirst m_fitSecond))] s.heap.size) = A at hD ⊢
  have hA : ∀ q : Nat, s.heap.size ≤ q → A q := fun q h => by rw [← hAe]; exact Or.inr h
  have hS : va_S A s.heap s.heap [] := va_S.rf
  have hl := lv_entry ([.ref m, .int p0]) (n := 2) (Nat.le_of_ble_eq_true rfl)
  rw [lg_entry_eq]
  generalize (lg_sl ([.ref m, .int p0]) ++ List.replicate (2 - (lg_sl ([.ref m, .int p0])).length) Slot.unset).toArray = ls at hl ⊢
  generalize ([.ref m, .int p0] : List Value).toArray = av at hts ⊢
  generalize hQ : MQ below _ av s _ _ A = QQ
  have hl : lv_has ls 2 [(0, .ref m), (1, .int p0)] := hl
  have hP : va_P g vwCl [(m, .inr (11, mG m_a m_thrown m_taped m_at m_token m_place m_value m_word m_bad m_badPlace m_fault m_faultPlace m_willing m_will m_forgot m_isDrawn m_x m_begin m_round m_roundCards m_fate m_any m_bothSend m_meanCards m_bestSum m_fitMany m_fitFirst m_fitSecond))] s.heap := hP
  refine lv_aload_n hx hb dX12_end_0 rfl (lv_at hl 0 rfl) ?_
  refine lv_iconst (v := 0) hx hb dX12_end_1 (by decide) ?_
  refine va_put (D := g) (ci := 11) (v := .int 0) (ty := .int) (C := RX12) (T := TX12) (N := 56) hx hb hts iX12 tyX12 tyX12_ok nmX12 hown hK hP hD hS 0 rfl rfl 0 (by decide) (hts (.fieldLink RX12 107 "CardsAtYuleModel" "thrown" "I") (List.mem_cons_of_mem _ (List.mem_append_left _ (List.mem_of_getElem? (i := 0) rfl)))) (fun _ h9 => h9) rfl (by decide +kernel) rfl rfl (Nat.le_of_ble_eq_true rfl) dX12_end_2 (fun H locs hP hD hS => ?_)
  have hP : va_P g vwCl [(m, .inr (11, mG m_a 0 m_taped m_at m_token m_place m_value m_word m_bad m_badPlace m_fault m_faultPlace m_willing m_will m_forgot m_isDrawn m_x m_begin m_round m_roundCards m_fate m_any m_bothSend m_meanCards m_bestSum m_fitMany m_fitFirst m_fitSecond))] H := hP
  have hD : va_D A [(m, .inr (11, mG m_a 0 m_taped m_at m_token m_place m_value m_word m_bad m_badPlace m_fault m_faultPlace m_willing m_will m_forgot m_isDrawn m_x m_begin m_round m_roundCards m_fate m_any m_bothSend m_meanCards m_bestSum m_fitMany m_fitFirst m_fitSecond))] := hD
  refine lv_iload_n hx hb dX12_end_5 rfl (lv_at hl 1 rfl) ?_
  refine lv_i2l (v := p0.toInt64) hx hb dX12_end_6 rfl ?_
  refine lv_lconst (v := 0) hx hb dX12_end_7 (by decide) ?_
  refine lv_aload_n hx hb dX12_end_8 rfl (lv_at hl 0 rfl) ?_
  refine va_get (D := g) (ci := 11) (v := .int m_taped) (C := RX12) (T := TX12) (N := 56) hx hb hts iX12 hown hK hP 0 rfl rfl 6 (by decide) (hts (.fieldLink RX12 124 "CardsAtYuleModel" "taped" "I") (List.mem_cons_of_mem _ (List.mem_append_left _ (List.mem_of_getElem? (i := 1) rfl)))) (fun _ h9 => h9) rfl dX12_end_9 ?_
  refine lv_i2l (v := m_taped.toInt64) hx hb dX12_end_12 rfl ?_
  refine ro_i (va_runS (As := [.long p0.toInt64, .long 0, .long m_taped.toInt64]) (rest := []) ⟨hx, hb, hml, hown, hts⟩ (q_X12_in l g cI cJ cB cZ cL p0.toInt64 p0.toInt 0 0 m_taped.toInt64 m_taped.toInt H.size (z_i2l rfl) rfl (z_i2l rfl)) (va_cwS 3 hts (goodIn_app (g_3 (List.mem_cons_of_mem _ (List.mem_append_left _ (List.mem_of_getElem? (i := 2) rfl))) (List.mem_cons_of_mem _ (List.mem_append_left _ (List.mem_of_getElem? (i := 3) rfl))) (List.mem_cons_of_mem _ (List.mem_append_left _ (List.mem_of_getElem? (i := 4) rfl))) (by decide +kernel)) (goodIn_sub (fun _ h => List.mem_cons_of_mem _ (List.mem_append_right _ (List.mem_append_left _ h))) good_v_X12_in)) rfl rfl rfl (by decide +kernel) ⟨Nat.le_of_ble_eq_true rfl, Nat.le_of_ble_eq_true rfl⟩) (ps_RO (wc := []) hK hP [] rfl) rfl rfl hl.1 rfl (lv_room (Nat.le_of_ble_eq_true rfl)) dX12_end_13 ⟨Nat.le_of_ble_eq_true rfl, Nat.le_of_ble_eq_true rfl⟩) hS hA hP (fun r13 u13 H locs hw13 hP hS => ?_)
  have hw13_0 := hw13
  rcases hw13_0 with ⟨er13, fc13_0, fc13_1⟩ | er13
  rotate_left 1
  · subst er13
    refine lv_if_ne (tgt := 21) hx hb dX12_end_16 (by decide) (fun c => absurd c (by decide)) (fun _ => ?_)
    refine lv_iconst (v := (-1)) hx hb dX12_end_19 (by decide) ?_
    subst hQ
    have hP9 := hP.sub (ws' := [(m, .inr (11, mG m_a 0 m_taped m_at m_token m_place m_value m_word m_bad m_badPlace m_fault m_faultPlace m_willing m_will m_forgot m_isDrawn m_x m_begin m_round m_roundCards m_fate m_any m_bothSend m_meanCards m_bestSum m_fitMany m_fitFirst m_fitSecond))]) [0] rfl
    have hD9 := hD.sub (ws' := [(m, .inr (11, mG m_a 0 m_taped m_at m_token m_place m_value m_word m_bad m_badPlace m_fault m_faultPlace m_willing m_will m_forgot m_isDrawn m_x m_begin m_round m_roundCards m_fate m_any m_bothSend m_meanCards m_bestSum m_fitMany m_fitFirst m_fitSecond))]) [0] (by decide) rfl
    exact W.iret (v := (-1)) hx hb hr (fun t ht hW => ⟨⟨(-1), (0, m_taped), rfl, ⟨(show ir (0 : Int32).toInt 0 0 by decide), hv_m_taped, (show ir ((-1) : Int32).toInt (-1) 1600 by decide)⟩, ⟨by rw [ht]; exact hP9, va_K.moved hW.alike hK, hD9⟩⟩, hS.F ht⟩) hS.2.2 dX12_end_20
  subst er13
  have fc13_0 : 0 ≤ p0.toInt := fc13_0
  have r13_0b : ir p0.toInt 0 2147483647 := ir_leb fc13_0 (ir_c 0) (rg_all p0) (by decide)
  have fc13_1 : p0.toInt ≤ m_taped.toInt := fc13_1
  have r13_1a : ir p0.toInt 0 1600 := ir_lea fc13_1 r13_0b hv_m_taped (by decide)
  refine lv_if_ne (tgt := 21) hx hb dX12_end_16 (by decide) (fun _ => ?_) (fun c => absurd c (by decide))
  refine lv_aload_n hx hb dX12_end_21 rfl (lv_at hl 0 rfl) ?_
  refine lv_iload_n hx hb dX12_end_22 rfl (lv_at hl 1 rfl) ?_
  refine va_put (D := g) (ci := 11) (v := .int p0) (ty := .int) (C := RX12) (T := TX12) (N := 56) hx hb hts iX12 tyX12 tyX12_ok nmX12 hown hK hP hD hS 0 rfl rfl 6 (by decide) (hts (.fieldLink RX12 124 "CardsAtYuleModel" "taped" "I") (List.mem_cons_of_mem _ (List.mem_append_left _ (List.mem_of_getElem? (i := 1) rfl)))) (fun _ h9 => h9) rfl (by decide +kernel) rfl rfl (Nat.le_of_ble_eq_true rfl) dX12_end_23 (fun H locs hP hD hS => ?_)
  have hP : va_P g vwCl [(m, .inr (11, mG m_a 0 p0 m_at m_token m_place m_value m_word m_bad m_badPlace m_fault m_faultPlace m_willing m_will m_forgot m_isDrawn m_x m_begin m_round m_roundCards m_fate m_any m_bothSend m_meanCards m_bestSum m_fitMany m_fitFirst m_fitSecond))] H := hP
  have hD : va_D A [(m, .inr (11, mG m_a 0 p0 m_at m_token m_place m_value m_word m_bad m_badPlace m_fault m_faultPlace m_willing m_will m_forgot m_isDrawn m_x m_begin m_round m_roundCards m_fate m_any m_bothSend m_meanCards m_bestSum m_fitMany m_fitFirst m_fitSecond))] := hD
  refine lv_iload_n hx hb dX12_end_26 rfl (lv_at hl 1 rfl) ?_
  subst hQ
  have hP9 := hP.sub (ws' := [(m, .inr (11, mG m_a 0 p0 m_at m_token m_place m_value m_word m_bad m_badPlace m_fault m_faultPlace m_willing m_will m_forgot m_isDrawn m_x m_begin m_round m_roundCards m_fate m_any m_bothSend m_meanCards m_bestSum m_fitMany m_fitFirst m_fitSecond))]) [0] rfl
  have hD9 := hD.sub (ws' := [(m, .inr (11, mG m_a 0 p0 m_at m_token m_place m_value m_word m_bad m_badPlace m_fault m_faultPlace m_willing m_will m_forgot m_isDrawn m_x m_begin m_round m_roundCards m_fate m_any m_bothSend m_meanCards m_bestSum m_fitMany m_fitFirst m_fitSecond))]) [0] (by decide) rfl
  exact W.iret (v := p0) hx hb hr (fun t ht hW => ⟨⟨p0, (0, p0), rfl, ⟨(show ir (0 : Int32).toInt 0 0 by decide), r13_1a, (ir_w r13_1a (by decide) (by decide))⟩, ⟨by rw [ht]; exact hP9, va_K.moved hW.alike hK, hD9⟩⟩, hS.F ht⟩) hS.2.2 dX12_end_27
def v_X12_isByte : List Cond := .code yX12_isByte cX12_isByte 4 (some .boolean) :: (([.fieldLink RX12 124 "CardsAtYuleModel" "taped" "I", .fieldLink RX12 23 "CardsAtYuleModel" "tape" "[B"] : List Cond) ++ (wsX120 ++ ([] : List Cond)))
theorem good_v_X12_isByte : v_X12_isByte.all goodWord = true := ga_c (by decide +kernel) (ga_a (by decide +kernel) (ga_a good_wsX120 rfl))
set_option maxHeartbeats 4000000 in
set_option maxRecDepth 100000 in
theorem q_X12_isByte (l : Launch) (g : va_G) (cI cJ cB cZ cL : ClassId) (p0 : Int32) (p1 : Int32) (p2 : Int32) (m : Nat) (m_a : Nat → Nat) (m_thrown : Int32) (m_taped : Int32) (m_at : Int32) (m_token : Int32) (m_place : Int32) (m_value : Int32) (m_word : Int64) (m_bad : Int32) (m_badPlace : Int32) (m_fault : Int32) (m_faultPlace : Int32) (m_willing : Int32) (m_will : Int32) (m_forgot : Int32) (m_isDrawn : Int32) (m_x : Int64) (m_begin : Int32) (m_round : Int32) (m_roundCards : Int32) (m_fate : Int32) (m_any : Int64) (m_bothSend : Int64) (m_meanCards : Int64) (m_bestSum : Int32) (m_fitMany : Int32) (m_fitFirst : Int64) (m_fitSecond : Int64) (m_tape_c : Nat → Int32) (sz : Nat) (hv_p0 : ir p0.toInt 0 1600) (hv_m_taped : ir m_taped.toInt 0 1600) (hv_m_at : ir m_at.toInt 0 1600) (hv_m_will : ir m_will.toInt 0 1) (hv_m_isDrawn : ir m_isDrawn.toInt 0 1) : Met l yX12_isByte v_X12_isByte ({ frames := 0, cells := 0, slots := 0, locals := 0 }) (va_Pc [.ref m, .int p0, .int p1, .int p2] (pRO g (tyT cI cJ cB cZ cL) [(m, .inr (11, mG m_a m_thrown m_taped m_at m_token m_place m_value m_word m_bad m_badPlace m_fault m_faultPlace m_willing m_will m_forgot m_isDrawn m_x m_begin m_round m_roundCards m_fate m_any m_bothSend m_meanCards m_bestSum m_fitMany m_fitFirst m_fitSecond)), ((m_a 5), .inl (cB, 1600, .inl m_tape_c))] sz)) (va_Qi (fun (r : Int32) (u : Unit) => ((r = 1 ∧ p0.toInt < m_taped.toInt ∧ p1.toInt ≤ (m_tape_c p0.toNatClampNeg).toInt ∧ (m_tape_c p0.toNatClampNeg).toInt ≤ p2.toInt) ∨ (r = 0 ∧ ¬ (p0.toInt < m_taped.toInt ∧ p1.toInt ≤ (m_tape_c p0.toNatClampNeg).toInt ∧ (m_tape_c p0.toNatClampNeg).toInt ≤ p2.toInt)))) (fun (_ : Unit) (_ : State) => True) (va_A [] sz)) 0 0 (va_A [] sz) := by
  refine Met.ofW (cc := cX12_isByte) (maxL := 4) (ret := (some .boolean)) (by decide) rfl ?_
  intro p e s mth args below meth c s₁ B hml hv
  obtain ⟨rfl, hsz, hP, hK⟩ := hv
  have hx := B.exec
  have hb := B.bytes
  have hr := B.returns
  have hts := atoms_spec (ws := v_X12_isByte) B.pre
  have hown : s.vm.findClass RX12 = some mth.cls := findClass_of_methodNamed B.named
  have hlocks := B.notSynchronized
  clear B
  subst hsz
  have iX12 : ∀ w ∈ wsX120, w ∈ v_X12_isByte := (fun _ h => List.mem_cons_of_mem _ (List.mem_append_right _ (List.mem_append_left _ h)))
  generalize hAe : (va_A [] s.heap.size) = A
  have hA : ∀ q : Nat, s.heap.size ≤ q → A q := fun q h => by rw [← hAe]; exact Or.inr h
  have hS : va_S A s.heap s.heap [] := va_S.rf
  have hl := lv_entry ([.ref m, .int p0, .int p1, .int p2]) (n := 4) (Nat.le_of_ble_eq_true rfl)
  rw [lg_entry_eq]
  generalize (lg_sl ([.ref m, .int p0, .int p1, .int p2]) ++ List.replicate (4 - (lg_sl ([.ref m, .int p0, .int p1, .int p2])).length) Slot.unset).toArray = ls at hl ⊢
  generalize ([.ref m, .int p0, .int p1, .int p2] : List Value).toArray = av at hts ⊢
  generalize hQ : MQ below _ av s _ _ A = QQ
  have hl : lv_has ls 4 [(0, .ref m), (1, .int p0), (2, .int p1), (3, .int p2)] := hl
  have hP : va_P g vwCl [(m, .inr (11, mG m_a m_thrown m_taped m_at m_token m_place m_value m_word m_bad m_badPlace m_fault m_faultPlace m_willing m_will m_forgot m_isDrawn m_x m_begin m_round m_roundCards m_fate m_any m_bothSend m_meanCards m_bestSum m_fitMany m_fitFirst m_fitSecond)), ((m_a 5), .inl (cB, 1600, .inl m_tape_c))] s.heap := hP
  refine lv_iload_n hx hb dX12_isByte_0 rfl (lv_at hl 1 rfl) ?_
  refine lv_aload_n hx hb dX12_isByte_1 rfl (lv_at hl 0 rfl) ?_
  refine va_get (D := g) (ci := 11) (v := .int m_taped) (C := RX12) (T := TX12) (N := 56) hx hb hts iX12 hown hK hP 0 rfl rfl 6 (by decide) (hts (.fieldLink RX12 124 "CardsAtYuleModel" "taped" "I") (List.mem_cons_of_mem _ (List.mem_append_left _ (List.mem_of_getElem? (i := 0) rfl)))) (fun _ h9 => h9) rfl dX12_isByte_2 ?_
  refine lv_icmp_ge (tgt := 32) hx hb dX12_isByte_5 (by decide) (fun c5 => ?_) (fun c5 => ?_)
  · have f5 := (show m_taped.toInt ≤ p0.toInt from z_le rfl rfl c5)
    refine lv_iconst (v := 0) hx hb dX12_isByte_32 (by decide) ?_
    subst hQ
    exact W.zret (v := 0) hx hb hr rfl (fun t ht hW => ⟨⟨0, (), rfl, (Or.inr ⟨rfl, (by first | omega | decide)⟩), trivial⟩, hS.F ht⟩) hS.2.2 dX12_isByte_33
  have f5 := (show p0.toInt < m_taped.toInt from z_nle rfl rfl c5)
  have r5a : ir p0.toInt 0 1599 := ir_lta f5 hv_p0 hv_m_taped (by decide)
  have r5b : ir m_taped.toInt 1 1600 := ir_ltb f5 hv_p0 hv_m_taped (by decide)
  refine lv_aload_n hx hb dX12_isByte_8 rfl (lv_at hl 0 rfl) ?_
  refine va_get (D := g) (ci := 11) (v := .ref (m_a 5)) (C := RX12) (T := TX12) (N := 56) hx hb hts iX12 hown hK hP 0 rfl rfl 5 (by decide) (hts (.fieldLink RX12 23 "CardsAtYuleModel" "tape" "[B") (List.mem_cons_of_mem _ (List.mem_append_left _ (List.mem_of_getElem? (i := 1) rfl)))) (fun _ h9 => h9) rfl dX12_isByte_9 ?_
  refine lv_iload_n hx hb dX12_isByte_12 rfl (lv_at hl 1 rfl) ?_
  refine va_bald (D := g) hx hb hK hP 1 2 rfl rfl (vi_rg rfl r5a (by decide) (by decide)) dX12_isByte_13 ?_
  refine lv_iload_n hx hb dX12_isByte_14 rfl (lv_at hl 2 rfl) ?_
  refine lv_icmp_lt (tgt := 32) hx hb dX12_isByte_15 (by decide) (fun c15 => ?_) (fun c15 => ?_)
  · have f15 := (show (m_tape_c p0.toNatClampNeg).toInt < p1.toInt from z_lt rfl rfl c15)
    have r15a : ir (m_tape_c p0.toNatClampNeg).toInt (-2147483648) 2147483646 := ir_lta f15 (rg_all (m_tape_c p0.toNatClampNeg)) (rg_all p1) (by decide)
    have r15b : ir p1.toInt (-2147483647) 2147483647 := ir_ltb f15 (rg_all (m_tape_c p0.toNatClampNeg)) (rg_all p1) (by decide)
    refine lv_iconst (v := 0) hx hb dX12_isByte_32 (by decide) ?_
    subst hQ
    exact W.zret (v := 0) hx hb hr rfl (fun t ht hW => ⟨⟨0, (), rfl, (Or.inr ⟨rfl, (by first | omega | decide)⟩), trivial⟩, hS.F ht⟩) hS.2.2 dX12_isByte_33
  have f15 := (show p1.toInt ≤ (m_tape_c p0.toNatClampNeg).toInt from z_nlt rfl rfl c15)
  refine lv_aload_n hx hb dX12_isByte_18 rfl (lv_at hl 0 rfl) ?_
  refine va_get (D := g) (ci := 11) (v := .ref (m_a 5)) (C := RX12) (T := TX12) (N := 56) hx hb hts iX12 hown hK hP 0 rfl rfl 5 (by decide) (hts (.fieldLink RX12 23 "CardsAtYuleModel" "tape" "[B") (List.mem_cons_of_mem _ (List.mem_append_left _ (List.mem_of_getElem? (i := 1) rfl)))) (fun _ h9 => h9) rfl dX12_isByte_19 ?_
  refine lv_iload_n hx hb dX12_isByte_22 rfl (lv_at hl 1 rfl) ?_
  refine va_bald (D := g) hx hb hK hP 1 2 rfl rfl (vi_rg rfl r5a (by decide) (by decide)) dX12_isByte_23 ?_
  refine lv_iload_n hx hb dX12_isByte_24 rfl (lv_at hl 3 rfl) ?_
  refine lv_icmp_gt (tgt := 32) hx hb dX12_isByte_25 (by decide) (fun c25 => ?_) (fun c25 => ?_)
  rotate_left 1
  · have f25 := (show (m_tape_c p0.toNatClampNeg).toInt ≤ p2.toInt from z_nlt rfl rfl c25)
    refine lv_iconst (v := 1) hx hb dX12_isByte_28 (by decide) ?_
    refine lv_goto (tgt := 33) hx hb dX12_isByte_29 (by decide) ?_
    subst hQ
    exact W.zret (v := 1) hx hb hr rfl (fun t ht hW => ⟨⟨1, (), rfl, (Or.inl ⟨rfl, (by first | omega | decide), (by first | omega | decide)⟩), trivial⟩, hS.F ht⟩) hS.2.2 dX12_isByte_33
  have f25 := (show p2.toInt < (m_tape_c p0.toNatClampNeg).toInt from z_lt rfl rfl c25)
  have r25a : ir (m_tape_c p0.toNatClampNeg).toInt (-2147483647) 2147483647 := ir_ltb f25 (rg_all p2) (rg_all (m_tape_c p0.toNatClampNeg)) (by decide)
  have r25b : ir p2.toInt (-2147483648) 2147483646 := ir_lta f25 (rg_all p2) (rg_all (m_tape_c p0.toNatClampNeg)) (by decide)
  refine lv_iconst (v := 0) hx hb dX12_isByte_32 (by decide) ?_
  subst hQ
  exact W.zret (v := 0) hx hb hr rfl (fun t ht hW => ⟨⟨0, (), rfl, (Or.inr ⟨rfl, (by first | omega | decide)⟩), trivial⟩, hS.F ht⟩) hS.2.2 dX12_isByte_33
def v_X12_next : List Cond := .code yX12_next cX12_next 2 none :: (([.fieldLink RX12 131 "CardsAtYuleModel" "at" "I", .methodLink RX12 134 yX12_isByte, .instanceMethod yX12_isByte, .selects RX12 yX12_isByte yX12_isByte, .initialized RX12, .fieldLink RX12 138 "CardsAtYuleModel" "place" "I", .fieldLink RX12 141 "CardsAtYuleModel" "value" "I", .fieldLink RX12 144 "CardsAtYuleModel" "word" "J", .fieldLink RX12 124 "CardsAtYuleModel" "taped" "I", .fieldLink RX12 148 "CardsAtYuleModel" "token" "I", .constantLong RX12 151 (-1), .constantLong RX12 153 (27), .fieldLink RX12 23 "CardsAtYuleModel" "tape" "[B", .constantLong RX12 155 (96), .constant RX12 157 (100000), .constant RX12 158 (1000000)] : List Cond) ++ (v_X12_isByte ++ (wsX120 ++ ([] : List Cond))))
theorem good_v_X12_next : v_X12_next.all goodWord = true := ga_c (by decide +kernel) (ga_a (by decide +kernel) (ga_a good_v_X12_isByte (ga_a good_wsX120 rfl)))
set_option maxHeartbeats 4000000 in
set_option maxRecDepth 100000 in
theorem q_X12_next (l : Launch) (g : va_G) (cI cJ cB cZ cL : ClassId) (m : Nat) (m_a : Nat → Nat) (m_thrown : Int32) (m_taped : Int32) (m_at : Int32) (m_token : Int32) (m_place : Int32) (m_value : Int32) (m_word : Int64) (m_bad : Int32) (m_badPlace : Int32) (m_fault : Int32) (m_faultPlace : Int32) (m_willing : Int32) (m_will : Int32) (m_forgot : Int32) (m_isDrawn : Int32) (m_x : Int64) (m_begin : Int32) (m_round : Int32) (m_roundCards : Int32) (m_fate : Int32) (m_any : Int64) (m_bothSend : Int64) (m_meanCards : Int64) (m_bestSum : Int32) (m_fitMany : Int32) (m_fitFirst : Int64) (m_fitSecond : Int64) (m_tape_c : Nat → Int32) (sz : Nat) (hv_m_taped : ir m_taped.toInt 0 1600) (hv_m_at : ir m_at.toInt 0 1600) (hv_m_will : ir m_will.toInt 0 1) (hv_m_isDrawn : ir m_isDrawn.toInt 0 1) (hx_0 : m_at.toInt ≤ m_taped.toInt) : Met l yX12_next v_X12_next ({ frames := 1, cells := 0, slots := 0, locals := 23 }) (va_Pc [.ref m] (pRW g (tyT cI cJ cB cZ cL) [(m, .inr (11, mG m_a m_thrown m_taped m_at m_token m_place m_value m_word m_bad m_badPlace m_fault m_faultPlace m_willing m_will m_forgot m_isDrawn m_x m_begin m_round m_roundCards m_fate m_any m_bothSend m_meanCards m_bestSum m_fitMany m_fitFirst m_fitSecond)), ((m_a 5), .inl (cB, 1600, .inl m_tape_c))] sz)) (va_Qv (fun (u : Int32 × Int32 × Int32 × Int32 × Int64) => match u with | (n_m_at, n_m_token, n_m_place, n_m_value, n_m_word) => (ir n_m_at.toInt 0 1600) ∧ (ir n_m_token.toInt 0 4) ∧ (ir n_m_place.toInt 0 1600) ∧ ((m_at.toInt ≤ n_m_at.toInt ∧ n_m_at.toInt ≤ m_taped.toInt ∧ 0 ≤ n_m_token.toInt ∧ n_m_token.toInt ≤ 4 ∧ (m_at.toInt < n_m_at.toInt ∨ (n_m_token.toInt = 0 ∧ n_m_at.toInt = m_taped.toInt))))) (fun (u : Int32 × Int32 × Int32 × Int32 × Int64) (t : State) => bRW g (tyT cI cJ cB cZ cL) (va_A [(m, .inr (11, mG m_a m_thrown m_taped m_at m_token m_place m_value m_word m_bad m_badPlace m_fault m_faultPlace m_willing m_will m_forgot m_isDrawn m_x m_begin m_round m_roundCards m_fate m_any m_bothSend m_meanCards m_bestSum m_fitMany m_fitFirst m_fitSecond)), ((m_a 5), .inl (cB, 1600, .inl m_tape_c))] sz) (match u with | (n_m_at, n_m_token, n_m_place, n_m_value, n_m_word) => [(m, .inr (11, mG m_a m_thrown m_taped n_m_at n_m_token n_m_place n_m_value n_m_word m_bad m_badPlace m_fault m_faultPlace m_willing m_will m_forgot m_isDrawn m_x m_begin m_round m_roundCards m_fate m_any m_bothSend m_meanCards m_bestSum m_fitMany m_fitFirst m_fitSecond)), ((m_a 5), .inl (cB, 1600, .inl m_tape_c))]) t) (va_A [(m, .inr (11, mG m_a m_thrown m_taped m_at m_token m_place m_value m_word m_bad m_badPlace m_fault m_faultPlace m_willing m_will m_forgot m_isDrawn m_x m_begin m_round m_roundCards m_fate m_any m_bothSend m_meanCards m_bestSum m_fitMany m_fitFirst m_fitSecond)), ((m_a 5), .inl (cB, 1600, .inl m_tape_c))] sz)) 0 0 (va_A [(m, .inr (11, mG m_a m_thrown m_taped m_at m_token m_place m_value m_word m_bad m_badPlace m_fault m_faultPlace m_willing m_will m_forgot m_isDrawn m_x m_begin m_round m_roundCards m_fate m_any m_bothSend m_meanCards m_bestSum m_fitMany m_fitFirst m_fitSecond)), ((m_a 5), .inl (cB, 1600, .inl m_tape_c))] sz) := by
  refine Met.ofW (cc := cX12_next) (maxL := 2) (ret := none) (by decide) rfl ?_
  intro p e s mth args below meth c s₁ B hml hv
  obtain ⟨rfl, hsz, hP, hK, hD0⟩ := hv
  have hx := B.exec
  have hb := B.bytes
  have hr := B.returns
  have hts := atoms_spec (ws := v_X12_next) B.pre
  have hown : s.vm.findClass RX12 = some mth.cls := findClass_of_methodNamed B.named
  have hlocks := B.notSynchronized
  clear B
  subst hsz
  have iX12 : ∀ w ∈ wsX120, w ∈ v_X12_next := (fun _ h => List.mem_cons_of_mem _ (List.mem_append_right _ (List.mem_append_right _ (List.mem_append_left _ h))))
  have hD := hD0.self (sz := s.heap.size)
  generalize hAe : (va_A [(m, .inr (11, mG m_a m_thrown m_taped m_at m_token m_place m_value m_word m_bad m_badPlace m_fault m_faultPlace m_willing m_will m_forgot m_isDrawn m_x m_begin m_round m_roundCards m_fate m_any m_bothSend m_meanCards m_bestSum m_fitMany m_fitFirst m_fitSecond)), ((m_a 5), .inl (cB, 1600, .inl m_tape_c))] s.heap.size) = A at hD ⊢
  have hA : ∀ q : Nat, s.heap.size ≤ q → A q := fun q h => by rw [← hAe]; exact Or.inr h
  have hS : va_S A s.heap s.heap [] := va_S.rf
  have hl := lv_entry ([.ref m]) (n := 2) (Nat.le_of_ble_eq_true rfl)
  rw [lg_entry_eq]
  generalize (lg_sl ([.ref m]) ++ List.replicate (2 - (lg_sl ([.ref m])).length) Slot.unset).toArray = ls at hl ⊢
  generalize ([.ref m] : List Value).toArray = av at hts ⊢
  generalize hQ : MQ below _ av s _ _ A = QQ
  have hl : lv_has ls 2 [(0, .ref m)] := hl
  have hP : va_P g vwCl [(m, .inr (11, mG m_a m_thrown m_taped m_at m_token m_place m_value m_word m_bad m_badPlace m_fault m_faultPlace m_willing m_will m_forgot m_isDrawn m_x m_begin m_round m_roundCards m_fate m_any m_bothSend m_meanCards m_bestSum m_fitMany m_fitFirst m_fitSecond)), ((m_a 5), .inl (cB, 1600, .inl m_tape_c))] s.heap := hP
  have J0 : ∀ (n0 : Nat) (j0_m_at : Int32) (H : Heap) (locs : List Loc) (ls : Array Slot), (1601 - j0_m_at.toInt).toNat < n0 → (ir j0_m_at.toInt 0 1600) → (j0_m_at.toInt ≤ m_taped.toInt) → (m_at.toInt ≤ j0_m_at.toInt) → va_P g vwCl [(m, .inr (11, mG m_a m_thrown m_taped j0_m_at m_token m_place m_value m_word m_bad m_badPlace m_fault m_faultPlace m_willing m_will m_forgot m_isDrawn m_x m_begin m_round m_roundCards m_fate m_any m_bothSend m_meanCards m_bestSum m_fitMany m_fitFirst m_fitSecond)), ((m_a 5), .inl (cB, 1600, .inl m_tape_c))] H → va_D A [(m, .inr (11, mG m_a m_thrown m_taped j0_m_at m_token m_place m_value m_word m_bad m_badPlace m_fault m_faultPlace m_willing m_will m_forgot m_isDrawn m_x m_begin m_round m_roundCards m_fate m_any m_bothSend m_meanCards m_bestSum m_fitMany m_fitFirst m_fitSecond)), ((m_a 5), .inl (cB, 1600, .inl m_tape_c))] → va_S A s.heap H locs → lv_has ls 2 [(0, .ref m)] → W p l e (headSpec v_X12_next ({ frames := 1, cells := 0, slots := 0, locals := 23 })).room s mth av below meth c H locs 0 0 QQ (F0 mth 0 ls []) := by
    intro n0
    induction n0 with
    | zero => exact fun j0_m_at H locs ls hn => absurd hn (Nat.not_lt_zero _)
    | succ n0 ih0 =>
      intro j0_m_at H locs ls hn0 hj0_m_at hi0_0 hi0_1 hP hD hS hl
      refine lv_aload_n hx hb dX12_next_0 rfl (lv_at hl 0 rfl) ?_
      refine lv_aload_n hx hb dX12_next_1 rfl (lv_at hl 0 rfl) ?_
      refine va_get (D := g) (ci := 11) (v := .int j0_m_at) (C := RX12) (T := TX12) (N := 56) hx hb hts iX12 hown hK hP 0 rfl rfl 7 (by decide) (hts (.fieldLink RX12 131 "CardsAtYuleModel" "at" "I") (List.mem_cons_of_mem _ (List.mem_append_left _ (List.mem_of_getElem? (i := 0) rfl)))) (fun _ h9 => h9) rfl dX12_next_2 ?_
      refine lv_bipush (v := 32) hx hb dX12_next_5 (by decide) ?_
      refine lv_bipush (v := 32) hx hb dX12_next_7 (by decide) ?_
      refine ro_i (va_runV (As := [.int j0_m_at, .int 32, .int 32]) (rest := []) ⟨hx, hb, hml, hown, hts⟩ (q_X12_isByte l g cI cJ cB cZ cL j0_m_at 32 32 m m_a m_thrown m_taped j0_m_at m_token m_place m_value m_word m_bad m_badPlace m_fault m_faultPlace m_willing m_will m_forgot m_isDrawn m_x m_begin m_round m_roundCards m_fate m_any m_bothSend m_meanCards m_bestSum m_fitMany m_fitFirst m_fitSecond m_tape_c H.size hj0_m_at hv_m_taped hj0_m_at hv_m_will hv_m_isDrawn) (cwV 3 hts (goodIn_app (g_4 (List.mem_cons_of_mem _ (List.mem_append_left _ (List.mem_of_getElem? (i := 1) rfl))) (List.mem_cons_of_mem _ (List.mem_append_left _ (List.mem_of_getElem? (i := 2) rfl))) (List.mem_cons_of_mem _ (List.mem_append_left _ (List.mem_of_getElem? (i := 3) rfl))) (List.mem_cons_of_mem _ (List.mem_append_left _ (List.mem_of_getElem? (i := 4) rfl))) (by decide +kernel)) (goodIn_sub (fun _ h => List.mem_cons_of_mem _ (List.mem_append_right _ (List.mem_append_left _ h))) good_v_X12_isByte)) rfl rfl rfl (by decide +kernel) ⟨Nat.le_of_ble_eq_true rfl, Nat.le_of_ble_eq_true rfl⟩) (pv_RO (q := (RX12, TX12, 56)) (ci := 11) (q0 := 0) (wc := [(m, .inr (11, mG m_a m_thrown m_taped j0_m_at m_token m_place m_value m_word m_bad m_badPlace m_fault m_faultPlace m_willing m_will m_forgot m_isDrawn m_x m_begin m_round m_roundCards m_fate m_any m_bothSend m_meanCards m_bestSum m_fitMany m_fitFirst m_fitSecond)), ((m_a 5), .inl (cB, 1600, .inl m_tape_c))]) hK hP [0, 1] rfl rfl rfl) rfl rfl hl.1 rfl (lv_room (Nat.le_of_ble_eq_true rfl)) dX12_next_9 ⟨Nat.le_of_ble_eq_true rfl, Nat.le_of_ble_eq_true rfl⟩) hS hA hP (fun r9 u9 H locs hw9 hP hS => ?_)
      have hw9_0 := hw9
      rcases hw9_0 with ⟨er9, fc9_0, fc9_1⟩ | ⟨er9, fc9_0⟩
      · subst er9
        have fc9_0 : j0_m_at.toInt < m_taped.toInt := fc9_0
        have r9_0a : ir j0_m_at.toInt 0 1599 := ir_lta fc9_0 hj0_m_at hv_m_taped (by decide)
        have r9_0b : ir m_taped.toInt 1 1600 := ir_ltb fc9_0 hj0_m_at hv_m_taped (by decide)
        have fc9_1 : 32 ≤ (m_tape_c j0_m_at.toNatClampNeg).toInt ∧ (m_tape_c j0_m_at.toNatClampNeg).toInt ≤ 32 := fc9_1
        refine lv_if_ne (tgt := 30) hx hb dX12_next_12 (by decide) (fun _ => ?_) (fun c => absurd c (by decide))
        have J30 : ∀  (H : Heap) (locs : List Loc) (ls : Array Slot), (j0_m_at.toInt ≤ m_taped.toInt) → (m_at.toInt ≤ j0_m_at.toInt) → (j0_m_at.toInt < m_taped.toInt) → va_P g vwCl [(m, .inr (11, mG m_a m_thrown m_taped j0_m_at m_token m_place m_value m_word m_bad m_badPlace m_fault m_faultPlace m_willing m_will m_forgot m_isDrawn m_x m_begin m_round m_roundCards m_fate m_any m_bothSend m_meanCards m_bestSum m_fitMany m_fitFirst m_fitSecond)), ((m_a 5), .inl (cB, 1600, .inl m_tape_c))] H → va_D A [(m, .inr (11, mG m_a m_thrown m_taped j0_m_at m_token m_place m_value m_word m_bad m_badPlace m_fault m_faultPlace m_willing m_will m_forgot m_isDrawn m_x m_begin m_round m_roundCards m_fate m_any m_bothSend m_meanCards m_bestSum m_fitMany m_fitFirst m_fitSecond)), ((m_a 5), .inl (cB, 1600, .inl m_tape_c))] → va_S A s.heap H locs → lv_has ls 2 [(0, .ref m)] → W p l e (headSpec v_X12_next ({ frames := 1, cells := 0, slots := 0, locals := 23 })).room s mth av below meth c H locs 0 0 QQ (F0 mth 30 ls []) := by
          intro  H locs ls hi30_0 hi30_1 hi30_2 hP hD hS hl
          refine lv_aload_n hx hb dX12_next_30 rfl (lv_at hl 0 rfl) ?_
          refine lv_dup hx hb dX12_next_31 rfl ?_
          refine va_get (D := g) (ci := 11) (v := .int j0_m_at) (C := RX12) (T := TX12) (N := 56) hx hb hts iX12 hown hK hP 0 rfl rfl 7 (by decide) (hts (.fieldLink RX12 131 "CardsAtYuleModel" "at" "I") (List.mem_cons_of_mem _ (List.mem_append_left _ (List.mem_of_getElem? (i := 0) rfl)))) (fun _ h9 => h9) rfl dX12_next_32 ?_
          refine lv_iconst (v := 1) hx hb dX12_next_35 (by decide) ?_
          refine lv_iadd hx hb dX12_next_36 ?_
          refine lv_topi (fun y36 e36 => ?_)
          have q36 : y36.toInt = j0_m_at.toInt + 1 := by rw [e36]; exact ad_z rfl rfl r9_0a (ir_c 1) (by decide) (by decide)
          have r36 : ir y36.toInt 1 1600 := ad_r q36 r9_0a (ir_c 1) (by decide) (by decide)
          refine va_put (D := g) (ci := 11) (v := .int y36) (ty := .int) (C := RX12) (T := TX12) (N := 56) hx hb hts iX12 tyX12 tyX12_ok nmX12 hown hK hP hD hS 0 rfl rfl 7 (by decide) (hts (.fieldLink RX12 131 "CardsAtYuleModel" "at" "I") (List.mem_cons_of_mem _ (List.mem_append_left _ (List.mem_of_getElem? (i := 0) rfl)))) (fun _ h9 => h9) rfl (by decide +kernel) rfl rfl (Nat.le_of_ble_eq_true rfl) dX12_next_37 (fun H locs hP hD hS => ?_)
          have hP : va_P g vwCl [(m, .inr (11, mG m_a m_thrown m_taped y36 m_token m_place m_value m_word m_bad m_badPlace m_fault m_faultPlace m_willing m_will m_forgot m_isDrawn m_x m_begin m_round m_roundCards m_fate m_any m_bothSend m_meanCards m_bestSum m_fitMany m_fitFirst m_fitSecond)), ((m_a 5), .inl (cB, 1600, .inl m_tape_c))] H := hP
          have hD : va_D A [(m, .inr (11, mG m_a m_thrown m_taped y36 m_token m_place m_value m_word m_bad m_badPlace m_fault m_faultPlace m_willing m_will m_forgot m_isDrawn m_x m_begin m_round m_roundCards m_fate m_any m_bothSend m_meanCards m_bestSum m_fitMany m_fitFirst m_fitSecond)), ((m_a 5), .inl (cB, 1600, .inl m_tape_c))] := hD
          refine lv_goto (tgt := 0) hx hb dX12_next_40 (by decide) ?_
          exact ih0 y36 _ _ _ (by omega) (ir_w r36 (by decide) (by decide)) (by first | omega | decide) (by first | omega | decide) (hP.sub [0, 1] rfl) (hD.sub [0, 1] (by decide) rfl) hS (lv_sub hl [0] rfl)
        exact J30  _ _ _ (by first | omega | decide) (by first | omega | decide) (by first | omega | decide) (hP.sub [0, 1] rfl) (hD.sub [0, 1] (by decide) rfl) hS (lv_sub hl [0] rfl)
      subst er9
      have fc9_0 : ¬ (j0_m_at.toInt < m_taped.toInt ∧ 32 ≤ (m_tape_c j0_m_at.toNatClampNeg).toInt ∧ (m_tape_c j0_m_at.toNatClampNeg).toInt ≤ 32) := fc9_0
      refine lv_if_ne (tgt := 30) hx hb dX12_next_12 (by decide) (fun c => absurd c (by decide)) (fun _ => ?_)
      refine lv_aload_n hx hb dX12_next_15 rfl (lv_at hl 0 rfl) ?_
      refine lv_aload_n hx hb dX12_next_16 rfl (lv_at hl 0 rfl) ?_
      refine va_get (D := g) (ci := 11) (v := .int j0_m_at) (C := RX12) (T := TX12) (N := 56) hx hb hts iX12 hown hK hP 0 rfl rfl 7 (by decide) (hts (.fieldLink RX12 131 "CardsAtYuleModel" "at" "I") (List.mem_cons_of_mem _ (List.mem_append_left _ (List.mem_of_getElem? (i := 0) rfl)))) (fun _ h9 => h9) rfl dX12_next_17 ?_
      refine lv_bipush (v := 10) hx hb dX12_next_20 (by decide) ?_
      refine lv_bipush (v := 10) hx hb dX12_next_22 (by decide) ?_
      refine ro_i (va_runV (As := [.int j0_m_at, .int 10, .int 10]) (rest := []) ⟨hx, hb, hml, hown, hts⟩ (q_X12_isByte l g cI cJ cB cZ cL j0_m_at 10 10 m m_a m_thrown m_taped j0_m_at m_token m_place m_value m_word m_bad m_badPlace m_fault m_faultPlace m_willing m_will m_forgot m_isDrawn m_x m_begin m_round m_roundCards m_fate m_any m_bothSend m_meanCards m_bestSum m_fitMany m_fitFirst m_fitSecond m_tape_c H.size hj0_m_at hv_m_taped hj0_m_at hv_m_will hv_m_isDrawn) (cwV 3 hts (goodIn_app (g_4 (List.mem_cons_of_mem _ (List.mem_append_left _ (List.mem_of_getElem? (i := 1) rfl))) (List.mem_cons_of_mem _ (List.mem_append_left _ (List.mem_of_getElem? (i := 2) rfl))) (List.mem_cons_of_mem _ (List.mem_append_left _ (List.mem_of_getElem? (i := 3) rfl))) (List.mem_cons_of_mem _ (List.mem_append_left _ (List.mem_of_getElem? (i := 4) rfl))) (by decide +kernel)) (goodIn_sub (fun _ h => List.mem_cons_of_mem _ (List.mem_append_right _ (List.mem_append_left _ h))) good_v_X12_isByte)) rfl rfl rfl (by decide +kernel) ⟨Nat.le_of_ble_eq_true rfl, Nat.le_of_ble_eq_true rfl⟩) (pv_RO (q := (RX12, TX12, 56)) (ci := 11) (q0 := 0) (wc := [(m, .inr (11, mG m_a m_thrown m_taped j0_m_at m_token m_place m_value m_word m_bad m_badPlace m_fault m_faultPlace m_willing m_will m_forgot m_isDrawn m_x m_begin m_round m_roundCards m_fate m_any m_bothSend m_meanCards m_bestSum m_fitMany m_fitFirst m_fitSecond)), ((m_a 5), .inl (cB, 1600, .inl m_tape_c))]) hK hP [0, 1] rfl rfl rfl) rfl rfl hl.1 rfl (lv_room (Nat.le_of_ble_eq_true rfl)) dX12_next_24 ⟨Nat.le_of_ble_eq_true rfl, Nat.le_of_ble_eq_true rfl⟩) hS hA hP (fun r24 u24 H locs hw24 hP hS => ?_)
      have hw24_0 := hw24
      rcases hw24_0 with ⟨er24, fc24_0, fc24_1⟩ | ⟨er24, fc24_0⟩
      · subst er24
        have fc24_0 : j0_m_at.toInt < m_taped.toInt := fc24_0
        have r24_0a : ir j0_m_at.toInt 0 1599 := ir_lta fc24_0 hj0_m_at hv_m_taped (by decide)
        have r24_0b : ir m_taped.toInt 1 1600 := ir_ltb fc24_0 hj0_m_at hv_m_taped (by decide)
        have fc24_1 : 10 ≤ (m_tape_c j0_m_at.toNatClampNeg).toInt ∧ (m_tape_c j0_m_at.toNatClampNeg).toInt ≤ 10 := fc24_1
        refine lv_if_eq (tgt := 43) hx hb dX12_next_27 (by decide) (fun c => absurd c (by decide)) (fun _ => ?_)
        have J30 : ∀  (H : Heap) (locs : List Loc) (ls : Array Slot), (j0_m_at.toInt ≤ m_taped.toInt) → (m_at.toInt ≤ j0_m_at.toInt) → (j0_m_at.toInt < m_taped.toInt) → va_P g vwCl [(m, .inr (11, mG m_a m_thrown m_taped j0_m_at m_token m_place m_value m_word m_bad m_badPlace m_fault m_faultPlace m_willing m_will m_forgot m_isDrawn m_x m_begin m_round m_roundCards m_fate m_any m_bothSend m_meanCards m_bestSum m_fitMany m_fitFirst m_fitSecond)), ((m_a 5), .inl (cB, 1600, .inl m_tape_c))] H → va_D A [(m, .inr (11, mG m_a m_thrown m_taped j0_m_at m_token m_place m_value m_word m_bad m_badPlace m_fault m_faultPlace m_willing m_will m_forgot m_isDrawn m_x m_begin m_round m_roundCards m_fate m_any m_bothSend m_meanCards m_bestSum m_fitMany m_fitFirst m_fitSecond)), ((m_a 5), .inl (cB, 1600, .inl m_tape_c))] → va_S A s.heap H locs → lv_has ls 2 [(0, .ref m)] → W p l e (headSpec v_X12_next ({ frames := 1, cells := 0, slots := 0, locals := 23 })).room s mth av below meth c H locs 0 0 QQ (F0 mth 30 ls []) := by
          intro  H locs ls hi30_0 hi30_1 hi30_2 hP hD hS hl
          refine lv_aload_n hx hb dX12_next_30 rfl (lv_at hl 0 rfl) ?_
          refine lv_dup hx hb dX12_next_31 rfl ?_
          refine va_get (D := g) (ci := 11) (v := .int j0_m_at) (C := RX12) (T := TX12) (N := 56) hx hb hts iX12 hown hK hP 0 rfl rfl 7 (by decide) (hts (.fieldLink RX12 131 "CardsAtYuleModel" "at" "I") (List.mem_cons_of_mem _ (List.mem_append_left _ (List.mem_of_getElem? (i := 0) rfl)))) (fun _ h9 => h9) rfl dX12_next_32 ?_
          refine lv_iconst (v := 1) hx hb dX12_next_35 (by decide) ?_
          refine lv_iadd hx hb dX12_next_36 ?_
          refine lv_topi (fun y36 e36 => ?_)
          have q36 : y36.toInt = j0_m_at.toInt + 1 := by rw [e36]; exact ad_z rfl rfl r24_0a (ir_c 1) (by decide) (by decide)
          have r36 : ir y36.toInt 1 1600 := ad_r q36 r24_0a (ir_c 1) (by decide) (by decide)
          refine va_put (D := g) (ci := 11) (v := .int y36) (ty := .int) (C := RX12) (T := TX12) (N := 56) hx hb hts iX12 tyX12 tyX12_ok nmX12 hown hK hP hD hS 0 rfl rfl 7 (by decide) (hts (.fieldLink RX12 131 "CardsAtYuleModel" "at" "I") (List.mem_cons_of_mem _ (List.mem_append_left _ (List.mem_of_getElem? (i := 0) rfl)))) (fun _ h9 => h9) rfl (by decide +kernel) rfl rfl (Nat.le_of_ble_eq_true rfl) dX12_next_37 (fun H locs hP hD hS => ?_)
          have hP : va_P g vwCl [(m, .inr (11, mG m_a m_thrown m_taped y36 m_token m_place m_value m_word m_bad m_badPlace m_fault m_faultPlace m_willing m_will m_forgot m_isDrawn m_x m_begin m_round m_roundCards m_fate m_any m_bothSend m_meanCards m_bestSum m_fitMany m_fitFirst m_fitSecond)), ((m_a 5), .inl (cB, 1600, .inl m_tape_c))] H := hP
          have hD : va_D A [(m, .inr (11, mG m_a m_thrown m_taped y36 m_token m_place m_value m_word m_bad m_badPlace m_fault m_faultPlace m_willing m_will m_forgot m_isDrawn m_x m_begin m_round m_roundCards m_fate m_any m_bothSend m_meanCards m_bestSum m_fitMany m_fitFirst m_fitSecond)), ((m_a 5), .inl (cB, 1600, .inl m_tape_c))] := hD
          refine lv_goto (tgt := 0) hx hb dX12_next_40 (by decide) ?_
          exact ih0 y36 _ _ _ (by omega) (ir_w r36 (by decide) (by decide)) (by first | omega | decide) (by first | omega | decide) (hP.sub [0, 1] rfl) (hD.sub [0, 1] (by decide) rfl) hS (lv_sub hl [0] rfl)
        exact J30  _ _ _ (by first | omega | decide) (by first | omega | decide) (by first | omega | decide) (hP.sub [0, 1] rfl) (hD.sub [0, 1] (by decide) rfl) hS (lv_sub hl [0] rfl)
      subst er24
      have fc24_0 : ¬ (j0_m_at.toInt < m_taped.toInt ∧ 10 ≤ (m_tape_c j0_m_at.toNatClampNeg).toInt ∧ (m_tape_c j0_m_at.toNatClampNeg).toInt ≤ 10) := fc24_0
      refine lv_if_eq (tgt := 43) hx hb dX12_next_27 (by decide) (fun _ => ?_) (fun c => absurd c (by decide))
      refine lv_aload_n hx hb dX12_next_43 rfl (lv_at hl 0 rfl) ?_
      refine lv_aload_n hx hb dX12_next_44 rfl (lv_at hl 0 rfl) ?_
      refine va_get (D := g) (ci := 11) (v := .int j0_m_at) (C := RX12) (T := TX12) (N := 56) hx hb hts iX12 hown hK hP 0 rfl rfl 7 (by decide) (hts (.fieldLink RX12 131 "CardsAtYuleModel" "at" "I") (List.mem_cons_of_mem _ (List.mem_append_left _ (List.mem_of_getElem? (i := 0) rfl)))) (fun _ h9 => h9) rfl dX12_next_45 ?_
      refine va_put (D := g) (ci := 11) (v := .int j0_m_at) (ty := .int) (C := RX12) (T := TX12) (N := 56) hx hb hts iX12 tyX12 tyX12_ok nmX12 hown hK hP hD hS 0 rfl rfl 9 (by decide) (hts (.fieldLink RX12 138 "CardsAtYuleModel" "place" "I") (List.mem_cons_of_mem _ (List.mem_append_left _ (List.mem_of_getElem? (i := 5) rfl)))) (fun _ h9 => h9) rfl (by decide +kernel) rfl rfl (Nat.le_of_ble_eq_true rfl) dX12_next_48 (fun H locs hP hD hS => ?_)
      have hP : va_P g vwCl [(m, .inr (11, mG m_a m_thrown m_taped j0_m_at m_token j0_m_at m_value m_word m_bad m_badPlace m_fault m_faultPlace m_willing m_will m_forgot m_isDrawn m_x m_begin m_round m_roundCards m_fate m_any m_bothSend m_meanCards m_bestSum m_fitMany m_fitFirst m_fitSecond)), ((m_a 5), .inl (cB, 1600, .inl m_tape_c))] H := hP
      have hD : va_D A [(m, .inr (11, mG m_a m_thrown m_taped j0_m_at m_token j0_m_at m_value m_word m_bad m_badPlace m_fault m_faultPlace m_willing m_will m_forgot m_isDrawn m_x m_begin m_round m_roundCards m_fate m_any m_bothSend m_meanCards m_bestSum m_fitMany m_fitFirst m_fitSecond)), ((m_a 5), .inl (cB, 1600, .inl m_tape_c))] := hD
      refine lv_aload_n hx hb dX12_next_51 rfl (lv_at hl 0 rfl) ?_
      refine lv_iconst (v := 0) hx hb dX12_next_52 (by decide) ?_
      refine va_put (D := g) (ci := 11) (v := .int 0) (ty := .int) (C := RX12) (T := TX12) (N := 56) hx hb hts iX12 tyX12 tyX12_ok nmX12 hown hK hP hD hS 0 rfl rfl 10 (by decide) (hts (.fieldLink RX12 141 "CardsAtYuleModel" "value" "I") (List.mem_cons_of_mem _ (List.mem_append_left _ (List.mem_of_getElem? (i := 6) rfl)))) (fun _ h9 => h9) rfl (by decide +kernel) rfl rfl (Nat.le_of_ble_eq_true rfl) dX12_next_53 (fun H locs hP hD hS => ?_)
      have hP : va_P g vwCl [(m, .inr (11, mG m_a m_thrown m_taped j0_m_at m_token j0_m_at 0 m_word m_bad m_badPlace m_fault m_faultPlace m_willing m_will m_forgot m_isDrawn m_x m_begin m_round m_roundCards m_fate m_any m_bothSend m_meanCards m_bestSum m_fitMany m_fitFirst m_fitSecond)), ((m_a 5), .inl (cB, 1600, .inl m_tape_c))] H := hP
      have hD : va_D A [(m, .inr (11, mG m_a m_thrown m_taped j0_m_at m_token j0_m_at 0 m_word m_bad m_badPlace m_fault m_faultPlace m_willing m_will m_forgot m_isDrawn m_x m_begin m_round m_roundCards m_fate m_any m_bothSend m_meanCards m_bestSum m_fitMany m_fitFirst m_fitSecond)), ((m_a 5), .inl (cB, 1600, .inl m_tape_c))] := hD
      refine lv_aload_n hx hb dX12_next_56 rfl (lv_at hl 0 rfl) ?_
      refine lv_lconst (v := 0) hx hb dX12_next_57 (by decide) ?_
      refine va_put (D := g) (ci := 11) (v := .long 0) (ty := .long) (C := RX12) (T := TX12) (N := 56) hx hb hts iX12 tyX12 tyX12_ok nmX12 hown hK hP hD hS 0 rfl rfl 11 (by decide) (hts (.fieldLink RX12 144 "CardsAtYuleModel" "word" "J") (List.mem_cons_of_mem _ (List.mem_append_left _ (List.mem_of_getElem? (i := 7) rfl)))) (fun _ h9 => h9) rfl (by decide +kernel) rfl rfl (Nat.le_of_ble_eq_true rfl) dX12_next_58 (fun H locs hP hD hS => ?_)
      have hP : va_P g vwCl [(m, .inr (11, mG m_a m_thrown m_taped j0_m_at m_token j0_m_at 0 0 m_bad m_badPlace m_fault m_faultPlace m_willing m_will m_forgot m_isDrawn m_x m_begin m_round m_roundCards m_fate m_any m_bothSend m_meanCards m_bestSum m_fitMany m_fitFirst m_fitSecond)), ((m_a 5), .inl (cB, 1600, .inl m_tape_c))] H := hP
      have hD : va_D A [(m, .inr (11, mG m_a m_thrown m_taped j0_m_at m_token j0_m_at 0 0 m_bad m_badPlace m_fault m_faultPlace m_willing m_will m_forgot m_isDrawn m_x m_begin m_round m_roundCards m_fate m_any m_bothSend m_meanCards m_bestSum m_fitMany m_fitFirst m_fitSecond)), ((m_a 5), .inl (cB, 1600, .inl m_tape_c))] := hD
      refine lv_aload_n hx hb dX12_next_61 rfl (lv_at hl 0 rfl) ?_
      refine va_get (D := g) (ci := 11) (v := .int j0_m_at) (C := RX12) (T := TX12) (N := 56) hx hb hts iX12 hown hK hP 0 rfl rfl 7 (by decide) (hts (.fieldLink RX12 131 "CardsAtYuleModel" "at" "I") (List.mem_cons_of_mem _ (List.mem_append_left _ (List.mem_of_getElem? (i := 0) rfl)))) (fun _ h9 => h9) rfl dX12_next_62 ?_
      refine lv_aload_n hx hb dX12_next_65 rfl (lv_at hl 0 rfl) ?_
      refine va_get (D := g) (ci := 11) (v := .int m_taped) (C := RX12) (T := TX12) (N := 56) hx hb hts iX12 hown hK hP 0 rfl rfl 6 (by decide) (hts (.fieldLink RX12 124 "CardsAtYuleModel" "taped" "I") (List.mem_cons_of_mem _ (List.mem_append_left _ (List.mem_of_getElem? (i := 8) rfl)))) (fun _ h9 => h9) rfl dX12_next_66 ?_
      refine lv_icmp_ne (tgt := 80) hx hb dX12_next_69 (by decide) (fun c69 => ?_) (fun c69 => ?_)
      rotate_left 1
      · have f69 := (show j0_m_at.toInt = m_taped.toInt from z_eq rfl rfl c69)
        refine lv_aload_n hx hb dX12_next_72 rfl (lv_at hl 0 rfl) ?_
        refine lv_iconst (v := 0) hx hb dX12_next_73 (by decide) ?_
        refine va_put (D := g) (ci := 11) (v := .int 0) (ty := .int) (C := RX12) (T := TX12) (N := 56) hx hb hts iX12 tyX12 tyX12_ok nmX12 hown hK hP hD hS 0 rfl rfl 8 (by decide) (hts (.fieldLink RX12 148 "CardsAtYuleModel" "token" "I") (List.mem_cons_of_mem _ (List.mem_append_left _ (List.mem_of_getElem? (i := 9) rfl)))) (fun _ h9 => h9) rfl (by decide +kernel) rfl rfl (Nat.le_of_ble_eq_true rfl) dX12_next_74 (fun H locs hP hD hS => ?_)
        have hP : va_P g vwCl [(m, .inr (11, mG m_a m_thrown m_taped j0_m_at 0 j0_m_at 0 0 m_bad m_badPlace m_fault m_faultPlace m_willing m_will m_forgot m_isDrawn m_x m_begin m_round m_roundCards m_fate m_any m_bothSend m_meanCards m_bestSum m_fitMany m_fitFirst m_fitSecond)), ((m_a 5), .inl (cB, 1600, .inl m_tape_c))] H := hP
        have hD : va_D A [(m, .inr (11, mG m_a m_thrown m_taped j0_m_at 0 j0_m_at 0 0 m_bad m_badPlace m_fault m_faultPlace m_willing m_will m_forgot m_isDrawn m_x m_begin m_round m_roundCards m_fate m_any m_bothSend m_meanCards m_bestSum m_fitMany m_fitFirst m_fitSecond)), ((m_a 5), .inl (cB, 1600, .inl m_tape_c))] := hD
        refine lv_goto (tgt := 307) hx hb dX12_next_77 (by decide) ?_
        subst hQ
        have hP9 := hP.sub (ws' := [(m, .inr (11, mG m_a m_thrown m_taped j0_m_at 0 j0_m_at 0 0 m_bad m_badPlace m_fault m_faultPlace m_willing m_will m_forgot m_isDrawn m_x m_begin m_round m_roundCards m_fate m_any m_bothSend m_meanCards m_bestSum m_fitMany m_fitFirst m_fitSecond)), ((m_a 5), .inl (cB, 1600, .inl m_tape_c))]) [0, 1] rfl
        have hD9 := hD.sub (ws' := [(m, .inr (11, mG m_a m_thrown m_taped j0_m_at 0 j0_m_at 0 0 m_bad m_badPlace m_fault m_faultPlace m_willing m_will m_forgot m_isDrawn m_x m_begin m_round m_roundCards m_fate m_any m_bothSend m_meanCards m_bestSum m_fitMany m_fitFirst m_fitSecond)), ((m_a 5), .inl (cB, 1600, .inl m_tape_c))]) [0, 1] (by decide) rfl
        exact W.vret hx hb hr (fun t ht hW => ⟨⟨(j0_m_at, 0, j0_m_at, 0, 0), rfl, ⟨hj0_m_at, (show ir (0 : Int32).toInt 0 4 by decide), hj0_m_at, (by have kc0 : (0 : Int32).toInt = 0 := rfl; omega)⟩, ⟨by rw [ht]; exact hP9, va_K.moved hW.alike hK, hD9⟩⟩, hS.F ht⟩) hS.2.2 dX12_next_307
      have f69 := (show j0_m_at.toInt ≠ m_taped.toInt from z_ne rfl rfl c69)
      refine lv_aload_n hx hb dX12_next_80 rfl (lv_at hl 0 rfl) ?_
      refine lv_aload_n hx hb dX12_next_81 rfl (lv_at hl 0 rfl) ?_
      refine va_get (D := g) (ci := 11) (v := .int j0_m_at) (C := RX12) (T := TX12) (N := 56) hx hb hts iX12 hown hK hP 0 rfl rfl 7 (by decide) (hts (.fieldLink RX12 131 "CardsAtYuleModel" "at" "I") (List.mem_cons_of_mem _ (List.mem_append_left _ (List.mem_of_getElem? (i := 0) rfl)))) (fun _ h9 => h9) rfl dX12_next_82 ?_
      refine lv_bipush (v := 97) hx hb dX12_next_85 (by decide) ?_
      refine lv_bipush (v := 122) hx hb dX12_next_87 (by decide) ?_
      refine ro_i (va_runV (As := [.int j0_m_at, .int 97, .int 122]) (rest := []) ⟨hx, hb, hml, hown, hts⟩ (q_X12_isByte l g cI cJ cB cZ cL j0_m_at 97 122 m m_a m_thrown m_taped j0_m_at m_token j0_m_at 0 0 m_bad m_badPlace m_fault m_faultPlace m_willing m_will m_forgot m_isDrawn m_x m_begin m_round m_roundCards m_fate m_any m_bothSend m_meanCards m_bestSum m_fitMany m_fitFirst m_fitSecond m_tape_c H.size hj0_m_at hv_m_taped hj0_m_at hv_m_will hv_m_isDrawn) (cwV 3 hts (goodIn_app (g_4 (List.mem_cons_of_mem _ (List.mem_append_left _ (List.mem_of_getElem? (i := 1) rfl))) (List.mem_cons_of_mem _ (List.mem_append_left _ (List.mem_of_getElem? (i := 2) rfl))) (List.mem_cons_of_mem _ (List.mem_append_left _ (List.mem_of_getElem? (i := 3) rfl))) (List.mem_cons_of_mem _ (List.mem_append_left _ (List.mem_of_getElem? (i := 4) rfl))) (by decide +kernel)) (goodIn_sub (fun _ h => List.mem_cons_of_mem _ (List.mem_append_right _ (List.mem_append_left _ h))) good_v_X12_isByte)) rfl rfl rfl (by decide +kernel) ⟨Nat.le_of_ble_eq_true rfl, Nat.le_of_ble_eq_true rfl⟩) (pv_RO (q := (RX12, TX12, 56)) (ci := 11) (q0 := 0) (wc := [(m, .inr (11, mG m_a m_thrown m_taped j0_m_at m_token j0_m_at 0 0 m_bad m_badPlace m_fault m_faultPlace m_willing m_will m_forgot m_isDrawn m_x m_begin m_round m_roundCards m_fate m_any m_bothSend m_meanCards m_bestSum m_fitMany m_fitFirst m_fitSecond)), ((m_a 5), .inl (cB, 1600, .inl m_tape_c))]) hK hP [0, 1] rfl rfl rfl) rfl rfl hl.1 rfl (lv_room (Nat.le_of_ble_eq_true rfl)) dX12_next_89 ⟨Nat.le_of_ble_eq_true rfl, Nat.le_of_ble_eq_true rfl⟩) hS hA hP (fun r89 u89 H locs hw89 hP hS => ?_)
      have hw89_0 := hw89
      rcases hw89_0 with ⟨er89, fc89_0, fc89_1⟩ | ⟨er89, fc89_0⟩
      · subst er89
        have fc89_0 : j0_m_at.toInt < m_taped.toInt := fc89_0
        have r89_0a : ir j0_m_at.toInt 0 1599 := ir_lta fc89_0 hj0_m_at hv_m_taped (by decide)
        have r89_0b : ir m_taped.toInt 1 1600 := ir_ltb fc89_0 hj0_m_at hv_m_taped (by decide)
        have fc89_1 : 97 ≤ (m_tape_c j0_m_at.toNatClampNeg).toInt ∧ (m_tape_c j0_m_at.toNatClampNeg).toInt ≤ 122 := fc89_1
        refine lv_if_eq (tgt := 188) hx hb dX12_next_92 (by decide) (fun c => absurd c (by decide)) (fun _ => ?_)
        refine lv_aload_n hx hb dX12_next_95 rfl (lv_at hl 0 rfl) ?_
        refine lv_iconst (v := 1) hx hb dX12_next_96 (by decide) ?_
        refine va_put (D := g) (ci := 11) (v := .int 1) (ty := .int) (C := RX12) (T := TX12) (N := 56) hx hb hts iX12 tyX12 tyX12_ok nmX12 hown hK hP hD hS 0 rfl rfl 8 (by decide) (hts (.fieldLink RX12 148 "CardsAtYuleModel" "token" "I") (List.mem_cons_of_mem _ (List.mem_append_left _ (List.mem_of_getElem? (i := 9) rfl)))) (fun _ h9 => h9) rfl (by decide +kernel) rfl rfl (Nat.le_of_ble_eq_true rfl) dX12_next_97 (fun H locs hP hD hS => ?_)
        have hP : va_P g vwCl [(m, .inr (11, mG m_a m_thrown m_taped j0_m_at 1 j0_m_at 0 0 m_bad m_badPlace m_fault m_faultPlace m_willing m_will m_forgot m_isDrawn m_x m_begin m_round m_roundCards m_fate m_any m_bothSend m_meanCards m_bestSum m_fitMany m_fitFirst m_fitSecond)), ((m_a 5), .inl (cB, 1600, .inl m_tape_c))] H := hP
        have hD : va_D A [(m, .inr (11, mG m_a m_thrown m_taped j0_m_at 1 j0_m_at 0 0 m_bad m_badPlace m_fault m_faultPlace m_willing m_will m_forgot m_isDrawn m_x m_begin m_round m_roundCards m_fate m_any m_bothSend m_meanCards m_bestSum m_fitMany m_fitFirst m_fitSecond)), ((m_a 5), .inl (cB, 1600, .inl m_tape_c))] := hD
        refine lv_iconst (v := 0) hx hb dX12_next_100 (by decide) ?_
        refine lv_istore_n (lv' := [(1, .int 0), (0, .ref m)]) hx hb dX12_next_101 rfl hl (by decide) rfl (fun ls hl => ?_)
        have J102 : ∀ (n102 : Nat) (j102_l1 : Int32) (j102_m_at : Int32) (j102_m_word : Int64) (H : Heap) (locs : List Loc) (ls : Array Slot), (1601 - j102_m_at.toInt).toNat < n102 → (ir j102_m_at.toInt 0 1600) → (j102_m_at.toInt ≤ m_taped.toInt) → (m_at.toInt ≤ j0_m_at.toInt) → (j0_m_at.toInt ≤ j102_m_at.toInt) → (j0_m_at.toInt < j102_m_at.toInt ∨ (j102_m_at.toInt < m_taped.toInt ∧ 97 ≤ (m_tape_c j102_m_at.toNatClampNeg).toInt ∧ (m_tape_c j102_m_at.toNatClampNeg).toInt ≤ 122)) → va_P g vwCl [(m, .inr (11, mG m_a m_thrown m_taped j102_m_at 1 j0_m_at 0 j102_m_word m_bad m_badPlace m_fault m_faultPlace m_willing m_will m_forgot m_isDrawn m_x m_begin m_round m_roundCards m_fate m_any m_bothSend m_meanCards m_bestSum m_fitMany m_fitFirst m_fitSecond)), ((m_a 5), .inl (cB, 1600, .inl m_tape_c))] H → va_D A [(m, .inr (11, mG m_a m_thrown m_taped j102_m_at 1 j0_m_at 0 j102_m_word m_bad m_badPlace m_fault m_faultPlace m_willing m_will m_forgot m_isDrawn m_x m_begin m_round m_roundCards m_fate m_any m_bothSend m_meanCards m_bestSum m_fitMany m_fitFirst m_fitSecond)), ((m_a 5), .inl (cB, 1600, .inl m_tape_c))] → va_S A s.heap H locs → lv_has ls 2 [(0, .ref m), (1, .int j102_l1)] → W p l e (headSpec v_X12_next ({ frames := 1, cells := 0, slots := 0, locals := 23 })).room s mth av below meth c H locs 0 0 QQ (F0 mth 102 ls []) := by
          intro n102
          induction n102 with
          | zero => exact fun j102_l1 j102_m_at j102_m_word H locs ls hn => absurd hn (Nat.not_lt_zero _)
          | succ n102 ih102 =>
            intro j102_l1 j102_m_at j102_m_word H locs ls hn102 hj102_m_at hi102_0 hi102_1 hi102_2 hi102_3 hP hD hS hl
            refine lv_aload_n hx hb dX12_next_102 rfl (lv_at hl 0 rfl) ?_
            refine lv_aload_n hx hb dX12_next_103 rfl (lv_at hl 0 rfl) ?_
            refine va_get (D := g) (ci := 11) (v := .int j102_m_at) (C := RX12) (T := TX12) (N := 56) hx hb hts iX12 hown hK hP 0 rfl rfl 7 (by decide) (hts (.fieldLink RX12 131 "CardsAtYuleModel" "at" "I") (List.mem_cons_of_mem _ (List.mem_append_left _ (List.mem_of_getElem? (i := 0) rfl)))) (fun _ h9 => h9) rfl dX12_next_104 ?_
            refine lv_bipush (v := 97) hx hb dX12_next_107 (by decide) ?_
            refine lv_bipush (v := 122) hx hb dX12_next_109 (by decide) ?_
            refine ro_i (va_runV (As := [.int j102_m_at, .int 97, .int 122]) (rest := []) ⟨hx, hb, hml, hown, hts⟩ (q_X12_isByte l g cI cJ cB cZ cL j102_m_at 97 122 m m_a m_thrown m_taped j102_m_at 1 j0_m_at 0 j102_m_word m_bad m_badPlace m_fault m_faultPlace m_willing m_will m_forgot m_isDrawn m_x m_begin m_round m_roundCards m_fate m_any m_bothSend m_meanCards m_bestSum m_fitMany m_fitFirst m_fitSecond m_tape_c H.size hj102_m_at (ir_w r89_0b (by decide) (by decide)) hj102_m_at hv_m_will hv_m_isDrawn) (cwV 3 hts (goodIn_app (g_4 (List.mem_cons_of_mem _ (List.mem_append_left _ (List.mem_of_getElem? (i := 1) rfl))) (List.mem_cons_of_mem _ (List.mem_append_left _ (List.mem_of_getElem? (i := 2) rfl))) (List.mem_cons_of_mem _ (List.mem_append_left _ (List.mem_of_getElem? (i := 3) rfl))) (List.mem_cons_of_mem _ (List.mem_append_left _ (List.mem_of_getElem? (i := 4) rfl))) (by decide +kernel)) (goodIn_sub (fun _ h => List.mem_cons_of_mem _ (List.mem_append_right _ (List.mem_append_left _ h))) good_v_X12_isByte)) rfl rfl rfl (by decide +kernel) ⟨Nat.le_of_ble_eq_true rfl, Nat.le_of_ble_eq_true rfl⟩) (pv_RO (q := (RX12, TX12, 56)) (ci := 11) (q0 := 0) (wc := [(m, .inr (11, mG m_a m_thrown m_taped j102_m_at 1 j0_m_at 0 j102_m_word m_bad m_badPlace m_fault m_faultPlace m_willing m_will m_forgot m_isDrawn m_x m_begin m_round m_roundCards m_fate m_any m_bothSend m_meanCards m_bestSum m_fitMany m_fitFirst m_fitSecond)), ((m_a 5), .inl (cB, 1600, .inl m_tape_c))]) hK hP [0, 1] rfl rfl rfl) rfl rfl hl.1 rfl (lv_room (Nat.le_of_ble_eq_true rfl)) dX12_next_111 ⟨Nat.le_of_ble_eq_true rfl, Nat.le_of_ble_eq_true rfl⟩) hS hA hP (fun r111 u111 H locs hw111 hP hS => ?_)
            have hw111_0 := hw111
            rcases hw111_0 with ⟨er111, fc111_0, fc111_1⟩ | ⟨er111, fc111_0⟩
            rotate_left 1
            · subst er111
              have fc111_0 : ¬ (j102_m_at.toInt < m_taped.toInt ∧ 97 ≤ (m_tape_c j102_m_at.toNatClampNeg).toInt ∧ (m_tape_c j102_m_at.toNatClampNeg).toInt ≤ 122) := fc111_0
              refine lv_if_eq (tgt := 185) hx hb dX12_next_114 (by decide) (fun _ => ?_) (fun c => absurd c (by decide))
              refine lv_goto (tgt := 307) hx hb dX12_next_185 (by decide) ?_
              subst hQ
              have hP9 := hP.sub (ws' := [(m, .inr (11, mG m_a m_thrown m_taped j102_m_at 1 j0_m_at 0 j102_m_word m_bad m_badPlace m_fault m_faultPlace m_willing m_will m_forgot m_isDrawn m_x m_begin m_round m_roundCards m_fate m_any m_bothSend m_meanCards m_bestSum m_fitMany m_fitFirst m_fitSecond)), ((m_a 5), .inl (cB, 1600, .inl m_tape_c))]) [0, 1] rfl
              have hD9 := hD.sub (ws' := [(m, .inr (11, mG m_a m_thrown m_taped j102_m_at 1 j0_m_at 0 j102_m_word m_bad m_badPlace m_fault m_faultPlace m_willing m_will m_forgot m_isDrawn m_x m_begin m_round m_roundCards m_fate m_any m_bothSend m_meanCards m_bestSum m_fitMany m_fitFirst m_fitSecond)), ((m_a 5), .inl (cB, 1600, .inl m_tape_c))]) [0, 1] (by decide) rfl
              exact W.vret hx hb hr (fun t ht hW => ⟨⟨(j102_m_at, 1, j0_m_at, 0, j102_m_word), rfl, ⟨hj102_m_at, (show ir (1 : Int32).toInt 0 4 by decide), (ir_w r89_0a (by decide) (by decide)), (by have kc0 : (0 : Int32).toInt = 0 := rfl; have kc1 : (1 : Int32).toInt = 1 := rfl; omega)⟩, ⟨by rw [ht]; exact hP9, va_K.moved hW.alike hK, hD9⟩⟩, hS.F ht⟩) hS.2.2 dX12_next_307
            subst er111
            have fc111_0 : j102_m_at.toInt < m_taped.toInt := fc111_0
            have r111_0a : ir j102_m_at.toInt 0 1599 := ir_lta fc111_0 hj102_m_at r89_0b (by decide)
            have fc111_1 : 97 ≤ (m_tape_c j102_m_at.toNatClampNeg).toInt ∧ (m_tape_c j102_m_at.toNatClampNeg).toInt ≤ 122 := fc111_1
            refine lv_if_eq (tgt := 185) hx hb dX12_next_114 (by decide) (fun c => absurd c (by decide)) (fun _ => ?_)
            refine lv_aload_n hx hb dX12_next_117 rfl (lv_at hl 0 rfl) ?_
            refine lv_iload_n hx hb dX12_next_118 rfl (lv_at hl 1 rfl) ?_
            refine lv_bipush (v := 11) hx hb dX12_next_119 (by decide) ?_
            have J153 : ∀ (j153_s0 : Int64) (H : Heap) (locs : List Loc) (ls : Array Slot), (j102_m_at.toInt ≤ m_taped.toInt) → (m_at.toInt ≤ j0_m_at.toInt) → (j0_m_at.toInt ≤ j102_m_at.toInt) → (j102_m_at.toInt < m_taped.toInt) → va_P g vwCl [(m, .inr (11, mG m_a m_thrown m_taped j102_m_at 1 j0_m_at 0 j102_m_word m_bad m_badPlace m_fault m_faultPlace m_willing m_will m_forgot m_isDrawn m_x m_begin m_round m_roundCards m_fate m_any m_bothSend m_meanCards m_bestSum m_fitMany m_fitFirst m_fitSecond)), ((m_a 5), .inl (cB, 1600, .inl m_tape_c))] H → va_D A [(m, .inr (11, mG m_a m_thrown m_taped j102_m_at 1 j0_m_at 0 j102_m_word m_bad m_badPlace m_fault m_faultPlace m_willing m_will m_forgot m_isDrawn m_x m_begin m_round m_roundCards m_fate m_any m_bothSend m_meanCards m_bestSum m_fitMany m_fitFirst m_fitSecond)), ((m_a 5), .inl (cB, 1600, .inl m_tape_c))] → va_S A s.heap H locs → lv_has ls 2 [(0, .ref m), (1, .int j102_l1)] → W p l e (headSpec v_X12_next ({ frames := 1, cells := 0, slots := 0, locals := 23 })).room s mth av below meth c H locs 0 0 QQ (F0 mth 153 ls [.long j153_s0, .ref m]) := by
              intro j153_s0 H locs ls hi153_0 hi153_1 hi153_2 hi153_3 hP hD hS hl
              refine va_put (D := g) (ci := 11) (v := .long j153_s0) (ty := .long) (C := RX12) (T := TX12) (N := 56) hx hb hts iX12 tyX12 tyX12_ok nmX12 hown hK hP hD hS 0 rfl rfl 11 (by decide) (hts (.fieldLink RX12 144 "CardsAtYuleModel" "word" "J") (List.mem_cons_of_mem _ (List.mem_append_left _ (List.mem_of_getElem? (i := 7) rfl)))) (fun _ h9 => h9) rfl (by decide +kernel) rfl rfl (Nat.le_of_ble_eq_true rfl) dX12_next_153 (fun H locs hP hD hS => ?_)
              have hP : va_P g vwCl [(m, .inr (11, mG m_a m_thrown m_taped j102_m_at 1 j0_m_at 0 j153_s0 m_bad m_badPlace m_fault m_faultPlace m_willing m_will m_forgot m_isDrawn m_x m_begin m_round m_roundCards m_fate m_any m_bothSend m_meanCards m_bestSum m_fitMany m_fitFirst m_fitSecond)), ((m_a 5), .inl (cB, 1600, .inl m_tape_c))] H := hP
              have hD : va_D A [(m, .inr (11, mG m_a m_thrown m_taped j102_m_at 1 j0_m_at 0 j153_s0 m_bad m_badPlace m_fault m_faultPlace m_willing m_will m_forgot m_isDrawn m_x m_begin m_round m_roundCards m_fate m_any m_bothSend m_meanCards m_bestSum m_fitMany m_fitFirst m_fitSecond)), ((m_a 5), .inl (cB, 1600, .inl m_tape_c))] := hD
              refine lv_iload_n hx hb dX12_next_156 rfl (lv_at hl 1 rfl) ?_
              refine lv_bipush (v := 11) hx hb dX12_next_157 (by decide) ?_
              have J169 : ∀ (j169_m_word : Int64) (H : Heap) (locs : List Loc) (ls : Array Slot), (j102_m_at.toInt ≤ m_taped.toInt) → (m_at.toInt ≤ j0_m_at.toInt) → (j0_m_at.toInt ≤ j102_m_at.toInt) → (j102_m_at.toInt < m_taped.toInt) → va_P g vwCl [(m, .inr (11, mG m_a m_thrown m_taped j102_m_at 1 j0_m_at 0 j169_m_word m_bad m_badPlace m_fault m_faultPlace m_willing m_will m_forgot m_isDrawn m_x m_begin m_round m_roundCards m_fate m_any m_bothSend m_meanCards m_bestSum m_fitMany m_fitFirst m_fitSecond)), ((m_a 5), .inl (cB, 1600, .inl m_tape_c))] H → va_D A [(m, .inr (11, mG m_a m_thrown m_taped j102_m_at 1 j0_m_at 0 j169_m_word m_bad m_badPlace m_fault m_faultPlace m_willing m_will m_forgot m_isDrawn m_x m_begin m_round m_roundCards m_fate m_any m_bothSend m_meanCards m_bestSum m_fitMany m_fitFirst m_fitSecond)), ((m_a 5), .inl (cB, 1600, .inl m_tape_c))] → va_S A s.heap H locs → lv_has ls 2 [(0, .ref m), (1, .int j102_l1)] → W p l e (headSpec v_X12_next ({ frames := 1, cells := 0, slots := 0, locals := 23 })).room s mth av below meth c H locs 0 0 QQ (F0 mth 169 ls []) := by
                intro j169_m_word H locs ls hi169_0 hi169_1 hi169_2 hi169_3 hP hD hS hl
                refine lv_aload_n hx hb dX12_next_169 rfl (lv_at hl 0 rfl) ?_
                refine lv_dup hx hb dX12_next_170 rfl ?_
                refine va_get (D := g) (ci := 11) (v := .int j102_m_at) (C := RX12) (T := TX12) (N := 56) hx hb hts iX12 hown hK hP 0 rfl rfl 7 (by decide) (hts (.fieldLink RX12 131 "CardsAtYuleModel" "at" "I") (List.mem_cons_of_mem _ (List.mem_append_left _ (List.mem_of_getElem? (i := 0) rfl)))) (fun _ h9 => h9) rfl dX12_next_171 ?_
                refine lv_iconst (v := 1) hx hb dX12_next_174 (by decide) ?_
                refine lv_iadd hx hb dX12_next_175 ?_
                refine lv_topi (fun y175 e175 => ?_)
                have q175 : y175.toInt = j102_m_at.toInt + 1 := by rw [e175]; exact ad_z rfl rfl r111_0a (ir_c 1) (by decide) (by decide)
                have r175 : ir y175.toInt 1 1600 := ad_r q175 r111_0a (ir_c 1) (by decide) (by decide)
                refine va_put (D := g) (ci := 11) (v := .int y175) (ty := .int) (C := RX12) (T := TX12) (N := 56) hx hb hts iX12 tyX12 tyX12_ok nmX12 hown hK hP hD hS 0 rfl rfl 7 (by decide) (hts (.fieldLink RX12 131 "CardsAtYuleModel" "at" "I") (List.mem_cons_of_mem _ (List.mem_append_left _ (List.mem_of_getElem? (i := 0) rfl)))) (fun _ h9 => h9) rfl (by decide +kernel) rfl rfl (Nat.le_of_ble_eq_true rfl) dX12_next_176 (fun H locs hP hD hS => ?_)
                have hP : va_P g vwCl [(m, .inr (11, mG m_a m_thrown m_taped y175 1 j0_m_at 0 j169_m_word m_bad m_badPlace m_fault m_faultPlace m_willing m_will m_forgot m_isDrawn m_x m_begin m_round m_roundCards m_fate m_any m_bothSend m_meanCards m_bestSum m_fitMany m_fitFirst m_fitSecond)), ((m_a 5), .inl (cB, 1600, .inl m_tape_c))] H := hP
                have hD : va_D A [(m, .inr (11, mG m_a m_thrown m_taped y175 1 j0_m_at 0 j169_m_word m_bad m_badPlace m_fault m_faultPlace m_willing m_will m_forgot m_isDrawn m_x m_begin m_round m_roundCards m_fate m_any m_bothSend m_meanCards m_bestSum m_fitMany m_fitFirst m_fitSecond)), ((m_a 5), .inl (cB, 1600, .inl m_tape_c))] := hD
                obtain ⟨y179, e179⟩ : ∃ y : Int32, y = j102_l1 + 1 := ⟨_, rfl⟩
                refine lv_iinc (v := y179) (lv' := [(1, .int y179), (0, .ref m)]) hx hb dX12_next_179 hl (k := 1) rfl e179.symm (by decide) rfl (fun ls hl => ?_)
                refine lv_goto (tgt := 102) hx hb dX12_next_182 (by decide) ?_
                exact ih102 y179 y175 j169_m_word _ _ _ (by omega) (ir_w r175 (by decide) (by decide)) (by first | omega | decide) (by first | omega | decide) (by first | omega | decide) (by first | omega | decide) (hP.sub [0, 1] rfl) (hD.sub [0, 1] (by decide) rfl) hS (lv_sub hl [1, 0] rfl)
              refine lv_icmp_le (tgt := 169) hx hb dX12_next_159 (by decide) (fun c159 => ?_) (fun c159 => ?_)
              · have f159 := (show j102_l1.toInt ≤ 11 from z_le rfl rfl c159)
                have r159a : ir j102_l1.toInt (-2147483648) 11 := ir_lea f159 (rg_all j102_l1) (ir_c 11) (by decide)
                exact J169 j153_s0 _ _ _ (by first | omega | decide) (by first | omega | decide) (by first | omega | decide) (by first | omega | decide) (hP.sub [0, 1] rfl) (hD.sub [0, 1] (by decide) rfl) hS (lv_sub hl [0, 1] rfl)
              have f159 := (show 11 < j102_l1.toInt from z_nle rfl rfl c159)
              have r159a : ir j102_l1.toInt 12 2147483647 := ir_ltb f159 (ir_c 11) (rg_all j102_l1) (by decide)
              refine lv_aload_n hx hb dX12_next_162 rfl (lv_at hl 0 rfl) ?_
              refine lv_ldc2 (v := (-1)) hx hb hown (hts (.constantLong RX12 151 (-1)) (List.mem_cons_of_mem _ (List.mem_append_left _ (List.mem_of_getElem? (i := 10) rfl)))) dX12_next_163 ?_
              refine va_put (D := g) (ci := 11) (v := .long (-1)) (ty := .long) (C := RX12) (T := TX12) (N := 56) hx hb hts iX12 tyX12 tyX12_ok nmX12 hown hK hP hD hS 0 rfl rfl 11 (by decide) (hts (.fieldLink RX12 144 "CardsAtYuleModel" "word" "J") (List.mem_cons_of_mem _ (List.mem_append_left _ (List.mem_of_getElem? (i := 7) rfl)))) (fun _ h9 => h9) rfl (by decide +kernel) rfl rfl (Nat.le_of_ble_eq_true rfl) dX12_next_166 (fun H locs hP hD hS => ?_)
              have hP : va_P g vwCl [(m, .inr (11, mG m_a m_thrown m_taped j102_m_at 1 j0_m_at 0 (-1) m_bad m_badPlace m_fault m_faultPlace m_willing m_will m_forgot m_isDrawn m_x m_begin m_round m_roundCards m_fate m_any m_bothSend m_meanCards m_bestSum m_fitMany m_fitFirst m_fitSecond)), ((m_a 5), .inl (cB, 1600, .inl m_tape_c))] H := hP
              have hD : va_D A [(m, .inr (11, mG m_a m_thrown m_taped j102_m_at 1 j0_m_at 0 (-1) m_bad m_badPlace m_fault m_faultPlace m_willing m_will m_forgot m_isDrawn m_x m_begin m_round m_roundCards m_fate m_any m_bothSend m_meanCards m_bestSum m_fitMany m_fitFirst m_fitSecond)), ((m_a 5), .inl (cB, 1600, .inl m_tape_c))] := hD
              exact J169 (-1) _ _ _ (by first | omega | decide) (by first | omega | decide) (by first | omega | decide) (by first | omega | decide) (hP.sub [0, 1] rfl) (hD.sub [0, 1] (by decide) rfl) hS (lv_sub hl [0, 1] rfl)
            refine lv_icmp_le (tgt := 130) hx hb dX12_next_121 (by decide) (fun c121 => ?_) (fun c121 => ?_)
            rotate_left 1
            · have f121 := (show 11 < j102_l1.toInt from z_nle rfl rfl c121)
              have r121a : ir j102_l1.toInt 12 2147483647 := ir_ltb f121 (ir_c 11) (rg_all j102_l1) (by decide)
              refine lv_ldc2 (v := (-1)) hx hb hown (hts (.constantLong RX12 151 (-1)) (List.mem_cons_of_mem _ (List.mem_append_left _ (List.mem_of_getElem? (i := 10) rfl)))) dX12_next_124 ?_
              refine lv_goto (tgt := 153) hx hb dX12_next_127 (by decide) ?_
              exact J153 (-1) _ _ _ (by first | omega | decide) (by first | omega | decide) (by first | omega | decide) (by first | omega | decide) (hP.sub [0, 1] rfl) (hD.sub [0, 1] (by decide) rfl) hS (lv_sub hl [0, 1] rfl)
            have f121 := (show j102_l1.toInt ≤ 11 from z_le rfl rfl c121)
            have r121a : ir j102_l1.toInt (-2147483648) 11 := ir_lea f121 (rg_all j102_l1) (ir_c 11) (by decide)
            refine lv_ldc2 (v := 27) hx hb hown (hts (.constantLong RX12 153 (27)) (List.mem_cons_of_mem _ (List.mem_append_left _ (List.mem_of_getElem? (i := 11) rfl)))) dX12_next_130 ?_
            refine lv_aload_n hx hb dX12_next_133 rfl (lv_at hl 0 rfl) ?_
            refine va_get (D := g) (ci := 11) (v := .long j102_m_word) (C := RX12) (T := TX12) (N := 56) hx hb hts iX12 hown hK hP 0 rfl rfl 11 (by decide) (hts (.fieldLink RX12 144 "CardsAtYuleModel" "word" "J") (List.mem_cons_of_mem _ (List.mem_append_left _ (List.mem_of_getElem? (i := 7) rfl)))) (fun _ h9 => h9) rfl dX12_next_134 ?_
            refine lv_lmul hx hb dX12_next_137 ?_
            refine lv_topl (fun y137 e137 => ?_)
            refine lv_aload_n hx hb dX12_next_138 rfl (lv_at hl 0 rfl) ?_
            refine va_get (D := g) (ci := 11) (v := .ref (m_a 5)) (C := RX12) (T := TX12) (N := 56) hx hb hts iX12 hown hK hP 0 rfl rfl 5 (by decide) (hts (.fieldLink RX12 23 "CardsAtYuleModel" "tape" "[B") (List.mem_cons_of_mem _ (List.mem_append_left _ (List.mem_of_getElem? (i := 12) rfl)))) (fun _ h9 => h9) rfl dX12_next_139 ?_
            refine lv_aload_n hx hb dX12_next_142 rfl (lv_at hl 0 rfl) ?_
            refine va_get (D := g) (ci := 11) (v := .int j102_m_at) (C := RX12) (T := TX12) (N := 56) hx hb hts iX12 hown hK hP 0 rfl rfl 7 (by decide) (hts (.fieldLink RX12 131 "CardsAtYuleModel" "at" "I") (List.mem_cons_of_mem _ (List.mem_append_left _ (List.mem_of_getElem? (i := 0) rfl)))) (fun _ h9 => h9) rfl dX12_next_143 ?_
            refine va_bald (D := g) hx hb hK hP 1 2 rfl rfl (vi_rg rfl r111_0a (by decide) (by decide)) dX12_next_146 ?_
            refine lv_topi (fun y146 e146 => ?_)
            refine lv_i2l (v := y146.toInt64) hx hb dX12_next_147 rfl ?_
            refine lv_ladd hx hb dX12_next_148 ?_
            refine lv_topl (fun y148 e148 => ?_)
            refine lv_ldc2 (v := 96) hx hb hown (hts (.constantLong RX12 155 (96)) (List.mem_cons_of_mem _ (List.mem_append_left _ (List.mem_of_getElem? (i := 13) rfl)))) dX12_next_149 ?_
            refine lv_lsub hx hb dX12_next_152 ?_
            refine lv_topl (fun y152 e152 => ?_)
            exact J153 y152 _ _ _ (by first | omega | decide) (by first | omega | decide) (by first | omega | decide) (by first | omega | decide) (hP.sub [0, 1] rfl) (hD.sub [0, 1] (by decide) rfl) hS (lv_sub hl [0, 1] rfl)
        exact J102 _ 0 j0_m_at 0 _ _ _ (Nat.lt_succ_self _) (ir_w r89_0a (by decide) (by decide)) (by have kc0 : (0 : Int32).toInt = 0 := rfl; first | omega | decide) (by have kc0 : (0 : Int32).toInt = 0 := rfl; first | omega | decide) (by have kc0 : (0 : Int32).toInt = 0 := rfl; first | omega | decide) (by have kc0 : (0 : Int32).toInt = 0 := rfl; first | omega | decide) (hP.sub [0, 1] rfl) (hD.sub [0, 1] (by decide) rfl) hS (lv_sub hl [1, 0] rfl)
      subst er89
      have fc89_0 : ¬ (j0_m_at.toInt < m_taped.toInt ∧ 97 ≤ (m_tape_c j0_m_at.toNatClampNeg).toInt ∧ (m_tape_c j0_m_at.toNatClampNeg).toInt ≤ 122) := fc89_0
      refine lv_if_eq (tgt := 188) hx hb dX12_next_92 (by decide) (fun _ => ?_) (fun c => absurd c (by decide))
      refine lv_aload_n hx hb dX12_next_188 rfl (lv_at hl 0 rfl) ?_
      refine lv_aload_n hx hb dX12_next_189 rfl (lv_at hl 0 rfl) ?_
      refine va_get (D := g) (ci := 11) (v := .int j0_m_at) (C := RX12) (T := TX12) (N := 56) hx hb hts iX12 hown hK hP 0 rfl rfl 7 (by decide) (hts (.fieldLink RX12 131 "CardsAtYuleModel" "at" "I") (List.mem_cons_of_mem _ (List.mem_append_left _ (List.mem_of_getElem? (i := 0) rfl)))) (fun _ h9 => h9) rfl dX12_next_190 ?_
      refine lv_bipush (v := 48) hx hb dX12_next_193 (by decide) ?_
      refine lv_bipush (v := 57) hx hb dX12_next_195 (by decide) ?_
      refine ro_i (va_runV (As := [.int j0_m_at, .int 48, .int 57]) (rest := []) ⟨hx, hb, hml, hown, hts⟩ (q_X12_isByte l g cI cJ cB cZ cL j0_m_at 48 57 m m_a m_thrown m_taped j0_m_at m_token j0_m_at 0 0 m_bad m_badPlace m_fault m_faultPlace m_willing m_will m_forgot m_isDrawn m_x m_begin m_round m_roundCards m_fate m_any m_bothSend m_meanCards m_bestSum m_fitMany m_fitFirst m_fitSecond m_tape_c H.size hj0_m_at hv_m_taped hj0_m_at hv_m_will hv_m_isDrawn) (cwV 3 hts (goodIn_app (g_4 (List.mem_cons_of_mem _ (List.mem_append_left _ (List.mem_of_getElem? (i := 1) rfl))) (List.mem_cons_of_mem _ (List.mem_append_left _ (List.mem_of_getElem? (i := 2) rfl))) (List.mem_cons_of_mem _ (List.mem_append_left _ (List.mem_of_getElem? (i := 3) rfl))) (List.mem_cons_of_mem _ (List.mem_append_left _ (List.mem_of_getElem? (i := 4) rfl))) (by decide +kernel)) (goodIn_sub (fun _ h => List.mem_cons_of_mem _ (List.mem_append_right _ (List.mem_append_left _ h))) good_v_X12_isByte)) rfl rfl rfl (by decide +kernel) ⟨Nat.le_of_ble_eq_true rfl, Nat.le_of_ble_eq_true rfl⟩) (pv_RO (q := (RX12, TX12, 56)) (ci := 11) (q0 := 0) (wc := [(m, .inr (11, mG m_a m_thrown m_taped j0_m_at m_token j0_m_at 0 0 m_bad m_badPlace m_fault m_faultPlace m_willing m_will m_forgot m_isDrawn m_x m_begin m_round m_roundCards m_fate m_any m_bothSend m_meanCards m_bestSum m_fitMany m_fitFirst m_fitSecond)), ((m_a 5), .inl (cB, 1600, .inl m_tape_c))]) hK hP [0, 1] rfl rfl rfl) rfl rfl hl.1 rfl (lv_room (Nat.le_of_ble_eq_true rfl)) dX12_next_197 ⟨Nat.le_of_ble_eq_true rfl, Nat.le_of_ble_eq_true rfl⟩) hS hA hP (fun r197 u197 H locs hw197 hP hS => ?_)
      have hw197_0 := hw197
      rcases hw197_0 with ⟨er197, fc197_0, fc197_1⟩ | ⟨er197, fc197_0⟩
      rotate_left 1
      · subst er197
        have fc197_0 : ¬ (j0_m_at.toInt < m_taped.toInt ∧ 48 ≤ (m_tape_c j0_m_at.toNatClampNeg).toInt ∧ (m_tape_c j0_m_at.toNatClampNeg).toInt ≤ 57) := fc197_0
        refine lv_if_eq (tgt := 274) hx hb dX12_next_200 (by decide) (fun _ => ?_) (fun c => absurd c (by decide))
        refine lv_aload_n hx hb dX12_next_274 rfl (lv_at hl 0 rfl) ?_
        refine lv_aload_n hx hb dX12_next_275 rfl (lv_at hl 0 rfl) ?_
        refine va_get (D := g) (ci := 11) (v := .ref (m_a 5)) (C := RX12) (T := TX12) (N := 56) hx hb hts iX12 hown hK hP 0 rfl rfl 5 (by decide) (hts (.fieldLink RX12 23 "CardsAtYuleModel" "tape" "[B") (List.mem_cons_of_mem _ (List.mem_append_left _ (List.mem_of_getElem? (i := 12) rfl)))) (fun _ h9 => h9) rfl dX12_next_276 ?_
        refine lv_aload_n hx hb dX12_next_279 rfl (lv_at hl 0 rfl) ?_
        refine va_get (D := g) (ci := 11) (v := .int j0_m_at) (C := RX12) (T := TX12) (N := 56) hx hb hts iX12 hown hK hP 0 rfl rfl 7 (by decide) (hts (.fieldLink RX12 131 "CardsAtYuleModel" "at" "I") (List.mem_cons_of_mem _ (List.mem_append_left _ (List.mem_of_getElem? (i := 0) rfl)))) (fun _ h9 => h9) rfl dX12_next_280 ?_
        refine va_bald (D := g) hx hb hK hP 1 2 rfl rfl (vi_in rfl (by omega) (by omega)) dX12_next_283 ?_
        refine lv_topi (fun y283 e283 => ?_)
        refine lv_bipush (v := 59) hx hb dX12_next_284 (by decide) ?_
        refine lv_icmp_ne (tgt := 293) hx hb dX12_next_286 (by decide) (fun c286 => ?_) (fun c286 => ?_)
        · have f286 := (show y283.toInt ≠ 59 from z_ne rfl rfl c286)
          refine lv_iconst (v := 4) hx hb dX12_next_293 (by decide) ?_
          refine va_put (D := g) (ci := 11) (v := .int 4) (ty := .int) (C := RX12) (T := TX12) (N := 56) hx hb hts iX12 tyX12 tyX12_ok nmX12 hown hK hP hD hS 0 rfl rfl 8 (by decide) (hts (.fieldLink RX12 148 "CardsAtYuleModel" "token" "I") (List.mem_cons_of_mem _ (List.mem_append_left _ (List.mem_of_getElem? (i := 9) rfl)))) (fun _ h9 => h9) rfl (by decide +kernel) rfl rfl (Nat.le_of_ble_eq_true rfl) dX12_next_294 (fun H locs hP hD hS => ?_)
          have hP : va_P g vwCl [(m, .inr (11, mG m_a m_thrown m_taped j0_m_at 4 j0_m_at 0 0 m_bad m_badPlace m_fault m_faultPlace m_willing m_will m_forgot m_isDrawn m_x m_begin m_round m_roundCards m_fate m_any m_bothSend m_meanCards m_bestSum m_fitMany m_fitFirst m_fitSecond)), ((m_a 5), .inl (cB, 1600, .inl m_tape_c))] H := hP
          have hD : va_D A [(m, .inr (11, mG m_a m_thrown m_taped j0_m_at 4 j0_m_at 0 0 m_bad m_badPlace m_fault m_faultPlace m_willing m_will m_forgot m_isDrawn m_x m_begin m_round m_roundCards m_fate m_any m_bothSend m_meanCards m_bestSum m_fitMany m_fitFirst m_fitSecond)), ((m_a 5), .inl (cB, 1600, .inl m_tape_c))] := hD
          refine lv_aload_n hx hb dX12_next_297 rfl (lv_at hl 0 rfl) ?_
          refine lv_dup hx hb dX12_next_298 rfl ?_
          refine va_get (D := g) (ci := 11) (v := .int j0_m_at) (C := RX12) (T := TX12) (N := 56) hx hb hts iX12 hown hK hP 0 rfl rfl 7 (by decide) (hts (.fieldLink RX12 131 "CardsAtYuleModel" "at" "I") (List.mem_cons_of_mem _ (List.mem_append_left _ (List.mem_of_getElem? (i := 0) rfl)))) (fun _ h9 => h9) rfl dX12_next_299 ?_
          refine lv_iconst (v := 1) hx hb dX12_next_302 (by decide) ?_
          refine lv_iadd hx hb dX12_next_303 ?_
          refine lv_topi (fun y303 e303 => ?_)
          have q303 : y303.toInt = j0_m_at.toInt + 1 := by rw [e303]; exact ad_z rfl rfl hj0_m_at (ir_c 1) (by decide) (by decide)
          have r303 : ir y303.toInt 1 1601 := ad_r q303 hj0_m_at (ir_c 1) (by decide) (by decide)
          refine va_put (D := g) (ci := 11) (v := .int y303) (ty := .int) (C := RX12) (T := TX12) (N := 56) hx hb hts iX12 tyX12 tyX12_ok nmX12 hown hK hP hD hS 0 rfl rfl 7 (by decide) (hts (.fieldLink RX12 131 "CardsAtYuleModel" "at" "I") (List.mem_cons_of_mem _ (List.mem_append_left _ (List.mem_of_getElem? (i := 0) rfl)))) (fun _ h9 => h9) rfl (by decide +kernel) rfl rfl (Nat.le_of_ble_eq_true rfl) dX12_next_304 (fun H locs hP hD hS => ?_)
          have hP : va_P g vwCl [(m, .inr (11, mG m_a m_thrown m_taped y303 4 j0_m_at 0 0 m_bad m_badPlace m_fault m_faultPlace m_willing m_will m_forgot m_isDrawn m_x m_begin m_round m_roundCards m_fate m_any m_bothSend m_meanCards m_bestSum m_fitMany m_fitFirst m_fitSecond)), ((m_a 5), .inl (cB, 1600, .inl m_tape_c))] H := hP
          have hD : va_D A [(m, .inr (11, mG m_a m_thrown m_taped y303 4 j0_m_at 0 0 m_bad m_badPlace m_fault m_faultPlace m_willing m_will m_forgot m_isDrawn m_x m_begin m_round m_roundCards m_fate m_any m_bothSend m_meanCards m_bestSum m_fitMany m_fitFirst m_fitSecond)), ((m_a 5), .inl (cB, 1600, .inl m_tape_c))] := hD
          subst hQ
          have hP9 := hP.sub (ws' := [(m, .inr (11, mG m_a m_thrown m_taped y303 4 j0_m_at 0 0 m_bad m_badPlace m_fault m_faultPlace m_willing m_will m_forgot m_isDrawn m_x m_begin m_round m_roundCards m_fate m_any m_bothSend m_meanCards m_bestSum m_fitMany m_fitFirst m_fitSecond)), ((m_a 5), .inl (cB, 1600, .inl m_tape_c))]) [0, 1] rfl
          have hD9 := hD.sub (ws' := [(m, .inr (11, mG m_a m_thrown m_taped y303 4 j0_m_at 0 0 m_bad m_badPlace m_fault m_faultPlace m_willing m_will m_forgot m_isDrawn m_x m_begin m_round m_roundCards m_fate m_any m_bothSend m_meanCards m_bestSum m_fitMany m_fitFirst m_fitSecond)), ((m_a 5), .inl (cB, 1600, .inl m_tape_c))]) [0, 1] (by decide) rfl
          exact W.vret hx hb hr (fun t ht hW => ⟨⟨(y303, 4, j0_m_at, 0, 0), rfl, ⟨(by omega), (show ir (4 : Int32).toInt 0 4 by decide), hj0_m_at, (by have kc0 : (0 : Int32).toInt = 0 := rfl; have kc1 : (4 : Int32).toInt = 4 := rfl; omega)⟩, ⟨by rw [ht]; exact hP9, va_K.moved hW.alike hK, hD9⟩⟩, hS.F ht⟩) hS.2.2 dX12_next_307
        have f286 := (show y283.toInt = 59 from z_eq rfl rfl c286)
        have r286a : ir y283.toInt 59 59 := ir_eqa f286 (rg_all y283) (ir_c 59) (by decide) (by decide)
        refine lv_iconst (v := 3) hx hb dX12_next_289 (by decide) ?_
        refine lv_goto (tgt := 294) hx hb dX12_next_290 (by decide) ?_
        refine va_put (D := g) (ci := 11) (v := .int 3) (ty := .int) (C := RX12) (T := TX12) (N := 56) hx hb hts iX12 tyX12 tyX12_ok nmX12 hown hK hP hD hS 0 rfl rfl 8 (by decide) (hts (.fieldLink RX12 148 "CardsAtYuleModel" "token" "I") (List.mem_cons_of_mem _ (List.mem_append_left _ (List.mem_of_getElem? (i := 9) rfl)))) (fun _ h9 => h9) rfl (by decide +kernel) rfl rfl (Nat.le_of_ble_eq_true rfl) dX12_next_294 (fun H locs hP hD hS => ?_)
        have hP : va_P g vwCl [(m, .inr (11, mG m_a m_thrown m_taped j0_m_at 3 j0_m_at 0 0 m_bad m_badPlace m_fault m_faultPlace m_willing m_will m_forgot m_isDrawn m_x m_begin m_round m_roundCards m_fate m_any m_bothSend m_meanCards m_bestSum m_fitMany m_fitFirst m_fitSecond)), ((m_a 5), .inl (cB, 1600, .inl m_tape_c))] H := hP
        have hD : va_D A [(m, .inr (11, mG m_a m_thrown m_taped j0_m_at 3 j0_m_at 0 0 m_bad m_badPlace m_fault m_faultPlace m_willing m_will m_forgot m_isDrawn m_x m_begin m_round m_roundCards m_fate m_any m_bothSend m_meanCards m_bestSum m_fitMany m_fitFirst m_fitSecond)), ((m_a 5), .inl (cB, 1600, .inl m_tape_c))] := hD
        refine lv_aload_n hx hb dX12_next_297 rfl (lv_at hl 0 rfl) ?_
        refine lv_dup hx hb dX12_next_298 rfl ?_
        refine va_get (D := g) (ci := 11) (v := .int j0_m_at) (C := RX12) (T := TX12) (N := 56) hx hb hts iX12 hown hK hP 0 rfl rfl 7 (by decide) (hts (.fieldLink RX12 131 "CardsAtYuleModel" "at" "I") (List.mem_cons_of_mem _ (List.mem_append_left _ (List.mem_of_getElem? (i := 0) rfl)))) (fun _ h9 => h9) rfl dX12_next_299 ?_
        refine lv_iconst (v := 1) hx hb dX12_next_302 (by decide) ?_
        refine lv_iadd hx hb dX12_next_303 ?_
        refine lv_topi (fun y303 e303 => ?_)
        have q303 : y303.toInt = j0_m_at.toInt + 1 := by rw [e303]; exact ad_z rfl rfl hj0_m_at (ir_c 1) (by decide) (by decide)
        have r303 : ir y303.toInt 1 1601 := ad_r q303 hj0_m_at (ir_c 1) (by decide) (by decide)
        refine va_put (D := g) (ci := 11) (v := .int y303) (ty := .int) (C := RX12) (T := TX12) (N := 56) hx hb hts iX12 tyX12 tyX12_ok nmX12 hown hK hP hD hS 0 rfl rfl 7 (by decide) (hts (.fieldLink RX12 131 "CardsAtYuleModel" "at" "I") (List.mem_cons_of_mem _ (List.mem_append_left _ (List.mem_of_getElem? (i := 0) rfl)))) (fun _ h9 => h9) rfl (by decide +kernel) rfl rfl (Nat.le_of_ble_eq_true rfl) dX12_next_304 (fun H locs hP hD hS => ?_)
        have hP : va_P g vwCl [(m, .inr (11, mG m_a m_thrown m_taped y303 3 j0_m_at 0 0 m_bad m_badPlace m_fault m_faultPlace m_willing m_will m_forgot m_isDrawn m_x m_begin m_round m_roundCards m_fate m_any m_bothSend m_meanCards m_bestSum m_fitMany m_fitFirst m_fitSecond)), ((m_a 5), .inl (cB, 1600, .inl m_tape_c))] H := hP
        have hD : va_D A [(m, .inr (11, mG m_a m_thrown m_taped y303 3 j0_m_at 0 0 m_bad m_badPlace m_fault m_faultPlace m_willing m_will m_forgot m_isDrawn m_x m_begin m_round m_roundCards m_fate m_any m_bothSend m_meanCards m_bestSum m_fitMany m_fitFirst m_fitSecond)), ((m_a 5), .inl (cB, 1600, .inl m_tape_c))] := hD
        subst hQ
        have hP9 := hP.sub (ws' := [(m, .inr (11, mG m_a m_thrown m_taped y303 3 j0_m_at 0 0 m_bad m_badPlace m_fault m_faultPlace m_willing m_will m_forgot m_isDrawn m_x m_begin m_round m_roundCards m_fate m_any m_bothSend m_meanCards m_bestSum m_fitMany m_fitFirst m_fitSecond)), ((m_a 5), .inl (cB, 1600, .inl m_tape_c))]) [0, 1] rfl
        have hD9 := hD.sub (ws' := [(m, .inr (11, mG m_a m_thrown m_taped y303 3 j0_m_at 0 0 m_bad m_badPlace m_fault m_faultPlace m_willing m_will m_forgot m_isDrawn m_x m_begin m_round m_roundCards m_fate m_any m_bothSend m_meanCards m_bestSum m_fitMany m_fitFirst m_fitSecond)), ((m_a 5), .inl (cB, 1600, .inl m_tape_c))]) [0, 1] (by decide) rfl
        exact W.vret hx hb hr (fun t ht hW => ⟨⟨(y303, 3, j0_m_at, 0, 0), rfl, ⟨(by omega), (show ir (3 : Int32).toInt 0 4 by decide), hj0_m_at, (by have kc0 : (0 : Int32).toInt = 0 := rfl; have kc1 : (3 : Int32).toInt = 3 := rfl; omega)⟩, ⟨by rw [ht]; exact hP9, va_K.moved hW.alike hK, hD9⟩⟩, hS.F ht⟩) hS.2.2 dX12_next_307
      subst er197
      have fc197_0 : j0_m_at.toInt < m_taped.toInt := fc197_0
      have r197_0a : ir j0_m_at.toInt 0 1599 := ir_lta fc197_0 hj0_m_at hv_m_taped (by decide)
      have r197_0b : ir m_taped.toInt 1 1600 := ir_ltb fc197_0 hj0_m_at hv_m_taped (by decide)
      have fc197_1 : 48 ≤ (m_tape_c j0_m_at.toNatClampNeg).toInt ∧ (m_tape_c j0_m_at.toNatClampNeg).toInt ≤ 57 := fc197_1
      refine lv_if_eq (tgt := 274) hx hb dX12_next_200 (by decide) (fun c => absurd c (by decide)) (fun _ => ?_)
      refine lv_aload_n hx hb dX12_next_203 rfl (lv_at hl 0 rfl) ?_
      refine lv_iconst (v := 2) hx hb dX12_next_204 (by decide) ?_
      refine va_put (D := g) (ci := 11) (v := .int 2) (ty := .int) (C := RX12) (T := TX12) (N := 56) hx hb hts iX12 tyX12 tyX12_ok nmX12 hown hK hP hD hS 0 rfl rfl 8 (by decide) (hts (.fieldLink RX12 148 "CardsAtYuleModel" "token" "I") (List.mem_cons_of_mem _ (List.mem_append_left _ (List.mem_of_getElem? (i := 9) rfl)))) (fun _ h9 => h9) rfl (by decide +kernel) rfl rfl (Nat.le_of_ble_eq_true rfl) dX12_next_205 (fun H locs hP hD hS => ?_)
      have hP : va_P g vwCl [(m, .inr (11, mG m_a m_thrown m_taped j0_m_at 2 j0_m_at 0 0 m_bad m_badPlace m_fault m_faultPlace m_willing m_will m_forgot m_isDrawn m_x m_begin m_round m_roundCards m_fate m_any m_bothSend m_meanCards m_bestSum m_fitMany m_fitFirst m_fitSecond)), ((m_a 5), .inl (cB, 1600, .inl m_tape_c))] H := hP
      have hD : va_D A [(m, .inr (11, mG m_a m_thrown m_taped j0_m_at 2 j0_m_at 0 0 m_bad m_badPlace m_fault m_faultPlace m_willing m_will m_forgot m_isDrawn m_x m_begin m_round m_roundCards m_fate m_any m_bothSend m_meanCards m_bestSum m_fitMany m_fitFirst m_fitSecond)), ((m_a 5), .inl (cB, 1600, .inl m_tape_c))] := hD
      have J208 : ∀ (n208 : Nat) (j208_m_at : Int32) (j208_m_value : Int32) (H : Heap) (locs : List Loc) (ls : Array Slot), (1601 - j208_m_at.toInt).toNat < n208 → (ir j208_m_at.toInt 0 1600) → (j208_m_at.toInt ≤ m_taped.toInt) → (m_at.toInt ≤ j0_m_at.toInt) → (j0_m_at.toInt ≤ j208_m_at.toInt) → (j0_m_at.toInt < j208_m_at.toInt ∨ (j208_m_at.toInt < m_taped.toInt ∧ 48 ≤ (m_tape_c j208_m_at.toNatClampNeg).toInt ∧ (m_tape_c j208_m_at.toNatClampNeg).toInt ≤ 57)) → va_P g vwCl [(m, .inr (11, mG m_a m_thrown m_taped j208_m_at 2 j0_m_at j208_m_value 0 m_bad m_badPlace m_fault m_faultPlace m_willing m_will m_forgot m_isDrawn m_x m_begin m_round m_roundCards m_fate m_any m_bothSend m_meanCards m_bestSum m_fitMany m_fitFirst m_fitSecond)), ((m_a 5), .inl (cB, 1600, .inl m_tape_c))] H → va_D A [(m, .inr (11, mG m_a m_thrown m_taped j208_m_at 2 j0_m_at j208_m_value 0 m_bad m_badPlace m_fault m_faultPlace m_willing m_will m_forgot m_isDrawn m_x m_begin m_round m_roundCards m_fate m_any m_bothSend m_meanCards m_bestSum m_fitMany m_fitFirst m_fitSecond)), ((m_a 5), .inl (cB, 1600, .inl m_tape_c))] → va_S A s.heap H locs → lv_has ls 2 [(0, .ref m)] → W p l e (headSpec v_X12_next ({ frames := 1, cells := 0, slots := 0, locals := 23 })).room s mth av below meth c H locs 0 0 QQ (F0 mth 208 ls []) := by
        intro n208
        induction n208 with
        | zero => exact fun j208_m_at j208_m_value H locs ls hn => absurd hn (Nat.not_lt_zero _)
        | succ n208 ih208 =>
          intro j208_m_at j208_m_value H locs ls hn208 hj208_m_at hi208_0 hi208_1 hi208_2 hi208_3 hP hD hS hl
          refine lv_aload_n hx hb dX12_next_208 rfl (lv_at hl 0 rfl) ?_
          refine lv_aload_n hx hb dX12_next_209 rfl (lv_at hl 0 rfl) ?_
          refine va_get (D := g) (ci := 11) (v := .int j208_m_at) (C := RX12) (T := TX12) (N := 56) hx hb hts iX12 hown hK hP 0 rfl rfl 7 (by decide) (hts (.fieldLink RX12 131 "CardsAtYuleModel" "at" "I") (List.mem_cons_of_mem _ (List.mem_append_left _ (List.mem_of_getElem? (i := 0) rfl)))) (fun _ h9 => h9) rfl dX12_next_210 ?_
          refine lv_bipush (v := 48) hx hb dX12_next_213 (by decide) ?_
          refine lv_bipush (v := 57) hx hb dX12_next_215 (by decide) ?_
          refine ro_i (va_runV (As := [.int j208_m_at, .int 48, .int 57]) (rest := []) ⟨hx, hb, hml, hown, hts⟩ (q_X12_isByte l g cI cJ cB cZ cL j208_m_at 48 57 m m_a m_thrown m_taped j208_m_at 2 j0_m_at j208_m_value 0 m_bad m_badPlace m_fault m_faultPlace m_willing m_will m_forgot m_isDrawn m_x m_begin m_round m_roundCards m_fate m_any m_bothSend m_meanCards m_bestSum m_fitMany m_fitFirst m_fitSecond m_tape_c H.size hj208_m_at (ir_w r197_0b (by decide) (by decide)) hj208_m_at hv_m_will hv_m_isDrawn) (cwV 3 hts (goodIn_app (g_4 (List.mem_cons_of_mem _ (List.mem_append_left _ (List.mem_of_getElem? (i := 1) rfl))) (List.mem_cons_of_mem _ (List.mem_append_left _ (List.mem_of_getElem? (i := 2) rfl))) (List.mem_cons_of_mem _ (List.mem_append_left _ (List.mem_of_getElem? (i := 3) rfl))) (List.mem_cons_of_mem _ (List.mem_append_left _ (List.mem_of_getElem? (i := 4) rfl))) (by decide +kernel)) (goodIn_sub (fun _ h => List.mem_cons_of_mem _ (List.mem_append_right _ (List.mem_append_left _ h))) good_v_X12_isByte)) rfl rfl rfl (by decide +kernel) ⟨Nat.le_of_ble_eq_true rfl, Nat.le_of_ble_eq_true rfl⟩) (pv_RO (q := (RX12, TX12, 56)) (ci := 11) (q0 := 0) (wc := [(m, .inr (11, mG m_a m_thrown m_taped j208_m_at 2 j0_m_at j208_m_value 0 m_bad m_badPlace m_fault m_faultPlace m_willing m_will m_forgot m_isDrawn m_x m_begin m_round m_roundCards m_fate m_any m_bothSend m_meanCards m_bestSum m_fitMany m_fitFirst m_fitSecond)), ((m_a 5), .inl (cB, 1600, .inl m_tape_c))]) hK hP [0, 1] rfl rfl rfl) rfl rfl hl.1 rfl (lv_room (Nat.le_of_ble_eq_true rfl)) dX12_next_217 ⟨Nat.le_of_ble_eq_true rfl, Nat.le_of_ble_eq_true rfl⟩) hS hA hP (fun r217 u217 H locs hw217 hP hS => ?_)
          have hw217_0 := hw217
          rcases hw217_0 with ⟨er217, fc217_0, fc217_1⟩ | ⟨er217, fc217_0⟩
          rotate_left 1
          · subst er217
            have fc217_0 : ¬ (j208_m_at.toInt < m_taped.toInt ∧ 48 ≤ (m_tape_c j208_m_at.toNatClampNeg).toInt ∧ (m_tape_c j208_m_at.toNatClampNeg).toInt ≤ 57) := fc217_0
            refine lv_if_eq (tgt := 307) hx hb dX12_next_220 (by decide) (fun _ => ?_) (fun c => absurd c (by decide))
            subst hQ
            have hP9 := hP.sub (ws' := [(m, .inr (11, mG m_a m_thrown m_taped j208_m_at 2 j0_m_at j208_m_value 0 m_bad m_badPlace m_fault m_faultPlace m_willing m_will m_forgot m_isDrawn m_x m_begin m_round m_roundCards m_fate m_any m_bothSend m_meanCards m_bestSum m_fitMany m_fitFirst m_fitSecond)), ((m_a 5), .inl (cB, 1600, .inl m_tape_c))]) [0, 1] rfl
            have hD9 := hD.sub (ws' := [(m, .inr (11, mG m_a m_thrown m_taped j208_m_at 2 j0_m_at j208_m_value 0 m_bad m_badPlace m_fault m_faultPlace m_willing m_will m_forgot m_isDrawn m_x m_begin m_round m_roundCards m_fate m_any m_bothSend m_meanCards m_bestSum m_fitMany m_fitFirst m_fitSecond)), ((m_a 5), .inl (cB, 1600, .inl m_tape_c))]) [0, 1] (by decide) rfl
            exact W.vret hx hb hr (fun t ht hW => ⟨⟨(j208_m_at, 2, j0_m_at, j208_m_value, 0), rfl, ⟨hj208_m_at, (show ir (2 : Int32).toInt 0 4 by decide), (ir_w r197_0a (by decide) (by decide)), (by have kc0 : (2 : Int32).toInt = 2 := rfl; omega)⟩, ⟨by rw [ht]; exact hP9, va_K.moved hW.alike hK, hD9⟩⟩, hS.F ht⟩) hS.2.2 dX12_next_307
          subst er217
          have fc217_0 : j208_m_at.toInt < m_taped.toInt := fc217_0
          have r217_0a : ir j208_m_at.toInt 0 1599 := ir_lta fc217_0 hj208_m_at r197_0b (by decide)
          have fc217_1 : 48 ≤ (m_tape_c j208_m_at.toNatClampNeg).toInt ∧ (m_tape_c j208_m_at.toNatClampNeg).toInt ≤ 57 := fc217_1
          refine lv_if_eq (tgt := 307) hx hb dX12_next_220 (by decide) (fun c => absurd c (by decide)) (fun _ => ?_)
          refine lv_aload_n hx hb dX12_next_223 rfl (lv_at hl 0 rfl) ?_
          refine lv_aload_n hx hb dX12_next_224 rfl (lv_at hl 0 rfl) ?_
          refine va_get (D := g) (ci := 11) (v := .int j208_m_value) (C := RX12) (T := TX12) (N := 56) hx hb hts iX12 hown hK hP 0 rfl rfl 10 (by decide) (hts (.fieldLink RX12 141 "CardsAtYuleModel" "value" "I") (List.mem_cons_of_mem _ (List.mem_append_left _ (List.mem_of_getElem? (i := 6) rfl)))) (fun _ h9 => h9) rfl dX12_next_225 ?_
          refine lv_ldc (v := 100000) hx hb hown (hts (.constant RX12 157 (100000)) (List.mem_cons_of_mem _ (List.mem_append_left _ (List.mem_of_getElem? (i := 14) rfl)))) dX12_next_228 ?_
          have J258 : ∀ (j258_s0 : Int32) (H : Heap) (locs : List Loc) (ls : Array Slot), (j208_m_at.toInt ≤ m_taped.toInt) → (m_at.toInt ≤ j0_m_at.toInt) → (j0_m_at.toInt ≤ j208_m_at.toInt) → (j208_m_at.toInt < m_taped.toInt) → va_P g vwCl [(m, .inr (11, mG m_a m_thrown m_taped j208_m_at 2 j0_m_at j208_m_value 0 m_bad m_badPlace m_fault m_faultPlace m_willing m_will m_forgot m_isDrawn m_x m_begin m_round m_roundCards m_fate m_any m_bothSend m_meanCards m_bestSum m_fitMany m_fitFirst m_fitSecond)), ((m_a 5), .inl (cB, 1600, .inl m_tape_c))] H → va_D A [(m, .inr (11, mG m_a m_thrown m_taped j208_m_at 2 j0_m_at j208_m_value 0 m_bad m_badPlace m_fault m_faultPlace m_willing m_will m_forgot m_isDrawn m_x m_begin m_round m_roundCards m_fate m_any m_bothSend m_meanCards m_bestSum m_fitMany m_fitFirst m_fitSecond)), ((m_a 5), .inl (cB, 1600, .inl m_tape_c))] → va_S A s.heap H locs → lv_has ls 2 [(0, .ref m)] → W p l e (headSpec v_X12_next ({ frames := 1, cells := 0, slots := 0, locals := 23 })).room s mth av below meth c H locs 0 0 QQ (F0 mth 258 ls [.int j258_s0, .ref m]) := by
            intro j258_s0 H locs ls hi258_0 hi258_1 hi258_2 hi258_3 hP hD hS hl
            refine va_put (D := g) (ci := 11) (v := .int j258_s0) (ty := .int) (C := RX12) (T := TX12) (N := 56) hx hb hts iX12 tyX12 tyX12_ok nmX12 hown hK hP hD hS 0 rfl rfl 10 (by decide) (hts (.fieldLink RX12 141 "CardsAtYuleModel" "value" "I") (List.mem_cons_of_mem _ (List.mem_append_left _ (List.mem_of_getElem? (i := 6) rfl)))) (fun _ h9 => h9) rfl (by decide +kernel) rfl rfl (Nat.le_of_ble_eq_true rfl) dX12_next_258 (fun H locs hP hD hS => ?_)
            have hP : va_P g vwCl [(m, .inr (11, mG m_a m_thrown m_taped j208_m_at 2 j0_m_at j258_s0 0 m_bad m_badPlace m_fault m_faultPlace m_willing m_will m_forgot m_isDrawn m_x m_begin m_round m_roundCards m_fate m_any m_bothSend m_meanCards m_bestSum m_fitMany m_fitFirst m_fitSecond)), ((m_a 5), .inl (cB, 1600, .inl m_tape_c))] H := hP
            have hD : va_D A [(m, .inr (11, mG m_a m_thrown m_taped j208_m_at 2 j0_m_at j258_s0 0 m_bad m_badPlace m_fault m_faultPlace m_willing m_will m_forgot m_isDrawn m_x m_begin m_round m_roundCards m_fate m_any m_bothSend m_meanCards m_bestSum m_fitMany m_fitFirst m_fitSecond)), ((m_a 5), .inl (cB, 1600, .inl m_tape_c))] := hD
            refine lv_aload_n hx hb dX12_next_261 rfl (lv_at hl 0 rfl) ?_
            refine lv_dup hx hb dX12_next_262 rfl ?_
            refine va_get (D := g) (ci := 11) (v := .int j208_m_at) (C := RX12) (T := TX12) (N := 56) hx hb hts iX12 hown hK hP 0 rfl rfl 7 (by decide) (hts (.fieldLink RX12 131 "CardsAtYuleModel" "at" "I") (List.mem_cons_of_mem _ (List.mem_append_left _ (List.mem_of_getElem? (i := 0) rfl)))) (fun _ h9 => h9) rfl dX12_next_263 ?_
            refine lv_iconst (v := 1) hx hb dX12_next_266 (by decide) ?_
            refine lv_iadd hx hb dX12_next_267 ?_
            refine lv_topi (fun y267 e267 => ?_)
            have q267 : y267.toInt = j208_m_at.toInt + 1 := by rw [e267]; exact ad_z rfl rfl r217_0a (ir_c 1) (by decide) (by decide)
            have r267 : ir y267.toInt 1 1600 := ad_r q267 r217_0a (ir_c 1) (by decide) (by decide)
            refine va_put (D := g) (ci := 11) (v := .int y267) (ty := .int) (C := RX12) (T := TX12) (N := 56) hx hb hts iX12 tyX12 tyX12_ok nmX12 hown hK hP hD hS 0 rfl rfl 7 (by decide) (hts (.fieldLink RX12 131 "CardsAtYuleModel" "at" "I") (List.mem_cons_of_mem _ (List.mem_append_left _ (List.mem_of_getElem? (i := 0) rfl)))) (fun _ h9 => h9) rfl (by decide +kernel) rfl rfl (Nat.le_of_ble_eq_true rfl) dX12_next_268 (fun H locs hP hD hS => ?_)
            have hP : va_P g vwCl [(m, .inr (11, mG m_a m_thrown m_taped y267 2 j0_m_at j258_s0 0 m_bad m_badPlace m_fault m_faultPlace m_willing m_will m_forgot m_isDrawn m_x m_begin m_round m_roundCards m_fate m_any m_bothSend m_meanCards m_bestSum m_fitMany m_fitFirst m_fitSecond)), ((m_a 5), .inl (cB, 1600, .inl m_tape_c))] H := hP
            have hD : va_D A [(m, .inr (11, mG m_a m_thrown m_taped y267 2 j0_m_at j258_s0 0 m_bad m_badPlace m_fault m_faultPlace m_willing m_will m_forgot m_isDrawn m_x m_begin m_round m_roundCards m_fate m_any m_bothSend m_meanCards m_bestSum m_fitMany m_fitFirst m_fitSecond)), ((m_a 5), .inl (cB, 1600, .inl m_tape_c))] := hD
            refine lv_goto (tgt := 208) hx hb dX12_next_271 (by decide) ?_
            exact ih208 y267 j258_s0 _ _ _ (by omega) (ir_w r267 (by decide) (by decide)) (by first | omega | decide) (by first | omega | decide) (by first | omega | decide) (by first | omega | decide) (hP.sub [0, 1] rfl) (hD.sub [0, 1] (by decide) rfl) hS (lv_sub hl [0] rfl)
          refine lv_icmp_le (tgt := 238) hx hb dX12_next_230 (by decide) (fun c230 => ?_) (fun c230 => ?_)
          rotate_left 1
          · have f230 := (show 100000 < j208_m_value.toInt from z_nle rfl rfl c230)
            have r230a : ir j208_m_value.toInt 100001 2147483647 := ir_ltb f230 (ir_c 100000) (rg_all j208_m_value) (by decide)
            refine lv_ldc (v := 1000000) hx hb hown (hts (.constant RX12 158 (1000000)) (List.mem_cons_of_mem _ (List.mem_append_left _ (List.mem_of_getElem? (i := 15) rfl)))) dX12_next_233 ?_
            refine lv_goto (tgt := 258) hx hb dX12_next_235 (by decide) ?_
            exact J258 1000000 _ _ _ (by have kc0 : (1000000 : Int32).toInt = 1000000 := rfl; first | omega | decide) (by have kc0 : (1000000 : Int32).toInt = 1000000 := rfl; first | omega | decide) (by have kc0 : (1000000 : Int32).toInt = 1000000 := rfl; first | omega | decide) (by have kc0 : (1000000 : Int32).toInt = 1000000 := rfl; first | omega | decide) (hP.sub [0, 1] rfl) (hD.sub [0, 1] (by decide) rfl) hS (lv_sub hl [0] rfl)
          have f230 := (show j208_m_value.toInt ≤ 100000 from z_le rfl rfl c230)
          have r230a : ir j208_m_value.toInt (-2147483648) 100000 := ir_lea f230 (rg_all j208_m_value) (ir_c 100000) (by decide)
          refine lv_bipush (v := 10) hx hb dX12_next_238 (by decide) ?_
          refine lv_aload_n hx hb dX12_next_240 rfl (lv_at hl 0 rfl) ?_
          refine va_get (D := g) (ci := 11) (v := .int j208_m_value) (C := RX12) (T := TX12) (N := 56) hx hb hts iX12 hown hK hP 0 rfl rfl 10 (by decide) (hts (.fieldLink RX12 141 "CardsAtYuleModel" "value" "I") (List.mem_cons_of_mem _ (List.mem_append_left _ (List.mem_of_getElem? (i := 6) rfl)))) (fun _ h9 => h9) rfl dX12_next_241 ?_
          refine lv_imul hx hb dX12_next_244 ?_
          refine lv_topi (fun y244 e244 => ?_)
          refine lv_aload_n hx hb dX12_next_245 rfl (lv_at hl 0 rfl) ?_
          refine va_get (D := g) (ci := 11) (v := .ref (m_a 5)) (C := RX12) (T := TX12) (N := 56) hx hb hts iX12 hown hK hP 0 rfl rfl 5 (by decide) (hts (.fieldLink RX12 23 "CardsAtYuleModel" "tape" "[B") (List.mem_cons_of_mem _ (List.mem_append_left _ (List.mem_of_getElem? (i := 12) rfl)))) (fun _ h9 => h9) rfl dX12_next_246 ?_
          refine lv_aload_n hx hb dX12_next_249 rfl (lv_at hl 0 rfl) ?_
          refine va_get (D := g) (ci := 11) (v := .int j208_m_at) (C := RX12) (T := TX12) (N := 56) hx hb hts iX12 hown hK hP 0 rfl rfl 7 (by decide) (hts (.fieldLink RX12 131 "CardsAtYuleModel" "at" "I") (List.mem_cons_of_mem _ (List.mem_append_left _ (List.mem_of_getElem? (i := 0) rfl)))) (fun _ h9 => h9) rfl dX12_next_250 ?_
          refine va_bald (D := g) hx hb hK hP 1 2 rfl rfl (vi_rg rfl r217_0a (by decide) (by decide)) dX12_next_253 ?_
          refine lv_topi (fun y253 e253 => ?_)
          refine lv_iadd hx hb dX12_next_254 ?_
          refine lv_topi (fun y254 e254 => ?_)
          refine lv_bipush (v := 48) hx hb dX12_next_255 (by decide) ?_
          refine lv_isub hx hb dX12_next_257 ?_
          refine lv_topi (fun y257 e257 => ?_)
          exact J258 y257 _ _ _ (by first | omega | decide) (by first | omega | decide) (by first | omega | decide) (by first | omega | decide) (hP.sub [0, 1] rfl) (hD.sub [0, 1] (by decide) rfl) hS (lv_sub hl [0] rfl)
      exact J208 _ j0_m_at 0 _ _ _ (Nat.lt_succ_self _) (ir_w r197_0a (by decide) (by decide)) (by have kc0 : (0 : Int32).toInt = 0 := rfl; first | omega | decide) (by have kc0 : (0 : Int32).toInt = 0 := rfl; first | omega | decide) (by have kc0 : (0 : Int32).toInt = 0 := rfl; first | omega | decide) (by have kc0 : (0 : Int32).toInt = 0 := rfl; first | omega | decide) (hP.sub [0, 1] rfl) (hD.sub [0, 1] (by decide) rfl) hS (lv_sub hl [0] rfl)
  exact J0 _ m_at _ _ _ (Nat.lt_succ_self _) hv_m_at (by first | omega | decide) (by first | omega | decide) (hP.sub [0, 1] rfl) (hD.sub [0, 1] (by decide) rfl) hS (lv_sub hl [0] rfl)
def v_X12_fails : List Cond := .code yX12_fails cX12_fails 2 none :: (([.fieldLink RX12 159 "CardsAtYuleModel" "bad" "I", .fieldLink RX12 138 "CardsAtYuleModel" "place" "I", .fieldLink RX12 162 "CardsAtYuleModel" "badPlace" "I"] : List Cond) ++ (wsX120 ++ ([] : List Cond)))
theorem good_v_X12_fails : v_X12_fails.all goodWord = true := ga_c (by decide +kernel) (ga_a (by decide +kernel) (ga_a good_wsX120 rfl))
set_option maxHeartbeats 4000000 in
set_option maxRecDepth 100000 in
theorem q_X12_fails (l : Launch) (g : va_G) (cI cJ cB cZ cL : ClassId) (p0 : Int32) (m : Nat) (m_a : Nat → Nat) (m_thrown : Int32) (m_taped : Int32) (m_at : Int32) (m_token : Int32) (m_place : Int32) (m_value : Int32) (m_word : Int64) (m_bad : Int32) (m_badPlace : Int32) (m_fault : Int32) (m_faultPlace : Int32) (m_willing : Int32) (m_will : Int32) (m_forgot : Int32) (m_isDrawn : Int32) (m_x : Int64) (m_begin : Int32) (m_round : Int32) (m_roundCards : Int32) (m_fate : Int32) (m_any : Int64) (m_bothSend : Int64) (m_meanCards : Int64) (m_bestSum : Int32) (m_fitMany : Int32) (m_fitFirst : Int64) (m_fitSecond : Int64) (sz : Nat) (hv_p0 : ir p0.toInt 1 3) (hv_m_taped : ir m_taped.toInt 0 1600) (hv_m_at : ir m_at.toInt 0 1600) (hv_m_will : ir m_will.toInt 0 1) (hv_m_isDrawn : ir m_isDrawn.toInt 0 1) : Met l yX12_fails v_X12_fails ({ frames := 0, cells := 0, slots := 0, locals := 0 }) (va_Pc [.ref m, .int p0] (pRW g (tyT cI cJ cB cZ cL) [(m, .inr (11, mG m_a m_thrown m_taped m_at m_token m_place m_value m_word m_bad m_badPlace m_fault m_faultPlace m_willing m_will m_forgot m_isDrawn m_x m_begin m_round m_roundCards m_fate m_any m_bothSend m_meanCards m_bestSum m_fitMany m_fitFirst m_fitSecond))] sz)) (va_Qv (fun (u : Int32 × Int32) => match u with | (n_m_bad, n_m_badPlace) => (n_m_bad.toInt ≠ 0)) (fun (u : Int32 × Int32) (t : State) => bRW g (tyT cI cJ cB cZ cL) (va_A [(m, .inr (11, mG m_a m_thrown m_taped m_at m_token m_place m_value m_word m_bad m_badPlace m_fault m_faultPlace m_willing m_will m_forgot m_isDrawn m_x m_begin m_round m_roundCards m_fate m_any m_bothSend m_meanCards m_bestSum m_fitMany m_fitFirst m_fitSecond))] sz) (match u with | (n_m_bad, n_m_badPlace) => [(m, .inr (11, mG m_a m_thrown m_taped m_at m_token m_place m_value m_word n_m_bad n_m_badPlace m_fault m_faultPlace m_willing m_will m_forgot m_isDrawn m_x m_begin m_round m_roundCards m_fate m_any m_bothSend m_meanCards m_bestSum m_fitMany m_fitFirst m_fitSecond))]) t) (va_A [(m, .inr (11, mG m_a m_thrown m_taped m_at m_token m_place m_value m_word m_bad m_badPlace m_fault m_faultPlace m_willing m_will m_forgot m_isDrawn m_x m_begin m_round m_roundCards m_fate m_any m_bothSend m_meanCards m_bestSum m_fitMany m_fitFirst m_fitSecond))] sz)) 0 0 (va_A [(m, .inr (11, mG m_a m_thrown m_taped m_at m_token m_place m_value m_word m_bad m_badPlace m_fault m_faultPlace m_willing m_will m_forgot m_isDrawn m_x m_begin m_round m_roundCards m_fate m_any m_bothSend m_meanCards m_bestSum m_fitMany m_fitFirst m_fitSecond))] sz) := by
  refine Met.ofW (cc := cX12_fails) (maxL := 2) (ret := none) (by decide) rfl ?_
  intro p e s mth args below meth c s₁ B hml hv
  obtain ⟨rfl, hsz, hP, hK, hD0⟩ := hv
  have hx := B.exec
  have hb := B.bytes
  have hr := B.returns
  have hts := atoms_spec (ws := v_X12_fails) B.pre
  have hown : s.vm.findClass RX12 = some mth.cls := findClass_of_methodNamed B.named
  have hlocks := B.notSynchronized
  clear B
  subst hsz
  have iX12 : ∀ w ∈ wsX120, w ∈ v_X12_fails := (fun _ h => List.mem_cons_of_mem _ (List.mem_append_right _ (List.mem_append_left _ h)))
  have hD := hD0.self (sz := s.heap.size)
  generalize hAe : (va_A [(m, .inr (11, mG m_a m_thrown m_taped m_at m_token m_place m_value m_word m_bad m_badPlace m_fault m_faultPlace m_willing m_will m_forgot m_isDrawn m_x m_begin m_round m_roundCards m_fate m_any m_bothSend m_meanCards m_bestSum m_fitMany m_fitFirst m_fitSecond))] s.heap.size) = A at hD ⊢
  have hA : ∀ q : Nat, s.heap.size ≤ q → A q := fun q h => by rw [← hAe]; exact Or.inr h
  have hS : va_S A s.heap s.heap [] := va_S.rf
  have hl := lv_entry ([.ref m, .int p0]) (n := 2) (Nat.le_of_ble_eq_true rfl)
  rw [lg_entry_eq]
  generalize (lg_sl ([.ref m, .int p0]) ++ List.replicate (2 - (lg_sl ([.ref m, .int p0])).length) Slot.unset).toArray = ls at hl ⊢
  generalize ([.ref m, .int p0] : List Value).toArray = av at hts ⊢
  generalize hQ : MQ below _ av s _ _ A = QQ
  have hl : lv_has ls 2 [(0, .ref m), (1, .int p0)] := hl
  have hP : va_P g vwCl [(m, .inr (11, mG m_a m_thrown m_taped m_at m_token m_place m_value m_word m_bad m_badPlace m_fault m_faultPlace m_willing m_will m_forgot m_isDrawn m_x m_begin m_round m_roundCards m_fate m_any m_bothSend m_meanCards m_bestSum m_fitMany m_fitFirst m_fitSecond))] s.heap := hP
  refine lv_aload_n hx hb dX12_fails_0 rfl (lv_at hl 0 rfl) ?_
  refine va_get (D := g) (ci := 11) (v := .int m_bad) (C := RX12) (T := TX12) (N := 56) hx hb hts iX12 hown hK hP 0 rfl rfl 12 (by decide) (hts (.fieldLink RX12 159 "CardsAtYuleModel" "bad" "I") (List.mem_cons_of_mem _ (List.mem_append_left _ (List.mem_of_getElem? (i := 0) rfl)))) (fun _ h9 => h9) rfl dX12_fails_1 ?_
  refine lv_if_eq (tgt := 8) hx hb dX12_fails_4 (by decide) (fun c4 => ?_) (fun c4 => ?_)
  rotate_left 1
  · have f4 := (show m_bad.toInt ≠ 0 from z_ne rfl rfl c4)
    subst hQ
    have hP9 := hP.sub (ws' := [(m, .inr (11, mG m_a m_thrown m_taped m_at m_token m_place m_value m_word m_bad m_badPlace m_fault m_faultPlace m_willing m_will m_forgot m_isDrawn m_x m_begin m_round m_roundCards m_fate m_any m_bothSend m_meanCards m_bestSum m_fitMany m_fitFirst m_fitSecond))]) [0] rfl
    have hD9 := hD.sub (ws' := [(m, .inr (11, mG m_a m_thrown m_taped m_at m_token m_place m_value m_word m_bad m_badPlace m_fault m_faultPlace m_willing m_will m_forgot m_isDrawn m_x m_begin m_round m_roundCards m_fate m_any m_bothSend m_meanCards m_bestSum m_fitMany m_fitFirst m_fitSecond))]) [0] (by decide) rfl
    exact W.vret hx hb hr (fun t ht hW => ⟨⟨(m_bad, m_badPlace), rfl, (by omega), ⟨by rw [ht]; exact hP9, va_K.moved hW.alike hK, hD9⟩⟩, hS.F ht⟩) hS.2.2 dX12_fails_7
  have f4 := (show m_bad.toInt = 0 from z_eq rfl rfl c4)
  have r4a : ir m_bad.toInt 0 0 := ir_eqa f4 (rg_all m_bad) (ir_c 0) (by decide) (by decide)
  refine lv_aload_n hx hb dX12_fails_8 rfl (lv_at hl 0 rfl) ?_
  refine lv_iload_n hx hb dX12_fails_9 rfl (lv_at hl 1 rfl) ?_
  refine va_put (D := g) (ci := 11) (v := .int p0) (ty := .int) (C := RX12) (T := TX12) (N := 56) hx hb hts iX12 tyX12 tyX12_ok nmX12 hown hK hP hD hS 0 rfl rfl 12 (by decide) (hts (.fieldLink RX12 159 "CardsAtYuleModel" "bad" "I") (List.mem_cons_of_mem _ (List.mem_append_left _ (List.mem_of_getElem? (i := 0) rfl)))) (fun _ h9 => h9) rfl (by decide +kernel) rfl rfl (Nat.le_of_ble_eq_true rfl) dX12_fails_10 (fun H locs hP hD hS => ?_)
  have hP : va_P g vwCl [(m, .inr (11, mG m_a m_thrown m_taped m_at m_token m_place m_value m_word p0 m_badPlace m_fault m_faultPlace m_willing m_will m_forgot m_isDrawn m_x m_begin m_round m_roundCards m_fate m_any m_bothSend m_meanCards m_bestSum m_fitMany m_fitFirst m_fitSecond))] H := hP
  have hD : va_D A [(m, .inr (11, mG m_a m_thrown m_taped m_at m_token m_place m_value m_word p0 m_badPlace m_fault m_faultPlace m_willing m_will m_forgot m_isDrawn m_x m_begin m_round m_roundCards m_fate m_any m_bothSend m_meanCards m_bestSum m_fitMany m_fitFirst m_fitSecond))] := hD
  refine lv_aload_n hx hb dX12_fails_13 rfl (lv_at hl 0 rfl) ?_
  refine lv_aload_n hx hb dX12_fails_14 rfl (lv_at hl 0 rfl) ?_
  refine va_get (D := g) (ci := 11) (v := .int m_place) (C := RX12) (T := TX12) (N := 56) hx hb hts iX12 hown hK hP 0 rfl rfl 9 (by decide) (hts (.fieldLink RX12 138 "CardsAtYuleModel" "place" "I") (List.mem_cons_of_mem _ (List.mem_append_left _ (List.mem_of_getElem? (i := 1) rfl)))) (fun _ h9 => h9) rfl dX12_fails_15 ?_
  refine va_put (D := g) (ci := 11) (v := .int m_place) (ty := .int) (C := RX12) (T := TX12) (N := 56) hx hb hts iX12 tyX12 tyX12_ok nmX12 hown hK hP hD hS 0 rfl rfl 13 (by decide) (hts (.fieldLink RX12 162 "CardsAtYuleModel" "badPlace" "I") (List.mem_cons_of_mem _ (List.mem_append_left _ (List.mem_of_getElem? (i := 2) rfl)))) (fun _ h9 => h9) rfl (by decide +kernel) rfl rfl (Nat.le_of_ble_eq_true rfl) dX12_fails_18 (fun H locs hP hD hS => ?_)
  have hP : va_P g vwCl [(m, .inr (11, mG m_a m_thrown m_taped m_at m_token m_place m_value m_word p0 m_place m_fault m_faultPlace m_willing m_will m_forgot m_isDrawn m_x m_begin m_round m_roundCards m_fate m_any m_bothSend m_meanCards m_bestSum m_fitMany m_fitFirst m_fitSecond))] H := hP
  have hD : va_D A [(m, .inr (11, mG m_a m_thrown m_taped m_at m_token m_place m_value m_word p0 m_place m_fault m_faultPlace m_willing m_will m_forgot m_isDrawn m_x m_begin m_round m_roundCards m_fate m_any m_bothSend m_meanCards m_bestSum m_fitMany m_fitFirst m_fitSecond))] := hD
  subst hQ
  have hP9 := hP.sub (ws' := [(m, .inr (11, mG m_a m_thrown m_taped m_at m_token m_place m_value m_word p0 m_place m_fault m_faultPlace m_willing m_will m_forgot m_isDrawn m_x m_begin m_round m_roundCards m_fate m_any m_bothSend m_meanCards m_bestSum m_fitMany m_fitFirst m_fitSecond))]) [0] rfl
  have hD9 := hD.sub (ws' := [(m, .inr (11, mG m_a m_thrown m_taped m_at m_token m_place m_value m_word p0 m_place m_fault m_faultPlace m_willing m_will m_forgot m_isDrawn m_x m_begin m_round m_roundCards m_fate m_any m_bothSend m_meanCards m_bestSum m_fitMany m_fitFirst m_fitSecond))]) [0] (by decide) rfl
  exact W.vret hx hb hr (fun t ht hW => ⟨⟨(p0, m_place), rfl, (by omega), ⟨by rw [ht]; exact hP9, va_K.moved hW.alike hK, hD9⟩⟩, hS.F ht⟩) hS.2.2 dX12_fails_21
def v_X12_isGood : List Cond := .code yX12_isGood cX12_isGood 1 (some .boolean) :: (([.fieldLink RX12 159 "CardsAtYuleModel" "bad" "I"] : List Cond) ++ (wsX120 ++ ([] : List Cond)))
theorem good_v_X12_isGood : v_X12_isGood.all goodWord = true := ga_c (by decide +kernel) (ga_a (by decide +kernel) (ga_a good_wsX120 rfl))
set_option maxHeartbeats 4000000 in
set_option maxRecDepth 100000 in
theorem q_X12_isGood (l : Launch) (g : va_G) (cI cJ cB cZ cL : ClassId) (m : Nat) (m_a : Nat → Nat) (m_thrown : Int32) (m_taped : Int32) (m_at : Int32) (m_token : Int32) (m_place : Int32) (m_value : Int32) (m_word : Int64) (m_bad : Int32) (m_badPlace : Int32) (m_fault : Int32) (m_faultPlace : Int32) (m_willing : Int32) (m_will : Int32) (m_forgot : Int32) (m_isDrawn : Int32) (m_x : Int64) (m_begin : Int32) (m_round : Int32) (m_roundCards : Int32) (m_fate : Int32) (m_any : Int64) (m_bothSend : Int64) (m_meanCards : Int64) (m_bestSum : Int32) (m_fitMany : Int32) (m_fitFirst : Int64) (m_fitSecond : Int64) (sz : Nat) (hv_m_taped : ir m_taped.toInt 0 1600) (hv_m_at : ir m_at.toInt 0 1600) (hv_m_will : ir m_will.toInt 0 1) (hv_m_isDrawn : ir m_isDrawn.toInt 0 1) : Met l yX12_isGood v_X12_isGood ({ frames := 0, cells := 0, slots := 0, locals := 0 }) (va_Pc [.ref m] (pRO g (tyT cI cJ cB cZ cL) [(m, .inr (11, mG m_a m_thrown m_taped m_at m_token m_place m_value m_word m_bad m_badPlace m_fault m_faultPlace m_willing m_will m_forgot m_isDrawn m_x m_begin m_round m_roundCards m_fate m_any m_bothSend m_meanCards m_bestSum m_fitMany m_fitFirst m_fitSecond))] sz)) (va_Qi (fun (r : Int32) (u : Unit) => ((r = 1 ∧ m_bad.toInt = 0) ∨ (r = 0 ∧ m_bad.toInt ≠ 0))) (fun (_ : Unit) (_ : State) => True) (va_A [] sz)) 0 0 (va_A [] sz) := by
  refine Met.ofW (cc := cX12_isGood) (maxL := 1) (ret := (some .boolean)) (by decide) rfl ?_
  intro p e s mth args below meth c s₁ B hml hv
  obtain ⟨rfl, hsz, hP, hK⟩ := hv
  have hx := B.exec
  have hb := B.bytes
  have hr := B.returns
  have hts := atoms_spec (ws := v_X12_isGood) B.pre
  have hown : s.vm.findClass RX12 = some mth.cls := findClass_of_methodNamed B.named
  have hlocks := B.notSynchronized
  clear B
  subst hsz
  have iX12 : ∀ w ∈ wsX120, w ∈ v_X12_isGood := (fun _ h => List.mem_cons_of_mem _ (List.mem_append_right _ (List.mem_append_left _ h)))
  generalize hAe : (va_A [] s.heap.size) = A
  have hA : ∀ q : Nat, s.heap.size ≤ q → A q := fun q h => by rw [← hAe]; exact Or.inr h
  have hS : va_S A s.heap s.heap [] := va_S.rf
  have hl := lv_entry ([.ref m]) (n := 1) (Nat.le_of_ble_eq_true rfl)
  rw [lg_entry_eq]
  generalize (lg_sl ([.ref m]) ++ List.replicate (1 - (lg_sl ([.ref m])).length) Slot.unset).toArray = ls at hl ⊢
  generalize ([.ref m] : List Value).toArray = av at hts ⊢
  generalize hQ : MQ below _ av s _ _ A = QQ
  have hl : lv_has ls 1 [(0, .ref m)] := hl
  have hP : va_P g vwCl [(m, .inr (11, mG m_a m_thrown m_taped m_at m_token m_place m_value m_word m_bad m_badPlace m_fault m_faultPlace m_willing m_will m_forgot m_isDrawn m_x m_begin m_round m_roundCards m_fate m_any m_bothSend m_meanCards m_bestSum m_fitMany m_fitFirst m_fitSecond))] s.heap := hP
  refine lv_aload_n hx hb dX12_isGood_0 rfl (lv_at hl 0 rfl) ?_
  refine va_get (D := g) (ci := 11) (v := .int m_bad) (C := RX12) (T := TX12) (N := 56) hx hb hts iX12 hown hK hP 0 rfl rfl 12 (by decide) (hts (.fieldLink RX12 159 "CardsAtYuleModel" "bad" "I") (List.mem_cons_of_mem _ (List.mem_append_left _ (List.mem_of_getElem? (i := 0) rfl)))) (fun _ h9 => h9) rfl dX12_isGood_1 ?_
  refine lv_if_ne (tgt := 11) hx hb dX12_isGood_4 (by decide) (fun c4 => ?_) (fun c4 => ?_)
  · have f4 := (show m_bad.toInt ≠ 0 from z_ne rfl rfl c4)
    refine lv_iconst (v := 0) hx hb dX12_isGood_11 (by decide) ?_
    subst hQ
    exact W.zret (v := 0) hx hb hr rfl (fun t ht hW => ⟨⟨0, (), rfl, (Or.inr ⟨rfl, (by first | omega | decide)⟩), trivial⟩, hS.F ht⟩) hS.2.2 dX12_isGood_12
  have f4 := (show m_bad.toInt = 0 from z_eq rfl rfl c4)
  have r4a : ir m_bad.toInt 0 0 := ir_eqa f4 (rg_all m_bad) (ir_c 0) (by decide) (by decide)
  refine lv_iconst (v := 1) hx hb dX12_isGood_7 (by decide) ?_
  refine lv_goto (tgt := 12) hx hb dX12_isGood_8 (by decide) ?_
  subst hQ
  exact W.zret (v := 1) hx hb hr rfl (fun t ht hW => ⟨⟨1, (), rfl, (Or.inl ⟨rfl, (by first | omega | decide)⟩), trivial⟩, hS.F ht⟩) hS.2.2 dX12_isGood_12
def v_X12_is : List Cond := .code yX12_is cX12_is 3 (some .boolean) :: (([.fieldLink RX12 159 "CardsAtYuleModel" "bad" "I", .fieldLink RX12 148 "CardsAtYuleModel" "token" "I", .fieldLink RX12 144 "CardsAtYuleModel" "word" "J"] : List Cond) ++ (wsX120 ++ ([] : List Cond)))
theorem good_v_X12_is : v_X12_is.all goodWord = true := ga_c (by decide +kernel) (ga_a (by decide +kernel) (ga_a good_wsX120 rfl))
set_option maxHeartbeats 4000000 in
set_option maxRecDepth 100000 in
theorem q_X12_is (l : Launch) (g : va_G) (cI cJ cB cZ cL : ClassId) (p0 : Int64) (m : Nat) (m_a : Nat → Nat) (m_thrown : Int32) (m_taped : Int32) (m_at : Int32) (m_token : Int32) (m_place : Int32) (m_value : Int32) (m_word : Int64) (m_bad : Int32) (m_badPlace : Int32) (m_fault : Int32) (m_faultPlace : Int32) (m_willing : Int32) (m_will : Int32) (m_forgot : Int32) (m_isDrawn : Int32) (m_x : Int64) (m_begin : Int32) (m_round : Int32) (m_roundCards : Int32) (m_fate : Int32) (m_any : Int64) (m_bothSend : Int64) (m_meanCards : Int64) (m_bestSum : Int32) (m_fitMany : Int32) (m_fitFirst : Int64) (m_fitSecond : Int64) (sz : Nat) (hv_m_taped : ir m_taped.toInt 0 1600) (hv_m_at : ir m_at.toInt 0 1600) (hv_m_will : ir m_will.toInt 0 1) (hv_m_isDrawn : ir m_isDrawn.toInt 0 1) : Met l yX12_is v_X12_is ({ frames := 0, cells := 0, slots := 0, locals := 0 }) (va_Pc [.ref m, .long p0] (pRO g (tyT cI cJ cB cZ cL) [(m, .inr (11, mG m_a m_thrown m_taped m_at m_token m_place m_value m_word m_bad m_badPlace m_fault m_faultPlace m_willing m_will m_forgot m_isDrawn m_x m_begin m_round m_roundCards m_fate m_any m_bothSend m_meanCards m_bestSum m_fitMany m_fitFirst m_fitSecond))] sz)) (va_Qi (fun (r : Int32) (u : Unit) => ((r = 1 ∧ m_bad.toInt = 0 ∧ m_token.toInt = 1) ∨ (r = 0))) (fun (_ : Unit) (_ : State) => True) (va_A [] sz)) 0 0 (va_A [] sz) := by
  refine Met.ofW (cc := cX12_is) (maxL := 3) (ret := (some .boolean)) (by decide) rfl ?_
  intro p e s mth args below meth c s₁ B hml hv
  obtain ⟨rfl, hsz, hP, hK⟩ := hv
  have hx := B.exec
  have hb := B.bytes
  have hr := B.returns
  have hts := atoms_spec (ws := v_X12_is) B.pre
  have hown : s.vm.findClass RX12 = some mth.cls := findClass_of_methodNamed B.named
  have hlocks := B.notSynchronized
  clear B
  subst hsz
  have iX12 : ∀ w ∈ wsX120, w ∈ v_X12_is := (fun _ h => List.mem_cons_of_mem _ (List.mem_append_right _ (List.mem_append_left _ h)))
  generalize hAe : (va_A [] s.heap.size) = A
  have hA : ∀ q : Nat, s.heap.size ≤ q → A q := fun q h => by rw [← hAe]; exact Or.inr h
  have hS : va_S A s.heap s.heap [] := va_S.rf
  have hl := lv_entry ([.ref m, .long p0]) (n := 3) (Nat.le_of_ble_eq_true rfl)
  rw [lg_entry_eq]
  generalize (lg_sl ([.ref m, .long p0]) ++ List.replicate (3 - (lg_sl ([.ref m, .long p0])).length) Slot.unset).toArray = ls at hl ⊢
  generalize ([.ref m, .long p0] : List Value).toArray = av at hts ⊢
  generalize hQ : MQ below _ av s _ _ A = QQ
  have hl : lv_has ls 3 [(0, .ref m), (1, .long p0)] := hl
  have hP : va_P g vwCl [(m, .inr (11, mG m_a m_thrown m_taped m_at m_token m_place m_value m_word m_bad m_badPlace m_fault m_faultPlace m_willing m_will m_forgot m_isDrawn m_x m_begin m_round m_roundCards m_fate m_any m_bothSend m_meanCards m_bestSum m_fitMany m_fitFirst m_fitSecond))] s.heap := hP
  refine lv_aload_n hx hb dX12_is_0 rfl (lv_at hl 0 rfl) ?_
  refine va_get (D := g) (ci := 11) (v := .int m_bad) (C := RX12) (T := TX12) (N := 56) hx hb hts iX12 hown hK hP 0 rfl rfl 12 (by decide) (hts (.fieldLink RX12 159 "CardsAtYuleModel" "bad" "I") (List.mem_cons_of_mem _ (List.mem_append_left _ (List.mem_of_getElem? (i := 0) rfl)))) (fun _ h9 => h9) rfl dX12_is_1 ?_
  refine lv_if_ne (tgt := 28) hx hb dX12_is_4 (by decide) (fun c4 => ?_) (fun c4 => ?_)
  · have f4 := (show m_bad.toInt ≠ 0 from z_ne rfl rfl c4)
    refine lv_iconst (v := 0) hx hb dX12_is_28 (by decide) ?_
    subst hQ
    exact W.zret (v := 0) hx hb hr rfl (fun t ht hW => ⟨⟨0, (), rfl, (Or.inr rfl), trivial⟩, hS.F ht⟩) hS.2.2 dX12_is_29
  have f4 := (show m_bad.toInt = 0 from z_eq rfl rfl c4)
  have r4a : ir m_bad.toInt 0 0 := ir_eqa f4 (rg_all m_bad) (ir_c 0) (by decide) (by decide)
  refine lv_aload_n hx hb dX12_is_7 rfl (lv_at hl 0 rfl) ?_
  refine va_get (D := g) (ci := 11) (v := .int m_token) (C := RX12) (T := TX12) (N := 56) hx hb hts iX12 hown hK hP 0 rfl rfl 8 (by decide) (hts (.fieldLink RX12 148 "CardsAtYuleModel" "token" "I") (List.mem_cons_of_mem _ (List.mem_append_left _ (List.mem_of_getElem? (i := 1) rfl)))) (fun _ h9 => h9) rfl dX12_is_8 ?_
  refine lv_iconst (v := 1) hx hb dX12_is_11 (by decide) ?_
  refine lv_icmp_ne (tgt := 28) hx hb dX12_is_12 (by decide) (fun c12 => ?_) (fun c12 => ?_)
  · have f12 := (show m_token.toInt ≠ 1 from z_ne rfl rfl c12)
    refine lv_iconst (v := 0) hx hb dX12_is_28 (by decide) ?_
    subst hQ
    exact W.zret (v := 0) hx hb hr rfl (fun t ht hW => ⟨⟨0, (), rfl, (Or.inr rfl), trivial⟩, hS.F ht⟩) hS.2.2 dX12_is_29
  have f12 := (show m_token.toInt = 1 from z_eq rfl rfl c12)
  have r12a : ir m_token.toInt 1 1 := ir_eqa f12 (rg_all m_token) (ir_c 1) (by decide) (by decide)
  refine lv_aload_n hx hb dX12_is_15 rfl (lv_at hl 0 rfl) ?_
  refine va_get (D := g) (ci := 11) (v := .long m_word) (C := RX12) (T := TX12) (N := 56) hx hb hts iX12 hown hK hP 0 rfl rfl 11 (by decide) (hts (.fieldLink RX12 144 "CardsAtYuleModel" "word" "J") (List.mem_cons_of_mem _ (List.mem_append_left _ (List.mem_of_getElem? (i := 2) rfl)))) (fun _ h9 => h9) rfl dX12_is_16 ?_
  refine lv_lload_n hx hb dX12_is_19 rfl (lv_at hl 1 rfl) ?_
  refine W.lcmp hx hb dX12_is_20 ?_
  refine lv_if_ne (tgt := 28) hx hb dX12_is_21 (by decide) (fun c21 => ?_) (fun c21 => ?_)
  · have f21 := (show m_word.toInt ≠ p0.toInt from y_ne rfl rfl c21)
    refine lv_iconst (v := 0) hx hb dX12_is_28 (by decide) ?_
    subst hQ
    exact W.zret (v := 0) hx hb hr rfl (fun t ht hW => ⟨⟨0, (), rfl, (Or.inr rfl), trivial⟩, hS.F ht⟩) hS.2.2 dX12_is_29
  have f21 := (show m_word.toInt = p0.toInt from y_eq rfl rfl c21)
  refine lv_iconst (v := 1) hx hb dX12_is_24 (by decide) ?_
  refine lv_goto (tgt := 29) hx hb dX12_is_25 (by decide) ?_
  subst hQ
  exact W.zret (v := 1) hx hb hr rfl (fun t ht hW => ⟨⟨1, (), rfl, (Or.inl ⟨rfl, (by first | omega | decide), (by first | omega | decide)⟩), trivial⟩, hS.F ht⟩) hS.2.2 dX12_is_29
def v_X12_takes : List Cond := .code yX12_takes cX12_takes 3 (some .boolean) :: (([.methodLink RX12 165 yX12_is, .instanceMethod yX12_is, .selects RX12 yX12_is yX12_is, .initialized RX12, .methodLink RX12 169 yX12_next, .instanceMethod yX12_next, .selects RX12 yX12_next yX12_next] : List Cond) ++ (v_X12_is ++ (v_X12_next ++ ([] : List Cond))))
theorem good_v_X12_takes : v_X12_takes.all goodWord = true := ga_c (by decide +kernel) (ga_a (by decide +kernel) (ga_a good_v_X12_is (ga_a good_v_X12_next rfl)))
set_option maxHeartbeats 4000000 in
set_option maxRecDepth 100000 in
theorem q_X12_takes (l : Launch) (g : va_G) (cI cJ cB cZ cL : ClassId) (p0 : Int64) (m : Nat) (m_a : Nat → Nat) (m_thrown : Int32) (m_taped : Int32) (m_at : Int32) (m_token : Int32) (m_place : Int32) (m_value : Int32) (m_word : Int64) (m_bad : Int32) (m_badPlace : Int32) (m_fault : Int32) (m_faultPlace : Int32) (m_willing : Int32) (m_will : Int32) (m_forgot : Int32) (m_isDrawn : Int32) (m_x : Int64) (m_begin : Int32) (m_round : Int32) (m_roundCards : Int32) (m_fate : Int32) (m_any : Int64) (m_bothSend : Int64) (m_meanCards : Int64) (m_bestSum : Int32) (m_fitMany : Int32) (m_fitFirst : Int64) (m_fitSecond : Int64) (m_tape_c : Nat → Int32) (sz : Nat) (hv_m_taped : ir m_taped.toInt 0 1600) (hv_m_at : ir m_at.toInt 0 1600) (hv_m_will : ir m_will.toInt 0 1) (hv_m_isDrawn : ir m_isDrawn.toInt 0 1) (hx_0 : m_at.toInt ≤ m_taped.toInt) : Met l yX12_takes v_X12_takes ({ frames := 2, cells := 0, slots := 0, locals := 44 }) (va_Pc [.ref m, .long p0] (pRW g (tyT cI cJ cB cZ cL) [(m, .inr (11, mG m_a m_thrown m_taped m_at m_token m_place m_value m_word m_bad m_badPlace m_fault m_faultPlace m_willing m_will m_forgot m_isDrawn m_x m_begin m_round m_roundCards m_fate m_any m_bothSend m_meanCards m_bestSum m_fitMany m_fitFirst m_fitSecond)), ((m_a 5), .inl (cB, 1600, .inl m_tape_c))] sz)) (va_Qi (fun (r : Int32) (u : Int32 × Int32 × Int32 × Int32 × Int64) => match u with | (n_m_at, n_m_token, n_m_place, n_m_value, n_m_word) => (ir n_m_at.toInt 0 1600) ∧ ((n_m_at.toInt = m_at.toInt ∧ n_m_token.toInt = m_token.toInt) ∨ (m_at.toInt ≤ n_m_at.toInt ∧ n_m_at.toInt ≤ m_taped.toInt ∧ 0 ≤ n_m_token.toInt ∧ n_m_token.toInt ≤ 4 ∧ (m_at.toInt < n_m_at.toInt ∨ (n_m_token.toInt = 0 ∧ n_m_at.toInt = m_taped.toInt)))) ∧ (ir r.toInt 0 1)) (fun (u : Int32 × Int32 × Int32 × Int32 × Int64) (t : State) => bRW g (tyT cI cJ cB cZ cL) (va_A [(m, .inr (11, mG m_a m_thrown m_taped m_at m_token m_place m_value m_word m_bad m_badPlace m_fault m_faultPlace m_willing m_will m_forgot m_isDrawn m_x m_begin m_round m_roundCards m_fate m_any m_bothSend m_meanCards m_bestSum m_fitMany m_fitFirst m_fitSecond)), ((m_a 5), .inl (cB, 1600, .inl m_tape_c))] sz) (match u with | (n_m_at, n_m_token, n_m_place, n_m_value, n_m_word) => [(m, .inr (11, mG m_a m_thrown m_taped n_m_at n_m_token n_m_place n_m_value n_m_word m_bad m_badPlace m_fault m_faultPlace m_willing m_will m_forgot m_isDrawn m_x m_begin m_round m_roundCards m_fate m_any m_bothSend m_meanCards m_bestSum m_fitMany m_fitFirst m_fitSecond)), ((m_a 5), .inl (cB, 1600, .inl m_tape_c))]) t) (va_A [(m, .inr (11, mG m_a m_thrown m_taped m_at m_token m_place m_value m_word m_bad m_badPlace m_fault m_faultPlace m_willing m_will m_forgot m_isDrawn m_x m_begin m_round m_roundCards m_fate m_any m_bothSend m_meanCards m_bestSum m_fitMany m_fitFirst m_fitSecond)), ((m_a 5), .inl (cB, 1600, .inl m_tape_c))] sz)) 0 0 (va_A [(m, .inr (11, mG m_a m_thrown m_taped m_at m_token m_place m_value m_word m_bad m_badPlace m_fault m_faultPlace m_willing m_will m_forgot m_isDrawn m_x m_begin m_round m_roundCards m_fate m_any m_bothSend m_meanCards m_bestSum m_fitMany m_fitFirst m_fitSecond)), ((m_a 5), .inl (cB, 1600, .inl m_tape_c))] sz) := by
  refine Met.ofW (cc := cX12_takes) (maxL := 3) (ret := (some .boolean)) (by decide) rfl ?_
  intro p e s mth args below meth c s₁ B hml hv
  obtain ⟨rfl, hsz, hP, hK, hD0⟩ := hv
  have hx := B.exec
  have hb := B.bytes
  have hr := B.returns
  have hts := atoms_spec (ws := v_X12_takes) B.pre
  have hown : s.vm.findClass RX12 = some mth.cls := findClass_of_methodNamed B.named
  have hlocks := B.notSynchronized
  clear B
  subst hsz
  have hD := hD0.self (sz := s.heap.size)
  generalize hAe : (va_A [(m, .inr (11, mG m_a m_thrown m_taped m_at m_token m_place m_value m_word m_bad m_badPlace m_fault m_faultPlace m_willing m_will m_forgot m_isDrawn m_x m_begin m_round m_roundCards m_fate m_any m_bothSend m_meanCards m_bestSum m_fitMany m_fitFirst m_fitSecond)), ((m_a 5), .inl (cB, 1600, .inl m_tape_c))] s.heap.size) = A at hD ⊢
  have hA : ∀ q : Nat, s.heap.size ≤ q → A q := fun q h => by rw [← hAe]; exact Or.inr h
  have hS : va_S A s.heap s.heap [] := va_S.rf
  have hl := lv_entry ([.ref m, .long p0]) (n := 3) (Nat.le_of_ble_eq_true rfl)
  rw [lg_entry_eq]
  generalize (lg_sl ([.ref m, .long p0]) ++ List.replicate (3 - (lg_sl ([.ref m, .long p0])).length) Slot.unset).toArray = ls at hl ⊢
  generalize ([.ref m, .long p0] : List Value).toArray = av at hts ⊢
  generalize hQ : MQ below _ av s _ _ A = QQ
  have hl : lv_has ls 3 [(0, .ref m), (1, .long p0)] := hl
  have hP : va_P g vwCl [(m, .inr (11, mG m_a m_thrown m_taped m_at m_token m_place m_value m_word m_bad m_badPlace m_fault m_faultPlace m_willing m_will m_forgot m_isDrawn m_x m_begin m_round m_roundCards m_fate m_any m_bothSend m_meanCards m_bestSum m_fitMany m_fitFirst m_fitSecond)), ((m_a 5), .inl (cB, 1600, .inl m_tape_c))] s.heap := hP
  refine lv_aload_n hx hb dX12_takes_0 rfl (lv_at hl 0 rfl) ?_
  refine lv_lload_n hx hb dX12_takes_1 rfl (lv_at hl 1 rfl) ?_
  refine ro_i (va_runV (As := [.long p0]) (rest := []) ⟨hx, hb, hml, hown, hts⟩ (q_X12_is l g cI cJ cB cZ cL p0 m m_a m_thrown m_taped m_at m_token m_place m_value m_word m_bad m_badPlace m_fault m_faultPlace m_willing m_will m_forgot m_isDrawn m_x m_begin m_round m_roundCards m_fate m_any m_bothSend m_meanCards m_bestSum m_fitMany m_fitFirst m_fitSecond s.heap.size hv_m_taped hv_m_at hv_m_will hv_m_isDrawn) (cwV 1 hts (goodIn_app (g_4 (List.mem_cons_of_mem _ (List.mem_append_left _ (List.mem_of_getElem? (i := 0) rfl))) (List.mem_cons_of_mem _ (List.mem_append_left _ (List.mem_of_getElem? (i := 1) rfl))) (List.mem_cons_of_mem _ (List.mem_append_left _ (List.mem_of_getElem? (i := 2) rfl))) (List.mem_cons_of_mem _ (List.mem_append_left _ (List.mem_of_getElem? (i := 3) rfl))) (by decide +kernel)) (goodIn_sub (fun _ h => List.mem_cons_of_mem _ (List.mem_append_right _ (List.mem_append_left _ h))) good_v_X12_is)) rfl rfl rfl (by decide +kernel) ⟨Nat.le_of_ble_eq_true rfl, Nat.le_of_ble_eq_true rfl⟩) (pv_RO (q := (RX12, TX12, 56)) (ci := 11) (q0 := 0) (wc := [(m, .inr (11, mG m_a m_thrown m_taped m_at m_token m_place m_value m_word m_bad m_badPlace m_fault m_faultPlace m_willing m_will m_forgot m_isDrawn m_x m_begin m_round m_roundCards m_fate m_any m_bothSend m_meanCards m_bestSum m_fitMany m_fitFirst m_fitSecond))]) hK hP [0] rfl rfl rfl) rfl rfl hl.1 rfl (lv_room (Nat.le_of_ble_eq_true rfl)) dX12_takes_2 ⟨Nat.le_of_ble_eq_true rfl, Nat.le_of_ble_eq_true rfl⟩) hS hA hP (fun r2 u2 H locs hw2 hP hS => ?_)
  have hw2_0 := hw2
  rcases hw2_0 with ⟨er2, fc2_0, fc2_1⟩ | er2
  rotate_left 1
  · subst er2
    refine lv_if_ne (tgt := 10) hx hb dX12_takes_5 (by decide) (fun c => absurd c (by decide)) (fun _ => ?_)
    refine lv_iconst (v := 0) hx hb dX12_takes_8 (by decide) ?_
    subst hQ
    have hP9 := hP.sub (ws' := [(m, .inr (11, mG m_a m_thrown m_taped m_at m_token m_place m_value m_word m_bad m_badPlace m_fault m_faultPlace m_willing m_will m_forgot m_isDrawn m_x m_begin m_round m_roundCards m_fate m_any m_bothSend m_meanCards m_bestSum m_fitMany m_fitFirst m_fitSecond)), ((m_a 5), .inl (cB, 1600, .inl m_tape_c))]) [0, 1] rfl
    have hD9 := hD.sub (ws' := [(m, .inr (11, mG m_a m_thrown m_taped m_at m_token m_place m_value m_word m_bad m_badPlace m_fault m_faultPlace m_willing m_will m_forgot m_isDrawn m_x m_begin m_round m_roundCards m_fate m_any m_bothSend m_meanCards m_bestSum m_fitMany m_fitFirst m_fitSecond)), ((m_a 5), .inl (cB, 1600, .inl m_tape_c))]) [0, 1] (by decide) rfl
    exact W.zret (v := 0) hx hb hr rfl (fun t ht hW => ⟨⟨0, (m_at, m_token, m_place, m_value, m_word), rfl, ⟨hv_m_at, (by have kc0 : (0 : Int32).toInt = 0 := rfl; omega), (show ir (0 : Int32).toInt 0 1 by decide)⟩, ⟨by rw [ht]; exact hP9, va_K.moved hW.alike hK, hD9⟩⟩, hS.F ht⟩) hS.2.2 dX12_takes_9
  subst er2
  have fc2_0 : m_bad.toInt = 0 := fc2_0
  have r2_0a : ir m_bad.toInt 0 0 := ir_eqa fc2_0 (rg_all m_bad) (ir_c 0) (by decide) (by decide)
  have fc2_1 : m_token.toInt = 1 := fc2_1
  have r2_1a : ir m_token.toInt 1 1 := ir_eqa fc2_1 (rg_all m_token) (ir_c 1) (by decide) (by decide)
  refine lv_if_ne (tgt := 10) hx hb dX12_takes_5 (by decide) (fun _ => ?_) (fun c => absurd c (by decide))
  refine lv_aload_n hx hb dX12_takes_10 rfl (lv_at hl 0 rfl) ?_
  refine rw_v (wr := []) (va_runV (As := []) (rest := []) ⟨hx, hb, hml, hown, hts⟩ (q_X12_next l g cI cJ cB cZ cL m m_a m_thrown m_taped m_at m_token m_place m_value m_word m_bad m_badPlace m_fault m_faultPlace m_willing m_will m_forgot m_isDrawn m_x m_begin m_round m_roundCards m_fate m_any m_bothSend m_meanCards m_bestSum m_fitMany m_fitFirst m_fitSecond m_tape_c H.size hv_m_taped hv_m_at hv_m_will hv_m_isDrawn (by omega)) (cwV 0 hts (goodIn_app (g_4 (List.mem_cons_of_mem _ (List.mem_append_left _ (List.mem_of_getElem? (i := 4) rfl))) (List.mem_cons_of_mem _ (List.mem_append_left _ (List.mem_of_getElem? (i := 5) rfl))) (List.mem_cons_of_mem _ (List.mem_append_left _ (List.mem_of_getElem? (i := 6) rfl))) (List.mem_cons_of_mem _ (List.mem_append_left _ (List.mem_of_getElem? (i := 3) rfl))) (by decide +kernel)) (goodIn_sub (fun _ h => List.mem_cons_of_mem _ (List.mem_append_right _ (List.mem_append_right _ (List.mem_append_left _ h)))) good_v_X12_next)) rfl rfl rfl (by decide +kernel) ⟨Nat.le_of_ble_eq_true rfl, Nat.le_of_ble_eq_true rfl⟩) (pv_RW (q := (RX12, TX12, 56)) (ci := 11) (q0 := 0) (wc := [(m, .inr (11, mG m_a m_thrown m_taped m_at m_token m_place m_value m_word m_bad m_badPlace m_fault m_faultPlace m_willing m_will m_forgot m_isDrawn m_x m_begin m_round m_roundCards m_fate m_any m_bothSend m_meanCards m_bestSum m_fitMany m_fitFirst m_fitSecond)), ((m_a 5), .inl (cB, 1600, .inl m_tape_c))]) hK hP hD [0, 1] (by decide) rfl rfl rfl) rfl rfl hl.1 rfl (lv_room (Nat.le_of_ble_eq_true rfl)) dX12_takes_11 ⟨Nat.le_of_ble_eq_true rfl, Nat.le_of_ble_eq_true rfl⟩) hS hA hP hD [0, 1] [] rfl rfl (by decide) (by decide) (fun u11 H locs hw11 hP hD hS => ?_)
  obtain ⟨n_m_at_11, n_m_token_11, n_m_place_11, n_m_value_11, n_m_word_11⟩ := u11
  have hP : va_P g vwCl [(m, .inr (11, mG m_a m_thrown m_taped n_m_at_11 n_m_token_11 n_m_place_11 n_m_value_11 n_m_word_11 m_bad m_badPlace m_fault m_faultPlace m_willing m_will m_forgot m_isDrawn m_x m_begin m_round m_roundCards m_fate m_any m_bothSend m_meanCards m_bestSum m_fitMany m_fitFirst m_fitSecond)), ((m_a 5), .inl (cB, 1600, .inl m_tape_c))] H := hP
  have hD : va_D A [(m, .inr (11, mG m_a m_thrown m_taped n_m_at_11 n_m_token_11 n_m_place_11 n_m_value_11 n_m_word_11 m_bad m_badPlace m_fault m_faultPlace m_willing m_will m_forgot m_isDrawn m_x m_begin m_round m_roundCards m_fate m_any m_bothSend m_meanCards m_bestSum m_fitMany m_fitFirst m_fitSecond)), ((m_a 5), .inl (cB, 1600, .inl m_tape_c))] := hD
  dsimp only at hw11
  obtain ⟨hw11_0, hw11_1, hw11_2, hw11_3⟩ := hw11
  have hw11_3 : (m_at.toInt ≤ n_m_at_11.toInt ∧ n_m_at_11.toInt ≤ m_taped.toInt ∧ 0 ≤ n_m_token_11.toInt ∧ n_m_token_11.toInt ≤ 4 ∧ (m_at.toInt < n_m_at_11.toInt ∨ (n_m_token_11.toInt = 0 ∧ n_m_at_11.toInt = m_taped.toInt))) := hw11_3
  refine lv_iconst (v := 1) hx hb dX12_takes_14 (by decide) ?_
  subst hQ
  have hP9 := hP.sub (ws' := [(m, .inr (11, mG m_a m_thrown m_taped n_m_at_11 n_m_token_11 n_m_place_11 n_m_value_11 n_m_word_11 m_bad m_badPlace m_fault m_faultPlace m_willing m_will m_forgot m_isDrawn m_x m_begin m_round m_roundCards m_fate m_any m_bothSend m_meanCards m_bestSum m_fitMany m_fitFirst m_fitSecond)), ((m_a 5), .inl (cB, 1600, .inl m_tape_c))]) [0, 1] rfl
  have hD9 := hD.sub (ws' := [(m, .inr (11, mG m_a m_thrown m_taped n_m_at_11 n_m_token_11 n_m_place_11 n_m_value_11 n_m_word_11 m_bad m_badPlace m_fault m_faultPlace m_willing m_will m_forgot m_isDrawn m_x m_begin m_round m_roundCards m_fate m_any m_bothSend m_meanCards m_bestSum m_fitMany m_fitFirst m_fitSecond)), ((m_a 5), .inl (cB, 1600, .inl m_tape_c))]) [0, 1] (by decide) rfl
  exact W.zret (v := 1) hx hb hr rfl (fun t ht hW => ⟨⟨1, (n_m_at_11, n_m_token_11, n_m_place_11, n_m_value_11, n_m_word_11), rfl, ⟨hw11_0, (by have kc0 : (1 : Int32).toInt = 1 := rfl; omega), (show ir (1 : Int32).toInt 0 1 by decide)⟩, ⟨by rw [ht]; exact hP9, va_K.moved hW.alike hK, hD9⟩⟩, hS.F ht⟩) hS.2.2 dX12_takes_15
def v_X12_asks : List Cond := .code yX12_asks cX12_asks 3 none :: (([.methodLink RX12 172 yX12_takes, .instanceMethod yX12_takes, .selects RX12 yX12_takes yX12_takes, .initialized RX12, .methodLink RX12 175 yX12_fails, .instanceMethod yX12_fails, .selects RX12 yX12_fails yX12_fails] : List Cond) ++ (v_X12_takes ++ (v_X12_fails ++ ([] : List Cond))))
theorem good_v_X12_asks : v_X12_asks.all goodWord = true := ga_c (by decide +kernel) (ga_a (by decide +kernel) (ga_a good_v_X12_takes (ga_a good_v_X12_fails rfl)))
set_option maxHeartbeats 4000000 in
set_option maxRecDepth 100000 in
theorem q_X12_asks (l : Launch) (g : va_G) (cI cJ cB cZ cL : ClassId) (p0 : Int64) (m : Nat) (m_a : Nat → Nat) (m_thrown : Int32) (m_taped : Int32) (m_at : Int32) (m_token : Int32) (m_place : Int32) (m_value : Int32) (m_word : Int64) (m_bad : Int32) (m_badPlace : Int32) (m_fault : Int32) (m_faultPlace : Int32) (m_willing : Int32) (m_will : Int32) (m_forgot : Int32) (m_isDrawn : Int32) (m_x : Int64) (m_begin : Int32) (m_round : Int32) (m_roundCards : Int32) (m_fate : Int32) (m_any : Int64) (m_bothSend : Int64) (m_meanCards : Int64) (m_bestSum : Int32) (m_fitMany : Int32) (m_fitFirst : Int64) (m_fitSecond : Int64) (m_tape_c : Nat → Int32) (sz : Nat) (hv_m_taped : ir m_taped.toInt 0 1600) (hv_m_at : ir m_at.toInt 0 1600) (hv_m_will : ir m_will.toInt 0 1) (hv_m_isDrawn : ir m_isDrawn.toInt 0 1) (hx_0 : m_at.toInt ≤ m_taped.toInt) : Met l yX12_asks v_X12_asks ({ frames := 3, cells := 0, slots := 0, locals := 66 }) (va_Pc [.ref m, .long p0] (pRW g (tyT cI cJ cB cZ cL) [(m, .inr (11, mG m_a m_thrown m_taped m_at m_token m_place m_value m_word m_bad m_badPlace m_fault m_faultPlace m_willing m_will m_forgot m_isDrawn m_x m_begin m_round m_roundCards m_fate m_any m_bothSend m_meanCards m_bestSum m_fitMany m_fitFirst m_fitSecond)), ((m_a 5), .inl (cB, 1600, .inl m_tape_c))] sz)) (va_Qv (fun (u : Int32 × Int32 × Int32 × Int32 × Int64 × Int32 × Int32) => match u with | (n_m_at, n_m_token, n_m_place, n_m_value, n_m_word, n_m_bad, n_m_badPlace) => (ir n_m_at.toInt 0 1600) ∧ ((n_m_at.toInt = m_at.toInt ∧ n_m_token.toInt = m_token.toInt) ∨ (m_at.toInt ≤ n_m_at.toInt ∧ n_m_at.toInt ≤ m_taped.toInt ∧ 0 ≤ n_m_token.toInt ∧ n_m_token.toInt ≤ 4 ∧ (m_at.toInt < n_m_at.toInt ∨ (n_m_token.toInt = 0 ∧ n_m_at.toInt = m_taped.toInt))))) (fun (u : Int32 × Int32 × Int32 × Int32 × Int64 × Int32 × Int32) (t : State) => bRW g (tyT cI cJ cB cZ cL) (va_A [(m, .inr (11, mG m_a m_thrown m_taped m_at m_token m_place m_value m_word m_bad m_badPlace m_fault m_faultPlace m_willing m_will m_forgot m_isDrawn m_x m_begin m_round m_roundCards m_fate m_any m_bothSend m_meanCards m_bestSum m_fitMany m_fitFirst m_fitSecond)), ((m_a 5), .inl (cB, 1600, .inl m_tape_c))] sz) (match u with | (n_m_at, n_m_token, n_m_place, n_m_value, n_m_word, n_m_bad, n_m_badPlace) => [(m, .inr (11, mG m_a m_thrown m_taped n_m_at n_m_token n_m_place n_m_value n_m_word n_m_bad n_m_badPlace m_fault m_faultPlace m_willing m_will m_forgot m_isDrawn m_x m_begin m_round m_roundCards m_fate m_any m_bothSend m_meanCards m_bestSum m_fitMany m_fitFirst m_fitSecond)), ((m_a 5), .inl (cB, 1600, .inl m_tape_c))]) t) (va_A [(m, .inr (11, mG m_a m_thrown m_taped m_at m_token m_place m_value m_word m_bad m_badPlace m_fault m_faultPlace m_willing m_will m_forgot m_isDrawn m_x m_begin m_round m_roundCards m_fate m_any m_bothSend m_meanCards m_bestSum m_fitMany m_fitFirst m_fitSecond)), ((m_a 5), .inl (cB, 1600, .inl m_tape_c))] sz)) 0 0 (va_A [(m, .inr (11, mG m_a m_thrown m_taped m_at m_token m_place m_value m_word m_bad m_badPlace m_fault m_faultPlace m_willing m_will m_forgot m_isDrawn m_x m_begin m_round m_roundCards m_fate m_any m_bothSend m_meanCards m_bestSum m_fitMany m_fitFirst m_fitSecond)), ((m_a 5), .inl (cB, 1600, .inl m_tape_c))] sz) := by
  refine Met.ofW (cc := cX12_asks) (maxL := 3) (ret := none) (by decide) rfl ?_
  intro p e s mth args below meth c s₁ B hml hv
  obtain ⟨rfl, hsz, hP, hK, hD0⟩ := hv
  have hx := B.exec
  have hb := B.bytes
  have hr := B.returns
  have hts := atoms_spec (ws := v_X12_asks) B.pre
  have hown : s.vm.findClass RX12 = some mth.cls := findClass_of_methodNamed B.named
  have hlocks := B.notSynchronized
  clear B
  subst hsz
  have hD := hD0.self (sz := s.heap.size)
  generalize hAe : (va_A [(m, .inr (11, mG m_a m_thrown m_taped m_at m_token m_place m_value m_word m_bad m_badPlace m_fault m_faultPlace m_willing m_will m_forgot m_isDrawn m_x m_begin m_round m_roundCards m_fate m_any m_bothSend m_meanCards m_bestSum m_fitMany m_fitFirst m_fitSecond)), ((m_a 5), .inl (cB, 1600, .inl m_tape_c))] s.heap.size) = A at hD ⊢
  have hA : ∀ q : Nat, s.heap.size ≤ q → A q := fun q h => by rw [← hAe]; exact Or.inr h
  have hS : va_S A s.heap s.heap [] := va_S.rf
  have hl := lv_entry ([.ref m, .long p0]) (n := 3) (Nat.le_of_ble_eq_true rfl)
  rw [lg_entry_eq]
  generalize (lg_sl ([.ref m, .long p0]) ++ List.replicate (3 - (lg_sl ([.ref m, .long p0])).length) Slot.unset).toArray = ls at hl ⊢
  generalize ([.ref m, .long p0] : List Value).toArray = av at hts ⊢
  generalize hQ : MQ below _ av s _ _ A = QQ
  have hl : lv_has ls 3 [(0, .ref m), (1, .long p0)] := hl
  have hP : va_P g vwCl [(m, .inr (11, mG m_a m_thrown m_taped m_at m_token m_place m_value m_word m_bad m_badPlace m_fault m_faultPlace m_willing m_will m_forgot m_isDrawn m_x m_begin m_round m_roundCards m_fate m_any m_bothSend m_meanCards m_bestSum m_fitMany m_fitFirst m_fitSecond)), ((m_a 5), .inl (cB, 1600, .inl m_tape_c))] s.heap := hP
  refine lv_aload_n hx hb dX12_asks_0 rfl (lv_at hl 0 rfl) ?_
  refine lv_lload_n hx hb dX12_asks_1 rfl (lv_at hl 1 rfl) ?_
  refine rw_i (wr := []) (va_runV (As := [.long p0]) (rest := []) ⟨hx, hb, hml, hown, hts⟩ (q_X12_takes l g cI cJ cB cZ cL p0 m m_a m_thrown m_taped m_at m_token m_place m_value m_word m_bad m_badPlace m_fault m_faultPlace m_willing m_will m_forgot m_isDrawn m_x m_begin m_round m_roundCards m_fate m_any m_bothSend m_meanCards m_bestSum m_fitMany m_fitFirst m_fitSecond m_tape_c s.heap.size hv_m_taped hv_m_at hv_m_will hv_m_isDrawn (by omega)) (cwV 1 hts (goodIn_app (g_4 (List.mem_cons_of_mem _ (List.mem_append_left _ (List.mem_of_getElem? (i := 0) rfl))) (List.mem_cons_of_mem _ (List.mem_append_left _ (List.mem_of_getElem? (i := 1) rfl))) (List.mem_cons_of_mem _ (List.mem_append_left _ (List.mem_of_getElem? (i := 2) rfl))) (List.mem_cons_of_mem _ (List.mem_append_left _ (List.mem_of_getElem? (i := 3) rfl))) (by decide +kernel)) (goodIn_sub (fun _ h => List.mem_cons_of_mem _ (List.mem_append_right _ (List.mem_append_left _ h))) good_v_X12_takes)) rfl rfl rfl (by decide +kernel) ⟨Nat.le_of_ble_eq_true rfl, Nat.le_of_ble_eq_true rfl⟩) (pv_RW (q := (RX12, TX12, 56)) (ci := 11) (q0 := 0) (wc := [(m, .inr (11, mG m_a m_thrown m_taped m_at m_token m_place m_value m_word m_bad m_badPlace m_fault m_faultPlace m_willing m_will m_forgot m_isDrawn m_x m_begin m_round m_roundCards m_fate m_any m_bothSend m_meanCards m_bestSum m_fitMany m_fitFirst m_fitSecond)), ((m_a 5), .inl (cB, 1600, .inl m_tape_c))]) hK hP hD [0, 1] (by decide) rfl rfl rfl) rfl rfl hl.1 rfl (lv_room (Nat.le_of_ble_eq_true rfl)) dX12_asks_2 ⟨Nat.le_of_ble_eq_true rfl, Nat.le_of_ble_eq_true rfl⟩) hS hA hP hD [0, 1] [] rfl rfl (by decide) (by decide) (fun r2 u2 H locs hw2 hP hD hS => ?_)
  obtain ⟨n_m_at_2, n_m_token_2, n_m_place_2, n_m_value_2, n_m_word_2⟩ := u2
  have hP : va_P g vwCl [(m, .inr (11, mG m_a m_thrown m_taped n_m_at_2 n_m_token_2 n_m_place_2 n_m_value_2 n_m_word_2 m_bad m_badPlace m_fault m_faultPlace m_willing m_will m_forgot m_isDrawn m_x m_begin m_round m_roundCards m_fate m_any m_bothSend m_meanCards m_bestSum m_fitMany m_fitFirst m_fitSecond)), ((m_a 5), .inl (cB, 1600, .inl m_tape_c))] H := hP
  have hD : va_D A [(m, .inr (11, mG m_a m_thrown m_taped n_m_at_2 n_m_token_2 n_m_place_2 n_m_value_2 n_m_word_2 m_bad m_badPlace m_fault m_faultPlace m_willing m_will m_forgot m_isDrawn m_x m_begin m_round m_roundCards m_fate m_any m_bothSend m_meanCards m_bestSum m_fitMany m_fitFirst m_fitSecond)), ((m_a 5), .inl (cB, 1600, .inl m_tape_c))] := hD
  dsimp only at hw2
  obtain ⟨hw2_0, hw2_1, hw2_2⟩ := hw2
  have hw2_1 : (n_m_at_2.toInt = m_at.toInt ∧ n_m_token_2.toInt = m_token.toInt) ∨ (m_at.toInt ≤ n_m_at_2.toInt ∧ n_m_at_2.toInt ≤ m_taped.toInt ∧ 0 ≤ n_m_token_2.toInt ∧ n_m_token_2.toInt ≤ 4 ∧ (m_at.toInt < n_m_at_2.toInt ∨ (n_m_token_2.toInt = 0 ∧ n_m_at_2.toInt = m_taped.toInt))) := hw2_1
  refine lv_if_ne (tgt := 13) hx hb dX12_asks_5 (by decide) (fun c5 => ?_) (fun c5 => ?_)
  · have f5 := (show r2.toInt ≠ 0 from z_ne rfl rfl c5)
    have r5a : ir r2.toInt 1 1 := ir_nel f5 hw2_2 (by decide) (by decide)
    subst hQ
    have hP9 := hP.sub (ws' := [(m, .inr (11, mG m_a m_thrown m_taped n_m_at_2 n_m_token_2 n_m_place_2 n_m_value_2 n_m_word_2 m_bad m_badPlace m_fault m_faultPlace m_willing m_will m_forgot m_isDrawn m_x m_begin m_round m_roundCards m_fate m_any m_bothSend m_meanCards m_bestSum m_fitMany m_fitFirst m_fitSecond)), ((m_a 5), .inl (cB, 1600, .inl m_tape_c))]) [0, 1] rfl
    have hD9 := hD.sub (ws' := [(m, .inr (11, mG m_a m_thrown m_taped n_m_at_2 n_m_token_2 n_m_place_2 n_m_value_2 n_m_word_2 m_bad m_badPlace m_fault m_faultPlace m_willing m_will m_forgot m_isDrawn m_x m_begin m_round m_roundCards m_fate m_any m_bothSend m_meanCards m_bestSum m_fitMany m_fitFirst m_fitSecond)), ((m_a 5), .inl (cB, 1600, .inl m_tape_c))]) [0, 1] (by decide) rfl
    exact W.vret hx hb hr (fun t ht hW => ⟨⟨(n_m_at_2, n_m_token_2, n_m_place_2, n_m_value_2, n_m_word_2, m_bad, m_badPlace), rfl, ⟨hw2_0, (by omega)⟩, ⟨by rw [ht]; exact hP9, va_K.moved hW.alike hK, hD9⟩⟩, hS.F ht⟩) hS.2.2 dX12_asks_13
  have f5 := (show r2.toInt = 0 from z_eq rfl rfl c5)
  have r5a : ir r2.toInt 0 0 := ir_eqa f5 hw2_2 (ir_c 0) (by decide) (by decide)
  refine lv_aload_n hx hb dX12_asks_8 rfl (lv_at hl 0 rfl) ?_
  refine lv_iconst (v := 1) hx hb dX12_asks_9 (by decide) ?_
  refine rw_v (wr := [((m_a 5), .inl (cB, 1600, .inl m_tape_c))]) (va_runV (As := [.int 1]) (rest := []) ⟨hx, hb, hml, hown, hts⟩ (q_X12_fails l g cI cJ cB cZ cL 1 m m_a m_thrown m_taped n_m_at_2 n_m_token_2 n_m_place_2 n_m_value_2 n_m_word_2 m_bad m_badPlace m_fault m_faultPlace m_willing m_will m_forgot m_isDrawn m_x m_begin m_round m_roundCards m_fate m_any m_bothSend m_meanCards m_bestSum m_fitMany m_fitFirst m_fitSecond H.size (by decide) hv_m_taped hw2_0 hv_m_will hv_m_isDrawn) (cwV 1 hts (goodIn_app (g_4 (List.mem_cons_of_mem _ (List.mem_append_left _ (List.mem_of_getElem? (i := 4) rfl))) (List.mem_cons_of_mem _ (List.mem_append_left _ (List.mem_of_getElem? (i := 5) rfl))) (List.mem_cons_of_mem _ (List.mem_append_left _ (List.mem_of_getElem? (i := 6) rfl))) (List.mem_cons_of_mem _ (List.mem_append_left _ (List.mem_of_getElem? (i := 3) rfl))) (by decide +kernel)) (goodIn_sub (fun _ h => List.mem_cons_of_mem _ (List.mem_append_right _ (List.mem_append_right _ (List.mem_append_left _ h)))) good_v_X12_fails)) rfl rfl rfl (by decide +kernel) ⟨Nat.le_of_ble_eq_true rfl, Nat.le_of_ble_eq_true rfl⟩) (pv_RW (q := (RX12, TX12, 56)) (ci := 11) (q0 := 0) (wc := [(m, .inr (11, mG m_a m_thrown m_taped n_m_at_2 n_m_token_2 n_m_place_2 n_m_value_2 n_m_word_2 m_bad m_badPlace m_fault m_faultPlace m_willing m_will m_forgot m_isDrawn m_x m_begin m_round m_roundCards m_fate m_any m_bothSend m_meanCards m_bestSum m_fitMany m_fitFirst m_fitSecond))]) hK hP hD [0] (by decide) rfl rfl rfl) rfl rfl hl.1 rfl (lv_room (Nat.le_of_ble_eq_true rfl)) dX12_asks_10 ⟨Nat.le_of_ble_eq_true rfl, Nat.le_of_ble_eq_true rfl⟩) hS hA hP hD [0] [1] rfl rfl (by decide) (by decide) (fun u10 H locs hw10 hP hD hS => ?_)
  obtain ⟨n_m_bad_10, n_m_badPlace_10⟩ := u10
  have hP : va_P g vwCl [((m_a 5), .inl (cB, 1600, .inl m_tape_c)), (m, .inr (11, mG m_a m_thrown m_taped n_m_at_2 n_m_token_2 n_m_place_2 n_m_value_2 n_m_word_2 n_m_bad_10 n_m_badPlace_10 m_fault m_faultPlace m_willing m_will m_forgot m_isDrawn m_x m_begin m_round m_roundCards m_fate m_any m_bothSend m_meanCards m_bestSum m_fitMany m_fitFirst m_fitSecond))] H := hP
  have hD : va_D A [((m_a 5), .inl (cB, 1600, .inl m_tape_c)), (m, .inr (11, mG m_a m_thrown m_taped n_m_at_2 n_m_token_2 n_m_place_2 n_m_value_2 n_m_word_2 n_m_bad_10 n_m_badPlace_10 m_fault m_faultPlace m_willing m_will m_forgot m_isDrawn m_x m_begin m_round m_roundCards m_fate m_any m_bothSend m_meanCards m_bestSum m_fitMany m_fitFirst m_fitSecond))] := hD
  dsimp only at hw10
  have hw10_0 := hw10
  have hw10_0 : n_m_bad_10.toInt ≠ 0 := hw10_0
  subst hQ
  have hP9 := hP.sub (ws' := [(m, .inr (11, mG m_a m_thrown m_taped n_m_at_2 n_m_token_2 n_m_place_2 n_m_value_2 n_m_word_2 n_m_bad_10 n_m_badPlace_10 m_fault m_faultPlace m_willing m_will m_forgot m_isDrawn m_x m_begin m_round m_roundCards m_fate m_any m_bothSend m_meanCards m_bestSum m_fitMany m_fitFirst m_fitSecond)), ((m_a 5), .inl (cB, 1600, .inl m_tape_c))]) [1, 0] rfl
  have hD9 := hD.sub (ws' := [(m, .inr (11, mG m_a m_thrown m_taped n_m_at_2 n_m_token_2 n_m_place_2 n_m_value_2 n_m_word_2 n_m_bad_10 n_m_badPlace_10 m_fault m_faultPlace m_willing m_will m_forgot m_isDrawn m_x m_begin m_round m_roundCards m_fate m_any m_bothSend m_meanCards m_bestSum m_fitMany m_fitFirst m_fitSecond)), ((m_a 5), .inl (cB, 1600, .inl m_tape_c))]) [1, 0] (by decide) rfl
  exact W.vret hx hb hr (fun t ht hW => ⟨⟨(n_m_at_2, n_m_token_2, n_m_place_2, n_m_value_2, n_m_word_2, n_m_bad_10, n_m_badPlace_10), rfl, ⟨hw2_0, (by omega)⟩, ⟨by rw [ht]; exact hP9, va_K.moved hW.alike hK, hD9⟩⟩, hS.F ht⟩) hS.2.2 dX12_asks_13
