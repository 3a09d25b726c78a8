def v_X12_isOver : List Cond := .code yX12_isOver cX12_isOver 1 none :: (([.fieldLink RX12 124 "CardsAtYuleModel" "taped" "I", .fieldLink RX12 159 "CardsAtYuleModel" "bad" "I", .fieldLink RX12 186 "CardsAtYuleModel" "fault" "I", .fieldLink RX12 162 "CardsAtYuleModel" "badPlace" "I", .fieldLink RX12 27 "CardsAtYuleModel" "faultPlace" "I"] : List Cond) ++ (wsX120 ++ ([] : List Cond)))
theorem good_v_X12_isOver : v_X12_isOver.all goodWord = true := ga_c (by decide +kernel) (ga_a (by decide +kernel) (ga_a good_wsX120 rfl))
set_option maxHeartbeats 4000000 in
set_option maxRecDepth 100000 in
theorem q_X12_isOver (l : Launch) (g : va_G) (cI cJ cB cZ cL : ClassId) (m : Nat) (m_a : Nat → Nat) (m_thrown : Int32) (m_taped : Int32) (m_at : Int32) (m_token : Int32) (m_place : Int32) (m_value : Int32) (m_word : Int64) (m_bad : Int32) (m_badPlace : Int32) (m_fault : Int32) (m_faultPlace : Int32) (m_willing : Int32) (m_will : Int32) (m_forgot : Int32) (m_isDrawn : Int32) (m_x : Int64) (m_begin : Int32) (m_round : Int32) (m_roundCards : Int32) (m_fate : Int32) (m_any : Int64) (m_bothSend : Int64) (m_meanCards : Int64) (m_bestSum : Int32) (m_fitMany : Int32) (m_fitFirst : Int64) (m_fitSecond : Int64) (sz : Nat) (hv_m_taped : ir m_taped.toInt 0 1600) (hv_m_at : ir m_at.toInt 0 1600) (hv_m_will : ir m_will.toInt 0 1) (hv_m_isDrawn : ir m_isDrawn.toInt 0 1) : Met l yX12_isOver v_X12_isOver ({ frames := 0, cells := 0, slots := 0, locals := 0 }) (va_Pc [.ref m] (pRW g (tyT cI cJ cB cZ cL) [(m, .inr (11, mG m_a m_thrown m_taped m_at m_token m_place m_value m_word m_bad m_badPlace m_fault m_faultPlace m_willing m_will m_forgot m_isDrawn m_x m_begin m_round m_roundCards m_fate m_any m_bothSend m_meanCards m_bestSum m_fitMany m_fitFirst m_fitSecond))] sz)) (va_Qv (fun (u : Int32 × Int32 × Int32) => match u with | (n_m_taped, n_m_fault, n_m_faultPlace) => (ir n_m_taped.toInt 0 0)) (fun (u : Int32 × Int32 × Int32) (t : State) => bRW g (tyT cI cJ cB cZ cL) (va_A [(m, .inr (11, mG m_a m_thrown m_taped m_at m_token m_place m_value m_word m_bad m_badPlace m_fault m_faultPlace m_willing m_will m_forgot m_isDrawn m_x m_begin m_round m_roundCards m_fate m_any m_bothSend m_meanCards m_bestSum m_fitMany m_fitFirst m_fitSecond))] sz) (match u with | (n_m_taped, n_m_fault, n_m_faultPlace) => [(m, .inr (11, mG m_a m_thrown n_m_taped m_at m_token m_place m_value m_word m_bad m_badPlace n_m_fault n_m_faultPlace m_willing m_will m_forgot m_isDrawn m_x m_begin m_round m_roundCards m_fate m_any m_bothSend m_meanCards m_bestSum m_fitMany m_fitFirst m_fitSecond))]) t) (va_A [(m, .inr (11, mG m_a m_thrown m_taped m_at m_token m_place m_value m_word m_bad m_badPlace m_fault m_faultPlace m_willing m_will m_forgot m_isDrawn m_x m_begin m_round m_roundCards m_fate m_any m_bothSend m_meanCards m_bestSum m_fitMany m_fitFirst m_fitSecond))] sz)) 0 0 (va_A [(m, .inr (11, mG m_a m_thrown m_taped m_at m_token m_place m_value m_word m_bad m_badPlace m_fault m_faultPlace m_willing m_will m_forgot m_isDrawn m_x m_begin m_round m_roundCards m_fate m_any m_bothSend m_meanCards m_bestSum m_fitMany m_fitFirst m_fitSecond))] sz) := by
  refine Met.ofW (cc := cX12_isOver) (maxL := 1) (ret := none) (by decide) rfl ?_
  intro p e s mth args below meth c s₁ B hml hv
  obtain ⟨rfl, hsz, hP, hK, hD0⟩ := hv
  have hx := B.exec
  have hb := B.bytes
  have hr := B.returns
  have hts := atoms_spec (ws := v_X12_isOver) B.pre
  have hown : s.vm.findClass RX12 = some mth.cls := findClass_of_methodNamed B.named
  have hlocks := B.notSynchronized
  clear B
  subst hsz
  have iX12 : ∀ w ∈ wsX120, w ∈ v_X12_isOver := (fun _ h => List.mem_cons_of_mem _ (List.mem_append_right _ (List.mem_append_left _ h)))
  have hD := hD0.self (sz := s.heap.size)
  generalize hAe : (va_A [(m, .inr (11, mG m_a m_thrown m_taped m_at m_token m_place m_value m_word m_bad m_badPlace m_fault m_faultPlace m_willing m_will m_forgot m_isDrawn m_x m_begin m_round m_roundCards m_fate m_any m_bothSend m_meanCards m_bestSum m_fitMany m_fitFirst m_fitSecond))] s.heap.size) = A at hD ⊢
  have hA : ∀ q : Nat, s.heap.size ≤ q → A q := fun q h => by rw [← hAe]; exact Or.inr h
  have hS : va_S A s.heap s.heap [] := va_S.rf
  have hl := lv_entry ([.ref m]) (n := 1) (Nat.le_of_ble_eq_true rfl)
  rw [lg_entry_eq]
  generalize (lg_sl ([.ref m]) ++ List.replicate (1 - (lg_sl ([.ref m])).length) Slot.unset).toArray = ls at hl ⊢
  generalize ([.ref m] : List Value).toArray = av at hts ⊢
  generalize hQ : MQ below _ av s _ _ A = QQ
  have hl : lv_has ls 1 [(0, .ref m)] := hl
  have hP : va_P g vwCl [(m, .inr (11, mG m_a m_thrown m_taped m_at m_token m_place m_value m_word m_bad m_badPlace m_fault m_faultPlace m_willing m_will m_forgot m_isDrawn m_x m_begin m_round m_roundCards m_fate m_any m_bothSend m_meanCards m_bestSum m_fitMany m_fitFirst m_fitSecond))] s.heap := hP
  refine lv_aload_n hx hb dX12_isOver_0 rfl (lv_at hl 0 rfl) ?_
  refine lv_iconst (v := 0) hx hb dX12_isOver_1 (by decide) ?_
  refine va_put (D := g) (ci := 11) (v := .int 0) (ty := .int) (C := RX12) (T := TX12) (N := 56) hx hb hts iX12 tyX12 tyX12_ok nmX12 hown hK hP hD hS 0 rfl rfl 6 (by decide) (hts (.fieldLink RX12 124 "CardsAtYuleModel" "taped" "I") (List.mem_cons_of_mem _ (List.mem_append_left _ (List.mem_of_getElem? (i := 0) rfl)))) (fun _ h9 => h9) rfl (by decide +kernel) rfl rfl (Nat.le_of_ble_eq_true rfl) dX12_isOver_2 (fun H locs hP hD hS => ?_)
  have hP : va_P g vwCl [(m, .inr (11, mG m_a m_thrown 0 m_at m_token m_place m_value m_word m_bad m_badPlace m_fault m_faultPlace m_willing m_will m_forgot m_isDrawn m_x m_begin m_round m_roundCards m_fate m_any m_bothSend m_meanCards m_bestSum m_fitMany m_fitFirst m_fitSecond))] H := hP
  have hD : va_D A [(m, .inr (11, mG m_a m_thrown 0 m_at m_token m_place m_value m_word m_bad m_badPlace m_fault m_faultPlace m_willing m_will m_forgot m_isDrawn m_x m_begin m_round m_roundCards m_fate m_any m_bothSend m_meanCards m_bestSum m_fitMany m_fitFirst m_fitSecond))] := hD
  refine lv_aload_n hx hb dX12_isOver_5 rfl (lv_at hl 0 rfl) ?_
  refine lv_aload_n hx hb dX12_isOver_6 rfl (lv_at hl 0 rfl) ?_
  refine va_get (D := g) (ci := 11) (v := .int m_bad) (C := RX12) (T := TX12) (N := 56) hx hb hts iX12 hown hK hP 0 rfl rfl 12 (by decide) (hts (.fieldLink RX12 159 "CardsAtYuleModel" "bad" "I") (List.mem_cons_of_mem _ (List.mem_append_left _ (List.mem_of_getElem? (i := 1) rfl)))) (fun _ h9 => h9) rfl dX12_isOver_7 ?_
  refine va_put (D := g) (ci := 11) (v := .int m_bad) (ty := .int) (C := RX12) (T := TX12) (N := 56) hx hb hts iX12 tyX12 tyX12_ok nmX12 hown hK hP hD hS 0 rfl rfl 14 (by decide) (hts (.fieldLink RX12 186 "CardsAtYuleModel" "fault" "I") (List.mem_cons_of_mem _ (List.mem_append_left _ (List.mem_of_getElem? (i := 2) rfl)))) (fun _ h9 => h9) rfl (by decide +kernel) rfl rfl (Nat.le_of_ble_eq_true rfl) dX12_isOver_10 (fun H locs hP hD hS => ?_)
  have hP : va_P g vwCl [(m, .inr (11, mG m_a m_thrown 0 m_at m_token m_place m_value m_word m_bad m_badPlace m_bad m_faultPlace m_willing m_will m_forgot m_isDrawn m_x m_begin m_round m_roundCards m_fate m_any m_bothSend m_meanCards m_bestSum m_fitMany m_fitFirst m_fitSecond))] H := hP
  have hD : va_D A [(m, .inr (11, mG m_a m_thrown 0 m_at m_token m_place m_value m_word m_bad m_badPlace m_bad m_faultPlace m_willing m_will m_forgot m_isDrawn m_x m_begin m_round m_roundCards m_fate m_any m_bothSend m_meanCards m_bestSum m_fitMany m_fitFirst m_fitSecond))] := hD
  refine lv_aload_n hx hb dX12_isOver_13 rfl (lv_at hl 0 rfl) ?_
  refine lv_aload_n hx hb dX12_isOver_14 rfl (lv_at hl 0 rfl) ?_
  refine va_get (D := g) (ci := 11) (v := .int m_bad) (C := RX12) (T := TX12) (N := 56) hx hb hts iX12 hown hK hP 0 rfl rfl 12 (by decide) (hts (.fieldLink RX12 159 "CardsAtYuleModel" "bad" "I") (List.mem_cons_of_mem _ (List.mem_append_left _ (List.mem_of_getElem? (i := 1) rfl)))) (fun _ h9 => h9) rfl dX12_isOver_15 ?_
  refine lv_if_ne (tgt := 25) hx hb dX12_isOver_18 (by decide) (fun c18 => ?_) (fun c18 => ?_)
  · have f18 := (show m_bad.toInt ≠ 0 from z_ne rfl rfl c18)
    refine lv_aload_n hx hb dX12_isOver_25 rfl (lv_at hl 0 rfl) ?_
    refine va_get (D := g) (ci := 11) (v := .int m_badPlace) (C := RX12) (T := TX12) (N := 56) hx hb hts iX12 hown hK hP 0 rfl rfl 13 (by decide) (hts (.fieldLink RX12 162 "CardsAtYuleModel" "badPlace" "I") (List.mem_cons_of_mem _ (List.mem_append_left _ (List.mem_of_getElem? (i := 3) rfl)))) (fun _ h9 => h9) rfl dX12_isOver_26 ?_
    refine va_put (D := g) (ci := 11) (v := .int m_badPlace) (ty := .int) (C := RX12) (T := TX12) (N := 56) hx hb hts iX12 tyX12 tyX12_ok nmX12 hown hK hP hD hS 0 rfl rfl 15 (by decide) (hts (.fieldLink RX12 27 "CardsAtYuleModel" "faultPlace" "I") (List.mem_cons_of_mem _ (List.mem_append_left _ (List.mem_of_getElem? (i := 4) rfl)))) (fun _ h9 => h9) rfl (by decide +kernel) rfl rfl (Nat.le_of_ble_eq_true rfl) dX12_isOver_29 (fun H locs hP hD hS => ?_)
    have hP : va_P g vwCl [(m, .inr (11, mG m_a m_thrown 0 m_at m_token m_place m_value m_word m_bad m_badPlace m_bad m_badPlace m_willing m_will m_forgot m_isDrawn m_x m_begin m_round m_roundCards m_fate m_any m_bothSend m_meanCards m_bestSum m_fitMany m_fitFirst m_fitSecond))] H := hP
    have hD : va_D A [(m, .inr (11, mG m_a m_thrown 0 m_at m_token m_place m_value m_word m_bad m_badPlace m_bad m_badPlace m_willing m_will m_forgot m_isDrawn m_x m_begin m_round m_roundCards m_fate m_any m_bothSend m_meanCards m_bestSum m_fitMany m_fitFirst m_fitSecond))] := hD
    subst hQ
    have hP9 := hP.sub (ws' := [(m, .inr (11, mG m_a m_thrown 0 m_at m_token m_place m_value m_word m_bad m_badPlace m_bad m_badPlace m_willing m_will m_forgot m_isDrawn m_x m_begin m_round m_roundCards m_fate m_any m_bothSend m_meanCards m_bestSum m_fitMany m_fitFirst m_fitSecond))]) [0] rfl
    have hD9 := hD.sub (ws' := [(m, .inr (11, mG m_a m_thrown 0 m_at m_token m_place m_value m_word m_bad m_badPlace m_bad m_badPlace m_willing m_will m_forgot m_isDrawn m_x m_begin m_round m_roundCards m_fate m_any m_bothSend m_meanCards m_bestSum m_fitMany m_fitFirst m_fitSecond))]) [0] (by decide) rfl
    exact W.vret hx hb hr (fun t ht hW => ⟨⟨(0, m_bad, m_badPlace), rfl, (show ir (0 : Int32).toInt 0 0 by decide), ⟨by rw [ht]; exact hP9, va_K.moved hW.alike hK, hD9⟩⟩, hS.F ht⟩) hS.2.2 dX12_isOver_32
  have f18 := (show m_bad.toInt = 0 from z_eq rfl rfl c18)
  have r18a : ir m_bad.toInt 0 0 := ir_eqa f18 (rg_all m_bad) (ir_c 0) (by decide) (by decide)
  refine lv_iconst (v := (-1)) hx hb dX12_isOver_21 (by decide) ?_
  refine lv_goto (tgt := 29) hx hb dX12_isOver_22 (by decide) ?_
  refine va_put (D := g) (ci := 11) (v := .int (-1)) (ty := .int) (C := RX12) (T := TX12) (N := 56) hx hb hts iX12 tyX12 tyX12_ok nmX12 hown hK hP hD hS 0 rfl rfl 15 (by decide) (hts (.fieldLink RX12 27 "CardsAtYuleModel" "faultPlace" "I") (List.mem_cons_of_mem _ (List.mem_append_left _ (List.mem_of_getElem? (i := 4) rfl)))) (fun _ h9 => h9) rfl (by decide +kernel) rfl rfl (Nat.le_of_ble_eq_true rfl) dX12_isOver_29 (fun H locs hP hD hS => ?_)
  have hP : va_P g vwCl [(m, .inr (11, mG m_a m_thrown 0 m_at m_token m_place m_value m_word m_bad m_badPlace m_bad (-1) m_willing m_will m_forgot m_isDrawn m_x m_begin m_round m_roundCards m_fate m_any m_bothSend m_meanCards m_bestSum m_fitMany m_fitFirst m_fitSecond))] H := hP
  have hD : va_D A [(m, .inr (11, mG m_a m_thrown 0 m_at m_token m_place m_value m_word m_bad m_badPlace m_bad (-1) m_willing m_will m_forgot m_isDrawn m_x m_begin m_round m_roundCards m_fate m_any m_bothSend m_meanCards m_bestSum m_fitMany m_fitFirst m_fitSecond))] := hD
  subst hQ
  have hP9 := hP.sub (ws' := [(m, .inr (11, mG m_a m_thrown 0 m_at m_token m_place m_value m_word m_bad m_badPlace m_bad (-1) m_willing m_will m_forgot m_isDrawn m_x m_begin m_round m_roundCards m_fate m_any m_bothSend m_meanCards m_bestSum m_fitMany m_fitFirst m_fitSecond))]) [0] rfl
  have hD9 := hD.sub (ws' := [(m, .inr (11, mG m_a m_thrown 0 m_at m_token m_place m_value m_word m_bad m_badPlace m_bad (-1) m_willing m_will m_forgot m_isDrawn m_x m_begin m_round m_roundCards m_fate m_any m_bothSend m_meanCards m_bestSum m_fitMany m_fitFirst m_fitSecond))]) [0] (by decide) rfl
  exact W.vret hx hb hr (fun t ht hW => ⟨⟨(0, m_bad, (-1)), rfl, (show ir (0 : Int32).toInt 0 0 by decide), ⟨by rw [ht]; exact hP9, va_K.moved hW.alike hK, hD9⟩⟩, hS.F ht⟩) hS.2.2 dX12_isOver_32
def v_X12_fault : List Cond := .code yX12_fault cX12_fault 2 (some .int) :: (([.fieldLink RX12 107 "CardsAtYuleModel" "thrown" "I", .fieldLink RX12 27 "CardsAtYuleModel" "faultPlace" "I", .fieldLink RX12 186 "CardsAtYuleModel" "fault" "I"] : List Cond) ++ (wsX120 ++ ([] : List Cond)))
theorem good_v_X12_fault : v_X12_fault.all goodWord = true := ga_c (by decide +kernel) (ga_a (by decide +kernel) (ga_a good_wsX120 rfl))
set_option maxHeartbeats 4000000 in
set_option maxRecDepth 100000 in
theorem q_X12_fault (l : Launch) (g : va_G) (cI cJ cB cZ cL : ClassId) (p0 : Int32) (m : Nat) (m_a : Nat → Nat) (m_thrown : Int32) (m_taped : Int32) (m_at : Int32) (m_token : Int32) (m_place : Int32) (m_value : Int32) (m_word : Int64) (m_bad : Int32) (m_badPlace : Int32) (m_fault : Int32) (m_faultPlace : Int32) (m_willing : Int32) (m_will : Int32) (m_forgot : Int32) (m_isDrawn : Int32) (m_x : Int64) (m_begin : Int32) (m_round : Int32) (m_roundCards : Int32) (m_fate : Int32) (m_any : Int64) (m_bothSend : Int64) (m_meanCards : Int64) (m_bestSum : Int32) (m_fitMany : Int32) (m_fitFirst : Int64) (m_fitSecond : Int64) (sz : Nat) (hv_m_taped : ir m_taped.toInt 0 1600) (hv_m_at : ir m_at.toInt 0 1600) (hv_m_will : ir m_will.toInt 0 1) (hv_m_isDrawn : ir m_isDrawn.toInt 0 1) : Met l yX12_fault v_X12_fault ({ frames := 0, cells := 0, slots := 0, locals := 0 }) (va_Pc [.ref m, .int p0] (pRW g (tyT cI cJ cB cZ cL) [(m, .inr (11, mG m_a m_thrown m_taped m_at m_token m_place m_value m_word m_bad m_badPlace m_fault m_faultPlace m_willing m_will m_forgot m_isDrawn m_x m_begin m_round m_roundCards m_fate m_any m_bothSend m_meanCards m_bestSum m_fitMany m_fitFirst m_fitSecond))] sz)) (va_Qi (fun (r : Int32) (u : Int32) => match u with | n_m_thrown => (ir n_m_thrown.toInt 0 0)) (fun (u : Int32) (t : State) => bRW g (tyT cI cJ cB cZ cL) (va_A [(m, .inr (11, mG m_a m_thrown m_taped m_at m_token m_place m_value m_word m_bad m_badPlace m_fault m_faultPlace m_willing m_will m_forgot m_isDrawn m_x m_begin m_round m_roundCards m_fate m_any m_bothSend m_meanCards m_bestSum m_fitMany m_fitFirst m_fitSecond))] sz) (match u with | n_m_thrown => [(m, .inr (11, mG m_a n_m_thrown m_taped m_at m_token m_place m_value m_word m_bad m_badPlace m_fault m_faultPlace m_willing m_will m_forgot m_isDrawn m_x m_begin m_round m_roundCards m_fate m_any m_bothSend m_meanCards m_bestSum m_fitMany m_fitFirst m_fitSecond))]) t) (va_A [(m, .inr (11, mG m_a m_thrown m_taped m_at m_token m_place m_value m_word m_bad m_badPlace m_fault m_faultPlace m_willing m_will m_forgot m_isDrawn m_x m_begin m_round m_roundCards m_fate m_any m_bothSend m_meanCards m_bestSum m_fitMany m_fitFirst m_fitSecond))] sz)) 0 0 (va_A [(m, .inr (11, mG m_a m_thrown m_taped m_at m_token m_place m_value m_word m_bad m_badPlace m_fault m_faultPlace m_willing m_will m_forgot m_isDrawn m_x m_begin m_round m_roundCards m_fate m_any m_bothSend m_meanCards m_bestSum m_fitMany m_fitFirst m_fitSecond))] sz) := by
  refine Met.ofW (cc := cX12_fault) (maxL := 2) (ret := (some .int)) (by decide) rfl ?_
  intro p e s mth args below meth c s₁ B hml hv
  obtain ⟨rfl, hsz, hP, hK, hD0⟩ := hv
  have hx := B.exec
  have hb := B.bytes
  have hr := B.returns
  have hts := atoms_spec (ws := v_X12_fault) B.pre
  have hown : s.vm.findClass RX12 = some mth.cls := findClass_of_methodNamed B.named
  have hlocks := B.notSynchronized
  clear B
  subst hsz
  have iX12 : ∀ w ∈ wsX120, w ∈ v_X12_fault := (fun _ h => List.mem_cons_of_mem _ (List.mem_append_right _ (List.mem_append_left _ h)))
  have hD := hD0.self (sz := s.heap.size)
  generalize hAe : (va_A [(m, .inr (11, mG m_a m_thrown m_taped m_at m_token m_place m_value m_word m_bad m_badPlace m_fault m_faultPlace m_willing m_will m_forgot m_isDrawn m_x m_begin m_round m_roundCards m_fate m_any m_bothSend m_meanCards m_bestSum m_fitMany m_fitFirst m_fitSecond))] s.heap.size) = A at hD ⊢
  have hA : ∀ q : Nat, s.heap.size ≤ q → A q := fun q h => by rw [← hAe]; exact Or.inr h
  have hS : va_S A s.heap s.heap [] := va_S.rf
  have hl := lv_entry ([.ref m, .int p0]) (n := 2) (Nat.le_of_ble_eq_true rfl)
  rw [lg_entry_eq]
  generalize (lg_sl ([.ref m, .int p0]) ++ List.replicate (2 - (lg_sl ([.ref m, .int p0])).length) Slot.unset).toArray = ls at hl ⊢
  generalize ([.ref m, .int p0] : List Value).toArray = av at hts ⊢
  generalize hQ : MQ below _ av s _ _ A = QQ
  have hl : lv_has ls 2 [(0, .ref m), (1, .int p0)] := hl
  have hP : va_P g vwCl [(m, .inr (11, mG m_a m_thrown m_taped m_at m_token m_place m_value m_word m_bad m_badPlace m_fault m_faultPlace m_willing m_will m_forgot m_isDrawn m_x m_begin m_round m_roundCards m_fate m_any m_bothSend m_meanCards m_bestSum m_fitMany m_fitFirst m_fitSecond))] s.heap := hP
  refine lv_aload_n hx hb dX12_fault_0 rfl (lv_at hl 0 rfl) ?_
  refine lv_iconst (v := 0) hx hb dX12_fault_1 (by decide) ?_
  refine va_put (D := g) (ci := 11) (v := .int 0) (ty := .int) (C := RX12) (T := TX12) (N := 56) hx hb hts iX12 tyX12 tyX12_ok nmX12 hown hK hP hD hS 0 rfl rfl 0 (by decide) (hts (.fieldLink RX12 107 "CardsAtYuleModel" "thrown" "I") (List.mem_cons_of_mem _ (List.mem_append_left _ (List.mem_of_getElem? (i := 0) rfl)))) (fun _ h9 => h9) rfl (by decide +kernel) rfl rfl (Nat.le_of_ble_eq_true rfl) dX12_fault_2 (fun H locs hP hD hS => ?_)
  have hP : va_P g vwCl [(m, .inr (11, mG m_a 0 m_taped m_at m_token m_place m_value m_word m_bad m_badPlace m_fault m_faultPlace m_willing m_will m_forgot m_isDrawn m_x m_begin m_round m_roundCards m_fate m_any m_bothSend m_meanCards m_bestSum m_fitMany m_fitFirst m_fitSecond))] H := hP
  have hD : va_D A [(m, .inr (11, mG m_a 0 m_taped m_at m_token m_place m_value m_word m_bad m_badPlace m_fault m_faultPlace m_willing m_will m_forgot m_isDrawn m_x m_begin m_round m_roundCards m_fate m_any m_bothSend m_meanCards m_bestSum m_fitMany m_fitFirst m_fitSecond))] := hD
  refine lv_iload_n hx hb dX12_fault_5 rfl (lv_at hl 1 rfl) ?_
  refine lv_if_ne (tgt := 16) hx hb dX12_fault_6 (by decide) (fun c6 => ?_) (fun c6 => ?_)
  rotate_left 1
  · have f6 := (show p0.toInt = 0 from z_eq rfl rfl c6)
    have r6a : ir p0.toInt 0 0 := ir_eqa f6 (rg_all p0) (ir_c 0) (by decide) (by decide)
    refine lv_aload_n hx hb dX12_fault_9 rfl (lv_at hl 0 rfl) ?_
    refine va_get (D := g) (ci := 11) (v := .int m_fault) (C := RX12) (T := TX12) (N := 56) hx hb hts iX12 hown hK hP 0 rfl rfl 14 (by decide) (hts (.fieldLink RX12 186 "CardsAtYuleModel" "fault" "I") (List.mem_cons_of_mem _ (List.mem_append_left _ (List.mem_of_getElem? (i := 2) rfl)))) (fun _ h9 => h9) rfl dX12_fault_10 ?_
    refine lv_goto (tgt := 29) hx hb dX12_fault_13 (by decide) ?_
    subst hQ
    have hP9 := hP.sub (ws' := [(m, .inr (11, mG m_a 0 m_taped m_at m_token m_place m_value m_word m_bad m_badPlace m_fault m_faultPlace m_willing m_will m_forgot m_isDrawn m_x m_begin m_round m_roundCards m_fate m_any m_bothSend m_meanCards m_bestSum m_fitMany m_fitFirst m_fitSecond))]) [0] rfl
    have hD9 := hD.sub (ws' := [(m, .inr (11, mG m_a 0 m_taped m_at m_token m_place m_value m_word m_bad m_badPlace m_fault m_faultPlace m_willing m_will m_forgot m_isDrawn m_x m_begin m_round m_roundCards m_fate m_any m_bothSend m_meanCards m_bestSum m_fitMany m_fitFirst m_fitSecond))]) [0] (by decide) rfl
    exact W.iret (v := m_fault) hx hb hr (fun t ht hW => ⟨⟨m_fault, 0, rfl, (show ir (0 : Int32).toInt 0 0 by decide), ⟨by rw [ht]; exact hP9, va_K.moved hW.alike hK, hD9⟩⟩, hS.F ht⟩) hS.2.2 dX12_fault_29
  have f6 := (show p0.toInt ≠ 0 from z_ne rfl rfl c6)
  refine lv_iload_n hx hb dX12_fault_16 rfl (lv_at hl 1 rfl) ?_
  refine lv_iconst (v := 1) hx hb dX12_fault_17 (by decide) ?_
  refine lv_icmp_ne (tgt := 28) hx hb dX12_fault_18 (by decide) (fun c18 => ?_) (fun c18 => ?_)
  · have f18 := (show p0.toInt ≠ 1 from z_ne rfl rfl c18)
    refine lv_iconst (v := (-1)) hx hb dX12_fault_28 (by decide) ?_
    subst hQ
    have hP9 := hP.sub (ws' := [(m, .inr (11, mG m_a 0 m_taped m_at m_token m_place m_value m_word m_bad m_badPlace m_fault m_faultPlace m_willing m_will m_forgot m_isDrawn m_x m_begin m_round m_roundCards m_fate m_any m_bothSend m_meanCards m_bestSum m_fitMany m_fitFirst m_fitSecond))]) [0] rfl
    have hD9 := hD.sub (ws' := [(m, .inr (11, mG m_a 0 m_taped m_at m_token m_place m_value m_word m_bad m_badPlace m_fault m_faultPlace m_willing m_will m_forgot m_isDrawn m_x m_begin m_round m_roundCards m_fate m_any m_bothSend m_meanCards m_bestSum m_fitMany m_fitFirst m_fitSecond))]) [0] (by decide) rfl
    exact W.iret (v := (-1)) hx hb hr (fun t ht hW => ⟨⟨(-1), 0, rfl, (show ir (0 : Int32).toInt 0 0 by decide), ⟨by rw [ht]; exact hP9, va_K.moved hW.alike hK, hD9⟩⟩, hS.F ht⟩) hS.2.2 dX12_fault_29
  have f18 := (show p0.toInt = 1 from z_eq rfl rfl c18)
  have r18a : ir p0.toInt 1 1 := ir_eqa f18 (rg_all p0) (ir_c 1) (by decide) (by decide)
  refine lv_aload_n hx hb dX12_fault_21 rfl (lv_at hl 0 rfl) ?_
  refine va_get (D := g) (ci := 11) (v := .int m_faultPlace) (C := RX12) (T := TX12) (N := 56) hx hb hts iX12 hown hK hP 0 rfl rfl 15 (by decide) (hts (.fieldLink RX12 27 "CardsAtYuleModel" "faultPlace" "I") (List.mem_cons_of_mem _ (List.mem_append_left _ (List.mem_of_getElem? (i := 1) rfl)))) (fun _ h9 => h9) rfl dX12_fault_22 ?_
  refine lv_goto (tgt := 29) hx hb dX12_fault_25 (by decide) ?_
  subst hQ
  have hP9 := hP.sub (ws' := [(m, .inr (11, mG m_a 0 m_taped m_at m_token m_place m_value m_word m_bad m_badPlace m_fault m_faultPlace m_willing m_will m_forgot m_isDrawn m_x m_begin m_round m_roundCards m_fate m_any m_bothSend m_meanCards m_bestSum m_fitMany m_fitFirst m_fitSecond))]) [0] rfl
  have hD9 := hD.sub (ws' := [(m, .inr (11, mG m_a 0 m_taped m_at m_token m_place m_value m_word m_bad m_badPlace m_fault m_faultPlace m_willing m_will m_forgot m_isDrawn m_x m_begin m_round m_roundCards m_fate m_any m_bothSend m_meanCards m_bestSum m_fitMany m_fitFirst m_fitSecond))]) [0] (by decide) rfl
  exact W.iret (v := m_faultPlace) hx hb hr (fun t ht hW => ⟨⟨m_faultPlace, 0, rfl, (show ir (0 : Int32).toInt 0 0 by decide), ⟨by rw [ht]; exact hP9, va_K.moved hW.alike hK, hD9⟩⟩, hS.F ht⟩) hS.2.2 dX12_fault_29
def v_X12_hasRead0 : List Cond := .code yX12_hasRead cX12_hasRead 2 (some .int) :: (([.fieldLink RX12 34 "CardsAtYuleModel" "has" "[I"] : List Cond) ++ (wsX120 ++ ([] : List Cond)))
theorem good_v_X12_hasRead0 : v_X12_hasRead0.all goodWord = true := ga_c (by decide +kernel) (ga_a (by decide +kernel) (ga_a good_wsX120 rfl))
set_option maxHeartbeats 4000000 in
set_option maxRecDepth 100000 in
theorem q_X12_hasRead0 (l : Launch) (g : va_G) (cI cJ cB cZ cL : ClassId) (m : Nat) (m_a : Nat → Nat) (m_thrown : Int32) (m_taped : Int32) (m_at : Int32) (m_token : Int32) (m_place : Int32) (m_value : Int32) (m_word : Int64) (m_bad : Int32) (m_badPlace : Int32) (m_fault : Int32) (m_faultPlace : Int32) (m_willing : Int32) (m_will : Int32) (m_forgot : Int32) (m_isDrawn : Int32) (m_x : Int64) (m_begin : Int32) (m_round : Int32) (m_roundCards : Int32) (m_fate : Int32) (m_any : Int64) (m_bothSend : Int64) (m_meanCards : Int64) (m_bestSum : Int32) (m_fitMany : Int32) (m_fitFirst : Int64) (m_fitSecond : Int64) (m_has_c : Nat → Int32) (sz : Nat) (hv_m_taped : ir m_taped.toInt 0 1600) (hv_m_at : ir m_at.toInt 0 1600) (hv_m_will : ir m_will.toInt 0 1) (hv_m_isDrawn : ir m_isDrawn.toInt 0 1) (ha_m_has_c : hasI m_has_c) : Met l yX12_hasRead v_X12_hasRead0 ({ frames := 0, cells := 0, slots := 0, locals := 0 }) (va_Pc [.ref m, .int 0] (pRO g (tyT cI cJ cB cZ cL) [(m, .inr (11, mG m_a m_thrown m_taped m_at m_token m_place m_value m_word m_bad m_badPlace m_fault m_faultPlace m_willing m_will m_forgot m_isDrawn m_x m_begin m_round m_roundCards m_fate m_any m_bothSend m_meanCards m_bestSum m_fitMany m_fitFirst m_fitSecond)), ((m_a 17), .inl (cI, 25, .inl m_has_c))] sz)) (va_Qi (fun (r : Int32) (u : Unit) => (r = m_has_c 20)) (fun (_ : Unit) (_ : State) => True) (va_A [] sz)) 0 0 (va_A [] sz) := by
  refine Met.ofW (cc := cX12_hasRead) (maxL := 2) (ret := (some .int)) (by decide) rfl ?_
  intro p e s mth args below meth c s₁ B hml hv
  obtain ⟨rfl, hsz, hP, hK⟩ := hv
  have hx := B.exec
  have hb := B.bytes
  have hr := B.returns
  have hts := atoms_spec (ws := v_X12_hasRead0) B.pre
  have hown : s.vm.findClass RX12 = some mth.cls := findClass_of_methodNamed B.named
  have hlocks := B.notSynchronized
  clear B
  subst hsz
  have iX12 : ∀ w ∈ wsX120, w ∈ v_X12_hasRead0 := (fun _ h => List.mem_cons_of_mem _ (List.mem_append_right _ (List.mem_append_left _ h)))
  generalize hAe : (va_A [] s.heap.size) = A
  have hA : ∀ q : Nat, s.heap.size ≤ q → A q := fun q h => by rw [← hAe]; exact Or.inr h
  have hS : va_S A s.heap s.heap [] := va_S.rf
  have hl := lv_entry ([.ref m, .int 0]) (n := 2) (Nat.le_of_ble_eq_true rfl)
  rw [lg_entry_eq]
  generalize (lg_sl ([.ref m, .int 0]) ++ List.replicate (2 - (lg_sl ([.ref m, .int 0])).length) Slot.unset).toArray = ls at hl ⊢
  generalize ([.ref m, .int 0] : List Value).toArray = av at hts ⊢
  generalize hQ : MQ below _ av s _ _ A = QQ
  have hl : lv_has ls 2 [(0, .ref m), (1, .int 0)] := hl
  have hP : va_P g vwCl [(m, .inr (11, mG m_a m_thrown m_taped m_at m_token m_place m_value m_word m_bad m_badPlace m_fault m_faultPlace m_willing m_will m_forgot m_isDrawn m_x m_begin m_round m_roundCards m_fate m_any m_bothSend m_meanCards m_bestSum m_fitMany m_fitFirst m_fitSecond)), ((m_a 17), .inl (cI, 25, .inl m_has_c))] s.heap := hP
  refine lv_aload_n hx hb dX12_hasRead_0 rfl (lv_at hl 0 rfl) ?_
  refine va_get (D := g) (ci := 11) (v := .ref (m_a 17)) (C := RX12) (T := TX12) (N := 56) hx hb hts iX12 hown hK hP 0 rfl rfl 17 (by decide) (hts (.fieldLink RX12 34 "CardsAtYuleModel" "has" "[I") (List.mem_cons_of_mem _ (List.mem_append_left _ (List.mem_of_getElem? (i := 0) rfl)))) (fun _ h9 => h9) rfl dX12_hasRead_1 ?_
  refine lv_bipush (v := 20) hx hb dX12_hasRead_4 (by decide) ?_
  refine lv_iload_n hx hb dX12_hasRead_6 rfl (lv_at hl 1 rfl) ?_
  refine lv_iadd hx hb dX12_hasRead_7 ?_
  refine lv_topi (nm_r (e' := 20) (by decide) ?_)
  refine va_iald (D := g) hx hb hK hP 1 0 rfl rfl (vc_in (by decide)) dX12_hasRead_8 ?_
  refine lv_topi (nm_r (e' := (m_has_c 20)) rfl ?_)
  have r8 : ir (m_has_c 20).toInt 0 40 := hasI_0 ha_m_has_c 4 (by decide)
  subst hQ
  exact W.iret (v := (m_has_c 20)) hx hb hr (fun t ht hW => ⟨⟨(m_has_c 20), (), rfl, rfl, trivial⟩, hS.F ht⟩) hS.2.2 dX12_hasRead_9
def v_X12_hasRead3 : List Cond := .code yX12_hasRead cX12_hasRead 2 (some .int) :: (([.fieldLink RX12 34 "CardsAtYuleModel" "has" "[I"] : List Cond) ++ (wsX120 ++ ([] : List Cond)))
theorem good_v_X12_hasRead3 : v_X12_hasRead3.all goodWord = true := ga_c (by decide +kernel) (ga_a (by decide +kernel) (ga_a good_wsX120 rfl))
set_option maxHeartbeats 4000000 in
set_option maxRecDepth 100000 in
theorem q_X12_hasRead3 (l : Launch) (g : va_G) (cI cJ cB cZ cL : ClassId) (m : Nat) (m_a : Nat → Nat) (m_thrown : Int32) (m_taped : Int32) (m_at : Int32) (m_token : Int32) (m_place : Int32) (m_value : Int32) (m_word : Int64) (m_bad : Int32) (m_badPlace : Int32) (m_fault : Int32) (m_faultPlace : Int32) (m_willing : Int32) (m_will : Int32) (m_forgot : Int32) (m_isDrawn : Int32) (m_x : Int64) (m_begin : Int32) (m_round : Int32) (m_roundCards : Int32) (m_fate : Int32) (m_any : Int64) (m_bothSend : Int64) (m_meanCards : Int64) (m_bestSum : Int32) (m_fitMany : Int32) (m_fitFirst : Int64) (m_fitSecond : Int64) (m_has_c : Nat → Int32) (sz : Nat) (hv_m_taped : ir m_taped.toInt 0 1600) (hv_m_at : ir m_at.toInt 0 1600) (hv_m_will : ir m_will.toInt 0 1) (hv_m_isDrawn : ir m_isDrawn.toInt 0 1) (ha_m_has_c : hasI m_has_c) : Met l yX12_hasRead v_X12_hasRead3 ({ frames := 0, cells := 0, slots := 0, locals := 0 }) (va_Pc [.ref m, .int 3] (pRO g (tyT cI cJ cB cZ cL) [(m, .inr (11, mG m_a m_thrown m_taped m_at m_token m_place m_value m_word m_bad m_badPlace m_fault m_faultPlace m_willing m_will m_forgot m_isDrawn m_x m_begin m_round m_roundCards m_fate m_any m_bothSend m_meanCards m_bestSum m_fitMany m_fitFirst m_fitSecond)), ((m_a 17), .inl (cI, 25, .inl m_has_c))] sz)) (va_Qi (fun (r : Int32) (u : Unit) => (r = m_has_c 23)) (fun (_ : Unit) (_ : State) => True) (va_A [] sz)) 0 0 (va_A [] sz) := by
  refine Met.ofW (cc := cX12_hasRead) (maxL := 2) (ret := (some .int)) (by decide) rfl ?_
  intro p e s mth args below meth c s₁ B hml hv
  obtain ⟨rfl, hsz, hP, hK⟩ := hv
  have hx := B.exec
  have hb := B.bytes
  have hr := B.returns
  have hts := atoms_spec (ws := v_X12_hasRead3) B.pre
  have hown : s.vm.findClass RX12 = some mth.cls := findClass_of_methodNamed B.named
  have hlocks := B.notSynchronized
  clear B
  subst hsz
  have iX12 : ∀ w ∈ wsX120, w ∈ v_X12_hasRead3 := (fun _ h => List.mem_cons_of_mem _ (List.mem_append_right _ (List.mem_append_left _ h)))
  generalize hAe : (va_A [] s.heap.size) = A
  have hA : ∀ q : Nat, s.heap.size ≤ q → A q := fun q h => by rw [← hAe]; exact Or.inr h
  have hS : va_S A s.heap s.heap [] := va_S.rf
  have hl := lv_entry ([.ref m, .int 3]) (n := 2) (Nat.le_of_ble_eq_true rfl)
  rw [lg_entry_eq]
  generalize (lg_sl ([.ref m, .int 3]) ++ List.replicate (2 - (lg_sl ([.ref m, .int 3])).length) Slot.unset).toArray = ls at hl ⊢
  generalize ([.ref m, .int 3] : List Value).toArray = av at hts ⊢
  generalize hQ : MQ below _ av s _ _ A = QQ
  have hl : lv_has ls 2 [(0, .ref m), (1, .int 3)] := hl
  have hP : va_P g vwCl [(m, .inr (11, mG m_a m_thrown m_taped m_at m_token m_place m_value m_word m_bad m_badPlace m_fault m_faultPlace m_willing m_will m_forgot m_isDrawn m_x m_begin m_round m_roundCards m_fate m_any m_bothSend m_meanCards m_bestSum m_fitMany m_fitFirst m_fitSecond)), ((m_a 17), .inl (cI, 25, .inl m_has_c))] s.heap := hP
  refine lv_aload_n hx hb dX12_hasRead_0 rfl (lv_at hl 0 rfl) ?_
  refine va_get (D := g) (ci := 11) (v := .ref (m_a 17)) (C := RX12) (T := TX12) (N := 56) hx hb hts iX12 hown hK hP 0 rfl rfl 17 (by decide) (hts (.fieldLink RX12 34 "CardsAtYuleModel" "has" "[I") (List.mem_cons_of_mem _ (List.mem_append_left _ (List.mem_of_getElem? (i := 0) rfl)))) (fun _ h9 => h9) rfl dX12_hasRead_1 ?_
  refine lv_bipush (v := 20) hx hb dX12_hasRead_4 (by decide) ?_
  refine lv_iload_n hx hb dX12_hasRead_6 rfl (lv_at hl 1 rfl) ?_
  refine lv_iadd hx hb dX12_hasRead_7 ?_
  refine lv_topi (nm_r (e' := 23) (by decide) ?_)
  refine va_iald (D := g) hx hb hK hP 1 0 rfl rfl (vc_in (by decide)) dX12_hasRead_8 ?_
  refine lv_topi (nm_r (e' := (m_has_c 23)) rfl ?_)
  have r8 : ir (m_has_c 23).toInt 0 10 := hasI_3 ha_m_has_c 4 (by decide)
  subst hQ
  exact W.iret (v := (m_has_c 23)) hx hb hr (fun t ht hW => ⟨⟨(m_has_c 23), (), rfl, rfl, trivial⟩, hS.F ht⟩) hS.2.2 dX12_hasRead_9
def v_X12_hasRead4 : List Cond := .code yX12_hasRead cX12_hasRead 2 (some .int) :: (([.fieldLink RX12 34 "CardsAtYuleModel" "has" "[I"] : List Cond) ++ (wsX120 ++ ([] : List Cond)))
theorem good_v_X12_hasRead4 : v_X12_hasRead4.all goodWord = true := ga_c (by decide +kernel) (ga_a (by decide +kernel) (ga_a good_wsX120 rfl))
set_option maxHeartbeats 4000000 in
set_option maxRecDepth 100000 in
theorem q_X12_hasRead4 (l : Launch) (g : va_G) (cI cJ cB cZ cL : ClassId) (m : Nat) (m_a : Nat → Nat) (m_thrown : Int32) (m_taped : Int32) (m_at : Int32) (m_token : Int32) (m_place : Int32) (m_value : Int32) (m_word : Int64) (m_bad : Int32) (m_badPlace : Int32) (m_fault : Int32) (m_faultPlace : Int32) (m_willing : Int32) (m_will : Int32) (m_forgot : Int32) (m_isDrawn : Int32) (m_x : Int64) (m_begin : Int32) (m_round : Int32) (m_roundCards : Int32) (m_fate : Int32) (m_any : Int64) (m_bothSend : Int64) (m_meanCards : Int64) (m_bestSum : Int32) (m_fitMany : Int32) (m_fitFirst : Int64) (m_fitSecond : Int64) (m_has_c : Nat → Int32) (sz : Nat) (hv_m_taped : ir m_taped.toInt 0 1600) (hv_m_at : ir m_at.toInt 0 1600) (hv_m_will : ir m_will.toInt 0 1) (hv_m_isDrawn : ir m_isDrawn.toInt 0 1) (ha_m_has_c : hasI m_has_c) : Met l yX12_hasRead v_X12_hasRead4 ({ frames := 0, cells := 0, slots := 0, locals := 0 }) (va_Pc [.ref m, .int 4] (pRO g (tyT cI cJ cB cZ cL) [(m, .inr (11, mG m_a m_thrown m_taped m_at m_token m_place m_value m_word m_bad m_badPlace m_fault m_faultPlace m_willing m_will m_forgot m_isDrawn m_x m_begin m_round m_roundCards m_fate m_any m_bothSend m_meanCards m_bestSum m_fitMany m_fitFirst m_fitSecond)), ((m_a 17), .inl (cI, 25, .inl m_has_c))] sz)) (va_Qi (fun (r : Int32) (u : Unit) => (r = m_has_c 24)) (fun (_ : Unit) (_ : State) => True) (va_A [] sz)) 0 0 (va_A [] sz) := by
  refine Met.ofW (cc := cX12_hasRead) (maxL := 2) (ret := (some .int)) (by decide) rfl ?_
  intro p e s mth args below meth c s₁ B hml hv
  obtain ⟨rfl, hsz, hP, hK⟩ := hv
  have hx := B.exec
  have hb := B.bytes
  have hr := B.returns
  have hts := atoms_spec (ws := v_X12_hasRead4) B.pre
  have hown : s.vm.findClass RX12 = some mth.cls := findClass_of_methodNamed B.named
  have hlocks := B.notSynchronized
  clear B
  subst hsz
  have iX12 : ∀ w ∈ wsX120, w ∈ v_X12_hasRead4 := (fun _ h => List.mem_cons_of_mem _ (List.mem_append_right _ (List.mem_append_left _ h)))
  generalize hAe : (va_A [] s.heap.size) = A
  have hA : ∀ q : Nat, s.heap.size ≤ q → A q := fun q h => by rw [← hAe]; exact Or.inr h
  have hS : va_S A s.heap s.heap [] := va_S.rf
  have hl := lv_entry ([.ref m, .int 4]) (n := 2) (Nat.le_of_ble_eq_true rfl)
  rw [lg_entry_eq]
  generalize (lg_sl ([.ref m, .int 4]) ++ List.replicate (2 - (lg_sl ([.ref m, .int 4])).length) Slot.unset).toArray = ls at hl ⊢
  generalize ([.ref m, .int 4] : List Value).toArray = av at hts ⊢
  generalize hQ : MQ below _ av s _ _ A = QQ
  have hl : lv_has ls 2 [(0, .ref m), (1, .int 4)] := hl
  have hP : va_P g vwCl [(m, .inr (11, mG m_a m_thrown m_taped m_at m_token m_place m_value m_word m_bad m_badPlace m_fault m_faultPlace m_willing m_will m_forgot m_isDrawn m_x m_begin m_round m_roundCards m_fate m_any m_bothSend m_meanCards m_bestSum m_fitMany m_fitFirst m_fitSecond)), ((m_a 17), .inl (cI, 25, .inl m_has_c))] s.heap := hP
  refine lv_aload_n hx hb dX12_hasRead_0 rfl (lv_at hl 0 rfl) ?_
  refine va_get (D := g) (ci := 11) (v := .ref (m_a 17)) (C := RX12) (T := TX12) (N := 56) hx hb hts iX12 hown hK hP 0 rfl rfl 17 (by decide) (hts (.fieldLink RX12 34 "CardsAtYuleModel" "has" "[I") (List.mem_cons_of_mem _ (List.mem_append_left _ (List.mem_of_getElem? (i := 0) rfl)))) (fun _ h9 => h9) rfl dX12_hasRead_1 ?_
  refine lv_bipush (v := 20) hx hb dX12_hasRead_4 (by decide) ?_
  refine lv_iload_n hx hb dX12_hasRead_6 rfl (lv_at hl 1 rfl) ?_
  refine lv_iadd hx hb dX12_hasRead_7 ?_
  refine lv_topi (nm_r (e' := 24) (by decide) ?_)
  refine va_iald (D := g) hx hb hK hP 1 0 rfl rfl (vc_in (by decide)) dX12_hasRead_8 ?_
  refine lv_topi (nm_r (e' := (m_has_c 24)) rfl ?_)
  have r8 : ir (m_has_c 24).toInt 0 16 := hasI_4 ha_m_has_c 4 (by decide)
  subst hQ
  exact W.iret (v := (m_has_c 24)) hx hb hr (fun t ht hW => ⟨⟨(m_has_c 24), (), rfl, rfl, trivial⟩, hS.F ht⟩) hS.2.2 dX12_hasRead_9
def v_X12_personHere : List Cond := .code yX12_personHere cX12_personHere 1 (some .int) :: (([.methodLink RX12 189 yX12_hasRead, .instanceMethod yX12_hasRead, .selects RX12 yX12_hasRead yX12_hasRead, .initialized RX12, .methodLink RX12 182 yX12_number, .instanceMethod yX12_number, .selects RX12 yX12_number yX12_number] : List Cond) ++ (v_X12_hasRead3 ++ (v_X12_number ++ ([] : List Cond))))
theorem good_v_X12_personHere : v_X12_personHere.all goodWord = true := ga_c (by decide +kernel) (ga_a (by decide +kernel) (ga_a good_v_X12_hasRead3 (ga_a good_v_X12_number rfl)))
set_option maxHeartbeats 4000000 in
set_option maxRecDepth 100000 in
theorem q_X12_personHere (l : Launch) (g : va_G) (cI cJ cB cZ cL : ClassId) (m : Nat) (m_a : Nat → Nat) (m_thrown : Int32) (m_taped : Int32) (m_at : Int32) (m_token : Int32) (m_place : Int32) (m_value : Int32) (m_word : Int64) (m_bad : Int32) (m_badPlace : Int32) (m_fault : Int32) (m_faultPlace : Int32) (m_willing : Int32) (m_will : Int32) (m_forgot : Int32) (m_isDrawn : Int32) (m_x : Int64) (m_begin : Int32) (m_round : Int32) (m_roundCards : Int32) (m_fate : Int32) (m_any : Int64) (m_bothSend : Int64) (m_meanCards : Int64) (m_bestSum : Int32) (m_fitMany : Int32) (m_fitFirst : Int64) (m_fitSecond : Int64) (m_has_c : Nat → Int32) (m_tape_c : Nat → Int32) (sz : Nat) (hv_m_taped : ir m_taped.toInt 0 1600) (hv_m_at : ir m_at.toInt 0 1600) (hv_m_will : ir m_will.toInt 0 1) (hv_m_isDrawn : ir m_isDrawn.toInt 0 1) (ha_m_has_c : hasI m_has_c) (hx_0 : m_at.toInt ≤ m_taped.toInt) : Met l yX12_personHere v_X12_personHere ({ frames := 3, cells := 0, slots := 0, locals := 67 }) (va_Pc [.ref m] (pRW g (tyT cI cJ cB cZ cL) [(m, .inr (11, mG m_a m_thrown m_taped m_at m_token m_place m_value m_word m_bad m_badPlace m_fault m_faultPlace m_willing m_will m_forgot m_isDrawn m_x m_begin m_round m_roundCards m_fate m_any m_bothSend m_meanCards m_bestSum m_fitMany m_fitFirst m_fitSecond)), ((m_a 17), .inl (cI, 25, .inl m_has_c)), ((m_a 5), .inl (cB, 1600, .inl m_tape_c))] sz)) (va_Qi (fun (r : Int32) (u : Int32 × Int32 × Int32 × Int32 × Int64 × Int32 × Int32) => match u with | (n_m_at, n_m_token, n_m_place, n_m_value, n_m_word, n_m_bad, n_m_badPlace) => (ir n_m_at.toInt 0 1600) ∧ ((n_m_at.toInt = m_at.toInt ∧ n_m_token.toInt = m_token.toInt) ∨ (m_at.toInt ≤ n_m_at.toInt ∧ n_m_at.toInt ≤ m_taped.toInt ∧ (m_at.toInt < n_m_at.toInt ∨ (n_m_token.toInt = 0 ∧ n_m_at.toInt = m_taped.toInt)))) ∧ (ir r.toInt 0 9)) (fun (u : Int32 × Int32 × Int32 × Int32 × Int64 × Int32 × Int32) (t : State) => bRW g (tyT cI cJ cB cZ cL) (va_A [(m, .inr (11, mG m_a m_thrown m_taped m_at m_token m_place m_value m_word m_bad m_badPlace m_fault m_faultPlace m_willing m_will m_forgot m_isDrawn m_x m_begin m_round m_roundCards m_fate m_any m_bothSend m_meanCards m_bestSum m_fitMany m_fitFirst m_fitSecond)), ((m_a 17), .inl (cI, 25, .inl m_has_c)), ((m_a 5), .inl (cB, 1600, .inl m_tape_c))] sz) (match u with | (n_m_at, n_m_token, n_m_place, n_m_value, n_m_word, n_m_bad, n_m_badPlace) => [(m, .inr (11, mG m_a m_thrown m_taped n_m_at n_m_token n_m_place n_m_value n_m_word n_m_bad n_m_badPlace m_fault m_faultPlace m_willing m_will m_forgot m_isDrawn m_x m_begin m_round m_roundCards m_fate m_any m_bothSend m_meanCards m_bestSum m_fitMany m_fitFirst m_fitSecond)), ((m_a 17), .inl (cI, 25, .inl m_has_c)), ((m_a 5), .inl (cB, 1600, .inl m_tape_c))]) t) (va_A [(m, .inr (11, mG m_a m_thrown m_taped m_at m_token m_place m_value m_word m_bad m_badPlace m_fault m_faultPlace m_willing m_will m_forgot m_isDrawn m_x m_begin m_round m_roundCards m_fate m_any m_bothSend m_meanCards m_bestSum m_fitMany m_fitFirst m_fitSecond)), ((m_a 17), .inl (cI, 25, .inl m_has_c)), ((m_a 5), .inl (cB, 1600, .inl m_tape_c))] sz)) 0 0 (va_A [(m, .inr (11, mG m_a m_thrown m_taped m_at m_token m_place m_value m_word m_bad m_badPlace m_fault m_faultPlace m_willing m_will m_forgot m_isDrawn m_x m_begin m_round m_roundCards m_fate m_any m_bothSend m_meanCards m_bestSum m_fitMany m_fitFirst m_fitSecond)), ((m_a 17), .inl (cI, 25, .inl m_has_c)), ((m_a 5), .inl (cB, 1600, .inl m_tape_c))] sz) := by
  refine Met.ofW (cc := cX12_personHere) (maxL := 1) (ret := (some .int)) (by decide) rfl ?_
  intro p e s mth args below meth c s₁ B hml hv
  obtain ⟨rfl, hsz, hP, hK, hD0⟩ := hv
  have hx := B.exec
  have hb := B.bytes
  have hr := B.returns
  have hts := atoms_spec (ws := v_X12_personHere) B.pre
  have hown : s.vm.findClass RX12 = some mth.cls := findClass_of_methodNamed B.named
  have hlocks := B.notSynchronized
  clear B
  subst hsz
  have hD := hD0.self (sz := s.heap.size)
  generalize hAe : (va_A [(m, .inr (11, mG m_a m_thrown m_taped m_at m_token m_place m_value m_word m_bad m_badPlace m_fault m_faultPlace m_willing m_will m_forgot m_isDrawn m_x m_begin m_round m_roundCards m_fate m_any m_bothSend m_meanCards m_bestSum m_fitMany m_fitFirst m_fitSecond)), ((m_a 17), .inl (cI, 25, .inl m_has_c)), ((m_a 5), .inl (cB, 1600, .inl m_tape_c))] s.heap.size) = A at hD ⊢
  have hA : ∀ q : Nat, s.heap.size ≤ q → A q := fun q h => by rw [← hAe]; exact Or.inr h
  have hS : va_S A s.heap s.heap [] := va_S.rf
  have hl := lv_entry ([.ref m]) (n := 1) (Nat.le_of_ble_eq_true rfl)
  rw [lg_entry_eq]
  generalize (lg_sl ([.ref m]) ++ List.replicate (1 - (lg_sl ([.ref m])).length) Slot.unset).toArray = ls at hl ⊢
  generalize ([.ref m] : List Value).toArray = av at hts ⊢
  generalize hQ : MQ below _ av s _ _ A = QQ
  have hl : lv_has ls 1 [(0, .ref m)] := hl
  have hP : va_P g vwCl [(m, .inr (11, mG m_a m_thrown m_taped m_at m_token m_place m_value m_word m_bad m_badPlace m_fault m_faultPlace m_willing m_will m_forgot m_isDrawn m_x m_begin m_round m_roundCards m_fate m_any m_bothSend m_meanCards m_bestSum m_fitMany m_fitFirst m_fitSecond)), ((m_a 17), .inl (cI, 25, .inl m_has_c)), ((m_a 5), .inl (cB, 1600, .inl m_tape_c))] s.heap := hP
  refine lv_aload_n hx hb dX12_personHere_0 rfl (lv_at hl 0 rfl) ?_
  refine lv_iconst (v := 0) hx hb dX12_personHere_1 (by decide) ?_
  refine lv_aload_n hx hb dX12_personHere_2 rfl (lv_at hl 0 rfl) ?_
  refine lv_iconst (v := 3) hx hb dX12_personHere_3 (by decide) ?_
  refine ro_i (va_runV (As := [.int 3]) (rest := [.int 0, .ref m]) ⟨hx, hb, hml, hown, hts⟩ (q_X12_hasRead3 l g cI cJ cB cZ cL m m_a m_thrown m_taped m_at m_token m_place m_value m_word m_bad m_badPlace m_fault m_faultPlace m_willing m_will m_forgot m_isDrawn m_x m_begin m_round m_roundCards m_fate m_any m_bothSend m_meanCards m_bestSum m_fitMany m_fitFirst m_fitSecond m_has_c s.heap.size hv_m_taped hv_m_at hv_m_will hv_m_isDrawn ha_m_has_c) (cwV 1 hts (goodIn_app (g_4 (List.mem_cons_of_mem _ (List.mem_append_left _ (List.mem_of_getElem? (i := 0) rfl))) (List.mem_cons_of_mem _ (List.mem_append_left _ (List.mem_of_getElem? (i := 1) rfl))) (List.mem_cons_of_mem _ (List.mem_append_left _ (List.mem_of_getElem? (i := 2) rfl))) (List.mem_cons_of_mem _ (List.mem_append_left _ (List.mem_of_getElem? (i := 3) rfl))) (by decide +kernel)) (goodIn_sub (fun _ h => List.mem_cons_of_mem _ (List.mem_append_right _ (List.mem_append_left _ h))) good_v_X12_hasRead3)) rfl rfl rfl (by decide +kernel) ⟨Nat.le_of_ble_eq_true rfl, Nat.le_of_ble_eq_true rfl⟩) (pv_RO (q := (RX12, TX12, 56)) (ci := 11) (q0 := 0) (wc := [(m, .inr (11, mG m_a m_thrown m_taped m_at m_token m_place m_value m_word m_bad m_badPlace m_fault m_faultPlace m_willing m_will m_forgot m_isDrawn m_x m_begin m_round m_roundCards m_fate m_any m_bothSend m_meanCards m_bestSum m_fitMany m_fitFirst m_fitSecond)), ((m_a 17), .inl (cI, 25, .inl m_has_c))]) hK hP [0, 1] rfl rfl rfl) rfl rfl hl.1 rfl (lv_room (Nat.le_of_ble_eq_true rfl)) dX12_personHere_4 ⟨Nat.le_of_ble_eq_true rfl, Nat.le_of_ble_eq_true rfl⟩) hS hA hP (fun r4 u4 H locs hw4 hP hS => ?_)
  have hw4_0 := hw4
  subst hw4_0
  have rt4 : ir (m_has_c 23).toInt 0 10 := hasI_3 ha_m_has_c 4 (by decide)
  refine lv_iconst (v := 1) hx hb dX12_personHere_7 (by decide) ?_
  refine lv_isub hx hb dX12_personHere_8 ?_
  refine lv_topi (fun y8 e8 => ?_)
  have q8 : y8.toInt = (m_has_c 23).toInt - 1 := by rw [e8]; exact su_z rfl rfl rt4 (ir_c 1) (by decide) (by decide)
  have r8 : ir y8.toInt (-1) 9 := su_r q8 rt4 (ir_c 1) (by decide) (by decide)
  refine rw_i (wr := [((m_a 17), .inl (cI, 25, .inl m_has_c))]) (va_runV (As := [.int 0, .int y8]) (rest := []) ⟨hx, hb, hml, hown, hts⟩ (q_X12_number l g cI cJ cB cZ cL 0 y8 m m_a m_thrown m_taped m_at m_token m_place m_value m_word m_bad m_badPlace m_fault m_faultPlace m_willing m_will m_forgot m_isDrawn m_x m_begin m_round m_roundCards m_fate m_any m_bothSend m_meanCards m_bestSum m_fitMany m_fitFirst m_fitSecond m_tape_c H.size hv_m_taped hv_m_at hv_m_will hv_m_isDrawn (by omega)) (cwV 2 hts (goodIn_app (g_4 (List.mem_cons_of_mem _ (List.mem_append_left _ (List.mem_of_getElem? (i := 4) rfl))) (List.mem_cons_of_mem _ (List.mem_append_left _ (List.mem_of_getElem? (i := 5) rfl))) (List.mem_cons_of_mem _ (List.mem_append_left _ (List.mem_of_getElem? (i := 6) rfl))) (List.mem_cons_of_mem _ (List.mem_append_left _ (List.mem_of_getElem? (i := 3) rfl))) (by decide +kernel)) (goodIn_sub (fun _ h => List.mem_cons_of_mem _ (List.mem_append_right _ (List.mem_append_right _ (List.mem_append_left _ h)))) good_v_X12_number)) rfl rfl rfl (by decide +kernel) ⟨Nat.le_of_ble_eq_true rfl, Nat.le_of_ble_eq_true rfl⟩) (pv_RW (q := (RX12, TX12, 56)) (ci := 11) (q0 := 0) (wc := [(m, .inr (11, mG m_a m_thrown m_taped m_at m_token m_place m_value m_word m_bad m_badPlace m_fault m_faultPlace m_willing m_will m_forgot m_isDrawn m_x m_begin m_round m_roundCards m_fate m_any m_bothSend m_meanCards m_bestSum m_fitMany m_fitFirst m_fitSecond)), ((m_a 5), .inl (cB, 1600, .inl m_tape_c))]) hK hP hD [0, 2] (by decide) rfl rfl rfl) rfl rfl hl.1 rfl (lv_room (Nat.le_of_ble_eq_true rfl)) dX12_personHere_9 ⟨Nat.le_of_ble_eq_true rfl, Nat.le_of_ble_eq_true rfl⟩) hS hA hP hD [0, 2] [1] rfl rfl (by decide) (by decide) (fun r9 u9 H locs hw9 hP hD hS => ?_)
  obtain ⟨n_m_at_9, n_m_token_9, n_m_place_9, n_m_value_9, n_m_word_9, n_m_bad_9, n_m_badPlace_9⟩ := u9
  have hP : va_P g vwCl [((m_a 17), .inl (cI, 25, .inl m_has_c)), (m, .inr (11, mG m_a m_thrown m_taped n_m_at_9 n_m_token_9 n_m_place_9 n_m_value_9 n_m_word_9 n_m_bad_9 n_m_badPlace_9 m_fault m_faultPlace m_willing m_will m_forgot m_isDrawn m_x m_begin m_round m_roundCards m_fate m_any m_bothSend m_meanCards m_bestSum m_fitMany m_fitFirst m_fitSecond)), ((m_a 5), .inl (cB, 1600, .inl m_tape_c))] H := hP
  have hD : va_D A [((m_a 17), .inl (cI, 25, .inl m_has_c)), (m, .inr (11, mG m_a m_thrown m_taped n_m_at_9 n_m_token_9 n_m_place_9 n_m_value_9 n_m_word_9 n_m_bad_9 n_m_badPlace_9 m_fault m_faultPlace m_willing m_will m_forgot m_isDrawn m_x m_begin m_round m_roundCards m_fate m_any m_bothSend m_meanCards m_bestSum m_fitMany m_fitFirst m_fitSecond)), ((m_a 5), .inl (cB, 1600, .inl m_tape_c))] := hD
  dsimp only at hw9
  obtain ⟨hw9_0, hw9_1, hw9_2⟩ := hw9
  have hw9_1 : (n_m_at_9.toInt = m_at.toInt ∧ n_m_token_9.toInt = m_token.toInt) ∨ (m_at.toInt ≤ n_m_at_9.toInt ∧ n_m_at_9.toInt ≤ m_taped.toInt ∧ (m_at.toInt < n_m_at_9.toInt ∨ (n_m_token_9.toInt = 0 ∧ n_m_at_9.toInt = m_taped.toInt))) := hw9_1
  have hw9_2 : r9.toInt = 0 ∨ (0 ≤ r9.toInt ∧ r9.toInt ≤ y8.toInt) := hw9_2
  have rc9 : ir r9.toInt 0 9 := by omega
  subst hQ
  have hP9 := hP.sub (ws' := [(m, .inr (11, mG m_a m_thrown m_taped n_m_at_9 n_m_token_9 n_m_place_9 n_m_value_9 n_m_word_9 n_m_bad_9 n_m_badPlace_9 m_fault m_faultPlace m_willing m_will m_forgot m_isDrawn m_x m_begin m_round m_roundCards m_fate m_any m_bothSend m_meanCards m_bestSum m_fitMany m_fitFirst m_fitSecond)), ((m_a 17), .inl (cI, 25, .inl m_has_c)), ((m_a 5), .inl (cB, 1600, .inl m_tape_c))]) [1, 0, 2] rfl
  have hD9 := hD.sub (ws' := [(m, .inr (11, mG m_a m_thrown m_taped n_m_at_9 n_m_token_9 n_m_place_9 n_m_value_9 n_m_word_9 n_m_bad_9 n_m_badPlace_9 m_fault m_faultPlace m_willing m_will m_forgot m_isDrawn m_x m_begin m_round m_roundCards m_fate m_any m_bothSend m_meanCards m_bestSum m_fitMany m_fitFirst m_fitSecond)), ((m_a 17), .inl (cI, 25, .inl m_has_c)), ((m_a 5), .inl (cB, 1600, .inl m_tape_c))]) [1, 0, 2] (by decide) rfl
  exact W.iret (v := r9) hx hb hr (fun t ht hW => ⟨⟨r9, (n_m_at_9, n_m_token_9, n_m_place_9, n_m_value_9, n_m_word_9, n_m_bad_9, n_m_badPlace_9), rfl, ⟨hw9_0, (by omega), rc9⟩, ⟨by rw [ht]; exact hP9, va_K.moved hW.alike hK, hD9⟩⟩, hS.F ht⟩) hS.2.2 dX12_personHere_12
def v_X12_yearHere : List Cond := .code yX12_yearHere cX12_yearHere 1 (some .int) :: (([.methodLink RX12 189 yX12_hasRead, .instanceMethod yX12_hasRead, .selects RX12 yX12_hasRead yX12_hasRead, .initialized RX12, .methodLink RX12 182 yX12_number, .instanceMethod yX12_number, .selects RX12 yX12_number yX12_number] : List Cond) ++ (v_X12_hasRead0 ++ (v_X12_number ++ ([] : List Cond))))
theorem good_v_X12_yearHere : v_X12_yearHere.all goodWord = true := ga_c (by decide +kernel) (ga_a (by decide +kernel) (ga_a good_v_X12_hasRead0 (ga_a good_v_X12_number rfl)))
set_option maxHeartbeats 4000000 in
set_option maxRecDepth 100000 in
theorem q_X12_yearHere (l : Launch) (g : va_G) (cI cJ cB cZ cL : ClassId) (m : Nat) (m_a : Nat → Nat) (m_thrown : Int32) (m_taped : Int32) (m_at : Int32) (m_token : Int32) (m_place : Int32) (m_value : Int32) (m_word : Int64) (m_bad : Int32) (m_badPlace : Int32) (m_fault : Int32) (m_faultPlace : Int32) (m_willing : Int32) (m_will : Int32) (m_forgot : Int32) (m_isDrawn : Int32) (m_x : Int64) (m_begin : Int32) (m_round : Int32) (m_roundCards : Int32) (m_fate : Int32) (m_any : Int64) (m_bothSend : Int64) (m_meanCards : Int64) (m_bestSum : Int32) (m_fitMany : Int32) (m_fitFirst : Int64) (m_fitSecond : Int64) (m_has_c : Nat → Int32) (m_tape_c : Nat → Int32) (sz : Nat) (hv_m_taped : ir m_taped.toInt 0 1600) (hv_m_at : ir m_at.toInt 0 1600) (hv_m_will : ir m_will.toInt 0 1) (hv_m_isDrawn : ir m_isDrawn.toInt 0 1) (ha_m_has_c : hasI m_has_c) (hx_0 : m_at.toInt ≤ m_taped.toInt) : Met l yX12_yearHere v_X12_yearHere ({ frames := 3, cells := 0, slots := 0, locals := 67 }) (va_Pc [.ref m] (pRW g (tyT cI cJ cB cZ cL) [(m, .inr (11, mG m_a m_thrown m_taped m_at m_token m_place m_value m_word m_bad m_badPlace m_fault m_faultPlace m_willing m_will m_forgot m_isDrawn m_x m_begin m_round m_roundCards m_fate m_any m_bothSend m_meanCards m_bestSum m_fitMany m_fitFirst m_fitSecond)), ((m_a 17), .inl (cI, 25, .inl m_has_c)), ((m_a 5), .inl (cB, 1600, .inl m_tape_c))] sz)) (va_Qi (fun (r : Int32) (u : Int32 × Int32 × Int32 × Int32 × Int64 × Int32 × Int32) => match u with | (n_m_at, n_m_token, n_m_place, n_m_value, n_m_word, n_m_bad, n_m_badPlace) => (ir n_m_at.toInt 0 1600) ∧ ((n_m_at.toInt = m_at.toInt ∧ n_m_token.toInt = m_token.toInt) ∨ (m_at.toInt ≤ n_m_at.toInt ∧ n_m_at.toInt ≤ m_taped.toInt ∧ (m_at.toInt < n_m_at.toInt ∨ (n_m_token.toInt = 0 ∧ n_m_at.toInt = m_taped.toInt)))) ∧ (ir r.toInt 0 39)) (fun (u : Int32 × Int32 × Int32 × Int32 × Int64 × Int32 × Int32) (t : State) => bRW g (tyT cI cJ cB cZ cL) (va_A [(m, .inr (11, mG m_a m_thrown m_taped m_at m_token m_place m_value m_word m_bad m_badPlace m_fault m_faultPlace m_willing m_will m_forgot m_isDrawn m_x m_begin m_round m_roundCards m_fate m_any m_bothSend m_meanCards m_bestSum m_fitMany m_fitFirst m_fitSecond)), ((m_a 17), .inl (cI, 25, .inl m_has_c)), ((m_a 5), .inl (cB, 1600, .inl m_tape_c))] sz) (match u with | (n_m_at, n_m_token, n_m_place, n_m_value, n_m_word, n_m_bad, n_m_badPlace) => [(m, .inr (11, mG m_a m_thrown m_taped n_m_at n_m_token n_m_place n_m_value n_m_word n_m_bad n_m_badPlace m_fault m_faultPlace m_willing m_will m_forgot m_isDrawn m_x m_begin m_round m_roundCards m_fate m_any m_bothSend m_meanCards m_bestSum m_fitMany m_fitFirst m_fitSecond)), ((m_a 17), .inl (cI, 25, .inl m_has_c)), ((m_a 5), .inl (cB, 1600, .inl m_tape_c))]) t) (va_A [(m, .inr (11, mG m_a m_thrown m_taped m_at m_token m_place m_value m_word m_bad m_badPlace m_fault m_faultPlace m_willing m_will m_forgot m_isDrawn m_x m_begin m_round m_roundCards m_fate m_any m_bothSend m_meanCards m_bestSum m_fitMany m_fitFirst m_fitSecond)), ((m_a 17), .inl (cI, 25, .inl m_has_c)), ((m_a 5), .inl (cB, 1600, .inl m_tape_c))] sz)) 0 0 (va_A [(m, .inr (11, mG m_a m_thrown m_taped m_at m_token m_place m_value m_word m_bad m_badPlace m_fault m_faultPlace m_willing m_will m_forgot m_isDrawn m_x m_begin m_round m_roundCards m_fate m_any m_bothSend m_meanCards m_bestSum m_fitMany m_fitFirst m_fitSecond)), ((m_a 17), .inl (cI, 25, .inl m_has_c)), ((m_a 5), .inl (cB, 1600, .inl m_tape_c))] sz) := by
  refine Met.ofW (cc := cX12_yearHere) (maxL := 1) (ret := (some .int)) (by decide) rfl ?_
  intro p e s mth args below meth c s₁ B hml hv
  obtain ⟨rfl, hsz, hP, hK, hD0⟩ := hv
  have hx := B.exec
  have hb := B.bytes
  have hr := B.returns
  have hts := atoms_spec (ws := v_X12_yearHere) B.pre
  have hown : s.vm.findClass RX12 = some mth.cls := findClass_of_methodNamed B.named
  have hlocks := B.notSynchronized
  clear B
  subst hsz
  have hD := hD0.self (sz := s.heap.size)
  generalize hAe : (va_A [(m, .inr (11, mG m_a m_thrown m_taped m_at m_token m_place m_value m_word m_bad m_badPlace m_fault m_faultPlace m_willing m_will m_forgot m_isDrawn m_x m_begin m_round m_roundCards m_fate m_any m_bothSend m_meanCards m_bestSum m_fitMany m_fitFirst m_fitSecond)), ((m_a 17), .inl (cI, 25, .inl m_has_c)), ((m_a 5), .inl (cB, 1600, .inl m_tape_c))] s.heap.size) = A at hD ⊢
  have hA : ∀ q : Nat, s.heap.size ≤ q → A q := fun q h => by rw [← hAe]; exact Or.inr h
  have hS : va_S A s.heap s.heap [] := va_S.rf
  have hl := lv_entry ([.ref m]) (n := 1) (Nat.le_of_ble_eq_true rfl)
  rw [lg_entry_eq]
  generalize (lg_sl ([.ref m]) ++ List.replicate (1 - (lg_sl ([.ref m])).length) Slot.unset).toArray = ls at hl ⊢
  generalize ([.ref m] : List Value).toArray = av at hts ⊢
  generalize hQ : MQ below _ av s _ _ A = QQ
  have hl : lv_has ls 1 [(0, .ref m)] := hl
  have hP : va_P g vwCl [(m, .inr (11, mG m_a m_thrown m_taped m_at m_token m_place m_value m_word m_bad m_badPlace m_fault m_faultPlace m_willing m_will m_forgot m_isDrawn m_x m_begin m_round m_roundCards m_fate m_any m_bothSend m_meanCards m_bestSum m_fitMany m_fitFirst m_fitSecond)), ((m_a 17), .inl (cI, 25, .inl m_has_c)), ((m_a 5), .inl (cB, 1600, .inl m_tape_c))] s.heap := hP
  refine lv_aload_n hx hb dX12_yearHere_0 rfl (lv_at hl 0 rfl) ?_
  refine lv_iconst (v := 0) hx hb dX12_yearHere_1 (by decide) ?_
  refine lv_aload_n hx hb dX12_yearHere_2 rfl (lv_at hl 0 rfl) ?_
  refine lv_iconst (v := 0) hx hb dX12_yearHere_3 (by decide) ?_
  refine ro_i (va_runV (As := [.int 0]) (rest := [.int 0, .ref m]) ⟨hx, hb, hml, hown, hts⟩ (q_X12_hasRead0 l g cI cJ cB cZ cL m m_a m_thrown m_taped m_at m_token m_place m_value m_word m_bad m_badPlace m_fault m_faultPlace m_willing m_will m_forgot m_isDrawn m_x m_begin m_round m_roundCards m_fate m_any m_bothSend m_meanCards m_bestSum m_fitMany m_fitFirst m_fitSecond m_has_c s.heap.size hv_m_taped hv_m_at hv_m_will hv_m_isDrawn ha_m_has_c) (cwV 1 hts (goodIn_app (g_4 (List.mem_cons_of_mem _ (List.mem_append_left _ (List.mem_of_getElem? (i := 0) rfl))) (List.mem_cons_of_mem _ (List.mem_append_left _ (List.mem_of_getElem? (i := 1) rfl))) (List.mem_cons_of_mem _ (List.mem_append_left _ (List.mem_of_getElem? (i := 2) rfl))) (List.mem_cons_of_mem _ (List.mem_append_left _ (List.mem_of_getElem? (i := 3) rfl))) (by decide +kernel)) (goodIn_sub (fun _ h => List.mem_cons_of_mem _ (List.mem_append_right _ (List.mem_append_left _ h))) good_v_X12_hasRead0)) rfl rfl rfl (by decide +kernel) ⟨Nat.le_of_ble_eq_true rfl, Nat.le_of_ble_eq_true rfl⟩) (pv_RO (q := (RX12, TX12, 56)) (ci := 11) (q0 := 0) (wc := [(m, .inr (11, mG m_a m_thrown m_taped m_at m_token m_place m_value m_word m_bad m_badPlace m_fault m_faultPlace m_willing m_will m_forgot m_isDrawn m_x m_begin m_round m_roundCards m_fate m_any m_bothSend m_meanCards m_bestSum m_fitMany m_fitFirst m_fitSecond)), ((m_a 17), .inl (cI, 25, .inl m_has_c))]) hK hP [0, 1] rfl rfl rfl) rfl rfl hl.1 rfl (lv_room (Nat.le_of_ble_eq_true rfl)) dX12_yearHere_4 ⟨Nat.le_of_ble_eq_true rfl, Nat.le_of_ble_eq_true rfl⟩) hS hA hP (fun r4 u4 H locs hw4 hP hS => ?_)
  have hw4_0 := hw4
  subst hw4_0
  have rt4 : ir (m_has_c 20).toInt 0 40 := hasI_0 ha_m_has_c 4 (by decide)
  refine lv_iconst (v := 1) hx hb dX12_yearHere_7 (by decide) ?_
  refine lv_isub hx hb dX12_yearHere_8 ?_
  refine lv_topi (fun y8 e8 => ?_)
  have q8 : y8.toInt = (m_has_c 20).toInt - 1 := by rw [e8]; exact su_z rfl rfl rt4 (ir_c 1) (by decide) (by decide)
  have r8 : ir y8.toInt (-1) 39 := su_r q8 rt4 (ir_c 1) (by decide) (by decide)
  refine rw_i (wr := [((m_a 17), .inl (cI, 25, .inl m_has_c))]) (va_runV (As := [.int 0, .int y8]) (rest := []) ⟨hx, hb, hml, hown, hts⟩ (q_X12_number l g cI cJ cB cZ cL 0 y8 m m_a m_thrown m_taped m_at m_token m_place m_value m_word m_bad m_badPlace m_fault m_faultPlace m_willing m_will m_forgot m_isDrawn m_x m_begin m_round m_roundCards m_fate m_any m_bothSend m_meanCards m_bestSum m_fitMany m_fitFirst m_fitSecond m_tape_c H.size hv_m_taped hv_m_at hv_m_will hv_m_isDrawn (by omega)) (cwV 2 hts (goodIn_app (g_4 (List.mem_cons_of_mem _ (List.mem_append_left _ (List.mem_of_getElem? (i := 4) rfl))) (List.mem_cons_of_mem _ (List.mem_append_left _ (List.mem_of_getElem? (i := 5) rfl))) (List.mem_cons_of_mem _ (List.mem_append_left _ (List.mem_of_getElem? (i := 6) rfl))) (List.mem_cons_of_mem _ (List.mem_append_left _ (List.mem_of_getElem? (i := 3) rfl))) (by decide +kernel)) (goodIn_sub (fun _ h => List.mem_cons_of_mem _ (List.mem_append_right _ (List.mem_append_right _ (List.mem_append_left _ h)))) good_v_X12_number)) rfl rfl rfl (by decide +kernel) ⟨Nat.le_of_ble_eq_true rfl, Nat.le_of_ble_eq_true rfl⟩) (pv_RW (q := (RX12, TX12, 56)) (ci := 11) (q0 := 0) (wc := [(m, .inr (11, mG m_a m_thrown m_taped m_at m_token m_place m_value m_word m_bad m_badPlace m_fault m_faultPlace m_willing m_will m_forgot m_isDrawn m_x m_begin m_round m_roundCards m_fate m_any m_bothSend m_meanCards m_bestSum m_fitMany m_fitFirst m_fitSecond)), ((m_a 5), .inl (cB, 1600, .inl m_tape_c))]) hK hP hD [0, 2] (by decide) rfl rfl rfl) rfl rfl hl.1 rfl (lv_room (Nat.le_of_ble_eq_true rfl)) dX12_yearHere_9 ⟨Nat.le_of_ble_eq_true rfl, Nat.le_of_ble_eq_true rfl⟩) hS hA hP hD [0, 2] [1] rfl rfl (by decide) (by decide) (fun r9 u9 H locs hw9 hP hD hS => ?_)
  obtain ⟨n_m_at_9, n_m_token_9, n_m_place_9, n_m_value_9, n_m_word_9, n_m_bad_9, n_m_badPlace_9⟩ := u9
  have hP : va_P g vwCl [((m_a 17), .inl (cI, 25, .inl m_has_c)), (m, .inr (11, mG m_a m_thrown m_taped n_m_at_9 n_m_token_9 n_m_place_9 n_m_value_9 n_m_word_9 n_m_bad_9 n_m_badPlace_9 m_fault m_faultPlace m_willing m_will m_forgot m_isDrawn m_x m_begin m_round m_roundCards m_fate m_any m_bothSend m_meanCards m_bestSum m_fitMany m_fitFirst m_fitSecond)), ((m_a 5), .inl (cB, 1600, .inl m_tape_c))] H := hP
  have hD : va_D A [((m_a 17), .inl (cI, 25, .inl m_has_c)), (m, .inr (11, mG m_a m_thrown m_taped n_m_at_9 n_m_token_9 n_m_place_9 n_m_value_9 n_m_word_9 n_m_bad_9 n_m_badPlace_9 m_fault m_faultPlace m_willing m_will m_forgot m_isDrawn m_x m_begin m_round m_roundCards m_fate m_any m_bothSend m_meanCards m_bestSum m_fitMany m_fitFirst m_fitSecond)), ((m_a 5), .inl (cB, 1600, .inl m_tape_c))] := hD
  dsimp only at hw9
  obtain ⟨hw9_0, hw9_1, hw9_2⟩ := hw9
  have hw9_1 : (n_m_at_9.toInt = m_at.toInt ∧ n_m_token_9.toInt = m_token.toInt) ∨ (m_at.toInt ≤ n_m_at_9.toInt ∧ n_m_at_9.toInt ≤ m_taped.toInt ∧ (m_at.toInt < n_m_at_9.toInt ∨ (n_m_token_9.toInt = 0 ∧ n_m_at_9.toInt = m_taped.toInt))) := hw9_1
  have hw9_2 : r9.toInt = 0 ∨ (0 ≤ r9.toInt ∧ r9.toInt ≤ y8.toInt) := hw9_2
  have rc9 : ir r9.toInt 0 39 := by omega
  subst hQ
  have hP9 := hP.sub (ws' := [(m, .inr (11, mG m_a m_thrown m_taped n_m_at_9 n_m_token_9 n_m_place_9 n_m_value_9 n_m_word_9 n_m_bad_9 n_m_badPlace_9 m_fault m_faultPlace m_willing m_will m_forgot m_isDrawn m_x m_begin m_round m_roundCards m_fate m_any m_bothSend m_meanCards m_bestSum m_fitMany m_fitFirst m_fitSecond)), ((m_a 17), .inl (cI, 25, .inl m_has_c)), ((m_a 5), .inl (cB, 1600, .inl m_tape_c))]) [1, 0, 2] rfl
  have hD9 := hD.sub (ws' := [(m, .inr (11, mG m_a m_thrown m_taped n_m_at_9 n_m_token_9 n_m_place_9 n_m_value_9 n_m_word_9 n_m_bad_9 n_m_badPlace_9 m_fault m_faultPlace m_willing m_will m_forgot m_isDrawn m_x m_begin m_round m_roundCards m_fate m_any m_bothSend m_meanCards m_bestSum m_fitMany m_fitFirst m_fitSecond)), ((m_a 17), .inl (cI, 25, .inl m_has_c)), ((m_a 5), .inl (cB, 1600, .inl m_tape_c))]) [1, 0, 2] (by decide) rfl
  exact W.iret (v := r9) hx hb hr (fun t ht hW => ⟨⟨r9, (n_m_at_9, n_m_token_9, n_m_place_9, n_m_value_9, n_m_word_9, n_m_bad_9, n_m_badPlace_9), rfl, ⟨hw9_0, (by omega), rc9⟩, ⟨by rw [ht]; exact hP9, va_K.moved hW.alike hK, hD9⟩⟩, hS.F ht⟩) hS.2.2 dX12_yearHere_12
