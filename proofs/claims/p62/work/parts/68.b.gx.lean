def v_X12_clears : List Cond := .code yX12_clears cX12_clears 2 none :: (([.fieldLink RX12 31 "CardsAtYuleModel" "lines" "[I", .fieldLink RX12 46 "CardsAtYuleModel" "strikes" "[J", .fieldLink RX12 34 "CardsAtYuleModel" "has" "[I"] : List Cond) ++ (wsX120 ++ ([] : List Cond)))
theorem good_v_X12_clears : v_X12_clears.all goodWord = true := ga_c (by decide +kernel) (ga_a (by decide +kernel) (ga_a good_wsX120 rfl))
set_option maxHeartbeats 4000000 in
set_option maxRecDepth 100000 in
theorem q_X12_clears (l : Launch) (g : va_G) (cI cJ cB cZ cL : ClassId) (m : Nat) (m_a : Nat → Nat) (m_thrown : Int32) (m_taped : Int32) (m_at : Int32) (m_token : Int32) (m_place : Int32) (m_value : Int32) (m_word : Int64) (m_bad : Int32) (m_badPlace : Int32) (m_fault : Int32) (m_faultPlace : Int32) (m_willing : Int32) (m_will : Int32) (m_forgot : Int32) (m_isDrawn : Int32) (m_x : Int64) (m_begin : Int32) (m_round : Int32) (m_roundCards : Int32) (m_fate : Int32) (m_any : Int64) (m_bothSend : Int64) (m_meanCards : Int64) (m_bestSum : Int32) (m_fitMany : Int32) (m_fitFirst : Int64) (m_fitSecond : Int64) (m_lines_c : Nat → Int32) (m_strikes_c : Nat → Int64) (m_has_c : Nat → Int32) (sz : Nat) (hv_m_taped : ir m_taped.toInt 0 1600) (hv_m_at : ir m_at.toInt 0 1600) (hv_m_will : ir m_will.toInt 0 1) (hv_m_isDrawn : ir m_isDrawn.toInt 0 1) (ha_m_has_c : hasI m_has_c) : Met l yX12_clears v_X12_clears ({ frames := 0, cells := 0, slots := 0, locals := 0 }) (va_Pc [.ref m] (pRW g (tyT cI cJ cB cZ cL) [(m, .inr (11, mG m_a m_thrown m_taped m_at m_token m_place m_value m_word m_bad m_badPlace m_fault m_faultPlace m_willing m_will m_forgot m_isDrawn m_x m_begin m_round m_roundCards m_fate m_any m_bothSend m_meanCards m_bestSum m_fitMany m_fitFirst m_fitSecond)), ((m_a 16), .inl (cI, 5, .inl m_lines_c)), ((m_a 21), .inl (cJ, 5, .inr (.inl m_strikes_c))), ((m_a 17), .inl (cI, 25, .inl m_has_c))] sz)) (va_Qv (fun (u : (Nat → Int32) × (Nat → Int64) × (Nat → Int32)) => match u with | (n_m_lines_c, n_m_strikes_c, n_m_has_c) => (hasI n_m_has_c)) (fun (u : (Nat → Int32) × (Nat → Int64) × (Nat → Int32)) (t : State) => bRW g (tyT cI cJ cB cZ cL) (va_A [(m, .inr (11, mG m_a m_thrown m_taped m_at m_token m_place m_value m_word m_bad m_badPlace m_fault m_faultPlace m_willing m_will m_forgot m_isDrawn m_x m_begin m_round m_roundCards m_fate m_any m_bothSend m_meanCards m_bestSum m_fitMany m_fitFirst m_fitSecond)), ((m_a 16), .inl (cI, 5, .inl m_lines_c)), ((m_a 21), .inl (cJ, 5, .inr (.inl m_strikes_c))), ((m_a 17), .inl (cI, 25, .inl m_has_c))] sz) (match u with | (n_m_lines_c, n_m_strikes_c, n_m_has_c) => [(m, .inr (11, mG m_a m_thrown m_taped m_at m_token m_place m_value m_word m_bad m_badPlace m_fault m_faultPlace m_willing m_will m_forgot m_isDrawn m_x m_begin m_round m_roundCards m_fate m_any m_bothSend m_meanCards m_bestSum m_fitMany m_fitFirst m_fitSecond)), ((m_a 16), .inl (cI, 5, .inl n_m_lines_c)), ((m_a 21), .inl (cJ, 5, .inr (.inl n_m_strikes_c))), ((m_a 17), .inl (cI, 25, .inl n_m_has_c))]) t) (va_A [(m, .inr (11, mG m_a m_thrown m_taped m_at m_token m_place m_value m_word m_bad m_badPlace m_fault m_faultPlace m_willing m_will m_forgot m_isDrawn m_x m_begin m_round m_roundCards m_fate m_any m_bothSend m_meanCards m_bestSum m_fitMany m_fitFirst m_fitSecond)), ((m_a 16), .inl (cI, 5, .inl m_lines_c)), ((m_a 21), .inl (cJ, 5, .inr (.inl m_strikes_c))), ((m_a 17), .inl (cI, 25, .inl m_has_c))] sz)) 0 0 (va_A [(m, .inr (11, mG m_a m_thrown m_taped m_at m_token m_place m_value m_word m_bad m_badPlace m_fault m_faultPlace m_willing m_will m_forgot m_isDrawn m_x m_begin m_round m_roundCards m_fate m_any m_bothSend m_meanCards m_bestSum m_fitMany m_fitFirst m_fitSecond)), ((m_a 16), .inl (cI, 5, .inl m_lines_c)), ((m_a 21), .inl (cJ, 5, .inr (.inl m_strikes_c))), ((m_a 17), .inl (cI, 25, .inl m_has_c))] sz) := by
  refine Met.ofW (cc := cX12_clears) (maxL := 2) (ret := none) (by decide) rfl ?_
  intro p e s mth args below meth c s₁ B hml hv
  obtain ⟨rfl, hsz, hP, hK, hD0⟩ := hv
  have hx := B.exec
  have hb := B.bytes
  have hr := B.returns
  have hts := atoms_spec (ws := v_X12_clears) B.pre
  have hown : s.vm.findClass RX12 = some mth.cls := findClass_of_methodNamed B.named
  have hlocks := B.notSynchronized
  clear B
  subst hsz
  have iX12 : ∀ w ∈ wsX120, w ∈ v_X12_clears := (fun _ h => List.mem_cons_of_mem _ (List.mem_append_right _ (List.mem_append_left _ h)))
  have hD := hD0.self (sz := s.heap.size)
  generalize hAe : (va_A [(m, .inr (11, mG m_a m_thrown m_taped m_at m_token m_place m_value m_word m_bad m_badPlace m_fault m_faultPlace m_willing m_will m_forgot m_isDrawn m_x m_begin m_round m_roundCards m_fate m_any m_bothSend m_meanCards m_bestSum m_fitMany m_fitFirst m_fitSecond)), ((m_a 16), .inl (cI, 5, .inl m_lines_c)), ((m_a 21), .inl (cJ, 5, .inr (.inl m_strikes_c))), ((m_a 17), .inl (cI, 25, .inl m_has_c))] s.heap.size) = A at hD ⊢
  have hA : ∀ q : Nat, s.heap.size ≤ q → A q := fun q h => by rw [← hAe]; exact Or.inr h
  have hS : va_S A s.heap s.heap [] := va_S.rf
  have hl := lv_entry ([.ref m]) (n := 2) (Nat.le_of_ble_eq_true rfl)
  rw [lg_entry_eq]
  generalize (lg_sl ([.ref m]) ++ List.replicate (2 - (lg_sl ([.ref m])).length) Slot.unset).toArray = ls at hl ⊢
  generalize ([.ref m] : List Value).toArray = av at hts ⊢
  generalize hQ : MQ below _ av s _ _ A = QQ
  have hl : lv_has ls 2 [(0, .ref m)] := hl
  have hP : va_P g vwCl [(m, .inr (11, mG m_a m_thrown m_taped m_at m_token m_place m_value m_word m_bad m_badPlace m_fault m_faultPlace m_willing m_will m_forgot m_isDrawn m_x m_begin m_round m_roundCards m_fate m_any m_bothSend m_meanCards m_bestSum m_fitMany m_fitFirst m_fitSecond)), ((m_a 16), .inl (cI, 5, .inl m_lines_c)), ((m_a 21), .inl (cJ, 5, .inr (.inl m_strikes_c))), ((m_a 17), .inl (cI, 25, .inl m_has_c))] s.heap := hP
  refine lv_aload_n hx hb dX12_clears_0 rfl (lv_at hl 0 rfl) ?_
  refine va_get (D := g) (ci := 11) (v := .ref (m_a 16)) (C := RX12) (T := TX12) (N := 56) hx hb hts iX12 hown hK hP 0 rfl rfl 16 (by decide) (hts (.fieldLink RX12 31 "CardsAtYuleModel" "lines" "[I") (List.mem_cons_of_mem _ (List.mem_append_left _ (List.mem_of_getElem? (i := 0) rfl)))) (fun _ h9 => h9) rfl dX12_clears_1 ?_
  refine lv_iconst (v := 4) hx hb dX12_clears_4 (by decide) ?_
  refine lv_iconst (v := 0) hx hb dX12_clears_5 (by decide) ?_
  refine va_iast (D := g) hx hb hK hP hD hS 1 0 rfl rfl (vc_in (by decide)) dX12_clears_6 (fun H locs hP hD hS => ?_)
  obtain ⟨g6, e6⟩ : ∃ z, z = upd m_lines_c 4 (0 : Int32) := ⟨_, rfl⟩
  have hP : va_P g vwCl [(m, .inr (11, mG m_a m_thrown m_taped m_at m_token m_place m_value m_word m_bad m_badPlace m_fault m_faultPlace m_willing m_will m_forgot m_isDrawn m_x m_begin m_round m_roundCards m_fate m_any m_bothSend m_meanCards m_bestSum m_fitMany m_fitFirst m_fitSecond)), ((m_a 16), .inl (cI, 5, .inl (upd m_lines_c 4 (0 : Int32)))), ((m_a 21), .inl (cJ, 5, .inr (.inl m_strikes_c))), ((m_a 17), .inl (cI, 25, .inl m_has_c))] H := hP
  have hD : va_D A [(m, .inr (11, mG m_a m_thrown m_taped m_at m_token m_place m_value m_word m_bad m_badPlace m_fault m_faultPlace m_willing m_will m_forgot m_isDrawn m_x m_begin m_round m_roundCards m_fate m_any m_bothSend m_meanCards m_bestSum m_fitMany m_fitFirst m_fitSecond)), ((m_a 16), .inl (cI, 5, .inl (upd m_lines_c 4 (0 : Int32)))), ((m_a 21), .inl (cJ, 5, .inr (.inl m_strikes_c))), ((m_a 17), .inl (cI, 25, .inl m_has_c))] := hD
  rw [← e6] at hP hD
  refine lv_aload_n hx hb dX12_clears_7 rfl (lv_at hl 0 rfl) ?_
  refine va_get (D := g) (ci := 11) (v := .ref (m_a 21)) (C := RX12) (T := TX12) (N := 56) hx hb hts iX12 hown hK hP 0 rfl rfl 21 (by decide) (hts (.fieldLink RX12 46 "CardsAtYuleModel" "strikes" "[J") (List.mem_cons_of_mem _ (List.mem_append_left _ (List.mem_of_getElem? (i := 1) rfl)))) (fun _ h9 => h9) rfl dX12_clears_8 ?_
  refine lv_iconst (v := 4) hx hb dX12_clears_11 (by decide) ?_
  refine lv_lconst (v := 0) hx hb dX12_clears_12 (by decide) ?_
  refine va_last (D := g) hx hb hK hP hD hS 2 1 rfl rfl (vc_in (by decide)) dX12_clears_13 (fun H locs hP hD hS => ?_)
  obtain ⟨g13, e13⟩ : ∃ z, z = vp_updL m_strikes_c 4 (0 : Int64) := ⟨_, rfl⟩
  have hP : va_P g vwCl [(m, .inr (11, mG m_a m_thrown m_taped m_at m_token m_place m_value m_word m_bad m_badPlace m_fault m_faultPlace m_willing m_will m_forgot m_isDrawn m_x m_begin m_round m_roundCards m_fate m_any m_bothSend m_meanCards m_bestSum m_fitMany m_fitFirst m_fitSecond)), ((m_a 16), .inl (cI, 5, .inl g6)), ((m_a 21), .inl (cJ, 5, .inr (.inl (vp_updL m_strikes_c 4 (0 : Int64))))), ((m_a 17), .inl (cI, 25, .inl m_has_c))] H := hP
  have hD : va_D A [(m, .inr (11, mG m_a m_thrown m_taped m_at m_token m_place m_value m_word m_bad m_badPlace m_fault m_faultPlace m_willing m_will m_forgot m_isDrawn m_x m_begin m_round m_roundCards m_fate m_any m_bothSend m_meanCards m_bestSum m_fitMany m_fitFirst m_fitSecond)), ((m_a 16), .inl (cI, 5, .inl g6)), ((m_a 21), .inl (cJ, 5, .inr (.inl (vp_updL m_strikes_c 4 (0 : Int64))))), ((m_a 17), .inl (cI, 25, .inl m_has_c))] := hD
  rw [← e13] at hP hD
  refine lv_iconst (v := 0) hx hb dX12_clears_14 (by decide) ?_
  refine lv_istore_n (lv' := [(1, .int 0), (0, .ref m)]) hx hb dX12_clears_15 rfl hl (by decide) rfl (fun ls hl => ?_)
  have J16 : ∀ (n16 : Nat) (j16_l1 : Int32) (j16_m_a17_c : Nat → Int32) (H : Heap) (locs : List Loc) (ls : Array Slot), (6 - j16_l1.toInt).toNat < n16 → (ir j16_l1.toInt 0 5) → (hasI j16_m_a17_c) → va_P g vwCl [(m, .inr (11, mG m_a m_thrown m_taped m_at m_token m_place m_value m_word m_bad m_badPlace m_fault m_faultPlace m_willing m_will m_forgot m_isDrawn m_x m_begin m_round m_roundCards m_fate m_any m_bothSend m_meanCards m_bestSum m_fitMany m_fitFirst m_fitSecond)), ((m_a 16), .inl (cI, 5, .inl g6)), ((m_a 21), .inl (cJ, 5, .inr (.inl g13))), ((m_a 17), .inl (cI, 25, .inl j16_m_a17_c))] H → va_D A [(m, .inr (11, mG m_a m_thrown m_taped m_at m_token m_place m_value m_word m_bad m_badPlace m_fault m_faultPlace m_willing m_will m_forgot m_isDrawn m_x m_begin m_round m_roundCards m_fate m_any m_bothSend m_meanCards m_bestSum m_fitMany m_fitFirst m_fitSecond)), ((m_a 16), .inl (cI, 5, .inl g6)), ((m_a 21), .inl (cJ, 5, .inr (.inl g13))), ((m_a 17), .inl (cI, 25, .inl j16_m_a17_c))] → va_S A s.heap H locs → lv_has ls 2 [(0, .ref m), (1, .int j16_l1)] → W p l e (headSpec v_X12_clears ({ frames := 0, cells := 0, slots := 0, locals := 0 })).room s mth av below meth c H locs 0 0 QQ (F0 mth 16 ls []) := by
    intro n16
    induction n16 with
    | zero => exact fun j16_l1 j16_m_a17_c H locs ls hn => absurd hn (Nat.not_lt_zero _)
    | succ n16 ih16 =>
      intro j16_l1 j16_m_a17_c H locs ls hn16 hj16_l1 hj16_m_a17_c hP hD hS hl
      refine lv_iload_n hx hb dX12_clears_16 rfl (lv_at hl 1 rfl) ?_
      refine lv_iconst (v := 5) hx hb dX12_clears_17 (by decide) ?_
      refine lv_icmp_ge (tgt := 37) hx hb dX12_clears_18 (by decide) (fun c18 => ?_) (fun c18 => ?_)
      · have f18 := (show 5 ≤ j16_l1.toInt from z_le rfl rfl c18)
        have r18a : ir j16_l1.toInt 5 5 := ir_leb f18 (ir_c 5) hj16_l1 (by decide)
        subst hQ
        have hP9 := hP.sub (ws' := [(m, .inr (11, mG m_a m_thrown m_taped m_at m_token m_place m_value m_word m_bad m_badPlace m_fault m_faultPlace m_willing m_will m_forgot m_isDrawn m_x m_begin m_round m_roundCards m_fate m_any m_bothSend m_meanCards m_bestSum m_fitMany m_fitFirst m_fitSecond)), ((m_a 16), .inl (cI, 5, .inl g6)), ((m_a 21), .inl (cJ, 5, .inr (.inl g13))), ((m_a 17), .inl (cI, 25, .inl j16_m_a17_c))]) [0, 1, 2, 3] rfl
        have hD9 := hD.sub (ws' := [(m, .inr (11, mG m_a m_thrown m_taped m_at m_token m_place m_value m_word m_bad m_badPlace m_fault m_faultPlace m_willing m_will m_forgot m_isDrawn m_x m_begin m_round m_roundCards m_fate m_any m_bothSend m_meanCards m_bestSum m_fitMany m_fitFirst m_fitSecond)), ((m_a 16), .inl (cI, 5, .inl g6)), ((m_a 21), .inl (cJ, 5, .inr (.inl g13))), ((m_a 17), .inl (cI, 25, .inl j16_m_a17_c))]) [0, 1, 2, 3] (by decide) rfl
        exact W.vret hx hb hr (fun t ht hW => ⟨⟨(g6, g13, j16_m_a17_c), rfl, hj16_m_a17_c, ⟨by rw [ht]; exact hP9, va_K.moved hW.alike hK, hD9⟩⟩, hS.F ht⟩) hS.2.2 dX12_clears_37
      have f18 := (show j16_l1.toInt < 5 from z_nle rfl rfl c18)
      have r18a : ir j16_l1.toInt 0 4 := ir_lta f18 hj16_l1 (ir_c 5) (by decide)
      refine lv_aload_n hx hb dX12_clears_21 rfl (lv_at hl 0 rfl) ?_
      refine va_get (D := g) (ci := 11) (v := .ref (m_a 17)) (C := RX12) (T := TX12) (N := 56) hx hb hts iX12 hown hK hP 0 rfl rfl 17 (by decide) (hts (.fieldLink RX12 34 "CardsAtYuleModel" "has" "[I") (List.mem_cons_of_mem _ (List.mem_append_left _ (List.mem_of_getElem? (i := 2) rfl)))) (fun _ h9 => h9) rfl dX12_clears_22 ?_
      refine lv_bipush (v := 20) hx hb dX12_clears_25 (by decide) ?_
      refine lv_iload_n hx hb dX12_clears_27 rfl (lv_at hl 1 rfl) ?_
      refine lv_iadd hx hb dX12_clears_28 ?_
      refine lv_topi (fun y28 e28 => ?_)
      have q28 : y28.toInt = 20 + j16_l1.toInt := by rw [e28]; exact ad_z rfl rfl (ir_c 20) r18a (by decide) (by decide)
      have r28 : ir y28.toInt 20 24 := ad_r q28 (ir_c 20) r18a (by decide) (by decide)
      refine lv_iconst (v := 0) hx hb dX12_clears_29 (by decide) ?_
      refine va_iast (D := g) hx hb hK hP hD hS 3 0 rfl rfl (vi_rg rfl r28 (by decide) (by decide)) dX12_clears_30 (fun H locs hP hD hS => ?_)
      obtain ⟨g30, e30⟩ : ∃ z, z = upd j16_m_a17_c y28.toNatClampNeg (0 : Int32) := ⟨_, rfl⟩
      have hP : va_P g vwCl [(m, .inr (11, mG m_a m_thrown m_taped m_at m_token m_place m_value m_word m_bad m_badPlace m_fault m_faultPlace m_willing m_will m_forgot m_isDrawn m_x m_begin m_round m_roundCards m_fate m_any m_bothSend m_meanCards m_bestSum m_fitMany m_fitFirst m_fitSecond)), ((m_a 16), .inl (cI, 5, .inl g6)), ((m_a 21), .inl (cJ, 5, .inr (.inl g13))), ((m_a 17), .inl (cI, 25, .inl (upd j16_m_a17_c y28.toNatClampNeg (0 : Int32))))] H := hP
      have hD : va_D A [(m, .inr (11, mG m_a m_thrown m_taped m_at m_token m_place m_value m_word m_bad m_badPlace m_fault m_faultPlace m_willing m_will m_forgot m_isDrawn m_x m_begin m_round m_roundCards m_fate m_any m_bothSend m_meanCards m_bestSum m_fitMany m_fitFirst m_fitSecond)), ((m_a 16), .inl (cI, 5, .inl g6)), ((m_a 21), .inl (cJ, 5, .inr (.inl g13))), ((m_a 17), .inl (cI, 25, .inl (upd j16_m_a17_c y28.toNatClampNeg (0 : Int32))))] := hD
      rw [← e30] at hP hD
      have a30 : hasI g30 := by rw [e30]; exact hasI_u hj16_m_a17_c (ir_w (show ir (0 : Int32).toInt 0 0 by decide) (by decide) (by decide))
      obtain ⟨y31, e31⟩ : ∃ y : Int32, y = j16_l1 + 1 := ⟨_, rfl⟩
      have q31 : y31.toInt = j16_l1.toInt + 1 := by rw [e31]; exact ad_z rfl rfl r18a (ir_c 1) (by decide) (by decide)
      have r31 : ir y31.toInt 1 5 := ad_r q31 r18a (ir_c 1) (by decide) (by decide)
      refine lv_iinc (v := y31) (lv' := [(1, .int y31), (0, .ref m)]) hx hb dX12_clears_31 hl (k := 1) rfl e31.symm (by decide) rfl (fun ls hl => ?_)
      refine lv_goto (tgt := 16) hx hb dX12_clears_34 (by decide) ?_
      exact ih16 y31 g30 _ _ _ (by omega) (ir_w r31 (by decide) (by decide)) a30 (hP.sub [0, 1, 2, 3] rfl) (hD.sub [0, 1, 2, 3] (by decide) rfl) hS (lv_sub hl [1, 0] rfl)
  exact J16 _ 0 m_has_c _ _ _ (Nat.lt_succ_self _) (by decide) ha_m_has_c (hP.sub [0, 1, 2, 3] rfl) (hD.sub [0, 1, 2, 3] (by decide) rfl) hS (lv_sub hl [1, 0] rfl)
def v_X12_copyRow_lines : List Cond := .code yX12_copyRow cX12_copyRow 5 none :: (([] : List Cond) ++ ([] : List Cond))
theorem good_v_X12_copyRow_lines : v_X12_copyRow_lines.all goodWord = true := ga_c (by decide +kernel) (ga_a (by decide +kernel) rfl)
set_option maxHeartbeats 4000000 in
set_option maxRecDepth 100000 in
theorem q_X12_copyRow_lines (l : Launch) (g : va_G) (cI cJ cB cZ cL : ClassId) (p2 : Int32) (p3 : Int32) (r0 : Nat) (r0_c : Nat → Int32) (sz : Nat) (hv_p2 : ir p2.toInt 0 4) (hv_p3 : ir p3.toInt 0 4) : Met l yX12_copyRow v_X12_copyRow_lines ({ frames := 0, cells := 0, slots := 0, locals := 0 }) (va_Pc [.ref r0, .int 1, .int p2, .int p3] (pRW g (tyT cI cJ cB cZ cL) [(r0, .inl (cI, 5, .inl r0_c))] sz)) (va_Qv (fun (u : (Nat → Int32)) => match u with | n_r0_c => True) (fun (u : (Nat → Int32)) (t : State) => bRW g (tyT cI cJ cB cZ cL) (va_A [(r0, .inl (cI, 5, .inl r0_c))] sz) (match u with | n_r0_c => [(r0, .inl (cI, 5, .inl n_r0_c))]) t) (va_A [(r0, .inl (cI, 5, .inl r0_c))] sz)) 0 0 (va_A [(r0, .inl (cI, 5, .inl r0_c))] sz) := by
  refine Met.ofW (cc := cX12_copyRow) (maxL := 5) (ret := none) (by decide) rfl ?_
  intro p e s mth args below meth c s₁ B hml hv
  obtain ⟨rfl, hsz, hP, hK, hD0⟩ := hv
  have hx := B.exec
  have hb := B.bytes
  have hr := B.returns
  have hts := atoms_spec (ws := v_X12_copyRow_lines) B.pre
  have hown : s.vm.findClass RX12 = some mth.cls := findClass_of_methodNamed B.named
  have hlocks := B.notSynchronized
  clear B
  subst hsz
  have hD := hD0.self (sz := s.heap.size)
  generalize hAe : (va_A [(r0, .inl (cI, 5, .inl r0_c))] s.heap.size) = A at hD ⊢
  have hA : ∀ q : Nat, s.heap.size ≤ q → A q := fun q h => by rw [← hAe]; exact Or.inr h
  have hS : va_S A s.heap s.heap [] := va_S.rf
  have hl := lv_entry ([.ref r0, .int 1, .int p2, .int p3]) (n := 5) (Nat.le_of_ble_eq_true rfl)
  rw [lg_entry_eq]
  generalize (lg_sl ([.ref r0, .int 1, .int p2, .int p3]) ++ List.replicate (5 - (lg_sl ([.ref r0, .int 1, .int p2, .int p3])).length) Slot.unset).toArray = ls at hl ⊢
  generalize ([.ref r0, .int 1, .int p2, .int p3] : List Value).toArray = av at hts ⊢
  generalize hQ : MQ below _ av s _ _ A = QQ
  have hl : lv_has ls 5 [(0, .ref r0), (1, .int 1), (2, .int p2), (3, .int p3)] := hl
  have hP : va_P g vwCl [(r0, .inl (cI, 5, .inl r0_c))] s.heap := hP
  refine lv_iconst (v := 0) hx hb dX12_copyRow_0 (by decide) ?_
  refine lv_istore (lv' := [(4, .int 0), (0, .ref r0), (1, .int 1), (2, .int p2), (3, .int p3)]) hx hb dX12_copyRow_1 hl (by decide) rfl (fun ls hl => ?_)
  have J3 : ∀ (n3 : Nat) (j3_l4 : Int32) (j3_r0_c : Nat → Int32) (H : Heap) (locs : List Loc) (ls : Array Slot), (2 - j3_l4.toInt).toNat < n3 → (ir j3_l4.toInt 0 1) → va_P g vwCl [(r0, .inl (cI, 5, .inl j3_r0_c))] H → va_D A [(r0, .inl (cI, 5, .inl j3_r0_c))] → va_S A s.heap H locs → lv_has ls 5 [(0, .ref r0), (1, .int 1), (2, .int p2), (3, .int p3), (4, .int j3_l4)] → W p l e (headSpec v_X12_copyRow_lines ({ frames := 0, cells := 0, slots := 0, locals := 0 })).room s mth av below meth c H locs 0 0 QQ (F0 mth 3 ls []) := by
    intro n3
    induction n3 with
    | zero => exact fun j3_l4 j3_r0_c H locs ls hn => absurd hn (Nat.not_lt_zero _)
    | succ n3 ih3 =>
      intro j3_l4 j3_r0_c H locs ls hn3 hj3_l4 hP hD hS hl
      refine lv_iload hx hb dX12_copyRow_3 (lv_at hl 4 rfl) ?_
      refine lv_iload_n hx hb dX12_copyRow_5 rfl (lv_at hl 1 rfl) ?_
      refine lv_icmp_ge (tgt := 31) hx hb dX12_copyRow_6 (by decide) (fun c6 => ?_) (fun c6 => ?_)
      · have f6 := (show 1 ≤ j3_l4.toInt from z_le rfl rfl c6)
        have r6a : ir j3_l4.toInt 1 1 := ir_leb f6 (ir_c 1) hj3_l4 (by decide)
        subst hQ
        have hP9 := hP.sub (ws' := [(r0, .inl (cI, 5, .inl j3_r0_c))]) [0] rfl
        have hD9 := hD.sub (ws' := [(r0, .inl (cI, 5, .inl j3_r0_c))]) [0] (by decide) rfl
        exact W.vret hx hb hr (fun t ht hW => ⟨⟨j3_r0_c, rfl, trivial, ⟨by rw [ht]; exact hP9, va_K.moved hW.alike hK, hD9⟩⟩, hS.F ht⟩) hS.2.2 dX12_copyRow_31
      have f6 := (show j3_l4.toInt < 1 from z_nle rfl rfl c6)
      have r6a : ir j3_l4.toInt 0 0 := ir_lta f6 hj3_l4 (ir_c 1) (by decide)
      refine lv_aload_n hx hb dX12_copyRow_9 rfl (lv_at hl 0 rfl) ?_
      refine lv_iload_n hx hb dX12_copyRow_10 rfl (lv_at hl 1 rfl) ?_
      refine lv_iload_n hx hb dX12_copyRow_11 rfl (lv_at hl 3 rfl) ?_
      refine lv_imul hx hb dX12_copyRow_12 ?_
      refine lv_topi (fun y12 e12 => ?_)
      have q12 : y12.toInt = 1 * p3.toInt := by rw [e12]; exact mu_z rfl rfl (ir_c 1) hv_p3 (by decide) (by decide) (by decide)
      have r12 : ir y12.toInt 0 4 := mu_r q12 (ir_c 1) hv_p3 (by decide) (by decide) (by decide) (by decide)
      refine lv_iload hx hb dX12_copyRow_13 (lv_at hl 4 rfl) ?_
      refine lv_iadd hx hb dX12_copyRow_15 ?_
      refine lv_topi (fun y15 e15 => ?_)
      have q15 : y15.toInt = y12.toInt + j3_l4.toInt := by rw [e15]; exact ad_z rfl rfl r12 r6a (by decide) (by decide)
      have r15 : ir y15.toInt 0 4 := ad_r q15 r12 r6a (by decide) (by decide)
      refine lv_aload_n hx hb dX12_copyRow_16 rfl (lv_at hl 0 rfl) ?_
      refine lv_iload_n hx hb dX12_copyRow_17 rfl (lv_at hl 1 rfl) ?_
      refine lv_iload_n hx hb dX12_copyRow_18 rfl (lv_at hl 2 rfl) ?_
      refine lv_imul hx hb dX12_copyRow_19 ?_
      refine lv_topi (fun y19 e19 => ?_)
      have q19 : y19.toInt = 1 * p2.toInt := by rw [e19]; exact mu_z rfl rfl (ir_c 1) hv_p2 (by decide) (by decide) (by decide)
      have r19 : ir y19.toInt 0 4 := mu_r q19 (ir_c 1) hv_p2 (by decide) (by decide) (by decide) (by decide)
      refine lv_iload hx hb dX12_copyRow_20 (lv_at hl 4 rfl) ?_
      refine lv_iadd hx hb dX12_copyRow_22 ?_
      refine lv_topi (fun y22 e22 => ?_)
      have q22 : y22.toInt = y19.toInt + j3_l4.toInt := by rw [e22]; exact ad_z rfl rfl r19 r6a (by decide) (by decide)
      have r22 : ir y22.toInt 0 4 := ad_r q22 r19 r6a (by decide) (by decide)
      refine va_iald (D := g) hx hb hK hP 0 0 rfl rfl (vi_rg rfl r22 (by decide) (by decide)) dX12_copyRow_23 ?_
      refine lv_topi (fun y23 e23 => ?_)
      refine va_iast (D := g) hx hb hK hP hD hS 0 0 rfl rfl (vi_rg rfl r15 (by decide) (by decide)) dX12_copyRow_24 (fun H locs hP hD hS => ?_)
      obtain ⟨g24, e24⟩ : ∃ z, z = upd j3_r0_c y15.toNatClampNeg y23 := ⟨_, rfl⟩
      have hP : va_P g vwCl [(r0, .inl (cI, 5, .inl (upd j3_r0_c y15.toNatClampNeg y23)))] H := hP
      have hD : va_D A [(r0, .inl (cI, 5, .inl (upd j3_r0_c y15.toNatClampNeg y23)))] := hD
      rw [← e24] at hP hD
      obtain ⟨y25, e25⟩ : ∃ y : Int32, y = j3_l4 + 1 := ⟨_, rfl⟩
      have q25 : y25.toInt = j3_l4.toInt + 1 := by rw [e25]; exact ad_z rfl rfl r6a (ir_c 1) (by decide) (by decide)
      have r25 : ir y25.toInt 1 1 := ad_r q25 r6a (ir_c 1) (by decide) (by decide)
      refine lv_iinc (v := y25) (lv' := [(4, .int y25), (0, .ref r0), (1, .int 1), (2, .int p2), (3, .int p3)]) hx hb dX12_copyRow_25 hl (k := 4) rfl e25.symm (by decide) rfl (fun ls hl => ?_)
      refine lv_goto (tgt := 3) hx hb dX12_copyRow_28 (by decide) ?_
      exact ih3 y25 g24 _ _ _ (by omega) (ir_w r25 (by decide) (by decide)) (hP.sub [0] rfl) (hD.sub [0] (by decide) rfl) hS (lv_sub hl [1, 2, 3, 4, 0] rfl)
  exact J3 _ 0 r0_c _ _ _ (Nat.lt_succ_self _) (by decide) (hP.sub [0] rfl) (hD.sub [0] (by decide) rfl) hS (lv_sub hl [1, 2, 3, 4, 0] rfl)
def v_X12_copyRow_pair : List Cond := .code yX12_copyRow cX12_copyRow 5 none :: (([] : List Cond) ++ ([] : List Cond))
theorem good_v_X12_copyRow_pair : v_X12_copyRow_pair.all goodWord = true := ga_c (by decide +kernel) (ga_a (by decide +kernel) rfl)
set_option maxHeartbeats 4000000 in
set_option maxRecDepth 100000 in
theorem q_X12_copyRow_pair (l : Launch) (g : va_G) (cI cJ cB cZ cL : ClassId) (p2 : Int32) (p3 : Int32) (r0 : Nat) (r0_c : Nat → Int32) (sz : Nat) (hv_p2 : ir p2.toInt 0 4) (hv_p3 : ir p3.toInt 0 4) (ha_r0_c : ar r0_c 240 0 15) : Met l yX12_copyRow v_X12_copyRow_pair ({ frames := 0, cells := 0, slots := 0, locals := 0 }) (va_Pc [.ref r0, .int 48, .int p2, .int p3] (pRW g (tyT cI cJ cB cZ cL) [(r0, .inl (cI, 240, .inl r0_c))] sz)) (va_Qv (fun (u : (Nat → Int32)) => match u with | n_r0_c => (ar n_r0_c 240 0 15)) (fun (u : (Nat → Int32)) (t : State) => bRW g (tyT cI cJ cB cZ cL) (va_A [(r0, .inl (cI, 240, .inl r0_c))] sz) (match u with | n_r0_c => [(r0, .inl (cI, 240, .inl n_r0_c))]) t) (va_A [(r0, .inl (cI, 240, .inl r0_c))] sz)) 0 0 (va_A [(r0, .inl (cI, 240, .inl r0_c))] sz) := by
  refine Met.ofW (cc := cX12_copyRow) (maxL := 5) (ret := none) (by decide) rfl ?_
  intro p e s mth args below meth c s₁ B hml hv
  obtain ⟨rfl, hsz, hP, hK, hD0⟩ := hv
  have hx := B.exec
  have hb := B.bytes
  have hr := B.returns
  have hts := atoms_spec (ws := v_X12_copyRow_pair) B.pre
  have hown : s.vm.findClass RX12 = some mth.cls := findClass_of_methodNamed B.named
  have hlocks := B.notSynchronized
  clear B
  subst hsz
  have hD := hD0.self (sz := s.heap.size)
  generalize hAe : (va_A [(r0, .inl (cI, 240, .inl r0_c))] s.heap.size) = A at hD ⊢
  have hA : ∀ q : Nat, s.heap.size ≤ q → A q := fun q h => by rw [← hAe]; exact Or.inr h
  have hS : va_S A s.heap s.heap [] := va_S.rf
  have hl := lv_entry ([.ref r0, .int 48, .int p2, .int p3]) (n := 5) (Nat.le_of_ble_eq_true rfl)
  rw [lg_entry_eq]
  generalize (lg_sl ([.ref r0, .int 48, .int p2, .int p3]) ++ List.replicate (5 - (lg_sl ([.ref r0, .int 48, .int p2, .int p3])).length) Slot.unset).toArray = ls at hl ⊢
  generalize ([.ref r0, .int 48, .int p2, .int p3] : List Value).toArray = av at hts ⊢
  generalize hQ : MQ below _ av s _ _ A = QQ
  have hl : lv_has ls 5 [(0, .ref r0), (1, .int 48), (2, .int p2), (3, .int p3)] := hl
  have hP : va_P g vwCl [(r0, .inl (cI, 240, .inl r0_c))] s.heap := hP
  refine lv_iconst (v := 0) hx hb dX12_copyRow_0 (by decide) ?_
  refine lv_istore (lv' := [(4, .int 0), (0, .ref r0), (1, .int 48), (2, .int p2), (3, .int p3)]) hx hb dX12_copyRow_1 hl (by decide) rfl (fun ls hl => ?_)
  have J3 : ∀ (n3 : Nat) (j3_l4 : Int32) (j3_r0_c : Nat → Int32) (H : Heap) (locs : List Loc) (ls : Array Slot), (50 - j3_l4.toInt).toNat < n3 → (ir j3_l4.toInt 0 49) → (ar j3_r0_c 240 0 15) → va_P g vwCl [(r0, .inl (cI, 240, .inl j3_r0_c))] H → va_D A [(r0, .inl (cI, 240, .inl j3_r0_c))] → va_S A s.heap H locs → lv_has ls 5 [(0, .ref r0), (1, .int 48), (2, .int p2), (3, .int p3), (4, .int j3_l4)] → W p l e (headSpec v_X12_copyRow_pair ({ frames := 0, cells := 0, slots := 0, locals := 0 })).room s mth av below meth c H locs 0 0 QQ (F0 mth 3 ls []) := by
    intro n3
    induction n3 with
    | zero => exact fun j3_l4 j3_r0_c H locs ls hn => absurd hn (Nat.not_lt_zero _)
    | succ n3 ih3 =>
      intro j3_l4 j3_r0_c H locs ls hn3 hj3_l4 hj3_r0_c hP hD hS hl
      refine lv_iload hx hb dX12_copyRow_3 (lv_at hl 4 rfl) ?_
      refine lv_iload_n hx hb dX12_copyRow_5 rfl (lv_at hl 1 rfl) ?_
      refine lv_icmp_ge (tgt := 31) hx hb dX12_copyRow_6 (by decide) (fun c6 => ?_) (fun c6 => ?_)
      · have f6 := (show 48 ≤ j3_l4.toInt from z_le rfl rfl c6)
        have r6a : ir j3_l4.toInt 48 49 := ir_leb f6 (ir_c 48) hj3_l4 (by decide)
        subst hQ
        have hP9 := hP.sub (ws' := [(r0, .inl (cI, 240, .inl j3_r0_c))]) [0] rfl
        have hD9 := hD.sub (ws' := [(r0, .inl (cI, 240, .inl j3_r0_c))]) [0] (by decide) rfl
        exact W.vret hx hb hr (fun t ht hW => ⟨⟨j3_r0_c, rfl, hj3_r0_c, ⟨by rw [ht]; exact hP9, va_K.moved hW.alike hK, hD9⟩⟩, hS.F ht⟩) hS.2.2 dX12_copyRow_31
      have f6 := (show j3_l4.toInt < 48 from z_nle rfl rfl c6)
      have r6a : ir j3_l4.toInt 0 47 := ir_lta f6 hj3_l4 (ir_c 48) (by decide)
      refine lv_aload_n hx hb dX12_copyRow_9 rfl (lv_at hl 0 rfl) ?_
      refine lv_iload_n hx hb dX12_copyRow_10 rfl (lv_at hl 1 rfl) ?_
      refine lv_iload_n hx hb dX12_copyRow_11 rfl (lv_at hl 3 rfl) ?_
      refine lv_imul hx hb dX12_copyRow_12 ?_
      refine lv_topi (fun y12 e12 => ?_)
      have q12 : y12.toInt = 48 * p3.toInt := by rw [e12]; exact mu_z rfl rfl (ir_c 48) hv_p3 (by decide) (by decide) (by decide)
      have r12 : ir y12.toInt 0 192 := mu_r q12 (ir_c 48) hv_p3 (by decide) (by decide) (by decide) (by decide)
      refine lv_iload hx hb dX12_copyRow_13 (lv_at hl 4 rfl) ?_
      refine lv_iadd hx hb dX12_copyRow_15 ?_
      refine lv_topi (fun y15 e15 => ?_)
      have q15 : y15.toInt = y12.toInt + j3_l4.toInt := by rw [e15]; exact ad_z rfl rfl r12 r6a (by decide) (by decide)
      have r15 : ir y15.toInt 0 239 := ad_r q15 r12 r6a (by decide) (by decide)
      refine lv_aload_n hx hb dX12_copyRow_16 rfl (lv_at hl 0 rfl) ?_
      refine lv_iload_n hx hb dX12_copyRow_17 rfl (lv_at hl 1 rfl) ?_
      refine lv_iload_n hx hb dX12_copyRow_18 rfl (lv_at hl 2 rfl) ?_
      refine lv_imul hx hb dX12_copyRow_19 ?_
      refine lv_topi (fun y19 e19 => ?_)
      have q19 : y19.toInt = 48 * p2.toInt := by rw [e19]; exact mu_z rfl rfl (ir_c 48) hv_p2 (by decide) (by decide) (by decide)
      have r19 : ir y19.toInt 0 192 := mu_r q19 (ir_c 48) hv_p2 (by decide) (by decide) (by decide) (by decide)
      refine lv_iload hx hb dX12_copyRow_20 (lv_at hl 4 rfl) ?_
      refine lv_iadd hx hb dX12_copyRow_22 ?_
      refine lv_topi (fun y22 e22 => ?_)
      have q22 : y22.toInt = y19.toInt + j3_l4.toInt := by rw [e22]; exact ad_z rfl rfl r19 r6a (by decide) (by decide)
      have r22 : ir y22.toInt 0 239 := ad_r q22 r19 r6a (by decide) (by decide)
      refine va_iald (D := g) hx hb hK hP 0 0 rfl rfl (vi_rg rfl r22 (by decide) (by decide)) dX12_copyRow_23 ?_
      refine lv_topi (fun y23 e23 => ?_)
      have r23 : ir y23.toInt 0 15 := by rw [e23]; exact hj3_r0_c _ (vi_cl (vi_rg rfl r22 (by decide) (by decide)))
      refine va_iast (D := g) hx hb hK hP hD hS 0 0 rfl rfl (vi_rg rfl r15 (by decide) (by decide)) dX12_copyRow_24 (fun H locs hP hD hS => ?_)
      obtain ⟨g24, e24⟩ : ∃ z, z = upd j3_r0_c y15.toNatClampNeg y23 := ⟨_, rfl⟩
      have hP : va_P g vwCl [(r0, .inl (cI, 240, .inl (upd j3_r0_c y15.toNatClampNeg y23)))] H := hP
      have hD : va_D A [(r0, .inl (cI, 240, .inl (upd j3_r0_c y15.toNatClampNeg y23)))] := hD
      rw [← e24] at hP hD
      have a24 : ar g24 240 0 15 := by rw [e24]; exact ar_u hj3_r0_c r23
      obtain ⟨y25, e25⟩ : ∃ y : Int32, y = j3_l4 + 1 := ⟨_, rfl⟩
      have q25 : y25.toInt = j3_l4.toInt + 1 := by rw [e25]; exact ad_z rfl rfl r6a (ir_c 1) (by decide) (by decide)
      have r25 : ir y25.toInt 1 48 := ad_r q25 r6a (ir_c 1) (by decide) (by decide)
      refine lv_iinc (v := y25) (lv' := [(4, .int y25), (0, .ref r0), (1, .int 48), (2, .int p2), (3, .int p3)]) hx hb dX12_copyRow_25 hl (k := 4) rfl e25.symm (by decide) rfl (fun ls hl => ?_)
      refine lv_goto (tgt := 3) hx hb dX12_copyRow_28 (by decide) ?_
      exact ih3 y25 g24 _ _ _ (by omega) (ir_w r25 (by decide) (by decide)) a24 (hP.sub [0] rfl) (hD.sub [0] (by decide) rfl) hS (lv_sub hl [1, 2, 3, 4, 0] rfl)
  exact J3 _ 0 r0_c _ _ _ (Nat.lt_succ_self _) (by decide) ha_r0_c (hP.sub [0] rfl) (hD.sub [0] (by decide) rfl) hS (lv_sub hl [1, 2, 3, 4, 0] rfl)
def v_X12_copyRow_has : List Cond := .code yX12_copyRow cX12_copyRow 5 none :: (([] : List Cond) ++ ([] : List Cond))
theorem good_v_X12_copyRow_has : v_X12_copyRow_has.all goodWord = true := ga_c (by decide +kernel) (ga_a (by decide +kernel) rfl)
set_option maxHeartbeats 4000000 in
set_option maxRecDepth 100000 in
theorem q_X12_copyRow_has (l : Launch) (g : va_G) (cI cJ cB cZ cL : ClassId) (p2 : Int32) (p3 : Int32) (r0 : Nat) (r0_c : Nat → Int32) (sz : Nat) (hv_p2 : ir p2.toInt 0 4) (hv_p3 : ir p3.toInt 0 4) (ha_r0_c : hasI r0_c) : Met l yX12_copyRow v_X12_copyRow_has ({ frames := 0, cells := 0, slots := 0, locals := 0 }) (va_Pc [.ref r0, .int 5, .int p2, .int p3] (pRW g (tyT cI cJ cB cZ cL) [(r0, .inl (cI, 25, .inl r0_c))] sz)) (va_Qv (fun (u : (Nat → Int32)) => match u with | n_r0_c => (hasI n_r0_c)) (fun (u : (Nat → Int32)) (t : State) => bRW g (tyT cI cJ cB cZ cL) (va_A [(r0, .inl (cI, 25, .inl r0_c))] sz) (match u with | n_r0_c => [(r0, .inl (cI, 25, .inl n_r0_c))]) t) (va_A [(r0, .inl (cI, 25, .inl r0_c))] sz)) 0 0 (va_A [(r0, .inl (cI, 25, .inl r0_c))] sz) := by
  refine Met.ofW (cc := cX12_copyRow) (maxL := 5) (ret := none) (by decide) rfl ?_
  intro p e s mth args below meth c s₁ B hml hv
  obtain ⟨rfl, hsz, hP, hK, hD0⟩ := hv
  have hx := B.exec
  have hb := B.bytes
  have hr := B.returns
  have hts := atoms_spec (ws := v_X12_copyRow_has) B.pre
  have hown : s.vm.findClass RX12 = some mth.cls := findClass_of_methodNamed B.named
  have hlocks := B.notSynchronized
  clear B
  subst hsz
  have hD := hD0.self (sz := s.heap.size)
  generalize hAe : (va_A [(r0, .inl (cI, 25, .inl r0_c))] s.heap.size) = A at hD ⊢
  have hA : ∀ q : Nat, s.heap.size ≤ q → A q := fun q h => by rw [← hAe]; exact Or.inr h
  have hS : va_S A s.heap s.heap [] := va_S.rf
  have hl := lv_entry ([.ref r0, .int 5, .int p2, .int p3]) (n := 5) (Nat.le_of_ble_eq_true rfl)
  rw [lg_entry_eq]
  generalize (lg_sl ([.ref r0, .int 5, .int p2, .int p3]) ++ List.replicate (5 - (lg_sl ([.ref r0, .int 5, .int p2, .int p3])).length) Slot.unset).toArray = ls at hl ⊢
  generalize ([.ref r0, .int 5, .int p2, .int p3] : List Value).toArray = av at hts ⊢
  generalize hQ : MQ below _ av s _ _ A = QQ
  have hl : lv_has ls 5 [(0, .ref r0), (1, .int 5), (2, .int p2), (3, .int p3)] := hl
  have hP : va_P g vwCl [(r0, .inl (cI, 25, .inl r0_c))] s.heap := hP
  refine lv_iconst (v := 0) hx hb dX12_copyRow_0 (by decide) ?_
  refine lv_istore (lv' := [(4, .int 0), (0, .ref r0), (1, .int 5), (2, .int p2), (3, .int p3)]) hx hb dX12_copyRow_1 hl (by decide) rfl (fun ls hl => ?_)
  have J3 : ∀ (n3 : Nat) (j3_l4 : Int32) (j3_r0_c : Nat → Int32) (H : Heap) (locs : List Loc) (ls : Array Slot), (6 - j3_l4.toInt).toNat < n3 → (ir j3_l4.toInt 0 5) → (hasI j3_r0_c) → va_P g vwCl [(r0, .inl (cI, 25, .inl j3_r0_c))] H → va_D A [(r0, .inl (cI, 25, .inl j3_r0_c))] → va_S A s.heap H locs → lv_has ls 5 [(0, .ref r0), (1, .int 5), (2, .int p2), (3, .int p3), (4, .int j3_l4)] → W p l e (headSpec v_X12_copyRow_has ({ frames := 0, cells := 0, slots := 0, locals := 0 })).room s mth av below meth c H locs 0 0 QQ (F0 mth 3 ls []) := by
    intro n3
    induction n3 with
    | zero => exact fun j3_l4 j3_r0_c H locs ls hn => absurd hn (Nat.not_lt_zero _)
    | succ n3 ih3 =>
      intro j3_l4 j3_r0_c H locs ls hn3 hj3_l4 hj3_r0_c hP hD hS hl
      refine lv_iload hx hb dX12_copyRow_3 (lv_at hl 4 rfl) ?_
      refine lv_iload_n hx hb dX12_copyRow_5 rfl (lv_at hl 1 rfl) ?_
      refine lv_icmp_ge (tgt := 31) hx hb dX12_copyRow_6 (by decide) (fun c6 => ?_) (fun c6 => ?_)
      · have f6 := (show 5 ≤ j3_l4.toInt from z_le rfl rfl c6)
        have r6a : ir j3_l4.toInt 5 5 := ir_leb f6 (ir_c 5) hj3_l4 (by decide)
        subst hQ
        have hP9 := hP.sub (ws' := [(r0, .inl (cI, 25, .inl j3_r0_c))]) [0] rfl
        have hD9 := hD.sub (ws' := [(r0, .inl (cI, 25, .inl j3_r0_c))]) [0] (by decide) rfl
        exact W.vret hx hb hr (fun t ht hW => ⟨⟨j3_r0_c, rfl, hj3_r0_c, ⟨by rw [ht]; exact hP9, va_K.moved hW.alike hK, hD9⟩⟩, hS.F ht⟩) hS.2.2 dX12_copyRow_31
      have f6 := (show j3_l4.toInt < 5 from z_nle rfl rfl c6)
      have r6a : ir j3_l4.toInt 0 4 := ir_lta f6 hj3_l4 (ir_c 5) (by decide)
      refine lv_aload_n hx hb dX12_copyRow_9 rfl (lv_at hl 0 rfl) ?_
      refine lv_iload_n hx hb dX12_copyRow_10 rfl (lv_at hl 1 rfl) ?_
      refine lv_iload_n hx hb dX12_copyRow_11 rfl (lv_at hl 3 rfl) ?_
      refine lv_imul hx hb dX12_copyRow_12 ?_
      refine lv_topi (fun y12 e12 => ?_)
      have q12 : y12.toInt = 5 * p3.toInt := by rw [e12]; exact mu_z rfl rfl (ir_c 5) hv_p3 (by decide) (by decide) (by decide)
      have r12 : ir y12.toInt 0 20 := mu_r q12 (ir_c 5) hv_p3 (by decide) (by decide) (by decide) (by decide)
      refine lv_iload hx hb dX12_copyRow_13 (lv_at hl 4 rfl) ?_
      refine lv_iadd hx hb dX12_copyRow_15 ?_
      refine lv_topi (fun y15 e15 => ?_)
      have q15 : y15.toInt = y12.toInt + j3_l4.toInt := by rw [e15]; exact ad_z rfl rfl r12 r6a (by decide) (by decide)
      have r15 : ir y15.toInt 0 24 := ad_r q15 r12 r6a (by decide) (by decide)
      refine lv_aload_n hx hb dX12_copyRow_16 rfl (lv_at hl 0 rfl) ?_
      refine lv_iload_n hx hb dX12_copyRow_17 rfl (lv_at hl 1 rfl) ?_
      refine lv_iload_n hx hb dX12_copyRow_18 rfl (lv_at hl 2 rfl) ?_
      refine lv_imul hx hb dX12_copyRow_19 ?_
      refine lv_topi (fun y19 e19 => ?_)
      have q19 : y19.toInt = 5 * p2.toInt := by rw [e19]; exact mu_z rfl rfl (ir_c 5) hv_p2 (by decide) (by decide) (by decide)
      have r19 : ir y19.toInt 0 20 := mu_r q19 (ir_c 5) hv_p2 (by decide) (by decide) (by decide) (by decide)
      refine lv_iload hx hb dX12_copyRow_20 (lv_at hl 4 rfl) ?_
      refine lv_iadd hx hb dX12_copyRow_22 ?_
      refine lv_topi (fun y22 e22 => ?_)
      have q22 : y22.toInt = y19.toInt + j3_l4.toInt := by rw [e22]; exact ad_z rfl rfl r19 r6a (by decide) (by decide)
      have r22 : ir y22.toInt 0 24 := ad_r q22 r19 r6a (by decide) (by decide)
      refine va_iald (D := g) hx hb hK hP 0 0 rfl rfl (vi_rg rfl r22 (by decide) (by decide)) dX12_copyRow_23 ?_
      refine lv_topi (fun y23 e23 => ?_)
      refine va_iast (D := g) hx hb hK hP hD hS 0 0 rfl rfl (vi_rg rfl r15 (by decide) (by decide)) dX12_copyRow_24 (fun H locs hP hD hS => ?_)
      obtain ⟨g24, e24⟩ : ∃ z, z = upd j3_r0_c y15.toNatClampNeg y23 := ⟨_, rfl⟩
      have hP : va_P g vwCl [(r0, .inl (cI, 25, .inl (upd j3_r0_c y15.toNatClampNeg y23)))] H := hP
      have hD : va_D A [(r0, .inl (cI, 25, .inl (upd j3_r0_c y15.toNatClampNeg y23)))] := hD
      rw [← e24] at hP hD
      have a24 : hasI g24 := by rw [e24]; exact (by rw [e23]; exact hasI_cp hj3_r0_c (a := p2.toNatClampNeg) (b := p3.toNatClampNeg) (k := j3_l4.toNatClampNeg) (by have c0 := cl_t (x := p2) rfl (by omega); omega) (by have c0 := cl_t (x := p3) rfl (by omega); have c1 := cl_t (x := j3_l4) rfl (by omega); have c2 := cl_t (x := y15) rfl (by omega); omega) (by have c0 := cl_t (x := p2) rfl (by omega); have c1 := cl_t (x := j3_l4) rfl (by omega); have c2 := cl_t (x := y22) rfl (by omega); omega) (by have c0 := cl_t (x := j3_l4) rfl (by omega); omega))
      obtain ⟨y25, e25⟩ : ∃ y : Int32, y = j3_l4 + 1 := ⟨_, rfl⟩
      have q25 : y25.toInt = j3_l4.toInt + 1 := by rw [e25]; exact ad_z rfl rfl r6a (ir_c 1) (by decide) (by decide)
      have r25 : ir y25.toInt 1 5 := ad_r q25 r6a (ir_c 1) (by decide) (by decide)
      refine lv_iinc (v := y25) (lv' := [(4, .int y25), (0, .ref r0), (1, .int 5), (2, .int p2), (3, .int p3)]) hx hb dX12_copyRow_25 hl (k := 4) rfl e25.symm (by decide) rfl (fun ls hl => ?_)
      refine lv_goto (tgt := 3) hx hb dX12_copyRow_28 (by decide) ?_
      exact ih3 y25 g24 _ _ _ (by omega) (ir_w r25 (by decide) (by decide)) a24 (hP.sub [0] rfl) (hD.sub [0] (by decide) rfl) hS (lv_sub hl [1, 2, 3, 4, 0] rfl)
  exact J3 _ 0 r0_c _ _ _ (Nat.lt_succ_self _) (by decide) ha_r0_c (hP.sub [0] rfl) (hD.sub [0] (by decide) rfl) hS (lv_sub hl [1, 2, 3, 4, 0] rfl)
def v_X12_copyRow_person : List Cond := .code yX12_copyRow cX12_copyRow 5 none :: (([] : List Cond) ++ ([] : List Cond))
theorem good_v_X12_copyRow_person : v_X12_copyRow_person.all goodWord = true := ga_c (by decide +kernel) (ga_a (by decide +kernel) rfl)
set_option maxHeartbeats 4000000 in
set_option maxRecDepth 100000 in
theorem q_X12_copyRow_person (l : Launch) (g : va_G) (cI cJ cB cZ cL : ClassId) (p2 : Int32) (p3 : Int32) (r0 : Nat) (r0_c : Nat → Int32) (sz : Nat) (hv_p2 : ir p2.toInt 0 4) (hv_p3 : ir p3.toInt 0 4) (ha_r0_c : perI r0_c) : Met l yX12_copyRow v_X12_copyRow_person ({ frames := 0, cells := 0, slots := 0, locals := 0 }) (va_Pc [.ref r0, .int 50, .int p2, .int p3] (pRW g (tyT cI cJ cB cZ cL) [(r0, .inl (cI, 250, .inl r0_c))] sz)) (va_Qv (fun (u : (Nat → Int32)) => match u with | n_r0_c => (perI n_r0_c)) (fun (u : (Nat → Int32)) (t : State) => bRW g (tyT cI cJ cB cZ cL) (va_A [(r0, .inl (cI, 250, .inl r0_c))] sz) (match u with | n_r0_c => [(r0, .inl (cI, 250, .inl n_r0_c))]) t) (va_A [(r0, .inl (cI, 250, .inl r0_c))] sz)) 0 0 (va_A [(r0, .inl (cI, 250, .inl r0_c))] sz) := by
  refine Met.ofW (cc := cX12_copyRow) (maxL := 5) (ret := none) (by decide) rfl ?_
  intro p e s mth args below meth c s₁ B hml hv
  obtain ⟨rfl, hsz, hP, hK, hD0⟩ := hv
  have hx := B.exec
  have hb := B.bytes
  have hr := B.returns
  have hts := atoms_spec (ws := v_X12_copyRow_person) B.pre
  have hown : s.vm.findClass RX12 = some mth.cls := findClass_of_methodNamed B.named
  have hlocks := B.notSynchronized
  clear B
  subst hsz
  have hD := hD0.self (sz := s.heap.size)
  generalize hAe : (va_A [(r0, .inl (cI, 250, .inl r0_c))] s.heap.size) = A at hD ⊢
  have hA : ∀ q : Nat, s.heap.size ≤ q → A q := fun q h => by rw [← hAe]; exact Or.inr h
  have hS : va_S A s.heap s.heap [] := va_S.rf
  have hl := lv_entry ([.ref r0, .int 50, .int p2, .int p3]) (n := 5) (Nat.le_of_ble_eq_true rfl)
  rw [lg_entry_eq]
  generalize (lg_sl ([.ref r0, .int 50, .int p2, .int p3]) ++ List.replicate (5 - (lg_sl ([.ref r0, .int 50, .int p2, .int p3])).length) Slot.unset).toArray = ls at hl ⊢
  generalize ([.ref r0, .int 50, .int p2, .int p3] : List Value).toArray = av at hts ⊢
  generalize hQ : MQ below _ av s _ _ A = QQ
  have hl : lv_has ls 5 [(0, .ref r0), (1, .int 50), (2, .int p2), (3, .int p3)] := hl
  have hP : va_P g vwCl [(r0, .inl (cI, 250, .inl r0_c))] s.heap := hP
  refine lv_iconst (v := 0) hx hb dX12_copyRow_0 (by decide) ?_
  refine lv_istore (lv' := [(4, .int 0), (0, .ref r0), (1, .int 50), (2, .int p2), (3, .int p3)]) hx hb dX12_copyRow_1 hl (by decide) rfl (fun ls hl => ?_)
  have J3 : ∀ (n3 : Nat) (j3_l4 : Int32) (j3_r0_c : Nat → Int32) (H : Heap) (locs : List Loc) (ls : Array Slot), (51 - j3_l4.toInt).toNat < n3 → (ir j3_l4.toInt 0 50) → (perI j3_r0_c) → va_P g vwCl [(r0, .inl (cI, 250, .inl j3_r0_c))] H → va_D A [(r0, .inl (cI, 250, .inl j3_r0_c))] → va_S A s.heap H locs → lv_has ls 5 [(0, .ref r0), (1, .int 50), (2, .int p2), (3, .int p3), (4, .int j3_l4)] → W p l e (headSpec v_X12_copyRow_person ({ frames := 0, cells := 0, slots := 0, locals := 0 })).room s mth av below meth c H locs 0 0 QQ (F0 mth 3 ls []) := by
    intro n3
    induction n3 with
    | zero => exact fun j3_l4 j3_r0_c H locs ls hn => absurd hn (Nat.not_lt_zero _)
    | succ n3 ih3 =>
      intro j3_l4 j3_r0_c H locs ls hn3 hj3_l4 hj3_r0_c hP hD hS hl
      refine lv_iload hx hb dX12_copyRow_3 (lv_at hl 4 rfl) ?_
      refine lv_iload_n hx hb dX12_copyRow_5 rfl (lv_at hl 1 rfl) ?_
      refine lv_icmp_ge (tgt := 31) hx hb dX12_copyRow_6 (by decide) (fun c6 => ?_) (fun c6 => ?_)
      · have f6 := (show 50 ≤ j3_l4.toInt from z_le rfl rfl c6)
        have r6a : ir j3_l4.toInt 50 50 := ir_leb f6 (ir_c 50) hj3_l4 (by decide)
        subst hQ
        have hP9 := hP.sub (ws' := [(r0, .inl (cI, 250, .inl j3_r0_c))]) [0] rfl
        have hD9 := hD.sub (ws' := [(r0, .inl (cI, 250, .inl j3_r0_c))]) [0] (by decide) rfl
        exact W.vret hx hb hr (fun t ht hW => ⟨⟨j3_r0_c, rfl, hj3_r0_c, ⟨by rw [ht]; exact hP9, va_K.moved hW.alike hK, hD9⟩⟩, hS.F ht⟩) hS.2.2 dX12_copyRow_31
      have f6 := (show j3_l4.toInt < 50 from z_nle rfl rfl c6)
      have r6a : ir j3_l4.toInt 0 49 := ir_lta f6 hj3_l4 (ir_c 50) (by decide)
      refine lv_aload_n hx hb dX12_copyRow_9 rfl (lv_at hl 0 rfl) ?_
      refine lv_iload_n hx hb dX12_copyRow_10 rfl (lv_at hl 1 rfl) ?_
      refine lv_iload_n hx hb dX12_copyRow_11 rfl (lv_at hl 3 rfl) ?_
      refine lv_imul hx hb dX12_copyRow_12 ?_
      refine lv_topi (fun y12 e12 => ?_)
      have q12 : y12.toInt = 50 * p3.toInt := by rw [e12]; exact mu_z rfl rfl (ir_c 50) hv_p3 (by decide) (by decide) (by decide)
      have r12 : ir y12.toInt 0 200 := mu_r q12 (ir_c 50) hv_p3 (by decide) (by decide) (by decide) (by decide)
      refine lv_iload hx hb dX12_copyRow_13 (lv_at hl 4 rfl) ?_
      refine lv_iadd hx hb dX12_copyRow_15 ?_
      refine lv_topi (fun y15 e15 => ?_)
      have q15 : y15.toInt = y12.toInt + j3_l4.toInt := by rw [e15]; exact ad_z rfl rfl r12 r6a (by decide) (by decide)
      have r15 : ir y15.toInt 0 249 := ad_r q15 r12 r6a (by decide) (by decide)
      refine lv_aload_n hx hb dX12_copyRow_16 rfl (lv_at hl 0 rfl) ?_
      refine lv_iload_n hx hb dX12_copyRow_17 rfl (lv_at hl 1 rfl) ?_
      refine lv_iload_n hx hb dX12_copyRow_18 rfl (lv_at hl 2 rfl) ?_
      refine lv_imul hx hb dX12_copyRow_19 ?_
      refine lv_topi (fun y19 e19 => ?_)
      have q19 : y19.toInt = 50 * p2.toInt := by rw [e19]; exact mu_z rfl rfl (ir_c 50) hv_p2 (by decide) (by decide) (by decide)
      have r19 : ir y19.toInt 0 200 := mu_r q19 (ir_c 50) hv_p2 (by decide) (by decide) (by decide) (by decide)
      refine lv_iload hx hb dX12_copyRow_20 (lv_at hl 4 rfl) ?_
      refine lv_iadd hx hb dX12_copyRow_22 ?_
      refine lv_topi (fun y22 e22 => ?_)
      have q22 : y22.toInt = y19.toInt + j3_l4.toInt := by rw [e22]; exact ad_z rfl rfl r19 r6a (by decide) (by decide)
      have r22 : ir y22.toInt 0 249 := ad_r q22 r19 r6a (by decide) (by decide)
      refine va_iald (D := g) hx hb hK hP 0 0 rfl rfl (vi_rg rfl r22 (by decide) (by decide)) dX12_copyRow_23 ?_
      refine lv_topi (fun y23 e23 => ?_)
      refine va_iast (D := g) hx hb hK hP hD hS 0 0 rfl rfl (vi_rg rfl r15 (by decide) (by decide)) dX12_copyRow_24 (fun H locs hP hD hS => ?_)
      obtain ⟨g24, e24⟩ : ∃ z, z = upd j3_r0_c y15.toNatClampNeg y23 := ⟨_, rfl⟩
      have hP : va_P g vwCl [(r0, .inl (cI, 250, .inl (upd j3_r0_c y15.toNatClampNeg y23)))] H := hP
      have hD : va_D A [(r0, .inl (cI, 250, .inl (upd j3_r0_c y15.toNatClampNeg y23)))] := hD
      rw [← e24] at hP hD
      have a24 : perI g24 := by rw [e24]; exact (by rw [e23]; exact perI_cp hj3_r0_c (a := p2.toNatClampNeg) (b := p3.toNatClampNeg) (k := j3_l4.toNatClampNeg) (by have c0 := cl_t (x := p2) rfl (by omega); omega) (by have c0 := cl_t (x := p3) rfl (by omega); have c1 := cl_t (x := j3_l4) rfl (by omega); have c2 := cl_t (x := y15) rfl (by omega); omega) (by have c0 := cl_t (x := p2) rfl (by omega); have c1 := cl_t (x := j3_l4) rfl (by omega); have c2 := cl_t (x := y22) rfl (by omega); omega) (by have c0 := cl_t (x := j3_l4) rfl (by omega); omega))
      obtain ⟨y25, e25⟩ : ∃ y : Int32, y = j3_l4 + 1 := ⟨_, rfl⟩
      have q25 : y25.toInt = j3_l4.toInt + 1 := by rw [e25]; exact ad_z rfl rfl r6a (ir_c 1) (by decide) (by decide)
      have r25 : ir y25.toInt 1 50 := ad_r q25 r6a (ir_c 1) (by decide) (by decide)
      refine lv_iinc (v := y25) (lv' := [(4, .int y25), (0, .ref r0), (1, .int 50), (2, .int p2), (3, .int p3)]) hx hb dX12_copyRow_25 hl (k := 4) rfl e25.symm (by decide) rfl (fun ls hl => ?_)
      refine lv_goto (tgt := 3) hx hb dX12_copyRow_28 (by decide) ?_
      exact ih3 y25 g24 _ _ _ (by omega) (ir_w r25 (by decide) (by decide)) a24 (hP.sub [0] rfl) (hD.sub [0] (by decide) rfl) hS (lv_sub hl [1, 2, 3, 4, 0] rfl)
  exact J3 _ 0 r0_c _ _ _ (Nat.lt_succ_self _) (by decide) ha_r0_c (hP.sub [0] rfl) (hD.sub [0] (by decide) rfl) hS (lv_sub hl [1, 2, 3, 4, 0] rfl)
def v_X12_copyLand : List Cond := .code yX12_copyLand cX12_copyLand 4 none :: (([.fieldLink RX12 31 "CardsAtYuleModel" "lines" "[I", .methodLink RX12 267 yX12_copyRow, .static yX12_copyRow, .initialized RX12, .fieldLink RX12 34 "CardsAtYuleModel" "has" "[I", .fieldLink RX12 37 "CardsAtYuleModel" "person" "[I", .fieldLink RX12 40 "CardsAtYuleModel" "pair" "[I", .fieldLink RX12 46 "CardsAtYuleModel" "strikes" "[J", .fieldLink RX12 43 "CardsAtYuleModel" "lost" "[J"] : List Cond) ++ (v_X12_copyRow_lines ++ (v_X12_copyRow_has ++ (v_X12_copyRow_person ++ (v_X12_copyRow_pair ++ (wsX120 ++ ([] : List Cond)))))))
theorem good_v_X12_copyLand : v_X12_copyLand.all goodWord = true := ga_c (by decide +kernel) (ga_a (by decide +kernel) (ga_a good_v_X12_copyRow_lines (ga_a good_v_X12_copyRow_has (ga_a good_v_X12_copyRow_person (ga_a good_v_X12_copyRow_pair (ga_a good_wsX120 rfl))))))
set_option maxHeartbeats 4000000 in
set_option maxRecDepth 100000 in
theorem q_X12_copyLand (l : Launch) (g : va_G) (cI cJ cB cZ cL : ClassId) (p0 : Int32) (p1 : Int32) (m : Nat) (m_a : Nat → Nat) (m_thrown : Int32) (m_taped : Int32) (m_at : Int32) (m_token : Int32) (m_place : Int32) (m_value : Int32) (m_word : Int64) (m_bad : Int32) (m_badPlace : Int32) (m_fault : Int32) (m_faultPlace : Int32) (m_willing : Int32) (m_will : Int32) (m_forgot : Int32) (m_isDrawn : Int32) (m_x : Int64) (m_begin : Int32) (m_round : Int32) (m_roundCards : Int32) (m_fate : Int32) (m_any : Int64) (m_bothSend : Int64) (m_meanCards : Int64) (m_bestSum : Int32) (m_fitMany : Int32) (m_fitFirst : Int64) (m_fitSecond : Int64) (m_lines_c : Nat → Int32) (m_has_c : Nat → Int32) (m_person_c : Nat → Int32) (m_pair_c : Nat → Int32) (m_lost_c : Nat → Int64) (m_strikes_c : Nat → Int64) (sz : Nat) (hv_p0 : ir p0.toInt 0 4) (hv_p1 : ir p1.toInt 0 4) (hv_m_taped : ir m_taped.toInt 0 1600) (hv_m_at : ir m_at.toInt 0 1600) (hv_m_will : ir m_will.toInt 0 1) (hv_m_isDrawn : ir m_isDrawn.toInt 0 1) (ha_m_has_c : hasI m_has_c) (ha_m_person_c : perI m_person_c) (ha_m_pair_c : ar m_pair_c 240 0 15) : Met l yX12_copyLand v_X12_copyLand ({ frames := 1, cells := 0, slots := 0, locals := 24 }) (va_Pc [.ref m, .int p0, .int p1] (pRW g (tyT cI cJ cB cZ cL) [(m, .inr (11, mG m_a m_thrown m_taped m_at m_token m_place m_value m_word m_bad m_badPlace m_fault m_faultPlace m_willing m_will m_forgot m_isDrawn m_x m_begin m_round m_roundCards m_fate m_any m_bothSend m_meanCards m_bestSum m_fitMany m_fitFirst m_fitSecond)), ((m_a 16), .inl (cI, 5, .inl m_lines_c)), ((m_a 17), .inl (cI, 25, .inl m_has_c)), ((m_a 18), .inl (cI, 250, .inl m_person_c)), ((m_a 19), .inl (cI, 240, .inl m_pair_c)), ((m_a 20), .inl (cJ, 160, .inr (.inl m_lost_c))), ((m_a 21), .inl (cJ, 5, .inr (.inl m_strikes_c)))] sz)) (va_Qv (fun (u : (Nat → Int32) × (Nat → Int32) × (Nat → Int32) × (Nat → Int32) × (Nat → Int64) × (Nat → Int64)) => match u with | (n_m_lines_c, n_m_has_c, n_m_person_c, n_m_pair_c, n_m_lost_c, n_m_strikes_c) => (hasI n_m_has_c) ∧ (perI n_m_person_c) ∧ (ar n_m_pair_c 240 0 15)) (fun (u : (Nat → Int32) × (Nat → Int32) × (Nat → Int32) × (Nat → Int32) × (Nat → Int64) × (Nat → Int64)) (t : State) => bRW g (tyT cI cJ cB cZ cL) (va_A [(m, .inr (11, mG m_a m_thrown m_taped m_at m_token m_place m_value m_word m_bad m_badPlace m_fault m_faultPlace m_willing m_will m_forgot m_isDrawn m_x m_begin m_round m_roundCards m_fate m_any m_bothSend m_meanCards m_bestSum m_fitMany m_fitFirst m_fitSecond)), ((m_a 16), .inl (cI, 5, .inl m_lines_c)), ((m_a 17), .inl (cI, 25, .inl m_has_c)), ((m_a 18), .inl (cI, 250, .inl m_person_c)), ((m_a 19), .inl (cI, 240, .inl m_pair_c)), ((m_a 20), .inl (cJ, 160, .inr (.inl m_lost_c))), ((m_a 21), .inl (cJ, 5, .inr (.inl m_strikes_c)))] sz) (match u with | (n_m_lines_c, n_m_has_c, n_m_person_c, n_m_pair_c, n_m_lost_c, n_m_strikes_c) => [(m, .inr (11, mG m_a m_thrown m_taped m_at m_token m_place m_value m_word m_bad m_badPlace m_fault m_faultPlace m_willing m_will m_forgot m_isDrawn m_x m_begin m_round m_roundCards m_fate m_any m_bothSend m_meanCards m_bestSum m_fitMany m_fitFirst m_fitSecond)), ((m_a 16), .inl (cI, 5, .inl n_m_lines_c)), ((m_a 17), .inl (cI, 25, .inl n_m_has_c)), ((m_a 18), .inl (cI, 250, .inl n_m_person_c)), ((m_a 19), .inl (cI, 240, .inl n_m_pair_c)), ((m_a 20), .inl (cJ, 160, .inr (.inl n_m_lost_c))), ((m_a 21), .inl (cJ, 5, .inr (.inl n_m_strikes_c)))]) t) (va_A [(m, .inr (11, mG m_a m_thrown m_taped m_at m_token m_place m_value m_word m_bad m_badPlace m_fault m_faultPlace m_willing m_will m_forgot m_isDrawn m_x m_begin m_round m_roundCards m_fate m_any m_bothSend m_meanCards m_bestSum m_fitMany m_fitFirst m_fitSecond)), ((m_a 16), .inl (cI, 5, .inl m_lines_c)), ((m_a 17), .inl (cI, 25, .inl m_has_c)), ((m_a 18), .inl (cI, 250, .inl m_person_c)), ((m_a 19), .inl (cI, 240, .inl m_pair_c)), ((m_a 20), .inl (cJ, 160, .inr (.inl m_lost_c))), ((m_a 21), .inl (cJ, 5, .inr (.inl m_strikes_c)))] sz)) 0 0 (va_A [(m, .inr (11, mG m_a m_thrown m_taped m_at m_token m_place m_value m_word m_bad m_badPlace m_fault m_faultPlace m_willing m_will m_forgot m_isDrawn m_x m_begin m_round m_roundCards m_fate m_any m_bothSend m_meanCards m_bestSum m_fitMany m_fitFirst m_fitSecond)), ((m_a 16), .inl (cI, 5, .inl m_lines_c)), ((m_a 17), .inl (cI, 25, .inl m_has_c)), ((m_a 18), .inl (cI, 250, .inl m_person_c)), ((m_a 19), .inl (cI, 240, .inl m_pair_c)), ((m_a 20), .inl (cJ, 160, .inr (.inl m_lost_c))), ((m_a 21), .inl (cJ, 5, .inr (.inl m_strikes_c)))] sz) := by
  refine Met.ofW (cc := cX12_copyLand) (maxL := 4) (ret := none) (by decide) rfl ?_
  intro p e s mth args below meth c s₁ B hml hv
  obtain ⟨rfl, hsz, hP, hK, hD0⟩ := hv
  have hx := B.exec
  have hb := B.bytes
  have hr := B.returns
  have hts := atoms_spec (ws := v_X12_copyLand) B.pre
  have hown : s.vm.findClass RX12 = some mth.cls := findClass_of_methodNamed B.named
  have hlocks := B.notSynchronized
  clear B
  subst hsz
  have iX12 : ∀ w ∈ wsX120, w ∈ v_X12_copyLand := (fun _ h => List.mem_cons_of_mem _ (List.mem_append_right _ (List.mem_append_right _ (List.mem_append_right _ (List.mem_append_right _ (List.mem_append_right _ (List.mem_append_left _ h)))))))
  have hD := hD0.self (sz := s.heap.size)
  generalize hAe : (va_A [(m, .inr (11, mG m_a m_thrown m_taped m_at m_token m_place m_value m_word m_bad m_badPlace m_fault m_faultPlace m_willing m_will m_forgot m_isDrawn m_x m_begin m_round m_roundCards m_fate m_any m_bothSend m_meanCards m_bestSum m_fitMany m_fitFirst m_fitSecond)), ((m_a 16), .inl (cI, 5, .inl m_lines_c)), ((m_a 17), .inl (cI, 25, .inl m_has_c)), ((m_a 18), .inl (cI, 250, .inl m_person_c)), ((m_a 19), .inl (cI, 240, .inl m_pair_c)), ((m_a 20), .inl (cJ, 160, .inr (.inl m_lost_c))), ((m_a 21), .inl (cJ, 5, .inr (.inl m_strikes_c)))] s.heap.size) = A at hD ⊢
  have hA : ∀ q : Nat, s.heap.size ≤ q → A q := fun q h => by rw [← hAe]; exact Or.inr h
  have hS : va_S A s.heap s.heap [] := va_S.rf
  have hl := lv_entry ([.ref m, .int p0, .int p1]) (n := 4) (Nat.le_of_ble_eq_true rfl)
  rw [lg_entry_eq]
  generalize (lg_sl ([.ref m, .int p0, .int p1]) ++ List.replicate (4 - (lg_sl ([.ref m, .int p0, .int p1])).length) Slot.unset).toArray = ls at hl ⊢
  generalize ([.ref m, .int p0, .int p1] : List Value).toArray = av at hts ⊢
  generalize hQ : MQ below _ av s _ _ A = QQ
  have hl : lv_has ls 4 [(0, .ref m), (1, .int p0), (2, .int p1)] := hl
  have hP : va_P g vwCl [(m, .inr (11, mG m_a m_thrown m_taped m_at m_token m_place m_value m_word m_bad m_badPlace m_fault m_faultPlace m_willing m_will m_forgot m_isDrawn m_x m_begin m_round m_roundCards m_fate m_any m_bothSend m_meanCards m_bestSum m_fitMany m_fitFirst m_fitSecond)), ((m_a 16), .inl (cI, 5, .inl m_lines_c)), ((m_a 17), .inl (cI, 25, .inl m_has_c)), ((m_a 18), .inl (cI, 250, .inl m_person_c)), ((m_a 19), .inl (cI, 240, .inl m_pair_c)), ((m_a 20), .inl (cJ, 160, .inr (.inl m_lost_c))), ((m_a 21), .inl (cJ, 5, .inr (.inl m_strikes_c)))] s.heap := hP
  refine lv_aload_n hx hb dX12_copyLand_0 rfl (lv_at hl 0 rfl) ?_
  refine va_get (D := g) (ci := 11) (v := .ref (m_a 16)) (C := RX12) (T := TX12) (N := 56) hx hb hts iX12 hown hK hP 0 rfl rfl 16 (by decide) (hts (.fieldLink RX12 31 "CardsAtYuleModel" "lines" "[I") (List.mem_cons_of_mem _ (List.mem_append_left _ (List.mem_of_getElem? (i := 0) rfl)))) (fun _ h9 => h9) rfl dX12_copyLand_1 ?_
  refine lv_iconst (v := 1) hx hb dX12_copyLand_4 (by decide) ?_
  refine lv_iload_n hx hb dX12_copyLand_5 rfl (lv_at hl 1 rfl) ?_
  refine lv_iload_n hx hb dX12_copyLand_6 rfl (lv_at hl 2 rfl) ?_
  refine rw_v (wr := [(m, .inr (11, mG m_a m_thrown m_taped m_at m_token m_place m_value m_word m_bad m_badPlace m_fault m_faultPlace m_willing m_will m_forgot m_isDrawn m_x m_begin m_round m_roundCards m_fate m_any m_bothSend m_meanCards m_bestSum m_fitMany m_fitFirst m_fitSecond)), ((m_a 17), .inl (cI, 25, .inl m_has_c)), ((m_a 18), .inl (cI, 250, .inl m_person_c)), ((m_a 19), .inl (cI, 240, .inl m_pair_c)), ((m_a 20), .inl (cJ, 160, .inr (.inl m_lost_c))), ((m_a 21), .inl (cJ, 5, .inr (.inl m_strikes_c)))]) (va_runS (As := [.ref (m_a 16), .int 1, .int p0, .int p1]) (rest := []) ⟨hx, hb, hml, hown, hts⟩ (q_X12_copyRow_lines l g cI cJ cB cZ cL p0 p1 (m_a 16) m_lines_c s.heap.size hv_p0 hv_p1) (va_cwS 4 hts (goodIn_app (g_3 (List.mem_cons_of_mem _ (List.mem_append_left _ (List.mem_of_getElem? (i := 1) rfl))) (List.mem_cons_of_mem _ (List.mem_append_left _ (List.mem_of_getElem? (i := 2) rfl))) (List.mem_cons_of_mem _ (List.mem_append_left _ (List.mem_of_getElem? (i := 3) rfl))) (by decide +kernel)) (goodIn_sub (fun _ h => List.mem_cons_of_mem _ (List.mem_append_right _ (List.mem_append_left _ h))) good_v_X12_copyRow_lines)) rfl rfl rfl (by decide +kernel) ⟨Nat.le_of_ble_eq_true rfl, Nat.le_of_ble_eq_true rfl⟩) (ps_RW (wc := [((m_a 16), .inl (cI, 5, .inl m_lines_c))]) hK hP hD [1] (by decide) rfl) rfl rfl hl.1 rfl (lv_room (Nat.le_of_ble_eq_true rfl)) dX12_copyLand_7 ⟨Nat.le_of_ble_eq_true rfl, Nat.le_of_ble_eq_true rfl⟩) hS hA hP hD [1] [0, 2, 3, 4, 5, 6] rfl rfl (by decide) (by decide) (fun u7 H locs hw7 hP hD hS => ?_)
  generalize u7 = n_r0_c_7 at hw7 hP hD
  have hP : va_P g vwCl [(m, .inr (11, mG m_a m_thrown m_taped m_at m_token m_place m_value m_word m_bad m_badPlace m_fault m_faultPlace m_willing m_will m_forgot m_isDrawn m_x m_begin m_round m_roundCards m_fate m_any m_bothSend m_meanCards m_bestSum m_fitMany m_fitFirst m_fitSecond)), ((m_a 17), .inl (cI, 25, .inl m_has_c)), ((m_a 18), .inl (cI, 250, .inl m_person_c)), ((m_a 19), .inl (cI, 240, .inl m_pair_c)), ((m_a 20), .inl (cJ, 160, .inr (.inl m_lost_c))), ((m_a 21), .inl (cJ, 5, .inr (.inl m_strikes_c))), ((m_a 16), .inl (cI, 5, .inl n_r0_c_7))] H := hP
  have hD : va_D A [(m, .inr (11, mG m_a m_thrown m_taped m_at m_token m_place m_value m_word m_bad m_badPlace m_fault m_faultPlace m_willing m_will m_forgot m_isDrawn m_x m_begin m_round m_roundCards m_fate m_any m_bothSend m_meanCards m_bestSum m_fitMany m_fitFirst m_fitSecond)), ((m_a 17), .inl (cI, 25, .inl m_has_c)), ((m_a 18), .inl (cI, 250, .inl m_person_c)), ((m_a 19), .inl (cI, 240, .inl m_pair_c)), ((m_a 20), .inl (cJ, 160, .inr (.inl m_lost_c))), ((m_a 21), .inl (cJ, 5, .inr (.inl m_strikes_c))), ((m_a 16), .inl (cI, 5, .inl n_r0_c_7))] := hD
  refine lv_aload_n hx hb dX12_copyLand_10 rfl (lv_at hl 0 rfl) ?_
  refine va_get (D := g) (ci := 11) (v := .ref (m_a 17)) (C := RX12) (T := TX12) (N := 56) hx hb hts iX12 hown hK hP 0 rfl rfl 17 (by decide) (hts (.fieldLink RX12 34 "CardsAtYuleModel" "has" "[I") (List.mem_cons_of_mem _ (List.mem_append_left _ (List.mem_of_getElem? (i := 4) rfl)))) (fun _ h9 => h9) rfl dX12_copyLand_11 ?_
  refine lv_iconst (v := 5) hx hb dX12_copyLand_14 (by decide) ?_
  refine lv_iload_n hx hb dX12_copyLand_15 rfl (lv_at hl 1 rfl) ?_
  refine lv_iload_n hx hb dX12_copyLand_16 rfl (lv_at hl 2 rfl) ?_
  refine rw_v (wr := [(m, .inr (11, mG m_a m_thrown m_taped m_at m_token m_place m_value m_word m_bad m_badPlace m_fault m_faultPlace m_willing m_will m_forgot m_isDrawn m_x m_begin m_round m_roundCards m_fate m_any m_bothSend m_meanCards m_bestSum m_fitMany m_fitFirst m_fitSecond)), ((m_a 18), .inl (cI, 250, .inl m_person_c)), ((m_a 19), .inl (cI, 240, .inl m_pair_c)), ((m_a 20), .inl (cJ, 160, .inr (.inl m_lost_c))), ((m_a 21), .inl (cJ, 5, .inr (.inl m_strikes_c))), ((m_a 16), .inl (cI, 5, .inl n_r0_c_7))]) (va_runS (As := [.ref (m_a 17), .int 5, .int p0, .int p1]) (rest := []) ⟨hx, hb, hml, hown, hts⟩ (q_X12_copyRow_has l g cI cJ cB cZ cL p0 p1 (m_a 17) m_has_c H.size hv_p0 hv_p1 ha_m_has_c) (va_cwS 4 hts (goodIn_app (g_3 (List.mem_cons_of_mem _ (List.mem_append_left _ (List.mem_of_getElem? (i := 1) rfl))) (List.mem_cons_of_mem _ (List.mem_append_left _ (List.mem_of_getElem? (i := 2) rfl))) (List.mem_cons_of_mem _ (List.mem_append_left _ (List.mem_of_getElem? (i := 3) rfl))) (by decide +kernel)) (goodIn_sub (fun _ h => List.mem_cons_of_mem _ (List.mem_append_right _ (List.mem_append_right _ (List.mem_append_left _ h)))) good_v_X12_copyRow_has)) rfl rfl rfl (by decide +kernel) ⟨Nat.le_of_ble_eq_true rfl, Nat.le_of_ble_eq_true rfl⟩) (ps_RW (wc := [((m_a 17), .inl (cI, 25, .inl m_has_c))]) hK hP hD [1] (by decide) rfl) rfl rfl hl.1 rfl (lv_room (Nat.le_of_ble_eq_true rfl)) dX12_copyLand_17 ⟨Nat.le_of_ble_eq_true rfl, Nat.le_of_ble_eq_true rfl⟩) hS hA hP hD [1] [0, 2, 3, 4, 5, 6] rfl rfl (by decide) (by decide) (fun u17 H locs hw17 hP hD hS => ?_)
  generalize u17 = n_r0_c_17 at hw17 hP hD
  have hP : va_P g vwCl [(m, .inr (11, mG m_a m_thrown m_taped m_at m_token m_place m_value m_word m_bad m_badPlace m_fault m_faultPlace m_willing m_will m_forgot m_isDrawn m_x m_begin m_round m_roundCards m_fate m_any m_bothSend m_meanCards m_bestSum m_fitMany m_fitFirst m_fitSecond)), ((m_a 18), .inl (cI, 250, .inl m_person_c)), ((m_a 19), .inl (cI, 240, .inl m_pair_c)), ((m_a 20), .inl (cJ, 160, .inr (.inl m_lost_c))), ((m_a 21), .inl (cJ, 5, .inr (.inl m_strikes_c))), ((m_a 16), .inl (cI, 5, .inl n_r0_c_7)), ((m_a 17), .inl (cI, 25, .inl n_r0_c_17))] H := hP
  have hD : va_D A [(m, .inr (11, mG m_a m_thrown m_taped m_at m_token m_place m_value m_word m_bad m_badPlace m_fault m_faultPlace m_willing m_will m_forgot m_isDrawn m_x m_begin m_round m_roundCards m_fate m_any m_bothSend m_meanCards m_bestSum m_fitMany m_fitFirst m_fitSecond)), ((m_a 18), .inl (cI, 250, .inl m_person_c)), ((m_a 19), .inl (cI, 240, .inl m_pair_c)), ((m_a 20), .inl (cJ, 160, .inr (.inl m_lost_c))), ((m_a 21), .inl (cJ, 5, .inr (.inl m_strikes_c))), ((m_a 16), .inl (cI, 5, .inl n_r0_c_7)), ((m_a 17), .inl (cI, 25, .inl n_r0_c_17))] := hD
  dsimp only at hw17
  have hw17_0 := hw17
  refine lv_aload_n hx hb dX12_copyLand_20 rfl (lv_at hl 0 rfl) ?_
  refine va_get (D := g) (ci := 11) (v := .ref (m_a 18)) (C := RX12) (T := TX12) (N := 56) hx hb hts iX12 hown hK hP 0 rfl rfl 18 (by decide) (hts (.fieldLink RX12 37 "CardsAtYuleModel" "person" "[I") (List.mem_cons_of_mem _ (List.mem_append_left _ (List.mem_of_getElem? (i := 5) rfl)))) (fun _ h9 => h9) rfl dX12_copyLand_21 ?_
  refine lv_bipush (v := 50) hx hb dX12_copyLand_24 (by decide) ?_
  refine lv_iload_n hx hb dX12_copyLand_26 rfl (lv_at hl 1 rfl) ?_
  refine lv_iload_n hx hb dX12_copyLand_27 rfl (lv_at hl 2 rfl) ?_
  refine rw_v (wr := [(m, .inr (11, mG m_a m_thrown m_taped m_at m_token m_place m_value m_word m_bad m_badPlace m_fault m_faultPlace m_willing m_will m_forgot m_isDrawn m_x m_begin m_round m_roundCards m_fate m_any m_bothSend m_meanCards m_bestSum m_fitMany m_fitFirst m_fitSecond)), ((m_a 19), .inl (cI, 240, .inl m_pair_c)), ((m_a 20), .inl (cJ, 160, .inr (.inl m_lost_c))), ((m_a 21), .inl (cJ, 5, .inr (.inl m_strikes_c))), ((m_a 16), .inl (cI, 5, .inl n_r0_c_7)), ((m_a 17), .inl (cI, 25, .inl n_r0_c_17))]) (va_runS (As := [.ref (m_a 18), .int 50, .int p0, .int p1]) (rest := []) ⟨hx, hb, hml, hown, hts⟩ (q_X12_copyRow_person l g cI cJ cB cZ cL p0 p1 (m_a 18) m_person_c H.size hv_p0 hv_p1 ha_m_person_c) (va_cwS 4 hts (goodIn_app (g_3 (List.mem_cons_of_mem _ (List.mem_append_left _ (List.mem_of_getElem? (i := 1) rfl))) (List.mem_cons_of_mem _ (List.mem_append_left _ (List.mem_of_getElem? (i := 2) rfl))) (List.mem_cons_of_mem _ (List.mem_append_left _ (List.mem_of_getElem? (i := 3) rfl))) (by decide +kernel)) (goodIn_sub (fun _ h => List.mem_cons_of_mem _ (List.mem_append_right _ (List.mem_append_right _ (List.mem_append_right _ (List.mem_append_left _ h))))) good_v_X12_copyRow_person)) rfl rfl rfl (by decide +kernel) ⟨Nat.le_of_ble_eq_true rfl, Nat.le_of_ble_eq_true rfl⟩) (ps_RW (wc := [((m_a 18), .inl (cI, 250, .inl m_person_c))]) hK hP hD [1] (by decide) rfl) rfl rfl hl.1 rfl (lv_room (Nat.le_of_ble_eq_true rfl)) dX12_copyLand_28 ⟨Nat.le_of_ble_eq_true rfl, Nat.le_of_ble_eq_true rfl⟩) hS hA hP hD [1] [0, 2, 3, 4, 5, 6] rfl rfl (by decide) (by decide) (fun u28 H locs hw28 hP hD hS => ?_)
  generalize u28 = n_r0_c_28 at hw28 hP hD
  have hP : va_P g vwCl [(m, .inr (11, mG m_a m_thrown m_taped m_at m_token m_place m_value m_word m_bad m_badPlace m_fault m_faultPlace m_willing m_will m_forgot m_isDrawn m_x m_begin m_round m_roundCards m_fate m_any m_bothSend m_meanCards m_bestSum m_fitMany m_fitFirst m_fitSecond)), ((m_a 19), .inl (cI, 240, .inl m_pair_c)), ((m_a 20), .inl (cJ, 160, .inr (.inl m_lost_c))), ((m_a 21), .inl (cJ, 5, .inr (.inl m_strikes_c))), ((m_a 16), .inl (cI, 5, .inl n_r0_c_7)), ((m_a 17), .inl (cI, 25, .inl n_r0_c_17)), ((m_a 18), .inl (cI, 250, .inl n_r0_c_28))] H := hP
  have hD : va_D A [(m, .inr (11, mG m_a m_thrown m_taped m_at m_token m_place m_value m_word m_bad m_badPlace m_fault m_faultPlace m_willing m_will m_forgot m_isDrawn m_x m_begin m_round m_roundCards m_fate m_any m_bothSend m_meanCards m_bestSum m_fitMany m_fitFirst m_fitSecond)), ((m_a 19), .inl (cI, 240, .inl m_pair_c)), ((m_a 20), .inl (cJ, 160, .inr (.inl m_lost_c))), ((m_a 21), .inl (cJ, 5, .inr (.inl m_strikes_c))), ((m_a 16), .inl (cI, 5, .inl n_r0_c_7)), ((m_a 17), .inl (cI, 25, .inl n_r0_c_17)), ((m_a 18), .inl (cI, 250, .inl n_r0_c_28))] := hD
  dsimp only at hw28
  have hw28_0 := hw28
  refine lv_aload_n hx hb dX12_copyLand_31 rfl (lv_at hl 0 rfl) ?_
  refine va_get (D := g) (ci := 11) (v := .ref (m_a 19)) (C := RX12) (T := TX12) (N := 56) hx hb hts iX12 hown hK hP 0 rfl rfl 19 (by decide) (hts (.fieldLink RX12 40 "CardsAtYuleModel" "pair" "[I") (List.mem_cons_of_mem _ (List.mem_append_left _ (List.mem_of_getElem? (i := 6) rfl)))) (fun _ h9 => h9) rfl dX12_copyLand_32 ?_
  refine lv_bipush (v := 48) hx hb dX12_copyLand_35 (by decide) ?_
  refine lv_iload_n hx hb dX12_copyLand_37 rfl (lv_at hl 1 rfl) ?_
  refine lv_iload_n hx hb dX12_copyLand_38 rfl (lv_at hl 2 rfl) ?_
  refine rw_v (wr := [(m, .inr (11, mG m_a m_thrown m_taped m_at m_token m_place m_value m_word m_bad m_badPlace m_fault m_faultPlace m_willing m_will m_forgot m_isDrawn m_x m_begin m_round m_roundCards m_fate m_any m_bothSend m_meanCards m_bestSum m_fitMany m_fitFirst m_fitSecond)), ((m_a 20), .inl (cJ, 160, .inr (.inl m_lost_c))), ((m_a 21), .inl (cJ, 5, .inr (.inl m_strikes_c))), ((m_a 16), .inl (cI, 5, .inl n_r0_c_7)), ((m_a 17), .inl (cI, 25, .inl n_r0_c_17)), ((m_a 18), .inl (cI, 250, .inl n_r0_c_28))]) (va_runS (As := [.ref (m_a 19), .int 48, .int p0, .int p1]) (rest := []) ⟨hx, hb, hml, hown, hts⟩ (q_X12_copyRow_pair l g cI cJ cB cZ cL p0 p1 (m_a 19) m_pair_c H.size hv_p0 hv_p1 ha_m_pair_c) (va_cwS 4 hts (goodIn_app (g_3 (List.mem_cons_of_mem _ (List.mem_append_left _ (List.mem_of_getElem? (i := 1) rfl))) (List.mem_cons_of_mem _ (List.mem_append_left _ (List.mem_of_getElem? (i := 2) rfl))) (List.mem_cons_of_mem _ (List.mem_append_left _ (List.mem_of_getElem? (i := 3) rfl))) (by decide +kernel)) (goodIn_sub (fun _ h => List.mem_cons_of_mem _ (List.mem_append_right _ (List.mem_append_right _ (List.mem_append_right _ (List.mem_append_right _ (List.mem_append_left _ h)))))) good_v_X12_copyRow_pair)) rfl rfl rfl (by decide +kernel) ⟨Nat.le_of_ble_eq_true rfl, Nat.le_of_ble_eq_true rfl⟩) (ps_RW (wc := [((m_a 19), .inl (cI, 240, .inl m_pair_c))]) hK hP hD [1] (by decide) rfl) rfl rfl hl.1 rfl (lv_room (Nat.le_of_ble_eq_true rfl)) dX12_copyLand_39 ⟨Nat.le_of_ble_eq_true rfl, Nat.le_of_ble_eq_true rfl⟩) hS hA hP hD [1] [0, 2, 3, 4, 5, 6] rfl rfl (by decide) (by decide) (fun u39 H locs hw39 hP hD hS => ?_)
  generalize u39 = n_r0_c_39 at hw39 hP hD
  have hP : va_P g vwCl [(m, .inr (11, mG m_a m_thrown m_taped m_at m_token m_place m_value m_word m_bad m_badPlace m_fault m_faultPlace m_willing m_will m_forgot m_isDrawn m_x m_begin m_round m_roundCards m_fate m_any m_bothSend m_meanCards m_bestSum m_fitMany m_fitFirst m_fitSecond)), ((m_a 20), .inl (cJ, 160, .inr (.inl m_lost_c))), ((m_a 21), .inl (cJ, 5, .inr (.inl m_strikes_c))), ((m_a 16), .inl (cI, 5, .inl n_r0_c_7)), ((m_a 17), .inl (cI, 25, .inl n_r0_c_17)), ((m_a 18), .inl (cI, 250, .inl n_r0_c_28)), ((m_a 19), .inl (cI, 240, .inl n_r0_c_39))] H := hP
  have hD : va_D A [(m, .inr (11, mG m_a m_thrown m_taped m_at m_token m_place m_value m_word m_bad m_badPlace m_fault m_faultPlace m_willing m_will m_forgot m_isDrawn m_x m_begin m_round m_roundCards m_fate m_any m_bothSend m_meanCards m_bestSum m_fitMany m_fitFirst m_fitSecond)), ((m_a 20), .inl (cJ, 160, .inr (.inl m_lost_c))), ((m_a 21), .inl (cJ, 5, .inr (.inl m_strikes_c))), ((m_a 16), .inl (cI, 5, .inl n_r0_c_7)), ((m_a 17), .inl (cI, 25, .inl n_r0_c_17)), ((m_a 18), .inl (cI, 250, .inl n_r0_c_28)), ((m_a 19), .inl (cI, 240, .inl n_r0_c_39))] := hD
  dsimp only at hw39
  have hw39_0 := hw39
  refine lv_iconst (v := 0) hx hb dX12_copyLand_42 (by decide) ?_
  refine lv_istore_n (lv' := [(3, .int 0), (0, .ref m), (1, .int p0), (2, .int p1)]) hx hb dX12_copyLand_43 rfl hl (by decide) rfl (fun ls hl => ?_)
  have J44 : ∀ (n44 : Nat) (j44_l3 : Int32) (j44_m_a20_c : Nat → Int64) (H : Heap) (locs : List Loc) (ls : Array Slot), (33 - j44_l3.toInt).toNat < n44 → (ir j44_l3.toInt 0 32) → va_P g vwCl [(m, .inr (11, mG m_a m_thrown m_taped m_at m_token m_place m_value m_word m_bad m_badPlace m_fault m_faultPlace m_willing m_will m_forgot m_isDrawn m_x m_begin m_round m_roundCards m_fate m_any m_bothSend m_meanCards m_bestSum m_fitMany m_fitFirst m_fitSecond)), ((m_a 20), .inl (cJ, 160, .inr (.inl j44_m_a20_c))), ((m_a 21), .inl (cJ, 5, .inr (.inl m_strikes_c))), ((m_a 16), .inl (cI, 5, .inl n_r0_c_7)), ((m_a 17), .inl (cI, 25, .inl n_r0_c_17)), ((m_a 18), .inl (cI, 250, .inl n_r0_c_28)), ((m_a 19), .inl (cI, 240, .inl n_r0_c_39))] H → va_D A [(m, .inr (11, mG m_a m_thrown m_taped m_at m_token m_place m_value m_word m_bad m_badPlace m_fault m_faultPlace m_willing m_will m_forgot m_isDrawn m_x m_begin m_round m_roundCards m_fate m_any m_bothSend m_meanCards m_bestSum m_fitMany m_fitFirst m_fitSecond)), ((m_a 20), .inl (cJ, 160, .inr (.inl j44_m_a20_c))), ((m_a 21), .inl (cJ, 5, .inr (.inl m_strikes_c))), ((m_a 16), .inl (cI, 5, .inl n_r0_c_7)), ((m_a 17), .inl (cI, 25, .inl n_r0_c_17)), ((m_a 18), .inl (cI, 250, .inl n_r0_c_28)), ((m_a 19), .inl (cI, 240, .inl n_r0_c_39))] → va_S A s.heap H locs → lv_has ls 4 [(0, .ref m), (1, .int p0), (2, .int p1), (3, .int j44_l3)] → W p l e (headSpec v_X12_copyLand ({ frames := 1, cells := 0, slots := 0, locals := 24 })).room s mth av below meth c H locs 0 0 QQ (F0 mth 44 ls []) := by
    intro n44
    induction n44 with
    | zero => exact fun j44_l3 j44_m_a20_c H locs ls hn => absurd hn (Nat.not_lt_zero _)
    | succ n44 ih44 =>
      intro j44_l3 j44_m_a20_c H locs ls hn44 hj44_l3 hP hD hS hl
      refine lv_iload_n hx hb dX12_copyLand_44 rfl (lv_at hl 3 rfl) ?_
      refine lv_bipush (v := 32) hx hb dX12_copyLand_45 (by decide) ?_
      refine lv_icmp_ge (tgt := 78) hx hb dX12_copyLand_47 (by decide) (fun c47 => ?_) (fun c47 => ?_)
      · have f47 := (show 32 ≤ j44_l3.toInt from z_le rfl rfl c47)
        have r47a : ir j44_l3.toInt 32 32 := ir_leb f47 (ir_c 32) hj44_l3 (by decide)
        refine lv_aload_n hx hb dX12_copyLand_78 rfl (lv_at hl 0 rfl) ?_
        refine va_get (D := g) (ci := 11) (v := .ref (m_a 21)) (C := RX12) (T := TX12) (N := 56) hx hb hts iX12 hown hK hP 0 rfl rfl 21 (by decide) (hts (.fieldLink RX12 46 "CardsAtYuleModel" "strikes" "[J") (List.mem_cons_of_mem _ (List.mem_append_left _ (List.mem_of_getElem? (i := 7) rfl)))) (fun _ h9 => h9) rfl dX12_copyLand_79 ?_
        refine lv_iload_n hx hb dX12_copyLand_82 rfl (lv_at hl 2 rfl) ?_
        refine lv_aload_n hx hb dX12_copyLand_83 rfl (lv_at hl 0 rfl) ?_
        refine va_get (D := g) (ci := 11) (v := .ref (m_a 21)) (C := RX12) (T := TX12) (N := 56) hx hb hts iX12 hown hK hP 0 rfl rfl 21 (by decide) (hts (.fieldLink RX12 46 "CardsAtYuleModel" "strikes" "[J") (List.mem_cons_of_mem _ (List.mem_append_left _ (List.mem_of_getElem? (i := 7) rfl)))) (fun _ h9 => h9) rfl dX12_copyLand_84 ?_
        refine lv_iload_n hx hb dX12_copyLand_87 rfl (lv_at hl 1 rfl) ?_
        refine va_lald (D := g) hx hb hK hP 2 1 rfl rfl (vi_rg rfl hv_p0 (by decide) (by decide)) dX12_copyLand_88 ?_
        refine lv_topl (fun y88 e88 => ?_)
        refine va_last (D := g) hx hb hK hP hD hS 2 1 rfl rfl (vi_rg rfl hv_p1 (by decide) (by decide)) dX12_copyLand_89 (fun H locs hP hD hS => ?_)
        obtain ⟨g89, e89⟩ : ∃ z, z = vp_updL m_strikes_c p1.toNatClampNeg y88 := ⟨_, rfl⟩
        have hP : va_P g vwCl [(m, .inr (11, mG m_a m_thrown m_taped m_at m_token m_place m_value m_word m_bad m_badPlace m_fault m_faultPlace m_willing m_will m_forgot m_isDrawn m_x m_begin m_round m_roundCards m_fate m_any m_bothSend m_meanCards m_bestSum m_fitMany m_fitFirst m_fitSecond)), ((m_a 20), .inl (cJ, 160, .inr (.inl j44_m_a20_c))), ((m_a 21), .inl (cJ, 5, .inr (.inl (vp_updL m_strikes_c p1.toNatClampNeg y88)))), ((m_a 16), .inl (cI, 5, .inl n_r0_c_7)), ((m_a 17), .inl (cI, 25, .inl n_r0_c_17)), ((m_a 18), .inl (cI, 250, .inl n_r0_c_28)), ((m_a 19), .inl (cI, 240, .inl n_r0_c_39))] H := hP
        have hD : va_D A [(m, .inr (11, mG m_a m_thrown m_taped m_at m_token m_place m_value m_word m_bad m_badPlace m_fault m_faultPlace m_willing m_will m_forgot m_isDrawn m_x m_begin m_round m_roundCards m_fate m_any m_bothSend m_meanCards m_bestSum m_fitMany m_fitFirst m_fitSecond)), ((m_a 20), .inl (cJ, 160, .inr (.inl j44_m_a20_c))), ((m_a 21), .inl (cJ, 5, .inr (.inl (vp_updL m_strikes_c p1.toNatClampNeg y88)))), ((m_a 16), .inl (cI, 5, .inl n_r0_c_7)), ((m_a 17), .inl (cI, 25, .inl n_r0_c_17)), ((m_a 18), .inl (cI, 250, .inl n_r0_c_28)), ((m_a 19), .inl (cI, 240, .inl n_r0_c_39))] := hD
        rw [← e89] at hP hD
        subst hQ
        have hP9 := hP.sub (ws' := [(m, .inr (11, mG m_a m_thrown m_taped m_at m_token m_place m_value m_word m_bad m_badPlace m_fault m_faultPlace m_willing m_will m_forgot m_isDrawn m_x m_begin m_round m_roundCards m_fate m_any m_bothSend m_meanCards m_bestSum m_fitMany m_fitFirst m_fitSecond)), ((m_a 16), .inl (cI, 5, .inl n_r0_c_7)), ((m_a 17), .inl (cI, 25, .inl n_r0_c_17)), ((m_a 18), .inl (cI, 250, .inl n_r0_c_28)), ((m_a 19), .inl (cI, 240, .inl n_r0_c_39)), ((m_a 20), .inl (cJ, 160, .inr (.inl j44_m_a20_c))), ((m_a 21), .inl (cJ, 5, .inr (.inl g89)))]) [0, 3, 4, 5, 6, 1, 2] rfl
        have hD9 := hD.sub (ws' := [(m, .inr (11, mG m_a m_thrown m_taped m_at m_token m_place m_value m_word m_bad m_badPlace m_fault m_faultPlace m_willing m_will m_forgot m_isDrawn m_x m_begin m_round m_roundCards m_fate m_any m_bothSend m_meanCards m_bestSum m_fitMany m_fitFirst m_fitSecond)), ((m_a 16), .inl (cI, 5, .inl n_r0_c_7)), ((m_a 17), .inl (cI, 25, .inl n_r0_c_17)), ((m_a 18), .inl (cI, 250, .inl n_r0_c_28)), ((m_a 19), .inl (cI, 240, .inl n_r0_c_39)), ((m_a 20), .inl (cJ, 160, .inr (.inl j44_m_a20_c))), ((m_a 21), .inl (cJ, 5, .inr (.inl g89)))]) [0, 3, 4, 5, 6, 1, 2] (by decide) rfl
        exact W.vret hx hb hr (fun t ht hW => ⟨⟨(n_r0_c_7, n_r0_c_17, n_r0_c_28, n_r0_c_39, j44_m_a20_c, g89), rfl, ⟨hw17_0, hw28_0, hw39_0⟩, ⟨by rw [ht]; exact hP9, va_K.moved hW.alike hK, hD9⟩⟩, hS.F ht⟩) hS.2.2 dX12_copyLand_90
      have f47 := (show j44_l3.toInt < 32 from z_nle rfl rfl c47)
      have r47a : ir j44_l3.toInt 0 31 := ir_lta f47 hj44_l3 (ir_c 32) (by decide)
      refine lv_aload_n hx hb dX12_copyLand_50 rfl (lv_at hl 0 rfl) ?_
      refine va_get (D := g) (ci := 11) (v := .ref (m_a 20)) (C := RX12) (T := TX12) (N := 56) hx hb hts iX12 hown hK hP 0 rfl rfl 20 (by decide) (hts (.fieldLink RX12 43 "CardsAtYuleModel" "lost" "[J") (List.mem_cons_of_mem _ (List.mem_append_left _ (List.mem_of_getElem? (i := 8) rfl)))) (fun _ h9 => h9) rfl dX12_copyLand_51 ?_
      refine lv_bipush (v := 32) hx hb dX12_copyLand_54 (by decide) ?_
      refine lv_iload_n hx hb dX12_copyLand_56 rfl (lv_at hl 2 rfl) ?_
      refine lv_imul hx hb dX12_copyLand_57 ?_
      refine lv_topi (fun y57 e57 => ?_)
      have q57 : y57.toInt = 32 * p1.toInt := by rw [e57]; exact mu_z rfl rfl (ir_c 32) hv_p1 (by decide) (by decide) (by decide)
      have r57 : ir y57.toInt 0 128 := mu_r q57 (ir_c 32) hv_p1 (by decide) (by decide) (by decide) (by decide)
      refine lv_iload_n hx hb dX12_copyLand_58 rfl (lv_at hl 3 rfl) ?_
      refine lv_iadd hx hb dX12_copyLand_59 ?_
      refine lv_topi (fun y59 e59 => ?_)
      have q59 : y59.toInt = y57.toInt + j44_l3.toInt := by rw [e59]; exact ad_z rfl rfl r57 r47a (by decide) (by decide)
      have r59 : ir y59.toInt 0 159 := ad_r q59 r57 r47a (by decide) (by decide)
      refine lv_aload_n hx hb dX12_copyLand_60 rfl (lv_at hl 0 rfl) ?_
      refine va_get (D := g) (ci := 11) (v := .ref (m_a 20)) (C := RX12) (T := TX12) (N := 56) hx hb hts iX12 hown hK hP 0 rfl rfl 20 (by decide) (hts (.fieldLink RX12 43 "CardsAtYuleModel" "lost" "[J") (List.mem_cons_of_mem _ (List.mem_append_left _ (List.mem_of_getElem? (i := 8) rfl)))) (fun _ h9 => h9) rfl dX12_copyLand_61 ?_
      refine lv_bipush (v := 32) hx hb dX12_copyLand_64 (by decide) ?_
      refine lv_iload_n hx hb dX12_copyLand_66 rfl (lv_at hl 1 rfl) ?_
      refine lv_imul hx hb dX12_copyLand_67 ?_
      refine lv_topi (fun y67 e67 => ?_)
      have q67 : y67.toInt = 32 * p0.toInt := by rw [e67]; exact mu_z rfl rfl (ir_c 32) hv_p0 (by decide) (by decide) (by decide)
      have r67 : ir y67.toInt 0 128 := mu_r q67 (ir_c 32) hv_p0 (by decide) (by decide) (by decide) (by decide)
      refine lv_iload_n hx hb dX12_copyLand_68 rfl (lv_at hl 3 rfl) ?_
      refine lv_iadd hx hb dX12_copyLand_69 ?_
      refine lv_topi (fun y69 e69 => ?_)
      have q69 : y69.toInt = y67.toInt + j44_l3.toInt := by rw [e69]; exact ad_z rfl rfl r67 r47a (by decide) (by decide)
      have r69 : ir y69.toInt 0 159 := ad_r q69 r67 r47a (by decide) (by decide)
      refine va_lald (D := g) hx hb hK hP 1 1 rfl rfl (vi_rg rfl r69 (by decide) (by decide)) dX12_copyLand_70 ?_
      refine lv_topl (fun y70 e70 => ?_)
      refine va_last (D := g) hx hb hK hP hD hS 1 1 rfl rfl (vi_rg rfl r59 (by decide) (by decide)) dX12_copyLand_71 (fun H locs hP hD hS => ?_)
      obtain ⟨g71, e71⟩ : ∃ z, z = vp_updL j44_m_a20_c y59.toNatClampNeg y70 := ⟨_, rfl⟩
      have hP : va_P g vwCl [(m, .inr (11, mG m_a m_thrown m_taped m_at m_token m_place m_value m_word m_bad m_badPlace m_fault m_faultPlace m_willing m_will m_forgot m_isDrawn m_x m_begin m_round m_roundCards m_fate m_any m_bothSend m_meanCards m_bestSum m_fitMany m_fitFirst m_fitSecond)), ((m_a 20), .inl (cJ, 160, .inr (.inl (vp_updL j44_m_a20_c y59.toNatClampNeg y70)))), ((m_a 21), .inl (cJ, 5, .inr (.inl m_strikes_c))), ((m_a 16), .inl (cI, 5, .inl n_r0_c_7)), ((m_a 17), .inl (cI, 25, .inl n_r0_c_17)), ((m_a 18), .inl (cI, 250, .inl n_r0_c_28)), ((m_a 19), .inl (cI, 240, .inl n_r0_c_39))] H := hP
      have hD : va_D A [(m, .inr (11, mG m_a m_thrown m_taped m_at m_token m_place m_value m_word m_bad m_badPlace m_fault m_faultPlace m_willing m_will m_forgot m_isDrawn m_x m_begin m_round m_roundCards m_fate m_any m_bothSend m_meanCards m_bestSum m_fitMany m_fitFirst m_fitSecond)), ((m_a 20), .inl (cJ, 160, .inr (.inl (vp_updL j44_m_a20_c y59.toNatClampNeg y70)))), ((m_a 21), .inl (cJ, 5, .inr (.inl m_strikes_c))), ((m_a 16), .inl (cI, 5, .inl n_r0_c_7)), ((m_a 17), .inl (cI, 25, .inl n_r0_c_17)), ((m_a 18), .inl (cI, 250, .inl n_r0_c_28)), ((m_a 19), .inl (cI, 240, .inl n_r0_c_39))] := hD
      rw [← e71] at hP hD
      obtain ⟨y72, e72⟩ : ∃ y : Int32, y = j44_l3 + 1 := ⟨_, rfl⟩
      have q72 : y72.toInt = j44_l3.toInt + 1 := by rw [e72]; exact ad_z rfl rfl r47a (ir_c 1) (by decide) (by decide)
      have r72 : ir y72.toInt 1 32 := ad_r q72 r47a (ir_c 1) (by decide) (by decide)
      refine lv_iinc (v := y72) (lv' := [(3, .int y72), (0, .ref m), (1, .int p0), (2, .int p1)]) hx hb dX12_copyLand_72 hl (k := 3) rfl e72.symm (by decide) rfl (fun ls hl => ?_)
      refine lv_goto (tgt := 44) hx hb dX12_copyLand_75 (by decide) ?_
      exact ih44 y72 g71 _ _ _ (by omega) (ir_w r72 (by decide) (by decide)) (hP.sub [0, 1, 2, 3, 4, 5, 6] rfl) (hD.sub [0, 1, 2, 3, 4, 5, 6] (by decide) rfl) hS (lv_sub hl [1, 2, 3, 0] rfl)
  exact J44 _ 0 m_lost_c _ _ _ (Nat.lt_succ_self _) (by decide) (hP.sub [0, 1, 2, 3, 4, 5, 6] rfl) (hD.sub [0, 1, 2, 3, 4, 5, 6] (by decide) rfl) hS (lv_sub hl [1, 2, 3, 0] rfl)
