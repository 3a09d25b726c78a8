def v_X12_rulesAlone : List Cond := .code yX12_rulesAlone cX12_rulesAlone 4 none :: (([.fieldLink RX12 53 "CardsAtYuleModel" "ruleNow" "[I", .fieldLink RX12 56 "CardsAtYuleModel" "maySend" "[Z", .fieldLink RX12 59 "CardsAtYuleModel" "maycome" "[Z"] : List Cond) ++ (wsX120 ++ ([] : List Cond)))
theorem good_v_X12_rulesAlone : v_X12_rulesAlone.all goodWord = true := ga_c (by decide +kernel) (ga_a (by decide +kernel) (ga_a good_wsX120 rfl))
set_option maxHeartbeats 4000000 in
set_option maxRecDepth 100000 in
theorem q_X12_rulesAlone (l : Launch) (g : va_G) (cI cJ cB cZ cL : ClassId) (p0 : Int32) (p1 : Int32) (m : Nat) (m_a : Nat → Nat) (m_thrown : Int32) (m_taped : Int32) (m_at : Int32) (m_token : Int32) (m_place : Int32) (m_value : Int32) (m_word : Int64) (m_bad : Int32) (m_badPlace : Int32) (m_fault : Int32) (m_faultPlace : Int32) (m_willing : Int32) (m_will : Int32) (m_forgot : Int32) (m_isDrawn : Int32) (m_x : Int64) (m_begin : Int32) (m_round : Int32) (m_roundCards : Int32) (m_fate : Int32) (m_any : Int64) (m_bothSend : Int64) (m_meanCards : Int64) (m_bestSum : Int32) (m_fitMany : Int32) (m_fitFirst : Int64) (m_fitSecond : Int64) (m_ruleNow_c : Nat → Int32) (m_maySend_c : Nat → Int32) (m_maycome_c : Nat → Int32) (sz : Nat) (hv_m_taped : ir m_taped.toInt 0 1600) (hv_m_at : ir m_at.toInt 0 1600) (hv_m_will : ir m_will.toInt 0 1) (hv_m_isDrawn : ir m_isDrawn.toInt 0 1) : Met l yX12_rulesAlone v_X12_rulesAlone ({ frames := 0, cells := 0, slots := 0, locals := 0 }) (va_Pc [.ref m, .int p0, .int p1] (pRW g (tyT cI cJ cB cZ cL) [(m, .inr (11, mG m_a m_thrown m_taped m_at m_token m_place m_value m_word m_bad m_badPlace m_fault m_faultPlace m_willing m_will m_forgot m_isDrawn m_x m_begin m_round m_roundCards m_fate m_any m_bothSend m_meanCards m_bestSum m_fitMany m_fitFirst m_fitSecond)), ((m_a 23), .inl (cI, 2, .inl m_ruleNow_c)), ((m_a 24), .inl (cZ, 2, .inl m_maySend_c)), ((m_a 25), .inl (cZ, 2, .inl m_maycome_c))] sz)) (va_Qv (fun (u : (Nat → Int32) × (Nat → Int32) × (Nat → Int32)) => match u with | (n_m_ruleNow_c, n_m_maySend_c, n_m_maycome_c) => True) (fun (u : (Nat → Int32) × (Nat → Int32) × (Nat → Int32)) (t : State) => bRW g (tyT cI cJ cB cZ cL) (va_A [(m, .inr (11, mG m_a m_thrown m_taped m_at m_token m_place m_value m_word m_bad m_badPlace m_fault m_faultPlace m_willing m_will m_forgot m_isDrawn m_x m_begin m_round m_roundCards m_fate m_any m_bothSend m_meanCards m_bestSum m_fitMany m_fitFirst m_fitSecond)), ((m_a 23), .inl (cI, 2, .inl m_ruleNow_c)), ((m_a 24), .inl (cZ, 2, .inl m_maySend_c)), ((m_a 25), .inl (cZ, 2, .inl m_maycome_c))] sz) (match u with | (n_m_ruleNow_c, n_m_maySend_c, n_m_maycome_c) => [(m, .inr (11, mG m_a m_thrown m_taped m_at m_token m_place m_value m_word m_bad m_badPlace m_fault m_faultPlace m_willing m_will m_forgot m_isDrawn m_x m_begin m_round m_roundCards m_fate m_any m_bothSend m_meanCards m_bestSum m_fitMany m_fitFirst m_fitSecond)), ((m_a 23), .inl (cI, 2, .inl n_m_ruleNow_c)), ((m_a 24), .inl (cZ, 2, .inl n_m_maySend_c)), ((m_a 25), .inl (cZ, 2, .inl n_m_maycome_c))]) t) (va_A [(m, .inr (11, mG m_a m_thrown m_taped m_at m_token m_place m_value m_word m_bad m_badPlace m_fault m_faultPlace m_willing m_will m_forgot m_isDrawn m_x m_begin m_round m_roundCards m_fate m_any m_bothSend m_meanCards m_bestSum m_fitMany m_fitFirst m_fitSecond)), ((m_a 23), .inl (cI, 2, .inl m_ruleNow_c)), ((m_a 24), .inl (cZ, 2, .inl m_maySend_c)), ((m_a 25), .inl (cZ, 2, .inl m_maycome_c))] sz)) 0 0 (va_A [(m, .inr (11, mG m_a m_thrown m_taped m_at m_token m_place m_value m_word m_bad m_badPlace m_fault m_faultPlace m_willing m_will m_forgot m_isDrawn m_x m_begin m_round m_roundCards m_fate m_any m_bothSend m_meanCards m_bestSum m_fitMany m_fitFirst m_fitSecond)), ((m_a 23), .inl (cI, 2, .inl m_ruleNow_c)), ((m_a 24), .inl (cZ, 2, .inl m_maySend_c)), ((m_a 25), .inl (cZ, 2, .inl m_maycome_c))] sz) := by
  refine Met.ofW (cc := cX12_rulesAlone) (maxL := 4) (ret := none) (by decide) rfl ?_
  intro p e s mth args below meth c s₁ B hml hv
  obtain ⟨rfl, hsz, hP, hK, hD0⟩ := hv
  have hx := B.exec
  have hb := B.bytes
  have hr := B.returns
  have hts := atoms_spec (ws := v_X12_rulesAlone) B.pre
  have hown : s.vm.findClass RX12 = some mth.cls := findClass_of_methodNamed B.named
  have hlocks := B.notSynchronized
  clear B
  subst hsz
  have iX12 : ∀ w ∈ wsX120, w ∈ v_X12_rulesAlone := (fun _ h => List.mem_cons_of_mem _ (List.mem_append_right _ (List.mem_append_left _ h)))
  have hD := hD0.self (sz := s.heap.size)
  generalize hAe : (va_A [(m, .inr (11, mG m_a m_thrown m_taped m_at m_token m_place m_value m_word m_bad m_badPlace m_fault m_faultPlace m_willing m_will m_forgot m_isDrawn m_x m_begin m_round m_roundCards m_fate m_any m_bothSend m_meanCards m_bestSum m_fitMany m_fitFirst m_fitSecond)), ((m_a 23), .inl (cI, 2, .inl m_ruleNow_c)), ((m_a 24), .inl (cZ, 2, .inl m_maySend_c)), ((m_a 25), .inl (cZ, 2, .inl m_maycome_c))] s.heap.size) = A at hD ⊢
  have hA : ∀ q : Nat, s.heap.size ≤ q → A q := fun q h => by rw [← hAe]; exact Or.inr h
  have hS : va_S A s.heap s.heap [] := va_S.rf
  have hl := lv_entry ([.ref m, .int p0, .int p1]) (n := 4) (Nat.le_of_ble_eq_true rfl)
  rw [lg_entry_eq]
  generalize (lg_sl ([.ref m, .int p0, .int p1]) ++ List.replicate (4 - (lg_sl ([.ref m, .int p0, .int p1])).length) Slot.unset).toArray = ls at hl ⊢
  generalize ([.ref m, .int p0, .int p1] : List Value).toArray = av at hts ⊢
  generalize hQ : MQ below _ av s _ _ A = QQ
  have hl : lv_has ls 4 [(0, .ref m), (1, .int p0), (2, .int p1)] := hl
  have hP : va_P g vwCl [(m, .inr (11, mG m_a m_thrown m_taped m_at m_token m_place m_value m_word m_bad m_badPlace m_fault m_faultPlace m_willing m_will m_forgot m_isDrawn m_x m_begin m_round m_roundCards m_fate m_any m_bothSend m_meanCards m_bestSum m_fitMany m_fitFirst m_fitSecond)), ((m_a 23), .inl (cI, 2, .inl m_ruleNow_c)), ((m_a 24), .inl (cZ, 2, .inl m_maySend_c)), ((m_a 25), .inl (cZ, 2, .inl m_maycome_c))] s.heap := hP
  refine lv_aload_n hx hb dX12_rulesAlone_0 rfl (lv_at hl 0 rfl) ?_
  refine va_get (D := g) (ci := 11) (v := .ref (m_a 23)) (C := RX12) (T := TX12) (N := 56) hx hb hts iX12 hown hK hP 0 rfl rfl 23 (by decide) (hts (.fieldLink RX12 53 "CardsAtYuleModel" "ruleNow" "[I") (List.mem_cons_of_mem _ (List.mem_append_left _ (List.mem_of_getElem? (i := 0) rfl)))) (fun _ h9 => h9) rfl dX12_rulesAlone_1 ?_
  refine lv_iconst (v := 0) hx hb dX12_rulesAlone_4 (by decide) ?_
  refine lv_iload_n hx hb dX12_rulesAlone_5 rfl (lv_at hl 1 rfl) ?_
  refine va_iast (D := g) hx hb hK hP hD hS 1 0 rfl rfl (vc_in (by decide)) dX12_rulesAlone_6 (fun H locs hP hD hS => ?_)
  obtain ⟨g6, e6⟩ : ∃ z, z = upd m_ruleNow_c 0 p0 := ⟨_, rfl⟩
  have hP : va_P g vwCl [(m, .inr (11, mG m_a m_thrown m_taped m_at m_token m_place m_value m_word m_bad m_badPlace m_fault m_faultPlace m_willing m_will m_forgot m_isDrawn m_x m_begin m_round m_roundCards m_fate m_any m_bothSend m_meanCards m_bestSum m_fitMany m_fitFirst m_fitSecond)), ((m_a 23), .inl (cI, 2, .inl (upd m_ruleNow_c 0 p0))), ((m_a 24), .inl (cZ, 2, .inl m_maySend_c)), ((m_a 25), .inl (cZ, 2, .inl m_maycome_c))] H := hP
  have hD : va_D A [(m, .inr (11, mG m_a m_thrown m_taped m_at m_token m_place m_value m_word m_bad m_badPlace m_fault m_faultPlace m_willing m_will m_forgot m_isDrawn m_x m_begin m_round m_roundCards m_fate m_any m_bothSend m_meanCards m_bestSum m_fitMany m_fitFirst m_fitSecond)), ((m_a 23), .inl (cI, 2, .inl (upd m_ruleNow_c 0 p0))), ((m_a 24), .inl (cZ, 2, .inl m_maySend_c)), ((m_a 25), .inl (cZ, 2, .inl m_maycome_c))] := hD
  rw [← e6] at hP hD
  refine lv_aload_n hx hb dX12_rulesAlone_7 rfl (lv_at hl 0 rfl) ?_
  refine va_get (D := g) (ci := 11) (v := .ref (m_a 23)) (C := RX12) (T := TX12) (N := 56) hx hb hts iX12 hown hK hP 0 rfl rfl 23 (by decide) (hts (.fieldLink RX12 53 "CardsAtYuleModel" "ruleNow" "[I") (List.mem_cons_of_mem _ (List.mem_append_left _ (List.mem_of_getElem? (i := 0) rfl)))) (fun _ h9 => h9) rfl dX12_rulesAlone_8 ?_
  refine lv_iconst (v := 1) hx hb dX12_rulesAlone_11 (by decide) ?_
  refine lv_iload_n hx hb dX12_rulesAlone_12 rfl (lv_at hl 2 rfl) ?_
  refine va_iast (D := g) hx hb hK hP hD hS 1 0 rfl rfl (vc_in (by decide)) dX12_rulesAlone_13 (fun H locs hP hD hS => ?_)
  obtain ⟨g13, e13⟩ : ∃ z, z = upd g6 1 p1 := ⟨_, rfl⟩
  have hP : va_P g vwCl [(m, .inr (11, mG m_a m_thrown m_taped m_at m_token m_place m_value m_word m_bad m_badPlace m_fault m_faultPlace m_willing m_will m_forgot m_isDrawn m_x m_begin m_round m_roundCards m_fate m_any m_bothSend m_meanCards m_bestSum m_fitMany m_fitFirst m_fitSecond)), ((m_a 23), .inl (cI, 2, .inl (upd g6 1 p1))), ((m_a 24), .inl (cZ, 2, .inl m_maySend_c)), ((m_a 25), .inl (cZ, 2, .inl m_maycome_c))] H := hP
  have hD : va_D A [(m, .inr (11, mG m_a m_thrown m_taped m_at m_token m_place m_value m_word m_bad m_badPlace m_fault m_faultPlace m_willing m_will m_forgot m_isDrawn m_x m_begin m_round m_roundCards m_fate m_any m_bothSend m_meanCards m_bestSum m_fitMany m_fitFirst m_fitSecond)), ((m_a 23), .inl (cI, 2, .inl (upd g6 1 p1))), ((m_a 24), .inl (cZ, 2, .inl m_maySend_c)), ((m_a 25), .inl (cZ, 2, .inl m_maycome_c))] := hD
  rw [← e13] at hP hD
  refine lv_iconst (v := 0) hx hb dX12_rulesAlone_14 (by decide) ?_
  refine lv_istore_n (lv' := [(3, .int 0), (0, .ref m), (1, .int p0), (2, .int p1)]) hx hb dX12_rulesAlone_15 rfl hl (by decide) rfl (fun ls hl => ?_)
  have J16 : ∀ (n16 : Nat) (j16_l3 : Int32) (j16_m_a24_c : Nat → Int32) (j16_m_a25_c : Nat → Int32) (H : Heap) (locs : List Loc) (ls : Array Slot), (3 - j16_l3.toInt).toNat < n16 → (ir j16_l3.toInt 0 2) → va_P g vwCl [(m, .inr (11, mG m_a m_thrown m_taped m_at m_token m_place m_value m_word m_bad m_badPlace m_fault m_faultPlace m_willing m_will m_forgot m_isDrawn m_x m_begin m_round m_roundCards m_fate m_any m_bothSend m_meanCards m_bestSum m_fitMany m_fitFirst m_fitSecond)), ((m_a 23), .inl (cI, 2, .inl g13)), ((m_a 24), .inl (cZ, 2, .inl j16_m_a24_c)), ((m_a 25), .inl (cZ, 2, .inl j16_m_a25_c))] H → va_D A [(m, .inr (11, mG m_a m_thrown m_taped m_at m_token m_place m_value m_word m_bad m_badPlace m_fault m_faultPlace m_willing m_will m_forgot m_isDrawn m_x m_begin m_round m_roundCards m_fate m_any m_bothSend m_meanCards m_bestSum m_fitMany m_fitFirst m_fitSecond)), ((m_a 23), .inl (cI, 2, .inl g13)), ((m_a 24), .inl (cZ, 2, .inl j16_m_a24_c)), ((m_a 25), .inl (cZ, 2, .inl j16_m_a25_c))] → va_S A s.heap H locs → lv_has ls 4 [(0, .ref m), (3, .int j16_l3)] → W p l e (headSpec v_X12_rulesAlone ({ frames := 0, cells := 0, slots := 0, locals := 0 })).room s mth av below meth c H locs 0 0 QQ (F0 mth 16 ls []) := by
    intro n16
    induction n16 with
    | zero => exact fun j16_l3 j16_m_a24_c j16_m_a25_c H locs ls hn => absurd hn (Nat.not_lt_zero _)
    | succ n16 ih16 =>
      intro j16_l3 j16_m_a24_c j16_m_a25_c H locs ls hn16 hj16_l3 hP hD hS hl
      refine lv_iload_n hx hb dX12_rulesAlone_16 rfl (lv_at hl 1 rfl) ?_
      refine lv_iconst (v := 2) hx hb dX12_rulesAlone_17 (by decide) ?_
      refine lv_icmp_ge (tgt := 41) hx hb dX12_rulesAlone_18 (by decide) (fun c18 => ?_) (fun c18 => ?_)
      · have f18 := (show 2 ≤ j16_l3.toInt from z_le rfl rfl c18)
        have r18a : ir j16_l3.toInt 2 2 := ir_leb f18 (ir_c 2) hj16_l3 (by decide)
        subst hQ
        have hP9 := hP.sub (ws' := [(m, .inr (11, mG m_a m_thrown m_taped m_at m_token m_place m_value m_word m_bad m_badPlace m_fault m_faultPlace m_willing m_will m_forgot m_isDrawn m_x m_begin m_round m_roundCards m_fate m_any m_bothSend m_meanCards m_bestSum m_fitMany m_fitFirst m_fitSecond)), ((m_a 23), .inl (cI, 2, .inl g13)), ((m_a 24), .inl (cZ, 2, .inl j16_m_a24_c)), ((m_a 25), .inl (cZ, 2, .inl j16_m_a25_c))]) [0, 1, 2, 3] rfl
        have hD9 := hD.sub (ws' := [(m, .inr (11, mG m_a m_thrown m_taped m_at m_token m_place m_value m_word m_bad m_badPlace m_fault m_faultPlace m_willing m_will m_forgot m_isDrawn m_x m_begin m_round m_roundCards m_fate m_any m_bothSend m_meanCards m_bestSum m_fitMany m_fitFirst m_fitSecond)), ((m_a 23), .inl (cI, 2, .inl g13)), ((m_a 24), .inl (cZ, 2, .inl j16_m_a24_c)), ((m_a 25), .inl (cZ, 2, .inl j16_m_a25_c))]) [0, 1, 2, 3] (by decide) rfl
        exact W.vret hx hb hr (fun t ht hW => ⟨⟨(g13, j16_m_a24_c, j16_m_a25_c), rfl, trivial, ⟨by rw [ht]; exact hP9, va_K.moved hW.alike hK, hD9⟩⟩, hS.F ht⟩) hS.2.2 dX12_rulesAlone_41
      have f18 := (show j16_l3.toInt < 2 from z_nle rfl rfl c18)
      have r18a : ir j16_l3.toInt 0 1 := ir_lta f18 hj16_l3 (ir_c 2) (by decide)
      refine lv_aload_n hx hb dX12_rulesAlone_21 rfl (lv_at hl 0 rfl) ?_
      refine va_get (D := g) (ci := 11) (v := .ref (m_a 24)) (C := RX12) (T := TX12) (N := 56) hx hb hts iX12 hown hK hP 0 rfl rfl 24 (by decide) (hts (.fieldLink RX12 56 "CardsAtYuleModel" "maySend" "[Z") (List.mem_cons_of_mem _ (List.mem_append_left _ (List.mem_of_getElem? (i := 1) rfl)))) (fun _ h9 => h9) rfl dX12_rulesAlone_22 ?_
      refine lv_iload_n hx hb dX12_rulesAlone_25 rfl (lv_at hl 1 rfl) ?_
      refine lv_iconst (v := 1) hx hb dX12_rulesAlone_26 (by decide) ?_
      refine va_zast (D := g) hx hb hK hP hD hS 2 3 rfl rfl (vi_rg rfl r18a (by decide) (by decide)) dX12_rulesAlone_27 (fun H locs hP hD hS => ?_)
      obtain ⟨g27, e27⟩ : ∃ z, z = upd j16_m_a24_c j16_l3.toNatClampNeg (vp_nar .boolean (1 : Int32)) := ⟨_, rfl⟩
      have hP : va_P g vwCl [(m, .inr (11, mG m_a m_thrown m_taped m_at m_token m_place m_value m_word m_bad m_badPlace m_fault m_faultPlace m_willing m_will m_forgot m_isDrawn m_x m_begin m_round m_roundCards m_fate m_any m_bothSend m_meanCards m_bestSum m_fitMany m_fitFirst m_fitSecond)), ((m_a 23), .inl (cI, 2, .inl g13)), ((m_a 24), .inl (cZ, 2, .inl (upd j16_m_a24_c j16_l3.toNatClampNeg (vp_nar .boolean (1 : Int32))))), ((m_a 25), .inl (cZ, 2, .inl j16_m_a25_c))] H := hP
      have hD : va_D A [(m, .inr (11, mG m_a m_thrown m_taped m_at m_token m_place m_value m_word m_bad m_badPlace m_fault m_faultPlace m_willing m_will m_forgot m_isDrawn m_x m_begin m_round m_roundCards m_fate m_any m_bothSend m_meanCards m_bestSum m_fitMany m_fitFirst m_fitSecond)), ((m_a 23), .inl (cI, 2, .inl g13)), ((m_a 24), .inl (cZ, 2, .inl (upd j16_m_a24_c j16_l3.toNatClampNeg (vp_nar .boolean (1 : Int32))))), ((m_a 25), .inl (cZ, 2, .inl j16_m_a25_c))] := hD
      rw [← e27] at hP hD
      refine lv_aload_n hx hb dX12_rulesAlone_28 rfl (lv_at hl 0 rfl) ?_
      refine va_get (D := g) (ci := 11) (v := .ref (m_a 25)) (C := RX12) (T := TX12) (N := 56) hx hb hts iX12 hown hK hP 0 rfl rfl 25 (by decide) (hts (.fieldLink RX12 59 "CardsAtYuleModel" "maycome" "[Z") (List.mem_cons_of_mem _ (List.mem_append_left _ (List.mem_of_getElem? (i := 2) rfl)))) (fun _ h9 => h9) rfl dX12_rulesAlone_29 ?_
      refine lv_iload_n hx hb dX12_rulesAlone_32 rfl (lv_at hl 1 rfl) ?_
      refine lv_iconst (v := 1) hx hb dX12_rulesAlone_33 (by decide) ?_
      refine va_zast (D := g) hx hb hK hP hD hS 3 3 rfl rfl (vi_rg rfl r18a (by decide) (by decide)) dX12_rulesAlone_34 (fun H locs hP hD hS => ?_)
      obtain ⟨g34, e34⟩ : ∃ z, z = upd j16_m_a25_c j16_l3.toNatClampNeg (vp_nar .boolean (1 : Int32)) := ⟨_, rfl⟩
      have hP : va_P g vwCl [(m, .inr (11, mG m_a m_thrown m_taped m_at m_token m_place m_value m_word m_bad m_badPlace m_fault m_faultPlace m_willing m_will m_forgot m_isDrawn m_x m_begin m_round m_roundCards m_fate m_any m_bothSend m_meanCards m_bestSum m_fitMany m_fitFirst m_fitSecond)), ((m_a 23), .inl (cI, 2, .inl g13)), ((m_a 24), .inl (cZ, 2, .inl g27)), ((m_a 25), .inl (cZ, 2, .inl (upd j16_m_a25_c j16_l3.toNatClampNeg (vp_nar .boolean (1 : Int32)))))] H := hP
      have hD : va_D A [(m, .inr (11, mG m_a m_thrown m_taped m_at m_token m_place m_value m_word m_bad m_badPlace m_fault m_faultPlace m_willing m_will m_forgot m_isDrawn m_x m_begin m_round m_roundCards m_fate m_any m_bothSend m_meanCards m_bestSum m_fitMany m_fitFirst m_fitSecond)), ((m_a 23), .inl (cI, 2, .inl g13)), ((m_a 24), .inl (cZ, 2, .inl g27)), ((m_a 25), .inl (cZ, 2, .inl (upd j16_m_a25_c j16_l3.toNatClampNeg (vp_nar .boolean (1 : Int32)))))] := hD
      rw [← e34] at hP hD
      obtain ⟨y35, e35⟩ : ∃ y : Int32, y = j16_l3 + 1 := ⟨_, rfl⟩
      have q35 : y35.toInt = j16_l3.toInt + 1 := by rw [e35]; exact ad_z rfl rfl r18a (ir_c 1) (by decide) (by decide)
      have r35 : ir y35.toInt 1 2 := ad_r q35 r18a (ir_c 1) (by decide) (by decide)
      refine lv_iinc (v := y35) (lv' := [(3, .int y35), (0, .ref m)]) hx hb dX12_rulesAlone_35 hl (k := 1) rfl e35.symm (by decide) rfl (fun ls hl => ?_)
      refine lv_goto (tgt := 16) hx hb dX12_rulesAlone_38 (by decide) ?_
      exact ih16 y35 g27 g34 _ _ _ (by omega) (ir_w r35 (by decide) (by decide)) (hP.sub [0, 1, 2, 3] rfl) (hD.sub [0, 1, 2, 3] (by decide) rfl) hS (lv_sub hl [1, 0] rfl)
  exact J16 _ 0 m_maySend_c m_maycome_c _ _ _ (Nat.lt_succ_self _) (by decide) (hP.sub [0, 1, 2, 3] rfl) (hD.sub [0, 1, 2, 3] (by decide) rfl) hS (lv_sub hl [1, 0] rfl)
def v_X12_cardsNow : List Cond := .code yX12_cardsNow cX12_cardsNow 1 (some .int) :: (([.fieldLink RX12 62 "CardsAtYuleModel" "sent" "[I"] : List Cond) ++ (wsX120 ++ ([] : List Cond)))
theorem good_v_X12_cardsNow : v_X12_cardsNow.all goodWord = true := ga_c (by decide +kernel) (ga_a (by decide +kernel) (ga_a good_wsX120 rfl))
set_option maxHeartbeats 4000000 in
set_option maxRecDepth 100000 in
theorem q_X12_cardsNow (l : Launch) (g : va_G) (cI cJ cB cZ cL : ClassId) (m : Nat) (m_a : Nat → Nat) (m_thrown : Int32) (m_taped : Int32) (m_at : Int32) (m_token : Int32) (m_place : Int32) (m_value : Int32) (m_word : Int64) (m_bad : Int32) (m_badPlace : Int32) (m_fault : Int32) (m_faultPlace : Int32) (m_willing : Int32) (m_will : Int32) (m_forgot : Int32) (m_isDrawn : Int32) (m_x : Int64) (m_begin : Int32) (m_round : Int32) (m_roundCards : Int32) (m_fate : Int32) (m_any : Int64) (m_bothSend : Int64) (m_meanCards : Int64) (m_bestSum : Int32) (m_fitMany : Int32) (m_fitFirst : Int64) (m_fitSecond : Int64) (m_sent_c : Nat → Int32) (sz : Nat) (hv_m_taped : ir m_taped.toInt 0 1600) (hv_m_at : ir m_at.toInt 0 1600) (hv_m_will : ir m_will.toInt 0 1) (hv_m_isDrawn : ir m_isDrawn.toInt 0 1) : Met l yX12_cardsNow v_X12_cardsNow ({ frames := 0, cells := 0, slots := 0, locals := 0 }) (va_Pc [.ref m] (pRO g (tyT cI cJ cB cZ cL) [(m, .inr (11, mG m_a m_thrown m_taped m_at m_token m_place m_value m_word m_bad m_badPlace m_fault m_faultPlace m_willing m_will m_forgot m_isDrawn m_x m_begin m_round m_roundCards m_fate m_any m_bothSend m_meanCards m_bestSum m_fitMany m_fitFirst m_fitSecond)), ((m_a 26), .inl (cI, 2, .inl m_sent_c))] sz)) (va_Qi (fun (r : Int32) (u : Unit) => (ir r.toInt 0 2)) (fun (_ : Unit) (_ : State) => True) (va_A [] sz)) 0 0 (va_A [] sz) := by
  refine Met.ofW (cc := cX12_cardsNow) (maxL := 1) (ret := (some .int)) (by decide) rfl ?_
  intro p e s mth args below meth c s₁ B hml hv
  obtain ⟨rfl, hsz, hP, hK⟩ := hv
  have hx := B.exec
  have hb := B.bytes
  have hr := B.returns
  have hts := atoms_spec (ws := v_X12_cardsNow) B.pre
  have hown : s.vm.findClass RX12 = some mth.cls := findClass_of_methodNamed B.named
  have hlocks := B.notSynchronized
  clear B
  subst hsz
  have iX12 : ∀ w ∈ wsX120, w ∈ v_X12_cardsNow := (fun _ h => List.mem_cons_of_mem _ (List.mem_append_right _ (List.mem_append_left _ h)))
  generalize hAe : (va_A [] s.heap.size) = A
  have hA : ∀ q : Nat, s.heap.size ≤ q → A q := fun q h => by rw [← hAe]; exact Or.inr h
  have hS : va_S A s.heap s.heap [] := va_S.rf
  have hl := lv_entry ([.ref m]) (n := 1) (Nat.le_of_ble_eq_true rfl)
  rw [lg_entry_eq]
  generalize (lg_sl ([.ref m]) ++ List.replicate (1 - (lg_sl ([.ref m])).length) Slot.unset).toArray = ls at hl ⊢
  generalize ([.ref m] : List Value).toArray = av at hts ⊢
  generalize hQ : MQ below _ av s _ _ A = QQ
  have hl : lv_has ls 1 [(0, .ref m)] := hl
  have hP : va_P g vwCl [(m, .inr (11, mG m_a m_thrown m_taped m_at m_token m_place m_value m_word m_bad m_badPlace m_fault m_faultPlace m_willing m_will m_forgot m_isDrawn m_x m_begin m_round m_roundCards m_fate m_any m_bothSend m_meanCards m_bestSum m_fitMany m_fitFirst m_fitSecond)), ((m_a 26), .inl (cI, 2, .inl m_sent_c))] s.heap := hP
  refine lv_aload_n hx hb dX12_cardsNow_0 rfl (lv_at hl 0 rfl) ?_
  refine va_get (D := g) (ci := 11) (v := .ref (m_a 26)) (C := RX12) (T := TX12) (N := 56) hx hb hts iX12 hown hK hP 0 rfl rfl 26 (by decide) (hts (.fieldLink RX12 62 "CardsAtYuleModel" "sent" "[I") (List.mem_cons_of_mem _ (List.mem_append_left _ (List.mem_of_getElem? (i := 0) rfl)))) (fun _ h9 => h9) rfl dX12_cardsNow_1 ?_
  refine lv_iconst (v := 0) hx hb dX12_cardsNow_4 (by decide) ?_
  refine va_iald (D := g) hx hb hK hP 1 0 rfl rfl (vc_in (by decide)) dX12_cardsNow_5 ?_
  refine lv_topi (nm_r (e' := (m_sent_c 0)) rfl ?_)
  have J14 : ∀ (j14_s0 : Int32) (H : Heap) (locs : List Loc) (ls : Array Slot), (ir j14_s0.toInt 0 1) → (ir (m_sent_c 0).toInt (-2147483648) 2147483647) → va_P g vwCl [(m, .inr (11, mG m_a m_thrown m_taped m_at m_token m_place m_value m_word m_bad m_badPlace m_fault m_faultPlace m_willing m_will m_forgot m_isDrawn m_x m_begin m_round m_roundCards m_fate m_any m_bothSend m_meanCards m_bestSum m_fitMany m_fitFirst m_fitSecond)), ((m_a 26), .inl (cI, 2, .inl m_sent_c))] H → va_S A s.heap H locs → lv_has ls 1 [(0, .ref m)] → W p l e (headSpec v_X12_cardsNow ({ frames := 0, cells := 0, slots := 0, locals := 0 })).room s mth av below meth c H locs 0 0 QQ (F0 mth 14 ls [.int j14_s0]) := by
    intro j14_s0 H locs ls hj14_s0 t14_1 hP hS hl
    refine lv_aload_n hx hb dX12_cardsNow_14 rfl (lv_at hl 0 rfl) ?_
    refine va_get (D := g) (ci := 11) (v := .ref (m_a 26)) (C := RX12) (T := TX12) (N := 56) hx hb hts iX12 hown hK hP 0 rfl rfl 26 (by decide) (hts (.fieldLink RX12 62 "CardsAtYuleModel" "sent" "[I") (List.mem_cons_of_mem _ (List.mem_append_left _ (List.mem_of_getElem? (i := 0) rfl)))) (fun _ h9 => h9) rfl dX12_cardsNow_15 ?_
    refine lv_iconst (v := 1) hx hb dX12_cardsNow_18 (by decide) ?_
    refine va_iald (D := g) hx hb hK hP 1 0 rfl rfl (vc_in (by decide)) dX12_cardsNow_19 ?_
    refine lv_topi (nm_r (e' := (m_sent_c 1)) rfl ?_)
    refine lv_if_le (tgt := 27) hx hb dX12_cardsNow_20 (by decide) (fun c20 => ?_) (fun c20 => ?_)
    · have f20 := (show (m_sent_c 1).toInt ≤ 0 from z_le rfl rfl c20)
      have r20a : ir (m_sent_c 1).toInt (-2147483648) 0 := ir_lea f20 (rg_all (m_sent_c 1)) (ir_c 0) (by decide)
      refine lv_iconst (v := 0) hx hb dX12_cardsNow_27 (by decide) ?_
      refine lv_iadd hx hb dX12_cardsNow_28 ?_
      refine lv_topi (fun y28 e28 => ?_)
      have q28 : y28.toInt = j14_s0.toInt + 0 := by rw [e28]; exact ad_z rfl rfl hj14_s0 (ir_c 0) (by decide) (by decide)
      have r28 : ir y28.toInt 0 1 := ad_r q28 hj14_s0 (ir_c 0) (by decide) (by decide)
      subst hQ
      exact W.iret (v := y28) hx hb hr (fun t ht hW => ⟨⟨y28, (), rfl, (ir_w r28 (by decide) (by decide)), trivial⟩, hS.F ht⟩) hS.2.2 dX12_cardsNow_29
    have f20 := (show 0 < (m_sent_c 1).toInt from z_nle rfl rfl c20)
    have r20a : ir (m_sent_c 1).toInt 1 2147483647 := ir_ltb f20 (ir_c 0) (rg_all (m_sent_c 1)) (by decide)
    refine lv_iconst (v := 1) hx hb dX12_cardsNow_23 (by decide) ?_
    refine lv_goto (tgt := 28) hx hb dX12_cardsNow_24 (by decide) ?_
    refine lv_iadd hx hb dX12_cardsNow_28 ?_
    refine lv_topi (fun y28 e28 => ?_)
    have q28 : y28.toInt = j14_s0.toInt + 1 := by rw [e28]; exact ad_z rfl rfl hj14_s0 (ir_c 1) (by decide) (by decide)
    have r28 : ir y28.toInt 1 2 := ad_r q28 hj14_s0 (ir_c 1) (by decide) (by decide)
    subst hQ
    exact W.iret (v := y28) hx hb hr (fun t ht hW => ⟨⟨y28, (), rfl, (ir_w r28 (by decide) (by decide)), trivial⟩, hS.F ht⟩) hS.2.2 dX12_cardsNow_29
  refine lv_if_le (tgt := 13) hx hb dX12_cardsNow_6 (by decide) (fun c6 => ?_) (fun c6 => ?_)
  · have f6 := (show (m_sent_c 0).toInt ≤ 0 from z_le rfl rfl c6)
    have r6a : ir (m_sent_c 0).toInt (-2147483648) 0 := ir_lea f6 (rg_all (m_sent_c 0)) (ir_c 0) (by decide)
    refine lv_iconst (v := 0) hx hb dX12_cardsNow_13 (by decide) ?_
    exact J14 0 _ _ _ (by decide) (ir_w r6a (by decide) (by decide)) (hP.sub [0, 1] rfl) hS (lv_sub hl [0] rfl)
  have f6 := (show 0 < (m_sent_c 0).toInt from z_nle rfl rfl c6)
  have r6a : ir (m_sent_c 0).toInt 1 2147483647 := ir_ltb f6 (ir_c 0) (rg_all (m_sent_c 0)) (by decide)
  refine lv_iconst (v := 1) hx hb dX12_cardsNow_9 (by decide) ?_
  refine lv_goto (tgt := 14) hx hb dX12_cardsNow_10 (by decide) ?_
  exact J14 1 _ _ _ (by decide) (ir_w r6a (by decide) (by decide)) (hP.sub [0, 1] rfl) hS (lv_sub hl [0] rfl)
def v_X12_isDead : List Cond := .code yX12_isDead cX12_isDead 3 (some .boolean) :: (([.methodLink RX12 273 yX12_has0, .instanceMethod yX12_has0, .selects RX12 yX12_has0 yX12_has0, .initialized RX12] : List Cond) ++ (v_X12_has0 ++ ([] : List Cond)))
theorem good_v_X12_isDead : v_X12_isDead.all goodWord = true := ga_c (by decide +kernel) (ga_a (by decide +kernel) (ga_a good_v_X12_has0 rfl))
set_option maxHeartbeats 4000000 in
set_option maxRecDepth 100000 in
theorem q_X12_isDead (l : Launch) (g : va_G) (cI cJ cB cZ cL : ClassId) (p0 : Int32) (p1 : Int32) (m : Nat) (m_a : Nat → Nat) (m_thrown : Int32) (m_taped : Int32) (m_at : Int32) (m_token : Int32) (m_place : Int32) (m_value : Int32) (m_word : Int64) (m_bad : Int32) (m_badPlace : Int32) (m_fault : Int32) (m_faultPlace : Int32) (m_willing : Int32) (m_will : Int32) (m_forgot : Int32) (m_isDrawn : Int32) (m_x : Int64) (m_begin : Int32) (m_round : Int32) (m_roundCards : Int32) (m_fate : Int32) (m_any : Int64) (m_bothSend : Int64) (m_meanCards : Int64) (m_bestSum : Int32) (m_fitMany : Int32) (m_fitFirst : Int64) (m_fitSecond : Int64) (m_person_c : Nat → Int32) (sz : Nat) (hv_p0 : ir p0.toInt 0 15) (hv_m_taped : ir m_taped.toInt 0 1600) (hv_m_at : ir m_at.toInt 0 1600) (hv_m_will : ir m_will.toInt 0 1) (hv_m_isDrawn : ir m_isDrawn.toInt 0 1) (ha_m_person_c : perI m_person_c) : Met l yX12_isDead v_X12_isDead ({ frames := 1, cells := 0, slots := 0, locals := 22 }) (va_Pc [.ref m, .int p0, .int p1] (pRO g (tyT cI cJ cB cZ cL) [(m, .inr (11, mG m_a m_thrown m_taped m_at m_token m_place m_value m_word m_bad m_badPlace m_fault m_faultPlace m_willing m_will m_forgot m_isDrawn m_x m_begin m_round m_roundCards m_fate m_any m_bothSend m_meanCards m_bestSum m_fitMany m_fitFirst m_fitSecond)), ((m_a 18), .inl (cI, 250, .inl m_person_c))] sz)) (va_Qi (fun (r : Int32) (u : Unit) => (ir r.toInt 0 1)) (fun (_ : Unit) (_ : State) => True) (va_A [] sz)) 0 0 (va_A [] sz) := by
  refine Met.ofW (cc := cX12_isDead) (maxL := 3) (ret := (some .boolean)) (by decide) rfl ?_
  intro p e s mth args below meth c s₁ B hml hv
  obtain ⟨rfl, hsz, hP, hK⟩ := hv
  have hx := B.exec
  have hb := B.bytes
  have hr := B.returns
  have hts := atoms_spec (ws := v_X12_isDead) B.pre
  have hown : s.vm.findClass RX12 = some mth.cls := findClass_of_methodNamed B.named
  have hlocks := B.notSynchronized
  clear B
  subst hsz
  generalize hAe : (va_A [] s.heap.size) = A
  have hA : ∀ q : Nat, s.heap.size ≤ q → A q := fun q h => by rw [← hAe]; exact Or.inr h
  have hS : va_S A s.heap s.heap [] := va_S.rf
  have hl := lv_entry ([.ref m, .int p0, .int p1]) (n := 3) (Nat.le_of_ble_eq_true rfl)
  rw [lg_entry_eq]
  generalize (lg_sl ([.ref m, .int p0, .int p1]) ++ List.replicate (3 - (lg_sl ([.ref m, .int p0, .int p1])).length) Slot.unset).toArray = ls at hl ⊢
  generalize ([.ref m, .int p0, .int p1] : List Value).toArray = av at hts ⊢
  generalize hQ : MQ below _ av s _ _ A = QQ
  have hl : lv_has ls 3 [(0, .ref m), (1, .int p0), (2, .int p1)] := hl
  have hP : va_P g vwCl [(m, .inr (11, mG m_a m_thrown m_taped m_at m_token m_place m_value m_word m_bad m_badPlace m_fault m_faultPlace m_willing m_will m_forgot m_isDrawn m_x m_begin m_round m_roundCards m_fate m_any m_bothSend m_meanCards m_bestSum m_fitMany m_fitFirst m_fitSecond)), ((m_a 18), .inl (cI, 250, .inl m_person_c))] s.heap := hP
  refine lv_aload_n hx hb dX12_isDead_0 rfl (lv_at hl 0 rfl) ?_
  refine lv_iload_n hx hb dX12_isDead_1 rfl (lv_at hl 1 rfl) ?_
  refine lv_iconst (v := 3) hx hb dX12_isDead_2 (by decide) ?_
  refine ro_i (va_runV (As := [.int p0, .int 3]) (rest := []) ⟨hx, hb, hml, hown, hts⟩ (q_X12_has0 l g cI cJ cB cZ cL p0 3 m m_a m_thrown m_taped m_at m_token m_place m_value m_word m_bad m_badPlace m_fault m_faultPlace m_willing m_will m_forgot m_isDrawn m_x m_begin m_round m_roundCards m_fate m_any m_bothSend m_meanCards m_bestSum m_fitMany m_fitFirst m_fitSecond m_person_c s.heap.size hv_p0 (by decide) hv_m_taped hv_m_at hv_m_will hv_m_isDrawn ha_m_person_c) (cwV 2 hts (goodIn_app (g_4 (List.mem_cons_of_mem _ (List.mem_append_left _ (List.mem_of_getElem? (i := 0) rfl))) (List.mem_cons_of_mem _ (List.mem_append_left _ (List.mem_of_getElem? (i := 1) rfl))) (List.mem_cons_of_mem _ (List.mem_append_left _ (List.mem_of_getElem? (i := 2) rfl))) (List.mem_cons_of_mem _ (List.mem_append_left _ (List.mem_of_getElem? (i := 3) rfl))) (by decide +kernel)) (goodIn_sub (fun _ h => List.mem_cons_of_mem _ (List.mem_append_right _ (List.mem_append_left _ h))) good_v_X12_has0)) rfl rfl rfl (by decide +kernel) ⟨Nat.le_of_ble_eq_true rfl, Nat.le_of_ble_eq_true rfl⟩) (pv_RO (q := (RX12, TX12, 56)) (ci := 11) (q0 := 0) (wc := [(m, .inr (11, mG m_a m_thrown m_taped m_at m_token m_place m_value m_word m_bad m_badPlace m_fault m_faultPlace m_willing m_will m_forgot m_isDrawn m_x m_begin m_round m_roundCards m_fate m_any m_bothSend m_meanCards m_bestSum m_fitMany m_fitFirst m_fitSecond)), ((m_a 18), .inl (cI, 250, .inl m_person_c))]) hK hP [0, 1] rfl rfl rfl) rfl rfl hl.1 rfl (lv_room (Nat.le_of_ble_eq_true rfl)) dX12_isDead_3 ⟨Nat.le_of_ble_eq_true rfl, Nat.le_of_ble_eq_true rfl⟩) hS hA hP (fun r3 u3 H locs hw3 hP hS => ?_)
  refine lv_iconst (v := (-1)) hx hb dX12_isDead_6 (by decide) ?_
  refine lv_icmp_eq (tgt := 24) hx hb dX12_isDead_7 (by decide) (fun c7 => ?_) (fun c7 => ?_)
  · have f7 := (show r3.toInt = (-1) from z_eq rfl rfl c7)
    have r7a : ir r3.toInt (-1) (-1) := ir_eqa f7 (rg_all r3) (ir_c (-1)) (by decide) (by decide)
    refine lv_iconst (v := 0) hx hb dX12_isDead_24 (by decide) ?_
    subst hQ
    exact W.zret (v := 0) hx hb hr rfl (fun t ht hW => ⟨⟨0, (), rfl, (show ir (0 : Int32).toInt 0 1 by decide), trivial⟩, hS.F ht⟩) hS.2.2 dX12_isDead_25
  have f7 := (show r3.toInt ≠ (-1) from z_ne rfl rfl c7)
  refine lv_iload_n hx hb dX12_isDead_10 rfl (lv_at hl 2 rfl) ?_
  refine lv_aload_n hx hb dX12_isDead_11 rfl (lv_at hl 0 rfl) ?_
  refine lv_iload_n hx hb dX12_isDead_12 rfl (lv_at hl 1 rfl) ?_
  refine lv_iconst (v := 3) hx hb dX12_isDead_13 (by decide) ?_
  refine ro_i (va_runV (As := [.int p0, .int 3]) (rest := [.int p1]) ⟨hx, hb, hml, hown, hts⟩ (q_X12_has0 l g cI cJ cB cZ cL p0 3 m m_a m_thrown m_taped m_at m_token m_place m_value m_word m_bad m_badPlace m_fault m_faultPlace m_willing m_will m_forgot m_isDrawn m_x m_begin m_round m_roundCards m_fate m_any m_bothSend m_meanCards m_bestSum m_fitMany m_fitFirst m_fitSecond m_person_c H.size hv_p0 (by decide) hv_m_taped hv_m_at hv_m_will hv_m_isDrawn ha_m_person_c) (cwV 2 hts (goodIn_app (g_4 (List.mem_cons_of_mem _ (List.mem_append_left _ (List.mem_of_getElem? (i := 0) rfl))) (List.mem_cons_of_mem _ (List.mem_append_left _ (List.mem_of_getElem? (i := 1) rfl))) (List.mem_cons_of_mem _ (List.mem_append_left _ (List.mem_of_getElem? (i := 2) rfl))) (List.mem_cons_of_mem _ (List.mem_append_left _ (List.mem_of_getElem? (i := 3) rfl))) (by decide +kernel)) (goodIn_sub (fun _ h => List.mem_cons_of_mem _ (List.mem_append_right _ (List.mem_append_left _ h))) good_v_X12_has0)) rfl rfl rfl (by decide +kernel) ⟨Nat.le_of_ble_eq_true rfl, Nat.le_of_ble_eq_true rfl⟩) (pv_RO (q := (RX12, TX12, 56)) (ci := 11) (q0 := 0) (wc := [(m, .inr (11, mG m_a m_thrown m_taped m_at m_token m_place m_value m_word m_bad m_badPlace m_fault m_faultPlace m_willing m_will m_forgot m_isDrawn m_x m_begin m_round m_roundCards m_fate m_any m_bothSend m_meanCards m_bestSum m_fitMany m_fitFirst m_fitSecond)), ((m_a 18), .inl (cI, 250, .inl m_person_c))]) hK hP [0, 1] rfl rfl rfl) rfl rfl hl.1 rfl (lv_room (Nat.le_of_ble_eq_true rfl)) dX12_isDead_14 ⟨Nat.le_of_ble_eq_true rfl, Nat.le_of_ble_eq_true rfl⟩) hS hA hP (fun r14 u14 H locs hw14 hP hS => ?_)
  refine lv_icmp_lt (tgt := 24) hx hb dX12_isDead_17 (by decide) (fun c17 => ?_) (fun c17 => ?_)
  rotate_left 1
  · have f17 := (show r14.toInt ≤ p1.toInt from z_nlt rfl rfl c17)
    refine lv_iconst (v := 1) hx hb dX12_isDead_20 (by decide) ?_
    refine lv_goto (tgt := 25) hx hb dX12_isDead_21 (by decide) ?_
    subst hQ
    exact W.zret (v := 1) hx hb hr rfl (fun t ht hW => ⟨⟨1, (), rfl, (show ir (1 : Int32).toInt 0 1 by decide), trivial⟩, hS.F ht⟩) hS.2.2 dX12_isDead_25
  have f17 := (show p1.toInt < r14.toInt from z_lt rfl rfl c17)
  have r17a : ir p1.toInt (-2147483648) 2147483646 := ir_lta f17 (rg_all p1) (rg_all r14) (by decide)
  have r17b : ir r14.toInt (-2147483647) 2147483647 := ir_ltb f17 (rg_all p1) (rg_all r14) (by decide)
  refine lv_iconst (v := 0) hx hb dX12_isDead_24 (by decide) ?_
  subst hQ
  exact W.zret (v := 0) hx hb hr rfl (fun t ht hW => ⟨⟨0, (), rfl, (show ir (0 : Int32).toInt 0 1 by decide), trivial⟩, hS.F ht⟩) hS.2.2 dX12_isDead_25
def v_X12_asTold : List Cond := .code yX12_asTold cX12_asTold 6 none :: (([.methodLink RX12 321 yX12_whoOf, .instanceMethod yX12_whoOf, .selects RX12 yX12_whoOf yX12_whoOf, .initialized RX12, .fieldLink RX12 53 "CardsAtYuleModel" "ruleNow" "[I", .methodLink RX12 324 yX12_ruleOf, .instanceMethod yX12_ruleOf, .selects RX12 yX12_ruleOf yX12_ruleOf, .fieldLink RX12 71 "CardsAtYuleModel" "oddsNow" "[I", .methodLink RX12 273 yX12_has0, .instanceMethod yX12_has0, .selects RX12 yX12_has0 yX12_has0, .fieldLink RX12 56 "CardsAtYuleModel" "maySend" "[Z", .methodLink RX12 327 yX12_isDead, .instanceMethod yX12_isDead, .selects RX12 yX12_isDead yX12_isDead, .fieldLink RX12 59 "CardsAtYuleModel" "maycome" "[Z", .fieldLink RX12 46 "CardsAtYuleModel" "strikes" "[J", .fieldLink RX12 43 "CardsAtYuleModel" "lost" "[J"] : List Cond) ++ (v_X12_whoOf ++ (v_X12_ruleOf ++ (v_X12_has0 ++ (v_X12_isDead ++ (wsX120 ++ ([] : List Cond)))))))
theorem good_v_X12_asTold : v_X12_asTold.all goodWord = true := ga_c (by decide +kernel) (ga_a (by decide +kernel) (ga_a good_v_X12_whoOf (ga_a good_v_X12_ruleOf (ga_a good_v_X12_has0 (ga_a good_v_X12_isDead (ga_a good_wsX120 rfl))))))
set_option maxHeartbeats 4000000 in
set_option maxRecDepth 100000 in
theorem q_X12_asTold (l : Launch) (g : va_G) (cI cJ cB cZ cL : ClassId) (p0 : Int32) (p1 : Int32) (m : Nat) (m_a : Nat → Nat) (m_thrown : Int32) (m_taped : Int32) (m_at : Int32) (m_token : Int32) (m_place : Int32) (m_value : Int32) (m_word : Int64) (m_bad : Int32) (m_badPlace : Int32) (m_fault : Int32) (m_faultPlace : Int32) (m_willing : Int32) (m_will : Int32) (m_forgot : Int32) (m_isDrawn : Int32) (m_x : Int64) (m_begin : Int32) (m_round : Int32) (m_roundCards : Int32) (m_fate : Int32) (m_any : Int64) (m_bothSend : Int64) (m_meanCards : Int64) (m_bestSum : Int32) (m_fitMany : Int32) (m_fitFirst : Int64) (m_fitSecond : Int64) (m_pair_c : Nat → Int32) (m_person_c : Nat → Int32) (m_ruleNow_c : Nat → Int32) (m_oddsNow_c : Nat → Int32) (m_maySend_c : Nat → Int32) (m_strikes_c : Nat → Int64) (m_lost_c : Nat → Int64) (m_maycome_c : Nat → Int32) (sz : Nat) (hv_p0 : ir p0.toInt 0 15) (hv_m_taped : ir m_taped.toInt 0 1600) (hv_m_at : ir m_at.toInt 0 1600) (hv_m_will : ir m_will.toInt 0 1) (hv_m_isDrawn : ir m_isDrawn.toInt 0 1) (ha_m_pair_c : ar m_pair_c 240 0 15) (ha_m_person_c : perI m_person_c) : Met l yX12_asTold v_X12_asTold ({ frames := 2, cells := 0, slots := 0, locals := 44 }) (va_Pc [.ref m, .int p0, .int p1] (pRW g (tyT cI cJ cB cZ cL) [(m, .inr (11, mG m_a m_thrown m_taped m_at m_token m_place m_value m_word m_bad m_badPlace m_fault m_faultPlace m_willing m_will m_forgot m_isDrawn m_x m_begin m_round m_roundCards m_fate m_any m_bothSend m_meanCards m_bestSum m_fitMany m_fitFirst m_fitSecond)), ((m_a 19), .inl (cI, 240, .inl m_pair_c)), ((m_a 18), .inl (cI, 250, .inl m_person_c)), ((m_a 23), .inl (cI, 2, .inl m_ruleNow_c)), ((m_a 33), .inl (cI, 2, .inl m_oddsNow_c)), ((m_a 24), .inl (cZ, 2, .inl m_maySend_c)), ((m_a 21), .inl (cJ, 5, .inr (.inl m_strikes_c))), ((m_a 20), .inl (cJ, 160, .inr (.inl m_lost_c))), ((m_a 25), .inl (cZ, 2, .inl m_maycome_c))] sz)) (va_Qv (fun (u : (Nat → Int32) × (Nat → Int32) × (Nat → Int32) × (Nat → Int32)) => match u with | (n_m_ruleNow_c, n_m_oddsNow_c, n_m_maySend_c, n_m_maycome_c) => True) (fun (u : (Nat → Int32) × (Nat → Int32) × (Nat → Int32) × (Nat → Int32)) (t : State) => bRW g (tyT cI cJ cB cZ cL) (va_A [(m, .inr (11, mG m_a m_thrown m_taped m_at m_token m_place m_value m_word m_bad m_badPlace m_fault m_faultPlace m_willing m_will m_forgot m_isDrawn m_x m_begin m_round m_roundCards m_fate m_any m_bothSend m_meanCards m_bestSum m_fitMany m_fitFirst m_fitSecond)), ((m_a 19), .inl (cI, 240, .inl m_pair_c)), ((m_a 18), .inl (cI, 250, .inl m_person_c)), ((m_a 23), .inl (cI, 2, .inl m_ruleNow_c)), ((m_a 33), .inl (cI, 2, .inl m_oddsNow_c)), ((m_a 24), .inl (cZ, 2, .inl m_maySend_c)), ((m_a 21), .inl (cJ, 5, .inr (.inl m_strikes_c))), ((m_a 20), .inl (cJ, 160, .inr (.inl m_lost_c))), ((m_a 25), .inl (cZ, 2, .inl m_maycome_c))] sz) (match u with | (n_m_ruleNow_c, n_m_oddsNow_c, n_m_maySend_c, n_m_maycome_c) => [(m, .inr (11, mG m_a m_thrown m_taped m_at m_token m_place m_value m_word m_bad m_badPlace m_fault m_faultPlace m_willing m_will m_forgot m_isDrawn m_x m_begin m_round m_roundCards m_fate m_any m_bothSend m_meanCards m_bestSum m_fitMany m_fitFirst m_fitSecond)), ((m_a 19), .inl (cI, 240, .inl m_pair_c)), ((m_a 18), .inl (cI, 250, .inl m_person_c)), ((m_a 23), .inl (cI, 2, .inl n_m_ruleNow_c)), ((m_a 33), .inl (cI, 2, .inl n_m_oddsNow_c)), ((m_a 24), .inl (cZ, 2, .inl n_m_maySend_c)), ((m_a 21), .inl (cJ, 5, .inr (.inl m_strikes_c))), ((m_a 20), .inl (cJ, 160, .inr (.inl m_lost_c))), ((m_a 25), .inl (cZ, 2, .inl n_m_maycome_c))]) t) (va_A [(m, .inr (11, mG m_a m_thrown m_taped m_at m_token m_place m_value m_word m_bad m_badPlace m_fault m_faultPlace m_willing m_will m_forgot m_isDrawn m_x m_begin m_round m_roundCards m_fate m_any m_bothSend m_meanCards m_bestSum m_fitMany m_fitFirst m_fitSecond)), ((m_a 19), .inl (cI, 240, .inl m_pair_c)), ((m_a 18), .inl (cI, 250, .inl m_person_c)), ((m_a 23), .inl (cI, 2, .inl m_ruleNow_c)), ((m_a 33), .inl (cI, 2, .inl m_oddsNow_c)), ((m_a 24), .inl (cZ, 2, .inl m_maySend_c)), ((m_a 21), .inl (cJ, 5, .inr (.inl m_strikes_c))), ((m_a 20), .inl (cJ, 160, .inr (.inl m_lost_c))), ((m_a 25), .inl (cZ, 2, .inl m_maycome_c))] sz)) 0 0 (va_A [(m, .inr (11, mG m_a m_thrown m_taped m_at m_token m_place m_value m_word m_bad m_badPlace m_fault m_faultPlace m_willing m_will m_forgot m_isDrawn m_x m_begin m_round m_roundCards m_fate m_any m_bothSend m_meanCards m_bestSum m_fitMany m_fitFirst m_fitSecond)), ((m_a 19), .inl (cI, 240, .inl m_pair_c)), ((m_a 18), .inl (cI, 250, .inl m_person_c)), ((m_a 23), .inl (cI, 2, .inl m_ruleNow_c)), ((m_a 33), .inl (cI, 2, .inl m_oddsNow_c)), ((m_a 24), .inl (cZ, 2, .inl m_maySend_c)), ((m_a 21), .inl (cJ, 5, .inr (.inl m_strikes_c))), ((m_a 20), .inl (cJ, 160, .inr (.inl m_lost_c))), ((m_a 25), .inl (cZ, 2, .inl m_maycome_c))] sz) := by
  refine Met.ofW (cc := cX12_asTold) (maxL := 6) (ret := none) (by decide) rfl ?_
  intro p e s mth args below meth c s₁ B hml hv
  obtain ⟨rfl, hsz, hP, hK, hD0⟩ := hv
  have hx := B.exec
  have hb := B.bytes
  have hr := B.returns
  have hts := atoms_spec (ws := v_X12_asTold) B.pre
  have hown : s.vm.findClass RX12 = some mth.cls := findClass_of_methodNamed B.named
  have hlocks := B.notSynchronized
  clear B
  subst hsz
  have iX12 : ∀ w ∈ wsX120, w ∈ v_X12_asTold := (fun _ h => List.mem_cons_of_mem _ (List.mem_append_right _ (List.mem_append_right _ (List.mem_append_right _ (List.mem_append_right _ (List.mem_append_right _ (List.mem_append_left _ h)))))))
  have hD := hD0.self (sz := s.heap.size)
  generalize hAe : (va_A [(m, .inr (11, mG m_a m_thrown m_taped m_at m_token m_place m_value m_word m_bad m_badPlace m_fault m_faultPlace m_willing m_will m_forgot m_isDrawn m_x m_begin m_round m_roundCards m_fate m_any m_bothSend m_meanCards m_bestSum m_fitMany m_fitFirst m_fitSecond)), ((m_a 19), .inl (cI, 240, .inl m_pair_c)), ((m_a 18), .inl (cI, 250, .inl m_person_c)), ((m_a 23), .inl (cI, 2, .inl m_ruleNow_c)), ((m_a 33), .inl (cI, 2, .inl m_oddsNow_c)), ((m_a 24), .inl (cZ, 2, .inl m_maySend_c)), ((m_a 21), .inl (cJ, 5, .inr (.inl m_strikes_c))), ((m_a 20), .inl (cJ, 160, .inr (.inl m_lost_c))), ((m_a 25), .inl (cZ, 2, .inl m_maycome_c))] s.heap.size) = A at hD ⊢
  have hA : ∀ q : Nat, s.heap.size ≤ q → A q := fun q h => by rw [← hAe]; exact Or.inr h
  have hS : va_S A s.heap s.heap [] := va_S.rf
  have hl := lv_entry ([.ref m, .int p0, .int p1]) (n := 6) (Nat.le_of_ble_eq_true rfl)
  rw [lg_entry_eq]
  generalize (lg_sl ([.ref m, .int p0, .int p1]) ++ List.replicate (6 - (lg_sl ([.ref m, .int p0, .int p1])).length) Slot.unset).toArray = ls at hl ⊢
  generalize ([.ref m, .int p0, .int p1] : List Value).toArray = av at hts ⊢
  generalize hQ : MQ below _ av s _ _ A = QQ
  have hl : lv_has ls 6 [(0, .ref m), (1, .int p0), (2, .int p1)] := hl
  have hP : va_P g vwCl [(m, .inr (11, mG m_a m_thrown m_taped m_at m_token m_place m_value m_word m_bad m_badPlace m_fault m_faultPlace m_willing m_will m_forgot m_isDrawn m_x m_begin m_round m_roundCards m_fate m_any m_bothSend m_meanCards m_bestSum m_fitMany m_fitFirst m_fitSecond)), ((m_a 19), .inl (cI, 240, .inl m_pair_c)), ((m_a 18), .inl (cI, 250, .inl m_person_c)), ((m_a 23), .inl (cI, 2, .inl m_ruleNow_c)), ((m_a 33), .inl (cI, 2, .inl m_oddsNow_c)), ((m_a 24), .inl (cZ, 2, .inl m_maySend_c)), ((m_a 21), .inl (cJ, 5, .inr (.inl m_strikes_c))), ((m_a 20), .inl (cJ, 160, .inr (.inl m_lost_c))), ((m_a 25), .inl (cZ, 2, .inl m_maycome_c))] s.heap := hP
  refine lv_iconst (v := 0) hx hb dX12_asTold_0 (by decide) ?_
  refine lv_istore_n (lv' := [(3, .int 0), (0, .ref m), (1, .int p0), (2, .int p1)]) hx hb dX12_asTold_1 rfl hl (by decide) rfl (fun ls hl => ?_)
  have J2 : ∀ (n2 : Nat) (j2_l3 : Int32) (j2_m_a23_c : Nat → Int32) (j2_m_a33_c : Nat → Int32) (j2_m_a24_c : Nat → Int32) (j2_m_a25_c : Nat → Int32) (H : Heap) (locs : List Loc) (ls : Array Slot), (3 - j2_l3.toInt).toNat < n2 → (ir j2_l3.toInt 0 2) → va_P g vwCl [(m, .inr (11, mG m_a m_thrown m_taped m_at m_token m_place m_value m_word m_bad m_badPlace m_fault m_faultPlace m_willing m_will m_forgot m_isDrawn m_x m_begin m_round m_roundCards m_fate m_any m_bothSend m_meanCards m_bestSum m_fitMany m_fitFirst m_fitSecond)), ((m_a 19), .inl (cI, 240, .inl m_pair_c)), ((m_a 18), .inl (cI, 250, .inl m_person_c)), ((m_a 23), .inl (cI, 2, .inl j2_m_a23_c)), ((m_a 33), .inl (cI, 2, .inl j2_m_a33_c)), ((m_a 24), .inl (cZ, 2, .inl j2_m_a24_c)), ((m_a 21), .inl (cJ, 5, .inr (.inl m_strikes_c))), ((m_a 20), .inl (cJ, 160, .inr (.inl m_lost_c))), ((m_a 25), .inl (cZ, 2, .inl j2_m_a25_c))] H → va_D A [(m, .inr (11, mG m_a m_thrown m_taped m_at m_token m_place m_value m_word m_bad m_badPlace m_fault m_faultPlace m_willing m_will m_forgot m_isDrawn m_x m_begin m_round m_roundCards m_fate m_any m_bothSend m_meanCards m_bestSum m_fitMany m_fitFirst m_fitSecond)), ((m_a 19), .inl (cI, 240, .inl m_pair_c)), ((m_a 18), .inl (cI, 250, .inl m_person_c)), ((m_a 23), .inl (cI, 2, .inl j2_m_a23_c)), ((m_a 33), .inl (cI, 2, .inl j2_m_a33_c)), ((m_a 24), .inl (cZ, 2, .inl j2_m_a24_c)), ((m_a 21), .inl (cJ, 5, .inr (.inl m_strikes_c))), ((m_a 20), .inl (cJ, 160, .inr (.inl m_lost_c))), ((m_a 25), .inl (cZ, 2, .inl j2_m_a25_c))] → va_S A s.heap H locs → lv_has ls 6 [(0, .ref m), (1, .int p0), (2, .int p1), (3, .int j2_l3)] → W p l e (headSpec v_X12_asTold ({ frames := 2, cells := 0, slots := 0, locals := 44 })).room s mth av below meth c H locs 0 0 QQ (F0 mth 2 ls []) := by
    intro n2
    induction n2 with
    | zero => exact fun j2_l3 j2_m_a23_c j2_m_a33_c j2_m_a24_c j2_m_a25_c H locs ls hn => absurd hn (Nat.not_lt_zero _)
    | succ n2 ih2 =>
      intro j2_l3 j2_m_a23_c j2_m_a33_c j2_m_a24_c j2_m_a25_c H locs ls hn2 hj2_l3 hP hD hS hl
      refine lv_iload_n hx hb dX12_asTold_2 rfl (lv_at hl 3 rfl) ?_
      refine lv_iconst (v := 2) hx hb dX12_asTold_3 (by decide) ?_
      refine lv_icmp_ge (tgt := 143) hx hb dX12_asTold_4 (by decide) (fun c4 => ?_) (fun c4 => ?_)
      · have f4 := (show 2 ≤ j2_l3.toInt from z_le rfl rfl c4)
        have r4a : ir j2_l3.toInt 2 2 := ir_leb f4 (ir_c 2) hj2_l3 (by decide)
        subst hQ
        have hP9 := hP.sub (ws' := [(m, .inr (11, mG m_a m_thrown m_taped m_at m_token m_place m_value m_word m_bad m_badPlace m_fault m_faultPlace m_willing m_will m_forgot m_isDrawn m_x m_begin m_round m_roundCards m_fate m_any m_bothSend m_meanCards m_bestSum m_fitMany m_fitFirst m_fitSecond)), ((m_a 19), .inl (cI, 240, .inl m_pair_c)), ((m_a 18), .inl (cI, 250, .inl m_person_c)), ((m_a 23), .inl (cI, 2, .inl j2_m_a23_c)), ((m_a 33), .inl (cI, 2, .inl j2_m_a33_c)), ((m_a 24), .inl (cZ, 2, .inl j2_m_a24_c)), ((m_a 21), .inl (cJ, 5, .inr (.inl m_strikes_c))), ((m_a 20), .inl (cJ, 160, .inr (.inl m_lost_c))), ((m_a 25), .inl (cZ, 2, .inl j2_m_a25_c))]) [0, 1, 2, 3, 4, 5, 6, 7, 8] rfl
        have hD9 := hD.sub (ws' := [(m, .inr (11, mG m_a m_thrown m_taped m_at m_token m_place m_value m_word m_bad m_badPlace m_fault m_faultPlace m_willing m_will m_forgot m_isDrawn m_x m_begin m_round m_roundCards m_fate m_any m_bothSend m_meanCards m_bestSum m_fitMany m_fitFirst m_fitSecond)), ((m_a 19), .inl (cI, 240, .inl m_pair_c)), ((m_a 18), .inl (cI, 250, .inl m_person_c)), ((m_a 23), .inl (cI, 2, .inl j2_m_a23_c)), ((m_a 33), .inl (cI, 2, .inl j2_m_a33_c)), ((m_a 24), .inl (cZ, 2, .inl j2_m_a24_c)), ((m_a 21), .inl (cJ, 5, .inr (.inl m_strikes_c))), ((m_a 20), .inl (cJ, 160, .inr (.inl m_lost_c))), ((m_a 25), .inl (cZ, 2, .inl j2_m_a25_c))]) [0, 1, 2, 3, 4, 5, 6, 7, 8] (by decide) rfl
        exact W.vret hx hb hr (fun t ht hW => ⟨⟨(j2_m_a23_c, j2_m_a33_c, j2_m_a24_c, j2_m_a25_c), rfl, trivial, ⟨by rw [ht]; exact hP9, va_K.moved hW.alike hK, hD9⟩⟩, hS.F ht⟩) hS.2.2 dX12_asTold_143
      have f4 := (show j2_l3.toInt < 2 from z_nle rfl rfl c4)
      have r4a : ir j2_l3.toInt 0 1 := ir_lta f4 hj2_l3 (ir_c 2) (by decide)
      refine lv_aload_n hx hb dX12_asTold_7 rfl (lv_at hl 0 rfl) ?_
      refine lv_iload_n hx hb dX12_asTold_8 rfl (lv_at hl 1 rfl) ?_
      refine lv_iload_n hx hb dX12_asTold_9 rfl (lv_at hl 3 rfl) ?_
      refine ro_i (va_runV (As := [.int p0, .int j2_l3]) (rest := []) ⟨hx, hb, hml, hown, hts⟩ (q_X12_whoOf l g cI cJ cB cZ cL p0 j2_l3 m m_a m_thrown m_taped m_at m_token m_place m_value m_word m_bad m_badPlace m_fault m_faultPlace m_willing m_will m_forgot m_isDrawn m_x m_begin m_round m_roundCards m_fate m_any m_bothSend m_meanCards m_bestSum m_fitMany m_fitFirst m_fitSecond m_pair_c H.size hv_p0 r4a hv_m_taped hv_m_at hv_m_will hv_m_isDrawn ha_m_pair_c) (cwV 2 hts (goodIn_app (g_4 (List.mem_cons_of_mem _ (List.mem_append_left _ (List.mem_of_getElem? (i := 0) rfl))) (List.mem_cons_of_mem _ (List.mem_append_left _ (List.mem_of_getElem? (i := 1) rfl))) (List.mem_cons_of_mem _ (List.mem_append_left _ (List.mem_of_getElem? (i := 2) rfl))) (List.mem_cons_of_mem _ (List.mem_append_left _ (List.mem_of_getElem? (i := 3) rfl))) (by decide +kernel)) (goodIn_sub (fun _ h => List.mem_cons_of_mem _ (List.mem_append_right _ (List.mem_append_left _ h))) good_v_X12_whoOf)) rfl rfl rfl (by decide +kernel) ⟨Nat.le_of_ble_eq_true rfl, Nat.le_of_ble_eq_true rfl⟩) (pv_RO (q := (RX12, TX12, 56)) (ci := 11) (q0 := 0) (wc := [(m, .inr (11, mG m_a m_thrown m_taped m_at m_token m_place m_value m_word m_bad m_badPlace m_fault m_faultPlace m_willing m_will m_forgot m_isDrawn m_x m_begin m_round m_roundCards m_fate m_any m_bothSend m_meanCards m_bestSum m_fitMany m_fitFirst m_fitSecond)), ((m_a 19), .inl (cI, 240, .inl m_pair_c))]) hK hP [0, 1] rfl rfl rfl) rfl rfl hl.1 rfl (lv_room (Nat.le_of_ble_eq_true rfl)) dX12_asTold_10 ⟨Nat.le_of_ble_eq_true rfl, Nat.le_of_ble_eq_true rfl⟩) hS hA hP (fun r10 u10 H locs hw10 hP hS => ?_)
      obtain ⟨hw10_0, hw10_1⟩ := hw10
      have hw10_0 : r10 = whoV m_pair_c p0 j2_l3 := hw10_0
      refine lv_istore (lv' := [(4, .int r10), (0, .ref m), (1, .int p0), (2, .int p1), (3, .int j2_l3)]) hx hb dX12_asTold_13 hl (by decide) rfl (fun ls hl => ?_)
      refine lv_aload_n hx hb dX12_asTold_15 rfl (lv_at hl 1 rfl) ?_
      refine lv_iload_n hx hb dX12_asTold_16 rfl (lv_at hl 2 rfl) ?_
      refine lv_iconst (v := 1) hx hb dX12_asTold_17 (by decide) ?_
      refine lv_iload_n hx hb dX12_asTold_18 rfl (lv_at hl 4 rfl) ?_
      refine lv_isub hx hb dX12_asTold_19 ?_
      refine lv_topi (fun y19 e19 => ?_)
      have q19 : y19.toInt = 1 - j2_l3.toInt := by rw [e19]; exact su_z rfl rfl (ir_c 1) r4a (by decide) (by decide)
      have r19 : ir y19.toInt 0 1 := su_r q19 (ir_c 1) r4a (by decide) (by decide)
      refine ro_i (va_runV (As := [.int p0, .int y19]) (rest := []) ⟨hx, hb, hml, hown, hts⟩ (q_X12_whoOf l g cI cJ cB cZ cL p0 y19 m m_a m_thrown m_taped m_at m_token m_place m_value m_word m_bad m_badPlace m_fault m_faultPlace m_willing m_will m_forgot m_isDrawn m_x m_begin m_round m_roundCards m_fate m_any m_bothSend m_meanCards m_bestSum m_fitMany m_fitFirst m_fitSecond m_pair_c H.size hv_p0 r19 hv_m_taped hv_m_at hv_m_will hv_m_isDrawn ha_m_pair_c) (cwV 2 hts (goodIn_app (g_4 (List.mem_cons_of_mem _ (List.mem_append_left _ (List.mem_of_getElem? (i := 0) rfl))) (List.mem_cons_of_mem _ (List.mem_append_left _ (List.mem_of_getElem? (i := 1) rfl))) (List.mem_cons_of_mem _ (List.mem_append_left _ (List.mem_of_getElem? (i := 2) rfl))) (List.mem_cons_of_mem _ (List.mem_append_left _ (List.mem_of_getElem? (i := 3) rfl))) (by decide +kernel)) (goodIn_sub (fun _ h => List.mem_cons_of_mem _ (List.mem_append_right _ (List.mem_append_left _ h))) good_v_X12_whoOf)) rfl rfl rfl (by decide +kernel) ⟨Nat.le_of_ble_eq_true rfl, Nat.le_of_ble_eq_true rfl⟩) (pv_RO (q := (RX12, TX12, 56)) (ci := 11) (q0 := 0) (wc := [(m, .inr (11, mG m_a m_thrown m_taped m_at m_token m_place m_value m_word m_bad m_badPlace m_fault m_faultPlace m_willing m_will m_forgot m_isDrawn m_x m_begin m_round m_roundCards m_fate m_any m_bothSend m_meanCards m_bestSum m_fitMany m_fitFirst m_fitSecond)), ((m_a 19), .inl (cI, 240, .inl m_pair_c))]) hK hP [0, 1] rfl rfl rfl) rfl rfl hl.1 rfl (lv_room (Nat.le_of_ble_eq_true rfl)) dX12_asTold_20 ⟨Nat.le_of_ble_eq_true rfl, Nat.le_of_ble_eq_true rfl⟩) hS hA hP (fun r20 u20 H locs hw20 hP hS => ?_)
      obtain ⟨hw20_0, hw20_1⟩ := hw20
      have hw20_0 : r20 = whoV m_pair_c p0 y19 := hw20_0
      refine lv_istore (lv' := [(5, .int r20), (4, .int r10), (0, .ref m), (1, .int p0), (2, .int p1), (3, .int j2_l3)]) hx hb dX12_asTold_23 hl (by decide) rfl (fun ls hl => ?_)
      refine lv_aload_n hx hb dX12_asTold_25 rfl (lv_at hl 2 rfl) ?_
      refine va_get (D := g) (ci := 11) (v := .ref (m_a 23)) (C := RX12) (T := TX12) (N := 56) hx hb hts iX12 hown hK hP 0 rfl rfl 23 (by decide) (hts (.fieldLink RX12 53 "CardsAtYuleModel" "ruleNow" "[I") (List.mem_cons_of_mem _ (List.mem_append_left _ (List.mem_of_getElem? (i := 4) rfl)))) (fun _ h9 => h9) rfl dX12_asTold_26 ?_
      refine lv_iload_n hx hb dX12_asTold_29 rfl (lv_at hl 5 rfl) ?_
      refine lv_aload_n hx hb dX12_asTold_30 rfl (lv_at hl 2 rfl) ?_
      refine lv_iload hx hb dX12_asTold_31 (lv_at hl 1 rfl) ?_
      refine ro_i (va_runV (As := [.int r10]) (rest := [.int j2_l3, .ref (m_a 23)]) ⟨hx, hb, hml, hown, hts⟩ (q_X12_ruleOf l g cI cJ cB cZ cL r10 m m_a m_thrown m_taped m_at m_token m_place m_value m_word m_bad m_badPlace m_fault m_faultPlace m_willing m_will m_forgot m_isDrawn m_x m_begin m_round m_roundCards m_fate m_any m_bothSend m_meanCards m_bestSum m_fitMany m_fitFirst m_fitSecond m_person_c H.size hw10_1 hv_m_taped hv_m_at hv_m_will hv_m_isDrawn ha_m_person_c) (cwV 1 hts (goodIn_app (g_4 (List.mem_cons_of_mem _ (List.mem_append_left _ (List.mem_of_getElem? (i := 5) rfl))) (List.mem_cons_of_mem _ (List.mem_append_left _ (List.mem_of_getElem? (i := 6) rfl))) (List.mem_cons_of_mem _ (List.mem_append_left _ (List.mem_of_getElem? (i := 7) rfl))) (List.mem_cons_of_mem _ (List.mem_append_left _ (List.mem_of_getElem? (i := 3) rfl))) (by decide +kernel)) (goodIn_sub (fun _ h => List.mem_cons_of_mem _ (List.mem_append_right _ (List.mem_append_right _ (List.mem_append_left _ h)))) good_v_X12_ruleOf)) rfl rfl rfl (by decide +kernel) ⟨Nat.le_of_ble_eq_true rfl, Nat.le_of_ble_eq_true rfl⟩) (pv_RO (q := (RX12, TX12, 56)) (ci := 11) (q0 := 0) (wc := [(m, .inr (11, mG m_a m_thrown m_taped m_at m_token m_place m_value m_word m_bad m_badPlace m_fault m_faultPlace m_willing m_will m_forgot m_isDrawn m_x m_begin m_round m_roundCards m_fate m_any m_bothSend m_meanCards m_bestSum m_fitMany m_fitFirst m_fitSecond)), ((m_a 18), .inl (cI, 250, .inl m_person_c))]) hK hP [0, 2] rfl rfl rfl) rfl rfl hl.1 rfl (lv_room (Nat.le_of_ble_eq_true rfl)) dX12_asTold_33 ⟨Nat.le_of_ble_eq_true rfl, Nat.le_of_ble_eq_true rfl⟩) hS hA hP (fun r33 u33 H locs hw33 hP hS => ?_)
      obtain ⟨hw33_0, hw33_1⟩ := hw33
      have hw33_0 : r33 = ruV m_person_c r10 := hw33_0
      refine va_iast (D := g) hx hb hK hP hD hS 3 0 rfl rfl (vi_rg rfl r4a (by decide) (by decide)) dX12_asTold_36 (fun H locs hP hD hS => ?_)
      obtain ⟨g36, e36⟩ : ∃ z, z = upd j2_m_a23_c j2_l3.toNatClampNeg r33 := ⟨_, rfl⟩
      have hP : va_P g vwCl [(m, .inr (11, mG m_a m_thrown m_taped m_at m_token m_place m_value m_word m_bad m_badPlace m_fault m_faultPlace m_willing m_will m_forgot m_isDrawn m_x m_begin m_round m_roundCards m_fate m_any m_bothSend m_meanCards m_bestSum m_fitMany m_fitFirst m_fitSecond)), ((m_a 19), .inl (cI, 240, .inl m_pair_c)), ((m_a 18), .inl (cI, 250, .inl m_person_c)), ((m_a 23), .inl (cI, 2, .inl (upd j2_m_a23_c j2_l3.toNatClampNeg r33))), ((m_a 33), .inl (cI, 2, .inl j2_m_a33_c)), ((m_a 24), .inl (cZ, 2, .inl j2_m_a24_c)), ((m_a 21), .inl (cJ, 5, .inr (.inl m_strikes_c))), ((m_a 20), .inl (cJ, 160, .inr (.inl m_lost_c))), ((m_a 25), .inl (cZ, 2, .inl j2_m_a25_c))] H := hP
      have hD : va_D A [(m, .inr (11, mG m_a m_thrown m_taped m_at m_token m_place m_value m_word m_bad m_badPlace m_fault m_faultPlace m_willing m_will m_forgot m_isDrawn m_x m_begin m_round m_roundCards m_fate m_any m_bothSend m_meanCards m_bestSum m_fitMany m_fitFirst m_fitSecond)), ((m_a 19), .inl (cI, 240, .inl m_pair_c)), ((m_a 18), .inl (cI, 250, .inl m_person_c)), ((m_a 23), .inl (cI, 2, .inl (upd j2_m_a23_c j2_l3.toNatClampNeg r33))), ((m_a 33), .inl (cI, 2, .inl j2_m_a33_c)), ((m_a 24), .inl (cZ, 2, .inl j2_m_a24_c)), ((m_a 21), .inl (cJ, 5, .inr (.inl m_strikes_c))), ((m_a 20), .inl (cJ, 160, .inr (.inl m_lost_c))), ((m_a 25), .inl (cZ, 2, .inl j2_m_a25_c))] := hD
      rw [← e36] at hP hD
      refine lv_aload_n hx hb dX12_asTold_37 rfl (lv_at hl 2 rfl) ?_
      refine va_get (D := g) (ci := 11) (v := .ref (m_a 33)) (C := RX12) (T := TX12) (N := 56) hx hb hts iX12 hown hK hP 0 rfl rfl 33 (by decide) (hts (.fieldLink RX12 71 "CardsAtYuleModel" "oddsNow" "[I") (List.mem_cons_of_mem _ (List.mem_append_left _ (List.mem_of_getElem? (i := 8) rfl)))) (fun _ h9 => h9) rfl dX12_asTold_38 ?_
      refine lv_iload_n hx hb dX12_asTold_41 rfl (lv_at hl 5 rfl) ?_
      refine lv_aload_n hx hb dX12_asTold_42 rfl (lv_at hl 2 rfl) ?_
      refine lv_iload hx hb dX12_asTold_43 (lv_at hl 1 rfl) ?_
      refine lv_iconst (v := 2) hx hb dX12_asTold_45 (by decide) ?_
      refine ro_i (va_runV (As := [.int r10, .int 2]) (rest := [.int j2_l3, .ref (m_a 33)]) ⟨hx, hb, hml, hown, hts⟩ (q_X12_has0 l g cI cJ cB cZ cL r10 2 m m_a m_thrown m_taped m_at m_token m_place m_value m_word m_bad m_badPlace m_fault m_faultPlace m_willing m_will m_forgot m_isDrawn m_x m_begin m_round m_roundCards m_fate m_any m_bothSend m_meanCards m_bestSum m_fitMany m_fitFirst m_fitSecond m_person_c H.size hw10_1 (by decide) hv_m_taped hv_m_at hv_m_will hv_m_isDrawn ha_m_person_c) (cwV 2 hts (goodIn_app (g_4 (List.mem_cons_of_mem _ (List.mem_append_left _ (List.mem_of_getElem? (i := 9) rfl))) (List.mem_cons_of_mem _ (List.mem_append_left _ (List.mem_of_getElem? (i := 10) rfl))) (List.mem_cons_of_mem _ (List.mem_append_left _ (List.mem_of_getElem? (i := 11) rfl))) (List.mem_cons_of_mem _ (List.mem_append_left _ (List.mem_of_getElem? (i := 3) rfl))) (by decide +kernel)) (goodIn_sub (fun _ h => List.mem_cons_of_mem _ (List.mem_append_right _ (List.mem_append_right _ (List.mem_append_right _ (List.mem_append_left _ h))))) good_v_X12_has0)) rfl rfl rfl (by decide +kernel) ⟨Nat.le_of_ble_eq_true rfl, Nat.le_of_ble_eq_true rfl⟩) (pv_RO (q := (RX12, TX12, 56)) (ci := 11) (q0 := 0) (wc := [(m, .inr (11, mG m_a m_thrown m_taped m_at m_token m_place m_value m_word m_bad m_badPlace m_fault m_faultPlace m_willing m_will m_forgot m_isDrawn m_x m_begin m_round m_roundCards m_fate m_any m_bothSend m_meanCards m_bestSum m_fitMany m_fitFirst m_fitSecond)), ((m_a 18), .inl (cI, 250, .inl m_person_c))]) hK hP [0, 2] rfl rfl rfl) rfl rfl hl.1 rfl (lv_room (Nat.le_of_ble_eq_true rfl)) dX12_asTold_46 ⟨Nat.le_of_ble_eq_true rfl, Nat.le_of_ble_eq_true rfl⟩) hS hA hP (fun r46 u46 H locs hw46 hP hS => ?_)
      refine va_iast (D := g) hx hb hK hP hD hS 4 0 rfl rfl (vi_rg rfl r4a (by decide) (by decide)) dX12_asTold_49 (fun H locs hP hD hS => ?_)
      obtain ⟨g49, e49⟩ : ∃ z, z = upd j2_m_a33_c j2_l3.toNatClampNeg r46 := ⟨_, rfl⟩
      have hP : va_P g vwCl [(m, .inr (11, mG m_a m_thrown m_taped m_at m_token m_place m_value m_word m_bad m_badPlace m_fault m_faultPlace m_willing m_will m_forgot m_isDrawn m_x m_begin m_round m_roundCards m_fate m_any m_bothSend m_meanCards m_bestSum m_fitMany m_fitFirst m_fitSecond)), ((m_a 19), .inl (cI, 240, .inl m_pair_c)), ((m_a 18), .inl (cI, 250, .inl m_person_c)), ((m_a 23), .inl (cI, 2, .inl g36)), ((m_a 33), .inl (cI, 2, .inl (upd j2_m_a33_c j2_l3.toNatClampNeg r46))), ((m_a 24), .inl (cZ, 2, .inl j2_m_a24_c)), ((m_a 21), .inl (cJ, 5, .inr (.inl m_strikes_c))), ((m_a 20), .inl (cJ, 160, .inr (.inl m_lost_c))), ((m_a 25), .inl (cZ, 2, .inl j2_m_a25_c))] H := hP
      have hD : va_D A [(m, .inr (11, mG m_a m_thrown m_taped m_at m_token m_place m_value m_word m_bad m_badPlace m_fault m_faultPlace m_willing m_will m_forgot m_isDrawn m_x m_begin m_round m_roundCards m_fate m_any m_bothSend m_meanCards m_bestSum m_fitMany m_fitFirst m_fitSecond)), ((m_a 19), .inl (cI, 240, .inl m_pair_c)), ((m_a 18), .inl (cI, 250, .inl m_person_c)), ((m_a 23), .inl (cI, 2, .inl g36)), ((m_a 33), .inl (cI, 2, .inl (upd j2_m_a33_c j2_l3.toNatClampNeg r46))), ((m_a 24), .inl (cZ, 2, .inl j2_m_a24_c)), ((m_a 21), .inl (cJ, 5, .inr (.inl m_strikes_c))), ((m_a 20), .inl (cJ, 160, .inr (.inl m_lost_c))), ((m_a 25), .inl (cZ, 2, .inl j2_m_a25_c))] := hD
      rw [← e49] at hP hD
      refine lv_aload_n hx hb dX12_asTold_50 rfl (lv_at hl 2 rfl) ?_
      refine va_get (D := g) (ci := 11) (v := .ref (m_a 24)) (C := RX12) (T := TX12) (N := 56) hx hb hts iX12 hown hK hP 0 rfl rfl 24 (by decide) (hts (.fieldLink RX12 56 "CardsAtYuleModel" "maySend" "[Z") (List.mem_cons_of_mem _ (List.mem_append_left _ (List.mem_of_getElem? (i := 12) rfl)))) (fun _ h9 => h9) rfl dX12_asTold_51 ?_
      refine lv_iload_n hx hb dX12_asTold_54 rfl (lv_at hl 5 rfl) ?_
      refine lv_aload_n hx hb dX12_asTold_55 rfl (lv_at hl 2 rfl) ?_
      refine lv_iload hx hb dX12_asTold_56 (lv_at hl 1 rfl) ?_
      refine lv_iload_n hx hb dX12_asTold_58 rfl (lv_at hl 4 rfl) ?_
      refine ro_i (va_runV (As := [.int r10, .int p1]) (rest := [.int j2_l3, .ref (m_a 24)]) ⟨hx, hb, hml, hown, hts⟩ (q_X12_isDead l g cI cJ cB cZ cL r10 p1 m m_a m_thrown m_taped m_at m_token m_place m_value m_word m_bad m_badPlace m_fault m_faultPlace m_willing m_will m_forgot m_isDrawn m_x m_begin m_round m_roundCards m_fate m_any m_bothSend m_meanCards m_bestSum m_fitMany m_fitFirst m_fitSecond m_person_c H.size hw10_1 hv_m_taped hv_m_at hv_m_will hv_m_isDrawn ha_m_person_c) (cwV 2 hts (goodIn_app (g_4 (List.mem_cons_of_mem _ (List.mem_append_left _ (List.mem_of_getElem? (i := 13) rfl))) (List.mem_cons_of_mem _ (List.mem_append_left _ (List.mem_of_getElem? (i := 14) rfl))) (List.mem_cons_of_mem _ (List.mem_append_left _ (List.mem_of_getElem? (i := 15) rfl))) (List.mem_cons_of_mem _ (List.mem_append_left _ (List.mem_of_getElem? (i := 3) rfl))) (by decide +kernel)) (goodIn_sub (fun _ h => List.mem_cons_of_mem _ (List.mem_append_right _ (List.mem_append_right _ (List.mem_append_right _ (List.mem_append_right _ (List.mem_append_left _ h)))))) good_v_X12_isDead)) rfl rfl rfl (by decide +kernel) ⟨Nat.le_of_ble_eq_true rfl, Nat.le_of_ble_eq_true rfl⟩) (pv_RO (q := (RX12, TX12, 56)) (ci := 11) (q0 := 0) (wc := [(m, .inr (11, mG m_a m_thrown m_taped m_at m_token m_place m_value m_word m_bad m_badPlace m_fault m_faultPlace m_willing m_will m_forgot m_isDrawn m_x m_begin m_round m_roundCards m_fate m_any m_bothSend m_meanCards m_bestSum m_fitMany m_fitFirst m_fitSecond)), ((m_a 18), .inl (cI, 250, .inl m_person_c))]) hK hP [0, 2] rfl rfl rfl) rfl rfl hl.1 rfl (lv_room (Nat.le_of_ble_eq_true rfl)) dX12_asTold_59 ⟨Nat.le_of_ble_eq_true rfl, Nat.le_of_ble_eq_true rfl⟩) hS hA hP (fun r59 u59 H locs hw59 hP hS => ?_)
      have hw59_0 := hw59
      have J70 : ∀ (j70_s0 : Int32) (H : Heap) (locs : List Loc) (ls : Array Slot), (ir j70_s0.toInt 0 1) → va_P g vwCl [(m, .inr (11, mG m_a m_thrown m_taped m_at m_token m_place m_value m_word m_bad m_badPlace m_fault m_faultPlace m_willing m_will m_forgot m_isDrawn m_x m_begin m_round m_roundCards m_fate m_any m_bothSend m_meanCards m_bestSum m_fitMany m_fitFirst m_fitSecond)), ((m_a 19), .inl (cI, 240, .inl m_pair_c)), ((m_a 18), .inl (cI, 250, .inl m_person_c)), ((m_a 23), .inl (cI, 2, .inl g36)), ((m_a 33), .inl (cI, 2, .inl g49)), ((m_a 24), .inl (cZ, 2, .inl j2_m_a24_c)), ((m_a 21), .inl (cJ, 5, .inr (.inl m_strikes_c))), ((m_a 20), .inl (cJ, 160, .inr (.inl m_lost_c))), ((m_a 25), .inl (cZ, 2, .inl j2_m_a25_c))] H → va_D A [(m, .inr (11, mG m_a m_thrown m_taped m_at m_token m_place m_value m_word m_bad m_badPlace m_fault m_faultPlace m_willing m_will m_forgot m_isDrawn m_x m_begin m_round m_roundCards m_fate m_any m_bothSend m_meanCards m_bestSum m_fitMany m_fitFirst m_fitSecond)), ((m_a 19), .inl (cI, 240, .inl m_pair_c)), ((m_a 18), .inl (cI, 250, .inl m_person_c)), ((m_a 23), .inl (cI, 2, .inl g36)), ((m_a 33), .inl (cI, 2, .inl g49)), ((m_a 24), .inl (cZ, 2, .inl j2_m_a24_c)), ((m_a 21), .inl (cJ, 5, .inr (.inl m_strikes_c))), ((m_a 20), .inl (cJ, 160, .inr (.inl m_lost_c))), ((m_a 25), .inl (cZ, 2, .inl j2_m_a25_c))] → va_S A s.heap H locs → lv_has ls 6 [(0, .ref m), (1, .int p0), (2, .int p1), (3, .int j2_l3), (5, .int r20)] → W p l e (headSpec v_X12_asTold ({ frames := 2, cells := 0, slots := 0, locals := 44 })).room s mth av below meth c H locs 0 0 QQ (F0 mth 70 ls [.int j70_s0, .int j2_l3, .ref (m_a 24)]) := by
        intro j70_s0 H locs ls hj70_s0 hP hD hS hl
        refine va_zast (D := g) hx hb hK hP hD hS 5 3 rfl rfl (vi_rg rfl r4a (by decide) (by decide)) dX12_asTold_70 (fun H locs hP hD hS => ?_)
        obtain ⟨g70, e70⟩ : ∃ z, z = upd j2_m_a24_c j2_l3.toNatClampNeg (vp_nar .boolean j70_s0) := ⟨_, rfl⟩
        have hP : va_P g vwCl [(m, .inr (11, mG m_a m_thrown m_taped m_at m_token m_place m_value m_word m_bad m_badPlace m_fault m_faultPlace m_willing m_will m_forgot m_isDrawn m_x m_begin m_round m_roundCards m_fate m_any m_bothSend m_meanCards m_bestSum m_fitMany m_fitFirst m_fitSecond)), ((m_a 19), .inl (cI, 240, .inl m_pair_c)), ((m_a 18), .inl (cI, 250, .inl m_person_c)), ((m_a 23), .inl (cI, 2, .inl g36)), ((m_a 33), .inl (cI, 2, .inl g49)), ((m_a 24), .inl (cZ, 2, .inl (upd j2_m_a24_c j2_l3.toNatClampNeg (vp_nar .boolean j70_s0)))), ((m_a 21), .inl (cJ, 5, .inr (.inl m_strikes_c))), ((m_a 20), .inl (cJ, 160, .inr (.inl m_lost_c))), ((m_a 25), .inl (cZ, 2, .inl j2_m_a25_c))] H := hP
        have hD : va_D A [(m, .inr (11, mG m_a m_thrown m_taped m_at m_token m_place m_value m_word m_bad m_badPlace m_fault m_faultPlace m_willing m_will m_forgot m_isDrawn m_x m_begin m_round m_roundCards m_fate m_any m_bothSend m_meanCards m_bestSum m_fitMany m_fitFirst m_fitSecond)), ((m_a 19), .inl (cI, 240, .inl m_pair_c)), ((m_a 18), .inl (cI, 250, .inl m_person_c)), ((m_a 23), .inl (cI, 2, .inl g36)), ((m_a 33), .inl (cI, 2, .inl g49)), ((m_a 24), .inl (cZ, 2, .inl (upd j2_m_a24_c j2_l3.toNatClampNeg (vp_nar .boolean j70_s0)))), ((m_a 21), .inl (cJ, 5, .inr (.inl m_strikes_c))), ((m_a 20), .inl (cJ, 160, .inr (.inl m_lost_c))), ((m_a 25), .inl (cZ, 2, .inl j2_m_a25_c))] := hD
        rw [← e70] at hP hD
        refine lv_aload_n hx hb dX12_asTold_71 rfl (lv_at hl 0 rfl) ?_
        refine va_get (D := g) (ci := 11) (v := .ref (m_a 25)) (C := RX12) (T := TX12) (N := 56) hx hb hts iX12 hown hK hP 0 rfl rfl 25 (by decide) (hts (.fieldLink RX12 59 "CardsAtYuleModel" "maycome" "[Z") (List.mem_cons_of_mem _ (List.mem_append_left _ (List.mem_of_getElem? (i := 16) rfl)))) (fun _ h9 => h9) rfl dX12_asTold_72 ?_
        refine lv_iload_n hx hb dX12_asTold_75 rfl (lv_at hl 3 rfl) ?_
        refine lv_aload_n hx hb dX12_asTold_76 rfl (lv_at hl 0 rfl) ?_
        refine va_get (D := g) (ci := 11) (v := .ref (m_a 21)) (C := RX12) (T := TX12) (N := 56) hx hb hts iX12 hown hK hP 0 rfl rfl 21 (by decide) (hts (.fieldLink RX12 46 "CardsAtYuleModel" "strikes" "[J") (List.mem_cons_of_mem _ (List.mem_append_left _ (List.mem_of_getElem? (i := 17) rfl)))) (fun _ h9 => h9) rfl dX12_asTold_77 ?_
        refine lv_iconst (v := 0) hx hb dX12_asTold_80 (by decide) ?_
        refine va_lald (D := g) hx hb hK hP 6 1 rfl rfl (vc_in (by decide)) dX12_asTold_81 ?_
        refine lv_topl (nm_r (e' := (m_strikes_c 0)) rfl ?_)
        refine lv_iload_n hx hb dX12_asTold_82 rfl (lv_at hl 2 rfl) ?_
        refine lv_lshr (v := ((m_strikes_c 0) >>> (p1.toInt64 &&& 63))) hx hb dX12_asTold_83 rfl ?_
        refine lv_topl (fun y83 e83 => ?_)
        refine lv_lconst (v := 1) hx hb dX12_asTold_84 (by decide) ?_
        refine lv_land hx hb dX12_asTold_85 ?_
        refine lv_topl (fun y85 e85 => ?_)
        have r85 : ir y85.toInt 0 1 := by rw [e85]; exact lan_y (by decide)
        refine lv_lconst (v := 0) hx hb dX12_asTold_86 (by decide) ?_
        refine W.lcmp hx hb dX12_asTold_87 ?_
        have J136 : ∀ (j136_s0 : Int32) (H : Heap) (locs : List Loc) (ls : Array Slot), (ir j136_s0.toInt 0 1) → va_P g vwCl [(m, .inr (11, mG m_a m_thrown m_taped m_at m_token m_place m_value m_word m_bad m_badPlace m_fault m_faultPlace m_willing m_will m_forgot m_isDrawn m_x m_begin m_round m_roundCards m_fate m_any m_bothSend m_meanCards m_bestSum m_fitMany m_fitFirst m_fitSecond)), ((m_a 19), .inl (cI, 240, .inl m_pair_c)), ((m_a 18), .inl (cI, 250, .inl m_person_c)), ((m_a 23), .inl (cI, 2, .inl g36)), ((m_a 33), .inl (cI, 2, .inl g49)), ((m_a 24), .inl (cZ, 2, .inl g70)), ((m_a 21), .inl (cJ, 5, .inr (.inl m_strikes_c))), ((m_a 20), .inl (cJ, 160, .inr (.inl m_lost_c))), ((m_a 25), .inl (cZ, 2, .inl j2_m_a25_c))] H → va_D A [(m, .inr (11, mG m_a m_thrown m_taped m_at m_token m_place m_value m_word m_bad m_badPlace m_fault m_faultPlace m_willing m_will m_forgot m_isDrawn m_x m_begin m_round m_roundCards m_fate m_any m_bothSend m_meanCards m_bestSum m_fitMany m_fitFirst m_fitSecond)), ((m_a 19), .inl (cI, 240, .inl m_pair_c)), ((m_a 18), .inl (cI, 250, .inl m_person_c)), ((m_a 23), .inl (cI, 2, .inl g36)), ((m_a 33), .inl (cI, 2, .inl g49)), ((m_a 24), .inl (cZ, 2, .inl g70)), ((m_a 21), .inl (cJ, 5, .inr (.inl m_strikes_c))), ((m_a 20), .inl (cJ, 160, .inr (.inl m_lost_c))), ((m_a 25), .inl (cZ, 2, .inl j2_m_a25_c))] → va_S A s.heap H locs → lv_has ls 6 [(0, .ref m), (1, .int p0), (2, .int p1), (3, .int j2_l3)] → W p l e (headSpec v_X12_asTold ({ frames := 2, cells := 0, slots := 0, locals := 44 })).room s mth av below meth c H locs 0 0 QQ (F0 mth 136 ls [.int j136_s0, .int j2_l3, .ref (m_a 25)]) := by
          intro j136_s0 H locs ls hj136_s0 hP hD hS hl
          refine va_zast (D := g) hx hb hK hP hD hS 8 3 rfl rfl (vi_rg rfl r4a (by decide) (by decide)) dX12_asTold_136 (fun H locs hP hD hS => ?_)
          obtain ⟨g136, e136⟩ : ∃ z, z = upd j2_m_a25_c j2_l3.toNatClampNeg (vp_nar .boolean j136_s0) := ⟨_, rfl⟩
          have hP : va_P g vwCl [(m, .inr (11, mG m_a m_thrown m_taped m_at m_token m_place m_value m_word m_bad m_badPlace m_fault m_faultPlace m_willing m_will m_forgot m_isDrawn m_x m_begin m_round m_roundCards m_fate m_any m_bothSend m_meanCards m_bestSum m_fitMany m_fitFirst m_fitSecond)), ((m_a 19), .inl (cI, 240, .inl m_pair_c)), ((m_a 18), .inl (cI, 250, .inl m_person_c)), ((m_a 23), .inl (cI, 2, .inl g36)), ((m_a 33), .inl (cI, 2, .inl g49)), ((m_a 24), .inl (cZ, 2, .inl g70)), ((m_a 21), .inl (cJ, 5, .inr (.inl m_strikes_c))), ((m_a 20), .inl (cJ, 160, .inr (.inl m_lost_c))), ((m_a 25), .inl (cZ, 2, .inl (upd j2_m_a25_c j2_l3.toNatClampNeg (vp_nar .boolean j136_s0))))] H := hP
          have hD : va_D A [(m, .inr (11, mG m_a m_thrown m_taped m_at m_token m_place m_value m_word m_bad m_badPlace m_fault m_faultPlace m_willing m_will m_forgot m_isDrawn m_x m_begin m_round m_roundCards m_fate m_any m_bothSend m_meanCards m_bestSum m_fitMany m_fitFirst m_fitSecond)), ((m_a 19), .inl (cI, 240, .inl m_pair_c)), ((m_a 18), .inl (cI, 250, .inl m_person_c)), ((m_a 23), .inl (cI, 2, .inl g36)), ((m_a 33), .inl (cI, 2, .inl g49)), ((m_a 24), .inl (cZ, 2, .inl g70)), ((m_a 21), .inl (cJ, 5, .inr (.inl m_strikes_c))), ((m_a 20), .inl (cJ, 160, .inr (.inl m_lost_c))), ((m_a 25), .inl (cZ, 2, .inl (upd j2_m_a25_c j2_l3.toNatClampNeg (vp_nar .boolean j136_s0))))] := hD
          rw [← e136] at hP hD
          obtain ⟨y137, e137⟩ : ∃ y : Int32, y = j2_l3 + 1 := ⟨_, rfl⟩
          have q137 : y137.toInt = j2_l3.toInt + 1 := by rw [e137]; exact ad_z rfl rfl r4a (ir_c 1) (by decide) (by decide)
          have r137 : ir y137.toInt 1 2 := ad_r q137 r4a (ir_c 1) (by decide) (by decide)
          refine lv_iinc (v := y137) (lv' := [(3, .int y137), (0, .ref m), (1, .int p0), (2, .int p1)]) hx hb dX12_asTold_137 hl (k := 3) rfl e137.symm (by decide) rfl (fun ls hl => ?_)
          refine lv_goto (tgt := 2) hx hb dX12_asTold_140 (by decide) ?_
          exact ih2 y137 g36 g49 g70 g136 _ _ _ (by omega) (ir_w r137 (by decide) (by decide)) (hP.sub [0, 1, 2, 3, 4, 5, 6, 7, 8] rfl) (hD.sub [0, 1, 2, 3, 4, 5, 6, 7, 8] (by decide) rfl) hS (lv_sub hl [1, 2, 3, 0] rfl)
        have J135 : ∀  (H : Heap) (locs : List Loc) (ls : Array Slot), va_P g vwCl [(m, .inr (11, mG m_a m_thrown m_taped m_at m_token m_place m_value m_word m_bad m_badPlace m_fault m_faultPlace m_willing m_will m_forgot m_isDrawn m_x m_begin m_round m_roundCards m_fate m_any m_bothSend m_meanCards m_bestSum m_fitMany m_fitFirst m_fitSecond)), ((m_a 19), .inl (cI, 240, .inl m_pair_c)), ((m_a 18), .inl (cI, 250, .inl m_person_c)), ((m_a 23), .inl (cI, 2, .inl g36)), ((m_a 33), .inl (cI, 2, .inl g49)), ((m_a 24), .inl (cZ, 2, .inl g70)), ((m_a 21), .inl (cJ, 5, .inr (.inl m_strikes_c))), ((m_a 20), .inl (cJ, 160, .inr (.inl m_lost_c))), ((m_a 25), .inl (cZ, 2, .inl j2_m_a25_c))] H → va_D A [(m, .inr (11, mG m_a m_thrown m_taped m_at m_token m_place m_value m_word m_bad m_badPlace m_fault m_faultPlace m_willing m_will m_forgot m_isDrawn m_x m_begin m_round m_roundCards m_fate m_any m_bothSend m_meanCards m_bestSum m_fitMany m_fitFirst m_fitSecond)), ((m_a 19), .inl (cI, 240, .inl m_pair_c)), ((m_a 18), .inl (cI, 250, .inl m_person_c)), ((m_a 23), .inl (cI, 2, .inl g36)), ((m_a 33), .inl (cI, 2, .inl g49)), ((m_a 24), .inl (cZ, 2, .inl g70)), ((m_a 21), .inl (cJ, 5, .inr (.inl m_strikes_c))), ((m_a 20), .inl (cJ, 160, .inr (.inl m_lost_c))), ((m_a 25), .inl (cZ, 2, .inl j2_m_a25_c))] → va_S A s.heap H locs → lv_has ls 6 [(0, .ref m), (1, .int p0), (2, .int p1), (3, .int j2_l3)] → W p l e (headSpec v_X12_asTold ({ frames := 2, cells := 0, slots := 0, locals := 44 })).room s mth av below meth c H locs 0 0 QQ (F0 mth 135 ls [.int j2_l3, .ref (m_a 25)]) := by
          intro  H locs ls  hP hD hS hl
          refine lv_iconst (v := 0) hx hb dX12_asTold_135 (by decide) ?_
          exact J136 0 _ _ _ (by decide) (hP.sub [0, 1, 2, 3, 4, 5, 6, 7, 8] rfl) (hD.sub [0, 1, 2, 3, 4, 5, 6, 7, 8] (by decide) rfl) hS (lv_sub hl [0, 1, 2, 3] rfl)
        refine lv_if_ne (tgt := 135) hx hb dX12_asTold_88 (by decide) (fun c88 => ?_) (fun c88 => ?_)
        · have f88 := (show y85.toInt ≠ 0 from y_ne rfl rfl c88)
          have r88a : ir y85.toInt 1 1 := ir_nel f88 r85 (by decide) (by decide)
          exact J135  _ _ _  (hP.sub [0, 1, 2, 3, 4, 5, 6, 7, 8] rfl) (hD.sub [0, 1, 2, 3, 4, 5, 6, 7, 8] (by decide) rfl) hS (lv_sub hl [0, 1, 2, 3] rfl)
        have f88 := (show y85.toInt = 0 from y_eq rfl rfl c88)
        have r88a : ir y85.toInt 0 0 := ir_eqa f88 r85 (ir_c 0) (by decide) (by decide)
        refine lv_aload_n hx hb dX12_asTold_91 rfl (lv_at hl 0 rfl) ?_
        refine va_get (D := g) (ci := 11) (v := .ref (m_a 20)) (C := RX12) (T := TX12) (N := 56) hx hb hts iX12 hown hK hP 0 rfl rfl 20 (by decide) (hts (.fieldLink RX12 43 "CardsAtYuleModel" "lost" "[J") (List.mem_cons_of_mem _ (List.mem_append_left _ (List.mem_of_getElem? (i := 18) rfl)))) (fun _ h9 => h9) rfl dX12_asTold_92 ?_
        refine lv_iconst (v := 2) hx hb dX12_asTold_95 (by decide) ?_
        refine lv_iload_n hx hb dX12_asTold_96 rfl (lv_at hl 1 rfl) ?_
        refine lv_imul hx hb dX12_asTold_97 ?_
        refine lv_topi (fun y97 e97 => ?_)
        have q97 : y97.toInt = 2 * p0.toInt := by rw [e97]; exact mu_z rfl rfl (ir_c 2) hv_p0 (by decide) (by decide) (by decide)
        have r97 : ir y97.toInt 0 30 := mu_r q97 (ir_c 2) hv_p0 (by decide) (by decide) (by decide) (by decide)
        refine lv_iload_n hx hb dX12_asTold_98 rfl (lv_at hl 3 rfl) ?_
        refine lv_iadd hx hb dX12_asTold_99 ?_
        refine lv_topi (fun y99 e99 => ?_)
        have q99 : y99.toInt = y97.toInt + j2_l3.toInt := by rw [e99]; exact ad_z rfl rfl r97 r4a (by decide) (by decide)
        have r99 : ir y99.toInt 0 31 := ad_r q99 r97 r4a (by decide) (by decide)
        refine va_lald (D := g) hx hb hK hP 7 1 rfl rfl (vi_rg rfl r99 (by decide) (by decide)) dX12_asTold_100 ?_
        refine lv_topl (fun y100 e100 => ?_)
        refine lv_iload_n hx hb dX12_asTold_101 rfl (lv_at hl 2 rfl) ?_
        refine lv_lshr (v := (y100 >>> (p1.toInt64 &&& 63))) hx hb dX12_asTold_102 rfl ?_
        refine lv_topl (fun y102 e102 => ?_)
        refine lv_lconst (v := 1) hx hb dX12_asTold_103 (by decide) ?_
        refine lv_land hx hb dX12_asTold_104 ?_
        refine lv_topl (fun y104 e104 => ?_)
        have r104 : ir y104.toInt 0 1 := by rw [e104]; exact lan_y (by decide)
        refine lv_lconst (v := 0) hx hb dX12_asTold_105 (by decide) ?_
        refine W.lcmp hx hb dX12_asTold_106 ?_
        refine lv_if_ne (tgt := 135) hx hb dX12_asTold_107 (by decide) (fun c107 => ?_) (fun c107 => ?_)
        · have f107 := (show y104.toInt ≠ 0 from y_ne rfl rfl c107)
          have r107a : ir y104.toInt 1 1 := ir_nel f107 r104 (by decide) (by decide)
          exact J135  _ _ _  (hP.sub [0, 1, 2, 3, 4, 5, 6, 7, 8] rfl) (hD.sub [0, 1, 2, 3, 4, 5, 6, 7, 8] (by decide) rfl) hS (lv_sub hl [0, 1, 2, 3] rfl)
        have f107 := (show y104.toInt = 0 from y_eq rfl rfl c107)
        have r107a : ir y104.toInt 0 0 := ir_eqa f107 r104 (ir_c 0) (by decide) (by decide)
        refine lv_aload_n hx hb dX12_asTold_110 rfl (lv_at hl 0 rfl) ?_
        refine lv_iload hx hb dX12_asTold_111 (lv_at hl 4 rfl) ?_
        refine lv_iload_n hx hb dX12_asTold_113 rfl (lv_at hl 2 rfl) ?_
        refine ro_i (va_runV (As := [.int r20, .int p1]) (rest := [.int j2_l3, .ref (m_a 25)]) ⟨hx, hb, hml, hown, hts⟩ (q_X12_isDead l g cI cJ cB cZ cL r20 p1 m m_a m_thrown m_taped m_at m_token m_place m_value m_word m_bad m_badPlace m_fault m_faultPlace m_willing m_will m_forgot m_isDrawn m_x m_begin m_round m_roundCards m_fate m_any m_bothSend m_meanCards m_bestSum m_fitMany m_fitFirst m_fitSecond m_person_c H.size hw20_1 hv_m_taped hv_m_at hv_m_will hv_m_isDrawn ha_m_person_c) (cwV 2 hts (goodIn_app (g_4 (List.mem_cons_of_mem _ (List.mem_append_left _ (List.mem_of_getElem? (i := 13) rfl))) (List.mem_cons_of_mem _ (List.mem_append_left _ (List.mem_of_getElem? (i := 14) rfl))) (List.mem_cons_of_mem _ (List.mem_append_left _ (List.mem_of_getElem? (i := 15) rfl))) (List.mem_cons_of_mem _ (List.mem_append_left _ (List.mem_of_getElem? (i := 3) rfl))) (by decide +kernel)) (goodIn_sub (fun _ h => List.mem_cons_of_mem _ (List.mem_append_right _ (List.mem_append_right _ (List.mem_append_right _ (List.mem_append_right _ (List.mem_append_left _ h)))))) good_v_X12_isDead)) rfl rfl rfl (by decide +kernel) ⟨Nat.le_of_ble_eq_true rfl, Nat.le_of_ble_eq_true rfl⟩) (pv_RO (q := (RX12, TX12, 56)) (ci := 11) (q0 := 0) (wc := [(m, .inr (11, mG m_a m_thrown m_taped m_at m_token m_place m_value m_word m_bad m_badPlace m_fault m_faultPlace m_willing m_will m_forgot m_isDrawn m_x m_begin m_round m_roundCards m_fate m_any m_bothSend m_meanCards m_bestSum m_fitMany m_fitFirst m_fitSecond)), ((m_a 18), .inl (cI, 250, .inl m_person_c))]) hK hP [0, 2] rfl rfl rfl) rfl rfl hl.1 rfl (lv_room (Nat.le_of_ble_eq_true rfl)) dX12_asTold_114 ⟨Nat.le_of_ble_eq_true rfl, Nat.le_of_ble_eq_true rfl⟩) hS hA hP (fun r114 u114 H locs hw114 hP hS => ?_)
        have hw114_0 := hw114
        refine lv_if_ne (tgt := 135) hx hb dX12_asTold_117 (by decide) (fun c117 => ?_) (fun c117 => ?_)
        · have f117 := (show r114.toInt ≠ 0 from z_ne rfl rfl c117)
          have r117a : ir r114.toInt 1 1 := ir_nel f117 hw114_0 (by decide) (by decide)
          exact J135  _ _ _  (hP.sub [0, 1, 2, 3, 4, 5, 6, 7, 8] rfl) (hD.sub [0, 1, 2, 3, 4, 5, 6, 7, 8] (by decide) rfl) hS (lv_sub hl [0, 1, 2, 3] rfl)
        have f117 := (show r114.toInt = 0 from z_eq rfl rfl c117)
        have r117a : ir r114.toInt 0 0 := ir_eqa f117 hw114_0 (ir_c 0) (by decide) (by decide)
        refine lv_aload_n hx hb dX12_asTold_120 rfl (lv_at hl 0 rfl) ?_
        refine lv_iload hx hb dX12_asTold_121 (lv_at hl 4 rfl) ?_
        refine lv_iconst (v := 4) hx hb dX12_asTold_123 (by decide) ?_
        refine ro_i (va_runV (As := [.int r20, .int 4]) (rest := [.int j2_l3, .ref (m_a 25)]) ⟨hx, hb, hml, hown, hts⟩ (q_X12_has0 l g cI cJ cB cZ cL r20 4 m m_a m_thrown m_taped m_at m_token m_place m_value m_word m_bad m_badPlace m_fault m_faultPlace m_willing m_will m_forgot m_isDrawn m_x m_begin m_round m_roundCards m_fate m_any m_bothSend m_meanCards m_bestSum m_fitMany m_fitFirst m_fitSecond m_person_c H.size hw20_1 (by decide) hv_m_taped hv_m_at hv_m_will hv_m_isDrawn ha_m_person_c) (cwV 2 hts (goodIn_app (g_4 (List.mem_cons_of_mem _ (List.mem_append_left _ (List.mem_of_getElem? (i := 9) rfl))) (List.mem_cons_of_mem _ (List.mem_append_left _ (List.mem_of_getElem? (i := 10) rfl))) (List.mem_cons_of_mem _ (List.mem_append_left _ (List.mem_of_getElem? (i := 11) rfl))) (List.mem_cons_of_mem _ (List.mem_append_left _ (List.mem_of_getElem? (i := 3) rfl))) (by decide +kernel)) (goodIn_sub (fun _ h => List.mem_cons_of_mem _ (List.mem_append_right _ (List.mem_append_right _ (List.mem_append_right _ (List.mem_append_left _ h))))) good_v_X12_has0)) rfl rfl rfl (by decide +kernel) ⟨Nat.le_of_ble_eq_true rfl, Nat.le_of_ble_eq_true rfl⟩) (pv_RO (q := (RX12, TX12, 56)) (ci := 11) (q0 := 0) (wc := [(m, .inr (11, mG m_a m_thrown m_taped m_at m_token m_place m_value m_word m_bad m_badPlace m_fault m_faultPlace m_willing m_will m_forgot m_isDrawn m_x m_begin m_round m_roundCards m_fate m_any m_bothSend m_meanCards m_bestSum m_fitMany m_fitFirst m_fitSecond)), ((m_a 18), .inl (cI, 250, .inl m_person_c))]) hK hP [0, 2] rfl rfl rfl) rfl rfl hl.1 rfl (lv_room (Nat.le_of_ble_eq_true rfl)) dX12_asTold_124 ⟨Nat.le_of_ble_eq_true rfl, Nat.le_of_ble_eq_true rfl⟩) hS hA hP (fun r124 u124 H locs hw124 hP hS => ?_)
        refine lv_iload_n hx hb dX12_asTold_127 rfl (lv_at hl 2 rfl) ?_
        refine lv_icmp_eq (tgt := 135) hx hb dX12_asTold_128 (by decide) (fun c128 => ?_) (fun c128 => ?_)
        · have f128 := (show r124.toInt = p1.toInt from z_eq rfl rfl c128)
          exact J135  _ _ _  (hP.sub [0, 1, 2, 3, 4, 5, 6, 7, 8] rfl) (hD.sub [0, 1, 2, 3, 4, 5, 6, 7, 8] (by decide) rfl) hS (lv_sub hl [0, 1, 2, 3] rfl)
        have f128 := (show r124.toInt ≠ p1.toInt from z_ne rfl rfl c128)
        refine lv_iconst (v := 1) hx hb dX12_asTold_131 (by decide) ?_
        refine lv_goto (tgt := 136) hx hb dX12_asTold_132 (by decide) ?_
        exact J136 1 _ _ _ (by decide) (hP.sub [0, 1, 2, 3, 4, 5, 6, 7, 8] rfl) (hD.sub [0, 1, 2, 3, 4, 5, 6, 7, 8] (by decide) rfl) hS (lv_sub hl [0, 1, 2, 3] rfl)
      refine lv_if_ne (tgt := 69) hx hb dX12_asTold_62 (by decide) (fun c62 => ?_) (fun c62 => ?_)
      · have f62 := (show r59.toInt ≠ 0 from z_ne rfl rfl c62)
        have r62a : ir r59.toInt 1 1 := ir_nel f62 hw59_0 (by decide) (by decide)
        refine lv_iconst (v := 0) hx hb dX12_asTold_69 (by decide) ?_
        exact J70 0 _ _ _ (by decide) (hP.sub [0, 1, 2, 3, 4, 5, 6, 7, 8] rfl) (hD.sub [0, 1, 2, 3, 4, 5, 6, 7, 8] (by decide) rfl) hS (lv_sub hl [2, 3, 4, 5, 0] rfl)
      have f62 := (show r59.toInt = 0 from z_eq rfl rfl c62)
      have r62a : ir r59.toInt 0 0 := ir_eqa f62 hw59_0 (ir_c 0) (by decide) (by decide)
      refine lv_iconst (v := 1) hx hb dX12_asTold_65 (by decide) ?_
      refine lv_goto (tgt := 70) hx hb dX12_asTold_66 (by decide) ?_
      exact J70 1 _ _ _ (by decide) (hP.sub [0, 1, 2, 3, 4, 5, 6, 7, 8] rfl) (hD.sub [0, 1, 2, 3, 4, 5, 6, 7, 8] (by decide) rfl) hS (lv_sub hl [2, 3, 4, 5, 0] rfl)
  exact J2 _ 0 m_ruleNow_c m_oddsNow_c m_maySend_c m_maycome_c _ _ _ (Nat.lt_succ_self _) (by decide) (hP.sub [0, 1, 2, 3, 4, 5, 6, 7, 8] rfl) (hD.sub [0, 1, 2, 3, 4, 5, 6, 7, 8] (by decide) rfl) hS (lv_sub hl [1, 2, 3, 0] rfl)
def v_X12_keepsYear : List Cond := .code yX12_keepsYear cX12_keepsYear 5 none :: (([.fieldLink RX12 83 "CardsAtYuleModel" "states" "[I", .fieldLink RX12 77 "CardsAtYuleModel" "sends" "[I", .fieldLink RX12 62 "CardsAtYuleModel" "sent" "[I", .fieldLink RX12 80 "CardsAtYuleModel" "got" "[Z", .fieldLink RX12 65 "CardsAtYuleModel" "gets" "[Z"] : List Cond) ++ (wsX120 ++ ([] : List Cond)))
theorem good_v_X12_keepsYear : v_X12_keepsYear.all goodWord = true := ga_c (by decide +kernel) (ga_a (by decide +kernel) (ga_a good_wsX120 rfl))
set_option maxHeartbeats 4000000 in
set_option maxRecDepth 100000 in
theorem q_X12_keepsYear (l : Launch) (g : va_G) (cI cJ cB cZ cL : ClassId) (p0 : Int32) (p1 : Int32) (p2 : Int32) (m : Nat) (m_a : Nat → Nat) (m_thrown : Int32) (m_taped : Int32) (m_at : Int32) (m_token : Int32) (m_place : Int32) (m_value : Int32) (m_word : Int64) (m_bad : Int32) (m_badPlace : Int32) (m_fault : Int32) (m_faultPlace : Int32) (m_willing : Int32) (m_will : Int32) (m_forgot : Int32) (m_isDrawn : Int32) (m_x : Int64) (m_begin : Int32) (m_round : Int32) (m_roundCards : Int32) (m_fate : Int32) (m_any : Int64) (m_bothSend : Int64) (m_meanCards : Int64) (m_bestSum : Int32) (m_fitMany : Int32) (m_fitFirst : Int64) (m_fitSecond : Int64) (m_sent_c : Nat → Int32) (m_sends_c : Nat → Int32) (m_gets_c : Nat → Int32) (m_got_c : Nat → Int32) (m_states_c : Nat → Int32) (sz : Nat) (hv_p0 : ir p0.toInt 0 15) (hv_p1 : ir p1.toInt 0 39) (hv_p2 : ir p2.toInt 0 15) (hv_m_taped : ir m_taped.toInt 0 1600) (hv_m_at : ir m_at.toInt 0 1600) (hv_m_will : ir m_will.toInt 0 1) (hv_m_isDrawn : ir m_isDrawn.toInt 0 1) (ha_m_got_c : ar m_got_c 1280 0 1) (ha_m_states_c : ar m_states_c 656 0 15) : Met l yX12_keepsYear v_X12_keepsYear ({ frames := 0, cells := 0, slots := 0, locals := 0 }) (va_Pc [.ref m, .int p0, .int p1, .int p2] (pRW g (tyT cI cJ cB cZ cL) [(m, .inr (11, mG m_a m_thrown m_taped m_at m_token m_place m_value m_word m_bad m_badPlace m_fault m_faultPlace m_willing m_will m_forgot m_isDrawn m_x m_begin m_round m_roundCards m_fate m_any m_bothSend m_meanCards m_bestSum m_fitMany m_fitFirst m_fitSecond)), ((m_a 26), .inl (cI, 2, .inl m_sent_c)), ((m_a 35), .inl (cI, 1280, .inl m_sends_c)), ((m_a 27), .inl (cZ, 2, .inl m_gets_c)), ((m_a 36), .inl (cZ, 1280, .inl m_got_c)), ((m_a 37), .inl (cI, 656, .inl m_states_c))] sz)) (va_Qv (fun (u : (Nat → Int32) × (Nat → Int32) × (Nat → Int32)) => match u with | (n_m_sends_c, n_m_got_c, n_m_states_c) => (ar n_m_got_c 1280 0 1) ∧ (ar n_m_states_c 656 0 15)) (fun (u : (Nat → Int32) × (Nat → Int32) × (Nat → Int32)) (t : State) => bRW g (tyT cI cJ cB cZ cL) (va_A [(m, .inr (11, mG m_a m_thrown m_taped m_at m_token m_place m_value m_word m_bad m_badPlace m_fault m_faultPlace m_willing m_will m_forgot m_isDrawn m_x m_begin m_round m_roundCards m_fate m_any m_bothSend m_meanCards m_bestSum m_fitMany m_fitFirst m_fitSecond)), ((m_a 26), .inl (cI, 2, .inl m_sent_c)), ((m_a 35), .inl (cI, 1280, .inl m_sends_c)), ((m_a 27), .inl (cZ, 2, .inl m_gets_c)), ((m_a 36), .inl (cZ, 1280, .inl m_got_c)), ((m_a 37), .inl (cI, 656, .inl m_states_c))] sz) (match u with | (n_m_sends_c, n_m_got_c, n_m_states_c) => [(m, .inr (11, mG m_a m_thrown m_taped m_at m_token m_place m_value m_word m_bad m_badPlace m_fault m_faultPlace m_willing m_will m_forgot m_isDrawn m_x m_begin m_round m_roundCards m_fate m_any m_bothSend m_meanCards m_bestSum m_fitMany m_fitFirst m_fitSecond)), ((m_a 26), .inl (cI, 2, .inl m_sent_c)), ((m_a 35), .inl (cI, 1280, .inl n_m_sends_c)), ((m_a 27), .inl (cZ, 2, .inl m_gets_c)), ((m_a 36), .inl (cZ, 1280, .inl n_m_got_c)), ((m_a 37), .inl (cI, 656, .inl n_m_states_c))]) t) (va_A [(m, .inr (11, mG m_a m_thrown m_taped m_at m_token m_place m_value m_word m_bad m_badPlace m_fault m_faultPlace m_willing m_will m_forgot m_isDrawn m_x m_begin m_round m_roundCards m_fate m_any m_bothSend m_meanCards m_bestSum m_fitMany m_fitFirst m_fitSecond)), ((m_a 26), .inl (cI, 2, .inl m_sent_c)), ((m_a 35), .inl (cI, 1280, .inl m_sends_c)), ((m_a 27), .inl (cZ, 2, .inl m_gets_c)), ((m_a 36), .inl (cZ, 1280, .inl m_got_c)), ((m_a 37), .inl (cI, 656, .inl m_states_c))] sz)) 0 0 (va_A [(m, .inr (11, mG m_a m_thrown m_taped m_at m_token m_place m_value m_word m_bad m_badPlace m_fault m_faultPlace m_willing m_will m_forgot m_isDrawn m_x m_begin m_round m_roundCards m_fate m_any m_bothSend m_meanCards m_bestSum m_fitMany m_fitFirst m_fitSecond)), ((m_a 26), .inl (cI, 2, .inl m_sent_c)), ((m_a 35), .inl (cI, 1280, .inl m_sends_c)), ((m_a 27), .inl (cZ, 2, .inl m_gets_c)), ((m_a 36), .inl (cZ, 1280, .inl m_got_c)), ((m_a 37), .inl (cI, 656, .inl m_states_c))] sz) := by
  refine Met.ofW (cc := cX12_keepsYear) (maxL := 5) (ret := none) (by decide) rfl ?_
  intro p e s mth args below meth c s₁ B hml hv
  obtain ⟨rfl, hsz, hP, hK, hD0⟩ := hv
  have hx := B.exec
  have hb := B.bytes
  have hr := B.returns
  have hts := atoms_spec (ws := v_X12_keepsYear) B.pre
  have hown : s.vm.findClass RX12 = some mth.cls := findClass_of_methodNamed B.named
  have hlocks := B.notSynchronized
  clear B
  subst hsz
  have iX12 : ∀ w ∈ wsX120, w ∈ v_X12_keepsYear := (fun _ h => List.mem_cons_of_mem _ (List.mem_append_right _ (List.mem_append_left _ h)))
  have hD := hD0.self (sz := s.heap.size)
  generalize hAe : (va_A [(m, .inr (11, mG m_a m_thrown m_taped m_at m_token m_place m_value m_word m_bad m_badPlace m_fault m_faultPlace m_willing m_will m_forgot m_isDrawn m_x m_begin m_round m_roundCards m_fate m_any m_bothSend m_meanCards m_bestSum m_fitMany m_fitFirst m_fitSecond)), ((m_a 26), .inl (cI, 2, .inl m_sent_c)), ((m_a 35), .inl (cI, 1280, .inl m_sends_c)), ((m_a 27), .inl (cZ, 2, .inl m_gets_c)), ((m_a 36), .inl (cZ, 1280, .inl m_got_c)), ((m_a 37), .inl (cI, 656, .inl m_states_c))] s.heap.size) = A at hD ⊢
  have hA : ∀ q : Nat, s.heap.size ≤ q → A q := fun q h => by rw [← hAe]; exact Or.inr h
  have hS : va_S A s.heap s.heap [] := va_S.rf
  have hl := lv_entry ([.ref m, .int p0, .int p1, .int p2]) (n := 5) (Nat.le_of_ble_eq_true rfl)
  rw [lg_entry_eq]
  generalize (lg_sl ([.ref m, .int p0, .int p1, .int p2]) ++ List.replicate (5 - (lg_sl ([.ref m, .int p0, .int p1, .int p2])).length) Slot.unset).toArray = ls at hl ⊢
  generalize ([.ref m, .int p0, .int p1, .int p2] : List Value).toArray = av at hts ⊢
  generalize hQ : MQ below _ av s _ _ A = QQ
  have hl : lv_has ls 5 [(0, .ref m), (1, .int p0), (2, .int p1), (3, .int p2)] := hl
  have hP : va_P g vwCl [(m, .inr (11, mG m_a m_thrown m_taped m_at m_token m_place m_value m_word m_bad m_badPlace m_fault m_faultPlace m_willing m_will m_forgot m_isDrawn m_x m_begin m_round m_roundCards m_fate m_any m_bothSend m_meanCards m_bestSum m_fitMany m_fitFirst m_fitSecond)), ((m_a 26), .inl (cI, 2, .inl m_sent_c)), ((m_a 35), .inl (cI, 1280, .inl m_sends_c)), ((m_a 27), .inl (cZ, 2, .inl m_gets_c)), ((m_a 36), .inl (cZ, 1280, .inl m_got_c)), ((m_a 37), .inl (cI, 656, .inl m_states_c))] s.heap := hP
  refine lv_iconst (v := 0) hx hb dX12_keepsYear_0 (by decide) ?_
  refine lv_istore (lv' := [(4, .int 0), (0, .ref m), (1, .int p0), (2, .int p1), (3, .int p2)]) hx hb dX12_keepsYear_1 hl (by decide) rfl (fun ls hl => ?_)
  have J3 : ∀ (n3 : Nat) (j3_l4 : Int32) (j3_m_a35_c : Nat → Int32) (j3_m_a36_c : Nat → Int32) (H : Heap) (locs : List Loc) (ls : Array Slot), (3 - j3_l4.toInt).toNat < n3 → (ir j3_l4.toInt 0 2) → (ar j3_m_a36_c 1280 0 1) → va_P g vwCl [(m, .inr (11, mG m_a m_thrown m_taped m_at m_token m_place m_value m_word m_bad m_badPlace m_fault m_faultPlace m_willing m_will m_forgot m_isDrawn m_x m_begin m_round m_roundCards m_fate m_any m_bothSend m_meanCards m_bestSum m_fitMany m_fitFirst m_fitSecond)), ((m_a 26), .inl (cI, 2, .inl m_sent_c)), ((m_a 35), .inl (cI, 1280, .inl j3_m_a35_c)), ((m_a 27), .inl (cZ, 2, .inl m_gets_c)), ((m_a 36), .inl (cZ, 1280, .inl j3_m_a36_c)), ((m_a 37), .inl (cI, 656, .inl m_states_c))] H → va_D A [(m, .inr (11, mG m_a m_thrown m_taped m_at m_token m_place m_value m_word m_bad m_badPlace m_fault m_faultPlace m_willing m_will m_forgot m_isDrawn m_x m_begin m_round m_roundCards m_fate m_any m_bothSend m_meanCards m_bestSum m_fitMany m_fitFirst m_fitSecond)), ((m_a 26), .inl (cI, 2, .inl m_sent_c)), ((m_a 35), .inl (cI, 1280, .inl j3_m_a35_c)), ((m_a 27), .inl (cZ, 2, .inl m_gets_c)), ((m_a 36), .inl (cZ, 1280, .inl j3_m_a36_c)), ((m_a 37), .inl (cI, 656, .inl m_states_c))] → va_S A s.heap H locs → lv_has ls 5 [(0, .ref m), (1, .int p0), (2, .int p1), (3, .int p2), (4, .int j3_l4)] → W p l e (headSpec v_X12_keepsYear ({ frames := 0, cells := 0, slots := 0, locals := 0 })).room s mth av below meth c H locs 0 0 QQ (F0 mth 3 ls []) := by
    intro n3
    induction n3 with
    | zero => exact fun j3_l4 j3_m_a35_c j3_m_a36_c H locs ls hn => absurd hn (Nat.not_lt_zero _)
    | succ n3 ih3 =>
      intro j3_l4 j3_m_a35_c j3_m_a36_c H locs ls hn3 hj3_l4 hj3_m_a36_c hP hD hS hl
      refine lv_iload hx hb dX12_keepsYear_3 (lv_at hl 4 rfl) ?_
      refine lv_iconst (v := 2) hx hb dX12_keepsYear_5 (by decide) ?_
      refine lv_icmp_ge (tgt := 61) hx hb dX12_keepsYear_6 (by decide) (fun c6 => ?_) (fun c6 => ?_)
      · have f6 := (show 2 ≤ j3_l4.toInt from z_le rfl rfl c6)
        have r6a : ir j3_l4.toInt 2 2 := ir_leb f6 (ir_c 2) hj3_l4 (by decide)
        refine lv_aload_n hx hb dX12_keepsYear_61 rfl (lv_at hl 0 rfl) ?_
        refine va_get (D := g) (ci := 11) (v := .ref (m_a 37)) (C := RX12) (T := TX12) (N := 56) hx hb hts iX12 hown hK hP 0 rfl rfl 37 (by decide) (hts (.fieldLink RX12 83 "CardsAtYuleModel" "states" "[I") (List.mem_cons_of_mem _ (List.mem_append_left _ (List.mem_of_getElem? (i := 0) rfl)))) (fun _ h9 => h9) rfl dX12_keepsYear_62 ?_
        refine lv_bipush (v := 16) hx hb dX12_keepsYear_65 (by decide) ?_
        refine lv_iload_n hx hb dX12_keepsYear_67 rfl (lv_at hl 2 rfl) ?_
        refine lv_iconst (v := 1) hx hb dX12_keepsYear_68 (by decide) ?_
        refine lv_iadd hx hb dX12_keepsYear_69 ?_
        refine lv_topi (fun y69 e69 => ?_)
        have q69 : y69.toInt = p1.toInt + 1 := by rw [e69]; exact ad_z rfl rfl hv_p1 (ir_c 1) (by decide) (by decide)
        have r69 : ir y69.toInt 1 40 := ad_r q69 hv_p1 (ir_c 1) (by decide) (by decide)
        refine lv_imul hx hb dX12_keepsYear_70 ?_
        refine lv_topi (fun y70 e70 => ?_)
        have q70 : y70.toInt = 16 * y69.toInt := by rw [e70]; exact mu_z rfl rfl (ir_c 16) r69 (by decide) (by decide) (by decide)
        have r70 : ir y70.toInt 16 640 := mu_r q70 (ir_c 16) r69 (by decide) (by decide) (by decide) (by decide)
        refine lv_iload_n hx hb dX12_keepsYear_71 rfl (lv_at hl 1 rfl) ?_
        refine lv_iadd hx hb dX12_keepsYear_72 ?_
        refine lv_topi (fun y72 e72 => ?_)
        have q72 : y72.toInt = y70.toInt + p0.toInt := by rw [e72]; exact ad_z rfl rfl r70 hv_p0 (by decide) (by decide)
        have r72 : ir y72.toInt 16 655 := ad_r q72 r70 hv_p0 (by decide) (by decide)
        refine lv_iload_n hx hb dX12_keepsYear_73 rfl (lv_at hl 3 rfl) ?_
        refine va_iast (D := g) hx hb hK hP hD hS 5 0 rfl rfl (vi_rg rfl r72 (by decide) (by decide)) dX12_keepsYear_74 (fun H locs hP hD hS => ?_)
        obtain ⟨g74, e74⟩ : ∃ z, z = upd m_states_c y72.toNatClampNeg p2 := ⟨_, rfl⟩
        have hP : va_P g vwCl [(m, .inr (11, mG m_a m_thrown m_taped m_at m_token m_place m_value m_word m_bad m_badPlace m_fault m_faultPlace m_willing m_will m_forgot m_isDrawn m_x m_begin m_round m_roundCards m_fate m_any m_bothSend m_meanCards m_bestSum m_fitMany m_fitFirst m_fitSecond)), ((m_a 26), .inl (cI, 2, .inl m_sent_c)), ((m_a 35), .inl (cI, 1280, .inl j3_m_a35_c)), ((m_a 27), .inl (cZ, 2, .inl m_gets_c)), ((m_a 36), .inl (cZ, 1280, .inl j3_m_a36_c)), ((m_a 37), .inl (cI, 656, .inl (upd m_states_c y72.toNatClampNeg p2)))] H := hP
        have hD : va_D A [(m, .inr (11, mG m_a m_thrown m_taped m_at m_token m_place m_value m_word m_bad m_badPlace m_fault m_faultPlace m_willing m_will m_forgot m_isDrawn m_x m_begin m_round m_roundCards m_fate m_any m_bothSend m_meanCards m_bestSum m_fitMany m_fitFirst m_fitSecond)), ((m_a 26), .inl (cI, 2, .inl m_sent_c)), ((m_a 35), .inl (cI, 1280, .inl j3_m_a35_c)), ((m_a 27), .inl (cZ, 2, .inl m_gets_c)), ((m_a 36), .inl (cZ, 1280, .inl j3_m_a36_c)), ((m_a 37), .inl (cI, 656, .inl (upd m_states_c y72.toNatClampNeg p2)))] := hD
        rw [← e74] at hP hD
        have a74 : ar g74 656 0 15 := by rw [e74]; exact ar_u ha_m_states_c hv_p2
        subst hQ
        have hP9 := hP.sub (ws' := [(m, .inr (11, mG m_a m_thrown m_taped m_at m_token m_place m_value m_word m_bad m_badPlace m_fault m_faultPlace m_willing m_will m_forgot m_isDrawn m_x m_begin m_round m_roundCards m_fate m_any m_bothSend m_meanCards m_bestSum m_fitMany m_fitFirst m_fitSecond)), ((m_a 26), .inl (cI, 2, .inl m_sent_c)), ((m_a 35), .inl (cI, 1280, .inl j3_m_a35_c)), ((m_a 27), .inl (cZ, 2, .inl m_gets_c)), ((m_a 36), .inl (cZ, 1280, .inl j3_m_a36_c)), ((m_a 37), .inl (cI, 656, .inl g74))]) [0, 1, 2, 3, 4, 5] rfl
        have hD9 := hD.sub (ws' := [(m, .inr (11, mG m_a m_thrown m_taped m_at m_token m_place m_value m_word m_bad m_badPlace m_fault m_faultPlace m_willing m_will m_forgot m_isDrawn m_x m_begin m_round m_roundCards m_fate m_any m_bothSend m_meanCards m_bestSum m_fitMany m_fitFirst m_fitSecond)), ((m_a 26), .inl (cI, 2, .inl m_sent_c)), ((m_a 35), .inl (cI, 1280, .inl j3_m_a35_c)), ((m_a 27), .inl (cZ, 2, .inl m_gets_c)), ((m_a 36), .inl (cZ, 1280, .inl j3_m_a36_c)), ((m_a 37), .inl (cI, 656, .inl g74))]) [0, 1, 2, 3, 4, 5] (by decide) rfl
        exact W.vret hx hb hr (fun t ht hW => ⟨⟨(j3_m_a35_c, j3_m_a36_c, g74), rfl, ⟨hj3_m_a36_c, a74⟩, ⟨by rw [ht]; exact hP9, va_K.moved hW.alike hK, hD9⟩⟩, hS.F ht⟩) hS.2.2 dX12_keepsYear_75
      have f6 := (show j3_l4.toInt < 2 from z_nle rfl rfl c6)
      have r6a : ir j3_l4.toInt 0 1 := ir_lta f6 hj3_l4 (ir_c 2) (by decide)
      refine lv_aload_n hx hb dX12_keepsYear_9 rfl (lv_at hl 0 rfl) ?_
      refine va_get (D := g) (ci := 11) (v := .ref (m_a 35)) (C := RX12) (T := TX12) (N := 56) hx hb hts iX12 hown hK hP 0 rfl rfl 35 (by decide) (hts (.fieldLink RX12 77 "CardsAtYuleModel" "sends" "[I") (List.mem_cons_of_mem _ (List.mem_append_left _ (List.mem_of_getElem? (i := 1) rfl)))) (fun _ h9 => h9) rfl dX12_keepsYear_10 ?_
      refine lv_bipush (v := 32) hx hb dX12_keepsYear_13 (by decide) ?_
      refine lv_iload_n hx hb dX12_keepsYear_15 rfl (lv_at hl 2 rfl) ?_
      refine lv_imul hx hb dX12_keepsYear_16 ?_
      refine lv_topi (fun y16 e16 => ?_)
      have q16 : y16.toInt = 32 * p1.toInt := by rw [e16]; exact mu_z rfl rfl (ir_c 32) hv_p1 (by decide) (by decide) (by decide)
      have r16 : ir y16.toInt 0 1248 := mu_r q16 (ir_c 32) hv_p1 (by decide) (by decide) (by decide) (by decide)
      refine lv_iconst (v := 2) hx hb dX12_keepsYear_17 (by decide) ?_
      refine lv_iload_n hx hb dX12_keepsYear_18 rfl (lv_at hl 1 rfl) ?_
      refine lv_imul hx hb dX12_keepsYear_19 ?_
      refine lv_topi (fun y19 e19 => ?_)
      have q19 : y19.toInt = 2 * p0.toInt := by rw [e19]; exact mu_z rfl rfl (ir_c 2) hv_p0 (by decide) (by decide) (by decide)
      have r19 : ir y19.toInt 0 30 := mu_r q19 (ir_c 2) hv_p0 (by decide) (by decide) (by decide) (by decide)
      refine lv_iadd hx hb dX12_keepsYear_20 ?_
      refine lv_topi (fun y20 e20 => ?_)
      have q20 : y20.toInt = y16.toInt + y19.toInt := by rw [e20]; exact ad_z rfl rfl r16 r19 (by decide) (by decide)
      have r20 : ir y20.toInt 0 1278 := ad_r q20 r16 r19 (by decide) (by decide)
      refine lv_iload hx hb dX12_keepsYear_21 (lv_at hl 4 rfl) ?_
      refine lv_iadd hx hb dX12_keepsYear_23 ?_
      refine lv_topi (fun y23 e23 => ?_)
      have q23 : y23.toInt = y20.toInt + j3_l4.toInt := by rw [e23]; exact ad_z rfl rfl r20 r6a (by decide) (by decide)
      have r23 : ir y23.toInt 0 1279 := ad_r q23 r20 r6a (by decide) (by decide)
      refine lv_aload_n hx hb dX12_keepsYear_24 rfl (lv_at hl 0 rfl) ?_
      refine va_get (D := g) (ci := 11) (v := .ref (m_a 26)) (C := RX12) (T := TX12) (N := 56) hx hb hts iX12 hown hK hP 0 rfl rfl 26 (by decide) (hts (.fieldLink RX12 62 "CardsAtYuleModel" "sent" "[I") (List.mem_cons_of_mem _ (List.mem_append_left _ (List.mem_of_getElem? (i := 2) rfl)))) (fun _ h9 => h9) rfl dX12_keepsYear_25 ?_
      refine lv_iload hx hb dX12_keepsYear_28 (lv_at hl 4 rfl) ?_
      refine va_iald (D := g) hx hb hK hP 1 0 rfl rfl (vi_rg rfl r6a (by decide) (by decide)) dX12_keepsYear_30 ?_
      refine lv_topi (fun y30 e30 => ?_)
      refine va_iast (D := g) hx hb hK hP hD hS 2 0 rfl rfl (vi_rg rfl r23 (by decide) (by decide)) dX12_keepsYear_31 (fun H locs hP hD hS => ?_)
      obtain ⟨g31, e31⟩ : ∃ z, z = upd j3_m_a35_c y23.toNatClampNeg y30 := ⟨_, rfl⟩
      have hP : va_P g vwCl [(m, .inr (11, mG m_a m_thrown m_taped m_at m_token m_place m_value m_word m_bad m_badPlace m_fault m_faultPlace m_willing m_will m_forgot m_isDrawn m_x m_begin m_round m_roundCards m_fate m_any m_bothSend m_meanCards m_bestSum m_fitMany m_fitFirst m_fitSecond)), ((m_a 26), .inl (cI, 2, .inl m_sent_c)), ((m_a 35), .inl (cI, 1280, .inl (upd j3_m_a35_c y23.toNatClampNeg y30))), ((m_a 27), .inl (cZ, 2, .inl m_gets_c)), ((m_a 36), .inl (cZ, 1280, .inl j3_m_a36_c)), ((m_a 37), .inl (cI, 656, .inl m_states_c))] H := hP
      have hD : va_D A [(m, .inr (11, mG m_a m_thrown m_taped m_at m_token m_place m_value m_word m_bad m_badPlace m_fault m_faultPlace m_willing m_will m_forgot m_isDrawn m_x m_begin m_round m_roundCards m_fate m_any m_bothSend m_meanCards m_bestSum m_fitMany m_fitFirst m_fitSecond)), ((m_a 26), .inl (cI, 2, .inl m_sent_c)), ((m_a 35), .inl (cI, 1280, .inl (upd j3_m_a35_c y23.toNatClampNeg y30))), ((m_a 27), .inl (cZ, 2, .inl m_gets_c)), ((m_a 36), .inl (cZ, 1280, .inl j3_m_a36_c)), ((m_a 37), .inl (cI, 656, .inl m_states_c))] := hD
      rw [← e31] at hP hD
      refine lv_aload_n hx hb dX12_keepsYear_32 rfl (lv_at hl 0 rfl) ?_
      refine va_get (D := g) (ci := 11) (v := .ref (m_a 36)) (C := RX12) (T := TX12) (N := 56) hx hb hts iX12 hown hK hP 0 rfl rfl 36 (by decide) (hts (.fieldLink RX12 80 "CardsAtYuleModel" "got" "[Z") (List.mem_cons_of_mem _ (List.mem_append_left _ (List.mem_of_getElem? (i := 3) rfl)))) (fun _ h9 => h9) rfl dX12_keepsYear_33 ?_
      refine lv_bipush (v := 32) hx hb dX12_keepsYear_36 (by decide) ?_
      refine lv_iload_n hx hb dX12_keepsYear_38 rfl (lv_at hl 2 rfl) ?_
      refine lv_imul hx hb dX12_keepsYear_39 ?_
      refine lv_topi (fun y39 e39 => ?_)
      have q39 : y39.toInt = 32 * p1.toInt := by rw [e39]; exact mu_z rfl rfl (ir_c 32) hv_p1 (by decide) (by decide) (by decide)
      have r39 : ir y39.toInt 0 1248 := mu_r q39 (ir_c 32) hv_p1 (by decide) (by decide) (by decide) (by decide)
      refine lv_iconst (v := 2) hx hb dX12_keepsYear_40 (by decide) ?_
      refine lv_iload_n hx hb dX12_keepsYear_41 rfl (lv_at hl 1 rfl) ?_
      refine lv_imul hx hb dX12_keepsYear_42 ?_
      refine lv_topi (fun y42 e42 => ?_)
      have q42 : y42.toInt = 2 * p0.toInt := by rw [e42]; exact mu_z rfl rfl (ir_c 2) hv_p0 (by decide) (by decide) (by decide)
      have r42 : ir y42.toInt 0 30 := mu_r q42 (ir_c 2) hv_p0 (by decide) (by decide) (by decide) (by decide)
      refine lv_iadd hx hb dX12_keepsYear_43 ?_
      refine lv_topi (fun y43 e43 => ?_)
      have q43 : y43.toInt = y39.toInt + y42.toInt := by rw [e43]; exact ad_z rfl rfl r39 r42 (by decide) (by decide)
      have r43 : ir y43.toInt 0 1278 := ad_r q43 r39 r42 (by decide) (by decide)
      refine lv_iload hx hb dX12_keepsYear_44 (lv_at hl 4 rfl) ?_
      refine lv_iadd hx hb dX12_keepsYear_46 ?_
      refine lv_topi (fun y46 e46 => ?_)
      have q46 : y46.toInt = y43.toInt + j3_l4.toInt := by rw [e46]; exact ad_z rfl rfl r43 r6a (by decide) (by decide)
      have r46 : ir y46.toInt 0 1279 := ad_r q46 r43 r6a (by decide) (by decide)
      refine lv_aload_n hx hb dX12_keepsYear_47 rfl (lv_at hl 0 rfl) ?_
      refine va_get (D := g) (ci := 11) (v := .ref (m_a 27)) (C := RX12) (T := TX12) (N := 56) hx hb hts iX12 hown hK hP 0 rfl rfl 27 (by decide) (hts (.fieldLink RX12 65 "CardsAtYuleModel" "gets" "[Z") (List.mem_cons_of_mem _ (List.mem_append_left _ (List.mem_of_getElem? (i := 4) rfl)))) (fun _ h9 => h9) rfl dX12_keepsYear_48 ?_
      refine lv_iload hx hb dX12_keepsYear_51 (lv_at hl 4 rfl) ?_
      refine va_zald (D := g) hx hb hK hP 3 3 rfl rfl (vi_rg rfl r6a (by decide) (by decide)) dX12_keepsYear_53 ?_
      refine lv_topi (fun y53 e53 => ?_)
      refine va_zast (D := g) hx hb hK hP hD hS 4 3 rfl rfl (vi_rg rfl r46 (by decide) (by decide)) dX12_keepsYear_54 (fun H locs hP hD hS => ?_)
      obtain ⟨g54, e54⟩ : ∃ z, z = upd j3_m_a36_c y46.toNatClampNeg (vp_nar .boolean y53) := ⟨_, rfl⟩
      have hP : va_P g vwCl [(m, .inr (11, mG m_a m_thrown m_taped m_at m_token m_place m_value m_word m_bad m_badPlace m_fault m_faultPlace m_willing m_will m_forgot m_isDrawn m_x m_begin m_round m_roundCards m_fate m_any m_bothSend m_meanCards m_bestSum m_fitMany m_fitFirst m_fitSecond)), ((m_a 26), .inl (cI, 2, .inl m_sent_c)), ((m_a 35), .inl (cI, 1280, .inl g31)), ((m_a 27), .inl (cZ, 2, .inl m_gets_c)), ((m_a 36), .inl (cZ, 1280, .inl (upd j3_m_a36_c y46.toNatClampNeg (vp_nar .boolean y53)))), ((m_a 37), .inl (cI, 656, .inl m_states_c))] H := hP
      have hD : va_D A [(m, .inr (11, mG m_a m_thrown m_taped m_at m_token m_place m_value m_word m_bad m_badPlace m_fault m_faultPlace m_willing m_will m_forgot m_isDrawn m_x m_begin m_round m_roundCards m_fate m_any m_bothSend m_meanCards m_bestSum m_fitMany m_fitFirst m_fitSecond)), ((m_a 26), .inl (cI, 2, .inl m_sent_c)), ((m_a 35), .inl (cI, 1280, .inl g31)), ((m_a 27), .inl (cZ, 2, .inl m_gets_c)), ((m_a 36), .inl (cZ, 1280, .inl (upd j3_m_a36_c y46.toNatClampNeg (vp_nar .boolean y53)))), ((m_a 37), .inl (cI, 656, .inl m_states_c))] := hD
      rw [← e54] at hP hD
      have a54 : ar g54 1280 0 1 := by rw [e54]; exact ar_u hj3_m_a36_c (bo_r _)
      obtain ⟨y55, e55⟩ : ∃ y : Int32, y = j3_l4 + 1 := ⟨_, rfl⟩
      have q55 : y55.toInt = j3_l4.toInt + 1 := by rw [e55]; exact ad_z rfl rfl r6a (ir_c 1) (by decide) (by decide)
      have r55 : ir y55.toInt 1 2 := ad_r q55 r6a (ir_c 1) (by decide) (by decide)
      refine lv_iinc (v := y55) (lv' := [(4, .int y55), (0, .ref m), (1, .int p0), (2, .int p1), (3, .int p2)]) hx hb dX12_keepsYear_55 hl (k := 4) rfl e55.symm (by decide) rfl (fun ls hl => ?_)
      refine lv_goto (tgt := 3) hx hb dX12_keepsYear_58 (by decide) ?_
      exact ih3 y55 g31 g54 _ _ _ (by omega) (ir_w r55 (by decide) (by decide)) a54 (hP.sub [0, 1, 2, 3, 4, 5] rfl) (hD.sub [0, 1, 2, 3, 4, 5] (by decide) rfl) hS (lv_sub hl [1, 2, 3, 4, 0] rfl)
  exact J3 _ 0 m_sends_c m_got_c _ _ _ (Nat.lt_succ_self _) (by decide) ha_m_got_c (hP.sub [0, 1, 2, 3, 4, 5] rfl) (hD.sub [0, 1, 2, 3, 4, 5] (by decide) rfl) hS (lv_sub hl [1, 2, 3, 4, 0] rfl)
def v_X12_goes : List Cond := .code yX12_goes cX12_goes 3 none :: (([.fieldLink RX12 34 "CardsAtYuleModel" "has" "[I", .methodLink RX12 330 yX12_asTold, .instanceMethod yX12_asTold, .selects RX12 yX12_asTold yX12_asTold, .initialized RX12, .fieldLink RX12 83 "CardsAtYuleModel" "states" "[I", .methodLink RX12 333 yX12_yearOf, .instanceMethod yX12_yearOf, .selects RX12 yX12_yearOf yX12_yearOf, .methodLink RX12 336 yX12_keepsYear, .instanceMethod yX12_keepsYear, .selects RX12 yX12_keepsYear yX12_keepsYear, .fieldLink RX12 40 "CardsAtYuleModel" "pair" "[I"] : List Cond) ++ (v_X12_asTold ++ (v_X12_yearOf ++ (v_X12_keepsYear ++ (wsX120 ++ ([] : List Cond))))))
theorem good_v_X12_goes : v_X12_goes.all goodWord = true := ga_c (by decide +kernel) (ga_a (by decide +kernel) (ga_a good_v_X12_asTold (ga_a good_v_X12_yearOf (ga_a good_v_X12_keepsYear (ga_a good_wsX120 rfl)))))
set_option maxHeartbeats 4000000 in
set_option maxRecDepth 100000 in
theorem q_X12_goes (l : Launch) (g : va_G) (cI cJ cB cZ cL : ClassId) (m : Nat) (m_a : Nat → Nat) (m_thrown : Int32) (m_taped : Int32) (m_at : Int32) (m_token : Int32) (m_place : Int32) (m_value : Int32) (m_word : Int64) (m_bad : Int32) (m_badPlace : Int32) (m_fault : Int32) (m_faultPlace : Int32) (m_willing : Int32) (m_will : Int32) (m_forgot : Int32) (m_isDrawn : Int32) (m_x : Int64) (m_begin : Int32) (m_round : Int32) (m_roundCards : Int32) (m_fate : Int32) (m_any : Int64) (m_bothSend : Int64) (m_meanCards : Int64) (m_bestSum : Int32) (m_fitMany : Int32) (m_fitFirst : Int64) (m_fitSecond : Int64) (m_has_c : Nat → Int32) (m_pair_c : Nat → Int32) (m_states_c : Nat → Int32) (m_person_c : Nat → Int32) (m_ruleNow_c : Nat → Int32) (m_oddsNow_c : Nat → Int32) (m_maySend_c : Nat → Int32) (m_strikes_c : Nat → Int64) (m_lost_c : Nat → Int64) (m_maycome_c : Nat → Int32) (m_gets_c : Nat → Int32) (m_sent_c : Nat → Int32) (m_cameFirst_c : Nat → Int32) (m_sends_c : Nat → Int32) (m_got_c : Nat → Int32) (sz : Nat) (hv_m_taped : ir m_taped.toInt 0 1600) (hv_m_at : ir m_at.toInt 0 1600) (hv_m_will : ir m_will.toInt 0 1) (hv_m_isDrawn : ir m_isDrawn.toInt 0 1) (ha_m_has_c : hasI m_has_c) (ha_m_pair_c : ar m_pair_c 240 0 15) (ha_m_states_c : ar m_states_c 656 0 15) (ha_m_person_c : perI m_person_c) (ha_m_got_c : ar m_got_c 1280 0 1) : Met l yX12_goes v_X12_goes ({ frames := 3, cells := 0, slots := 0, locals := 69 }) (va_Pc [.ref m] (pRW g (tyT cI cJ cB cZ cL) [(m, .inr (11, mG m_a m_thrown m_taped m_at m_token m_place m_value m_word m_bad m_badPlace m_fault m_faultPlace m_willing m_will m_forgot m_isDrawn m_x m_begin m_round m_roundCards m_fate m_any m_bothSend m_meanCards m_bestSum m_fitMany m_fitFirst m_fitSecond)), ((m_a 17), .inl (cI, 25, .inl m_has_c)), ((m_a 19), .inl (cI, 240, .inl m_pair_c)), ((m_a 37), .inl (cI, 656, .inl m_states_c)), ((m_a 18), .inl (cI, 250, .inl m_person_c)), ((m_a 23), .inl (cI, 2, .inl m_ruleNow_c)), ((m_a 33), .inl (cI, 2, .inl m_oddsNow_c)), ((m_a 24), .inl (cZ, 2, .inl m_maySend_c)), ((m_a 21), .inl (cJ, 5, .inr (.inl m_strikes_c))), ((m_a 20), .inl (cJ, 160, .inr (.inl m_lost_c))), ((m_a 25), .inl (cZ, 2, .inl m_maycome_c)), ((m_a 27), .inl (cZ, 2, .inl m_gets_c)), ((m_a 26), .inl (cI, 2, .inl m_sent_c)), ((m_a 34), .inl (cZ, 2, .inl m_cameFirst_c)), ((m_a 35), .inl (cI, 1280, .inl m_sends_c)), ((m_a 36), .inl (cZ, 1280, .inl m_got_c))] sz)) (va_Qv (fun (u : Int32 × Int64 × (Nat → Int32) × (Nat → Int32) × (Nat → Int32) × (Nat → Int32) × (Nat → Int32) × (Nat → Int32) × (Nat → Int32) × (Nat → Int32) × (Nat → Int32) × (Nat → Int32)) => match u with | (n_m_forgot, n_m_x, n_m_states_c, n_m_ruleNow_c, n_m_oddsNow_c, n_m_maySend_c, n_m_maycome_c, n_m_gets_c, n_m_sent_c, n_m_cameFirst_c, n_m_sends_c, n_m_got_c) => (ar n_m_states_c 656 0 15) ∧ (ar n_m_got_c 1280 0 1)) (fun (u : Int32 × Int64 × (Nat → Int32) × (Nat → Int32) × (Nat → Int32) × (Nat → Int32) × (Nat → Int32) × (Nat → Int32) × (Nat → Int32) × (Nat → Int32) × (Nat → Int32) × (Nat → Int32)) (t : State) => bRW g (tyT cI cJ cB cZ cL) (va_A [(m, .inr (11, mG m_a m_thrown m_taped m_at m_token m_place m_value m_word m_bad m_badPlace m_fault m_faultPlace m_willing m_will m_forgot m_isDrawn m_x m_begin m_round m_roundCards m_fate m_any m_bothSend m_meanCards m_bestSum m_fitMany m_fitFirst m_fitSecond)), ((m_a 17), .inl (cI, 25, .inl m_has_c)), ((m_a 19), .inl (cI, 240, .inl m_pair_c)), ((m_a 37), .inl (cI, 656, .inl m_states_c)), ((m_a 18), .inl (cI, 250, .inl m_person_c)), ((m_a 23), .inl (cI, 2, .inl m_ruleNow_c)), ((m_a 33), .inl (cI, 2, .inl m_oddsNow_c)), ((m_a 24), .inl (cZ, 2, .inl m_maySend_c)), ((m_a 21), .inl (cJ, 5, .inr (.inl m_strikes_c))), ((m_a 20), .inl (cJ, 160, .inr (.inl m_lost_c))), ((m_a 25), .inl (cZ, 2, .inl m_maycome_c)), ((m_a 27), .inl (cZ, 2, .inl m_gets_c)), ((m_a 26), .inl (cI, 2, .inl m_sent_c)), ((m_a 34), .inl (cZ, 2, .inl m_cameFirst_c)), ((m_a 35), .inl (cI, 1280, .inl m_sends_c)), ((m_a 36), .inl (cZ, 1280, .inl m_got_c))] sz) (match u with | (n_m_forgot, n_m_x, n_m_states_c, n_m_ruleNow_c, n_m_oddsNow_c, n_m_maySend_c, n_m_maycome_c, n_m_gets_c, n_m_sent_c, n_m_cameFirst_c, n_m_sends_c, n_m_got_c) => [(m, .inr (11, mG m_a m_thrown m_taped m_at m_token m_place m_value m_word m_bad m_badPlace m_fault m_faultPlace m_willing m_will n_m_forgot m_isDrawn n_m_x m_begin m_round m_roundCards m_fate m_any m_bothSend m_meanCards m_bestSum m_fitMany m_fitFirst m_fitSecond)), ((m_a 17), .inl (cI, 25, .inl m_has_c)), ((m_a 19), .inl (cI, 240, .inl m_pair_c)), ((m_a 37), .inl (cI, 656, .inl n_m_states_c)), ((m_a 18), .inl (cI, 250, .inl m_person_c)), ((m_a 23), .inl (cI, 2, .inl n_m_ruleNow_c)), ((m_a 33), .inl (cI, 2, .inl n_m_oddsNow_c)), ((m_a 24), .inl (cZ, 2, .inl n_m_maySend_c)), ((m_a 21), .inl (cJ, 5, .inr (.inl m_strikes_c))), ((m_a 20), .inl (cJ, 160, .inr (.inl m_lost_c))), ((m_a 25), .inl (cZ, 2, .inl n_m_maycome_c)), ((m_a 27), .inl (cZ, 2, .inl n_m_gets_c)), ((m_a 26), .inl (cI, 2, .inl n_m_sent_c)), ((m_a 34), .inl (cZ, 2, .inl n_m_cameFirst_c)), ((m_a 35), .inl (cI, 1280, .inl n_m_sends_c)), ((m_a 36), .inl (cZ, 1280, .inl n_m_got_c))]) t) (va_A [(m, .inr (11, mG m_a m_thrown m_taped m_at m_token m_place m_value m_word m_bad m_badPlace m_fault m_faultPlace m_willing m_will m_forgot m_isDrawn m_x m_begin m_round m_roundCards m_fate m_any m_bothSend m_meanCards m_bestSum m_fitMany m_fitFirst m_fitSecond)), ((m_a 17), .inl (cI, 25, .inl m_has_c)), ((m_a 19), .inl (cI, 240, .inl m_pair_c)), ((m_a 37), .inl (cI, 656, .inl m_states_c)), ((m_a 18), .inl (cI, 250, .inl m_person_c)), ((m_a 23), .inl (cI, 2, .inl m_ruleNow_c)), ((m_a 33), .inl (cI, 2, .inl m_oddsNow_c)), ((m_a 24), .inl (cZ, 2, .inl m_maySend_c)), ((m_a 21), .inl (cJ, 5, .inr (.inl m_strikes_c))), ((m_a 20), .inl (cJ, 160, .inr (.inl m_lost_c))), ((m_a 25), .inl (cZ, 2, .inl m_maycome_c)), ((m_a 27), .inl (cZ, 2, .inl m_gets_c)), ((m_a 26), .inl (cI, 2, .inl m_sent_c)), ((m_a 34), .inl (cZ, 2, .inl m_cameFirst_c)), ((m_a 35), .inl (cI, 1280, .inl m_sends_c)), ((m_a 36), .inl (cZ, 1280, .inl m_got_c))] sz)) 0 0 (va_A [(m, .inr (11, mG m_a m_thrown m_taped m_at m_token m_place m_value m_word m_bad m_badPlace m_fault m_faultPlace m_willing m_will m_forgot m_isDrawn m_x m_begin m_round m_roundCards m_fate m_any m_bothSend m_meanCards m_bestSum m_fitMany m_fitFirst m_fitSecond)), ((m_a 17), .inl (cI, 25, .inl m_has_c)), ((m_a 19), .inl (cI, 240, .inl m_pair_c)), ((m_a 37), .inl (cI, 656, .inl m_states_c)), ((m_a 18), .inl (cI, 250, .inl m_person_c)), ((m_a 23), .inl (cI, 2, .inl m_ruleNow_c)), ((m_a 33), .inl (cI, 2, .inl m_oddsNow_c)), ((m_a 24), .inl (cZ, 2, .inl m_maySend_c)), ((m_a 21), .inl (cJ, 5, .inr (.inl m_strikes_c))), ((m_a 20), .inl (cJ, 160, .inr (.inl m_lost_c))), ((m_a 25), .inl (cZ, 2, .inl m_maycome_c)), ((m_a 27), .inl (cZ, 2, .inl m_gets_c)), ((m_a 26), .inl (cI, 2, .inl m_sent_c)), ((m_a 34), .inl (cZ, 2, .inl m_cameFirst_c)), ((m_a 35), .inl (cI, 1280, .inl m_sends_c)), ((m_a 36), .inl (cZ, 1280, .inl m_got_c))] sz) := by
  refine Met.ofW (cc := cX12_goes) (maxL := 3) (ret := none) (by decide) rfl ?_
  intro p e s mth args below meth c s₁ B hml hv
  obtain ⟨rfl, hsz, hP, hK, hD0⟩ := hv
  have hx := B.exec
  have hb := B.bytes
  have hr := B.returns
  have hts := atoms_spec (ws := v_X12_goes) B.pre
  have hown : s.vm.findClass RX12 = some mth.cls := findClass_of_methodNamed B.named
  have hlocks := B.notSynchronized
  clear B
  subst hsz
  have iX12 : ∀ w ∈ wsX120, w ∈ v_X12_goes := (fun _ h => List.mem_cons_of_mem _ (List.mem_append_right _ (List.mem_append_right _ (List.mem_append_right _ (List.mem_append_right _ (List.mem_append_left _ h))))))
  have hD := hD0.self (sz := s.heap.size)
  generalize hAe : (va_A [(m, .inr (11, mG m_a m_thrown m_taped m_at m_token m_place m_value m_word m_bad m_badPlace m_fault m_faultPlace m_willing m_will m_forgot m_isDrawn m_x m_begin m_round m_roundCards m_fate m_any m_bothSend m_meanCards m_bestSum m_fitMany m_fitFirst m_fitSecond)), ((m_a 17), .inl (cI, 25, .inl m_has_c)), ((m_a 19), .inl (cI, 240, .inl m_pair_c)), ((m_a 37), .inl (cI, 656, .inl m_states_c)), ((m_a 18), .inl (cI, 250, .inl m_person_c)), ((m_a 23), .inl (cI, 2, .inl m_ruleNow_c)), ((m_a 33), .inl (cI, 2, .inl m_oddsNow_c)), ((m_a 24), .inl (cZ, 2, .inl m_maySend_c)), ((m_a 21), .inl (cJ, 5, .inr (.inl m_strikes_c))), ((m_a 20), .inl (cJ, 160, .inr (.inl m_lost_c))), ((m_a 25), .inl (cZ, 2, .inl m_maycome_c)), ((m_a 27), .inl (cZ, 2, .inl m_gets_c)), ((m_a 26), .inl (cI, 2, .inl m_sent_c)), ((m_a 34), .inl (cZ, 2, .inl m_cameFirst_c)), ((m_a 35), .inl (cI, 1280, .inl m_sends_c)), ((m_a 36), .inl (cZ, 1280, .inl m_got_c))] s.heap.size) = A at hD ⊢
  have hA : ∀ q : Nat, s.heap.size ≤ q → A q := fun q h => by rw [← hAe]; exact Or.inr h
  have hS : va_S A s.heap s.heap [] := va_S.rf
  have hl := lv_entry ([.ref m]) (n := 3) (Nat.le_of_ble_eq_true rfl)
  rw [lg_entry_eq]
  generalize (lg_sl ([.ref m]) ++ List.replicate (3 - (lg_sl ([.ref m])).length) Slot.unset).toArray = ls at hl ⊢
  generalize ([.ref m] : List Value).toArray = av at hts ⊢
  generalize hQ : MQ below _ av s _ _ A = QQ
  have hl : lv_has ls 3 [(0, .ref m)] := hl
  have hP : va_P g vwCl [(m, .inr (11, mG m_a m_thrown m_taped m_at m_token m_place m_value m_word m_bad m_badPlace m_fault m_faultPlace m_willing m_will m_forgot m_isDrawn m_x m_begin m_round m_roundCards m_fate m_any m_bothSend m_meanCards m_bestSum m_fitMany m_fitFirst m_fitSecond)), ((m_a 17), .inl (cI, 25, .inl m_has_c)), ((m_a 19), .inl (cI, 240, .inl m_pair_c)), ((m_a 37), .inl (cI, 656, .inl m_states_c)), ((m_a 18), .inl (cI, 250, .inl m_person_c)), ((m_a 23), .inl (cI, 2, .inl m_ruleNow_c)), ((m_a 33), .inl (cI, 2, .inl m_oddsNow_c)), ((m_a 24), .inl (cZ, 2, .inl m_maySend_c)), ((m_a 21), .inl (cJ, 5, .inr (.inl m_strikes_c))), ((m_a 20), .inl (cJ, 160, .inr (.inl m_lost_c))), ((m_a 25), .inl (cZ, 2, .inl m_maycome_c)), ((m_a 27), .inl (cZ, 2, .inl m_gets_c)), ((m_a 26), .inl (cI, 2, .inl m_sent_c)), ((m_a 34), .inl (cZ, 2, .inl m_cameFirst_c)), ((m_a 35), .inl (cI, 1280, .inl m_sends_c)), ((m_a 36), .inl (cZ, 1280, .inl m_got_c))] s.heap := hP
  refine lv_iconst (v := 0) hx hb dX12_goes_0 (by decide) ?_
  refine lv_istore_n (lv' := [(1, .int 0), (0, .ref m)]) hx hb dX12_goes_1 rfl hl (by decide) rfl (fun ls hl => ?_)
  have J2 : ∀ (n2 : Nat) (j2_l1 : Int32) (j2_m_a37_c : Nat → Int32) (H : Heap) (locs : List Loc) (ls : Array Slot), (17 - j2_l1.toInt).toNat < n2 → (ir j2_l1.toInt 0 16) → (ar j2_m_a37_c 656 0 15) → va_P g vwCl [(m, .inr (11, mG m_a m_thrown m_taped m_at m_token m_place m_value m_word m_bad m_badPlace m_fault m_faultPlace m_willing m_will m_forgot m_isDrawn m_x m_begin m_round m_roundCards m_fate m_any m_bothSend m_meanCards m_bestSum m_fitMany m_fitFirst m_fitSecond)), ((m_a 17), .inl (cI, 25, .inl m_has_c)), ((m_a 19), .inl (cI, 240, .inl m_pair_c)), ((m_a 37), .inl (cI, 656, .inl j2_m_a37_c)), ((m_a 18), .inl (cI, 250, .inl m_person_c)), ((m_a 23), .inl (cI, 2, .inl m_ruleNow_c)), ((m_a 33), .inl (cI, 2, .inl m_oddsNow_c)), ((m_a 24), .inl (cZ, 2, .inl m_maySend_c)), ((m_a 21), .inl (cJ, 5, .inr (.inl m_strikes_c))), ((m_a 20), .inl (cJ, 160, .inr (.inl m_lost_c))), ((m_a 25), .inl (cZ, 2, .inl m_maycome_c)), ((m_a 27), .inl (cZ, 2, .inl m_gets_c)), ((m_a 26), .inl (cI, 2, .inl m_sent_c)), ((m_a 34), .inl (cZ, 2, .inl m_cameFirst_c)), ((m_a 35), .inl (cI, 1280, .inl m_sends_c)), ((m_a 36), .inl (cZ, 1280, .inl m_got_c))] H → va_D A [(m, .inr (11, mG m_a m_thrown m_taped m_at m_token m_place m_value m_word m_bad m_badPlace m_fault m_faultPlace m_willing m_will m_forgot m_isDrawn m_x m_begin m_round m_roundCards m_fate m_any m_bothSend m_meanCards m_bestSum m_fitMany m_fitFirst m_fitSecond)), ((m_a 17), .inl (cI, 25, .inl m_has_c)), ((m_a 19), .inl (cI, 240, .inl m_pair_c)), ((m_a 37), .inl (cI, 656, .inl j2_m_a37_c)), ((m_a 18), .inl (cI, 250, .inl m_person_c)), ((m_a 23), .inl (cI, 2, .inl m_ruleNow_c)), ((m_a 33), .inl (cI, 2, .inl m_oddsNow_c)), ((m_a 24), .inl (cZ, 2, .inl m_maySend_c)), ((m_a 21), .inl (cJ, 5, .inr (.inl m_strikes_c))), ((m_a 20), .inl (cJ, 160, .inr (.inl m_lost_c))), ((m_a 25), .inl (cZ, 2, .inl m_maycome_c)), ((m_a 27), .inl (cZ, 2, .inl m_gets_c)), ((m_a 26), .inl (cI, 2, .inl m_sent_c)), ((m_a 34), .inl (cZ, 2, .inl m_cameFirst_c)), ((m_a 35), .inl (cI, 1280, .inl m_sends_c)), ((m_a 36), .inl (cZ, 1280, .inl m_got_c))] → va_S A s.heap H locs → lv_has ls 3 [(0, .ref m), (1, .int j2_l1)] → W p l e (headSpec v_X12_goes ({ frames := 3, cells := 0, slots := 0, locals := 69 })).room s mth av below meth c H locs 0 0 QQ (F0 mth 2 ls []) := by
    intro n2
    induction n2 with
    | zero => exact fun j2_l1 j2_m_a37_c H locs ls hn => absurd hn (Nat.not_lt_zero _)
    | succ n2 ih2 =>
      intro j2_l1 j2_m_a37_c H locs ls hn2 hj2_l1 hj2_m_a37_c hP hD hS hl
      refine lv_iload_n hx hb dX12_goes_2 rfl (lv_at hl 1 rfl) ?_
      refine lv_aload_n hx hb dX12_goes_3 rfl (lv_at hl 0 rfl) ?_
      refine va_get (D := g) (ci := 11) (v := .ref (m_a 17)) (C := RX12) (T := TX12) (N := 56) hx hb hts iX12 hown hK hP 0 rfl rfl 17 (by decide) (hts (.fieldLink RX12 34 "CardsAtYuleModel" "has" "[I") (List.mem_cons_of_mem _ (List.mem_append_left _ (List.mem_of_getElem? (i := 0) rfl)))) (fun _ h9 => h9) rfl dX12_goes_4 ?_
      refine lv_iconst (v := 4) hx hb dX12_goes_7 (by decide) ?_
      refine va_iald (D := g) hx hb hK hP 1 0 rfl rfl (vc_in (by decide)) dX12_goes_8 ?_
      refine lv_topi (nm_r (e' := (m_has_c 4)) rfl ?_)
      have r8 : ir (m_has_c 4).toInt 0 16 := hasI_4 ha_m_has_c 0 (by decide)
      refine lv_icmp_ge (tgt := 34) hx hb dX12_goes_9 (by decide) (fun c9 => ?_) (fun c9 => ?_)
      rotate_left 1
      · have f9 := (show j2_l1.toInt < (m_has_c 4).toInt from z_nle rfl rfl c9)
        have r9a : ir j2_l1.toInt 0 15 := ir_lta f9 hj2_l1 r8 (by decide)
        have r9b : ir (m_has_c 4).toInt 1 16 := ir_ltb f9 hj2_l1 r8 (by decide)
        refine lv_aload_n hx hb dX12_goes_12 rfl (lv_at hl 0 rfl) ?_
        refine va_get (D := g) (ci := 11) (v := .ref (m_a 37)) (C := RX12) (T := TX12) (N := 56) hx hb hts iX12 hown hK hP 0 rfl rfl 37 (by decide) (hts (.fieldLink RX12 83 "CardsAtYuleModel" "states" "[I") (List.mem_cons_of_mem _ (List.mem_append_left _ (List.mem_of_getElem? (i := 5) rfl)))) (fun _ h9 => h9) rfl dX12_goes_13 ?_
        refine lv_iload_n hx hb dX12_goes_16 rfl (lv_at hl 1 rfl) ?_
        refine lv_aload_n hx hb dX12_goes_17 rfl (lv_at hl 0 rfl) ?_
        refine va_get (D := g) (ci := 11) (v := .ref (m_a 19)) (C := RX12) (T := TX12) (N := 56) hx hb hts iX12 hown hK hP 0 rfl rfl 19 (by decide) (hts (.fieldLink RX12 40 "CardsAtYuleModel" "pair" "[I") (List.mem_cons_of_mem _ (List.mem_append_left _ (List.mem_of_getElem? (i := 12) rfl)))) (fun _ h9 => h9) rfl dX12_goes_18 ?_
        refine lv_iconst (v := 3) hx hb dX12_goes_21 (by decide) ?_
        refine lv_iload_n hx hb dX12_goes_22 rfl (lv_at hl 1 rfl) ?_
        refine lv_imul hx hb dX12_goes_23 ?_
        refine lv_topi (fun y23 e23 => ?_)
        have q23 : y23.toInt = 3 * j2_l1.toInt := by rw [e23]; exact mu_z rfl rfl (ir_c 3) r9a (by decide) (by decide) (by decide)
        have r23 : ir y23.toInt 0 45 := mu_r q23 (ir_c 3) r9a (by decide) (by decide) (by decide) (by decide)
        refine lv_iconst (v := 2) hx hb dX12_goes_24 (by decide) ?_
        refine lv_iadd hx hb dX12_goes_25 ?_
        refine lv_topi (fun y25 e25 => ?_)
        have q25 : y25.toInt = y23.toInt + 2 := by rw [e25]; exact ad_z rfl rfl r23 (ir_c 2) (by decide) (by decide)
        have r25 : ir y25.toInt 2 47 := ad_r q25 r23 (ir_c 2) (by decide) (by decide)
        refine va_iald (D := g) hx hb hK hP 2 0 rfl rfl (vi_rg rfl r25 (by decide) (by decide)) dX12_goes_26 ?_
        refine lv_topi (fun y26 e26 => ?_)
        have r26 : ir y26.toInt 0 15 := by rw [e26]; exact ha_m_pair_c _ (vi_cl (vi_rg rfl r25 (by decide) (by decide)))
        refine va_iast (D := g) hx hb hK hP hD hS 3 0 rfl rfl (vi_rg rfl r9a (by decide) (by decide)) dX12_goes_27 (fun H locs hP hD hS => ?_)
        obtain ⟨g27, e27⟩ : ∃ z, z = upd j2_m_a37_c j2_l1.toNatClampNeg y26 := ⟨_, rfl⟩
        have hP : va_P g vwCl [(m, .inr (11, mG m_a m_thrown m_taped m_at m_token m_place m_value m_word m_bad m_badPlace m_fault m_faultPlace m_willing m_will m_forgot m_isDrawn m_x m_begin m_round m_roundCards m_fate m_any m_bothSend m_meanCards m_bestSum m_fitMany m_fitFirst m_fitSecond)), ((m_a 17), .inl (cI, 25, .inl m_has_c)), ((m_a 19), .inl (cI, 240, .inl m_pair_c)), ((m_a 37), .inl (cI, 656, .inl (upd j2_m_a37_c j2_l1.toNatClampNeg y26))), ((m_a 18), .inl (cI, 250, .inl m_person_c)), ((m_a 23), .inl (cI, 2, .inl m_ruleNow_c)), ((m_a 33), .inl (cI, 2, .inl m_oddsNow_c)), ((m_a 24), .inl (cZ, 2, .inl m_maySend_c)), ((m_a 21), .inl (cJ, 5, .inr (.inl m_strikes_c))), ((m_a 20), .inl (cJ, 160, .inr (.inl m_lost_c))), ((m_a 25), .inl (cZ, 2, .inl m_maycome_c)), ((m_a 27), .inl (cZ, 2, .inl m_gets_c)), ((m_a 26), .inl (cI, 2, .inl m_sent_c)), ((m_a 34), .inl (cZ, 2, .inl m_cameFirst_c)), ((m_a 35), .inl (cI, 1280, .inl m_sends_c)), ((m_a 36), .inl (cZ, 1280, .inl m_got_c))] H := hP
        have hD : va_D A [(m, .inr (11, mG m_a m_thrown m_taped m_at m_token m_place m_value m_word m_bad m_badPlace m_fault m_faultPlace m_willing m_will m_forgot m_isDrawn m_x m_begin m_round m_roundCards m_fate m_any m_bothSend m_meanCards m_bestSum m_fitMany m_fitFirst m_fitSecond)), ((m_a 17), .inl (cI, 25, .inl m_has_c)), ((m_a 19), .inl (cI, 240, .inl m_pair_c)), ((m_a 37), .inl (cI, 656, .inl (upd j2_m_a37_c j2_l1.toNatClampNeg y26))), ((m_a 18), .inl (cI, 250, .inl m_person_c)), ((m_a 23), .inl (cI, 2, .inl m_ruleNow_c)), ((m_a 33), .inl (cI, 2, .inl m_oddsNow_c)), ((m_a 24), .inl (cZ, 2, .inl m_maySend_c)), ((m_a 21), .inl (cJ, 5, .inr (.inl m_strikes_c))), ((m_a 20), .inl (cJ, 160, .inr (.inl m_lost_c))), ((m_a 25), .inl (cZ, 2, .inl m_maycome_c)), ((m_a 27), .inl (cZ, 2, .inl m_gets_c)), ((m_a 26), .inl (cI, 2, .inl m_sent_c)), ((m_a 34), .inl (cZ, 2, .inl m_cameFirst_c)), ((m_a 35), .inl (cI, 1280, .inl m_sends_c)), ((m_a 36), .inl (cZ, 1280, .inl m_got_c))] := hD
        rw [← e27] at hP hD
        have a27 : ar g27 656 0 15 := by rw [e27]; exact ar_u hj2_m_a37_c r26
        obtain ⟨y28, e28⟩ : ∃ y : Int32, y = j2_l1 + 1 := ⟨_, rfl⟩
        have q28 : y28.toInt = j2_l1.toInt + 1 := by rw [e28]; exact ad_z rfl rfl r9a (ir_c 1) (by decide) (by decide)
        have r28 : ir y28.toInt 1 16 := ad_r q28 r9a (ir_c 1) (by decide) (by decide)
        refine lv_iinc (v := y28) (lv' := [(1, .int y28), (0, .ref m)]) hx hb dX12_goes_28 hl (k := 1) rfl e28.symm (by decide) rfl (fun ls hl => ?_)
        refine lv_goto (tgt := 2) hx hb dX12_goes_31 (by decide) ?_
        exact ih2 y28 g27 _ _ _ (by omega) (ir_w r28 (by decide) (by decide)) a27 (hP.sub [0, 1, 2, 3, 4, 5, 6, 7, 8, 9, 10, 11, 12, 13, 14, 15] rfl) (hD.sub [0, 1, 2, 3, 4, 5, 6, 7, 8, 9, 10, 11, 12, 13, 14, 15] (by decide) rfl) hS (lv_sub hl [1, 0] rfl)
      have f9 := (show (m_has_c 4).toInt ≤ j2_l1.toInt from z_le rfl rfl c9)
      refine lv_iconst (v := 0) hx hb dX12_goes_34 (by decide) ?_
      refine lv_istore_n (lv' := [(1, .int 0), (0, .ref m)]) hx hb dX12_goes_35 rfl hl (by decide) rfl (fun ls hl => ?_)
      have J36 : ∀ (n36 : Nat) (j36_l1 : Int32) (j36_m_forgot : Int32) (j36_m_x : Int64) (j36_m_a37_c : Nat → Int32) (j36_m_a24_c : Nat → Int32) (j36_m_a23_c : Nat → Int32) (j36_m_a33_c : Nat → Int32) (j36_m_a25_c : Nat → Int32) (j36_m_a34_c : Nat → Int32) (j36_m_a26_c : Nat → Int32) (j36_m_a35_c : Nat → Int32) (j36_m_a27_c : Nat → Int32) (j36_m_a36_c : Nat → Int32) (H : Heap) (locs : List Loc) (ls : Array Slot), (41 - j36_l1.toInt).toNat < n36 → (ir j36_l1.toInt 0 40) → (ar j36_m_a37_c 656 0 15) → (ar j36_m_a36_c 1280 0 1) → va_P g vwCl [(m, .inr (11, mG m_a m_thrown m_taped m_at m_token m_place m_value m_word m_bad m_badPlace m_fault m_faultPlace m_willing m_will j36_m_forgot m_isDrawn j36_m_x m_begin m_round m_roundCards m_fate m_any m_bothSend m_meanCards m_bestSum m_fitMany m_fitFirst m_fitSecond)), ((m_a 17), .inl (cI, 25, .inl m_has_c)), ((m_a 19), .inl (cI, 240, .inl m_pair_c)), ((m_a 37), .inl (cI, 656, .inl j36_m_a37_c)), ((m_a 18), .inl (cI, 250, .inl m_person_c)), ((m_a 23), .inl (cI, 2, .inl j36_m_a23_c)), ((m_a 33), .inl (cI, 2, .inl j36_m_a33_c)), ((m_a 24), .inl (cZ, 2, .inl j36_m_a24_c)), ((m_a 21), .inl (cJ, 5, .inr (.inl m_strikes_c))), ((m_a 20), .inl (cJ, 160, .inr (.inl m_lost_c))), ((m_a 25), .inl (cZ, 2, .inl j36_m_a25_c)), ((m_a 27), .inl (cZ, 2, .inl j36_m_a27_c)), ((m_a 26), .inl (cI, 2, .inl j36_m_a26_c)), ((m_a 34), .inl (cZ, 2, .inl j36_m_a34_c)), ((m_a 35), .inl (cI, 1280, .inl j36_m_a35_c)), ((m_a 36), .inl (cZ, 1280, .inl j36_m_a36_c))] H → va_D A [(m, .inr (11, mG m_a m_thrown m_taped m_at m_token m_place m_value m_word m_bad m_badPlace m_fault m_faultPlace m_willing m_will j36_m_forgot m_isDrawn j36_m_x m_begin m_round m_roundCards m_fate m_any m_bothSend m_meanCards m_bestSum m_fitMany m_fitFirst m_fitSecond)), ((m_a 17), .inl (cI, 25, .inl m_has_c)), ((m_a 19), .inl (cI, 240, .inl m_pair_c)), ((m_a 37), .inl (cI, 656, .inl j36_m_a37_c)), ((m_a 18), .inl (cI, 250, .inl m_person_c)), ((m_a 23), .inl (cI, 2, .inl j36_m_a23_c)), ((m_a 33), .inl (cI, 2, .inl j36_m_a33_c)), ((m_a 24), .inl (cZ, 2, .inl j36_m_a24_c)), ((m_a 21), .inl (cJ, 5, .inr (.inl m_strikes_c))), ((m_a 20), .inl (cJ, 160, .inr (.inl m_lost_c))), ((m_a 25), .inl (cZ, 2, .inl j36_m_a25_c)), ((m_a 27), .inl (cZ, 2, .inl j36_m_a27_c)), ((m_a 26), .inl (cI, 2, .inl j36_m_a26_c)), ((m_a 34), .inl (cZ, 2, .inl j36_m_a34_c)), ((m_a 35), .inl (cI, 1280, .inl j36_m_a35_c)), ((m_a 36), .inl (cZ, 1280, .inl j36_m_a36_c))] → va_S A s.heap H locs → lv_has ls 3 [(0, .ref m), (1, .int j36_l1)] → W p l e (headSpec v_X12_goes ({ frames := 3, cells := 0, slots := 0, locals := 69 })).room s mth av below meth c H locs 0 0 QQ (F0 mth 36 ls []) := by
        intro n36
        induction n36 with
        | zero => exact fun j36_l1 j36_m_forgot j36_m_x j36_m_a37_c j36_m_a24_c j36_m_a23_c j36_m_a33_c j36_m_a25_c j36_m_a34_c j36_m_a26_c j36_m_a35_c j36_m_a27_c j36_m_a36_c H locs ls hn => absurd hn (Nat.not_lt_zero _)
        | succ n36 ih36 =>
          intro j36_l1 j36_m_forgot j36_m_x j36_m_a37_c j36_m_a24_c j36_m_a23_c j36_m_a33_c j36_m_a25_c j36_m_a34_c j36_m_a26_c j36_m_a35_c j36_m_a27_c j36_m_a36_c H locs ls hn36 hj36_l1 hj36_m_a37_c hj36_m_a36_c hP hD hS hl
          refine lv_iload_n hx hb dX12_goes_36 rfl (lv_at hl 1 rfl) ?_
          refine lv_aload_n hx hb dX12_goes_37 rfl (lv_at hl 0 rfl) ?_
          refine va_get (D := g) (ci := 11) (v := .ref (m_a 17)) (C := RX12) (T := TX12) (N := 56) hx hb hts iX12 hown hK hP 0 rfl rfl 17 (by decide) (hts (.fieldLink RX12 34 "CardsAtYuleModel" "has" "[I") (List.mem_cons_of_mem _ (List.mem_append_left _ (List.mem_of_getElem? (i := 0) rfl)))) (fun _ h9 => h9) rfl dX12_goes_38 ?_
          refine lv_iconst (v := 0) hx hb dX12_goes_41 (by decide) ?_
          refine va_iald (D := g) hx hb hK hP 1 0 rfl rfl (vc_in (by decide)) dX12_goes_42 ?_
          refine lv_topi (nm_r (e' := (m_has_c 0)) rfl ?_)
          have r42 : ir (m_has_c 0).toInt 0 40 := hasI_0 ha_m_has_c 0 (by decide)
          refine lv_icmp_ge (tgt := 97) hx hb dX12_goes_43 (by decide) (fun c43 => ?_) (fun c43 => ?_)
          · have f43 := (show (m_has_c 0).toInt ≤ j36_l1.toInt from z_le rfl rfl c43)
            subst hQ
            have hP9 := hP.sub (ws' := [(m, .inr (11, mG m_a m_thrown m_taped m_at m_token m_place m_value m_word m_bad m_badPlace m_fault m_faultPlace m_willing m_will j36_m_forgot m_isDrawn j36_m_x m_begin m_round m_roundCards m_fate m_any m_bothSend m_meanCards m_bestSum m_fitMany m_fitFirst m_fitSecond)), ((m_a 17), .inl (cI, 25, .inl m_has_c)), ((m_a 19), .inl (cI, 240, .inl m_pair_c)), ((m_a 37), .inl (cI, 656, .inl j36_m_a37_c)), ((m_a 18), .inl (cI, 250, .inl m_person_c)), ((m_a 23), .inl (cI, 2, .inl j36_m_a23_c)), ((m_a 33), .inl (cI, 2, .inl j36_m_a33_c)), ((m_a 24), .inl (cZ, 2, .inl j36_m_a24_c)), ((m_a 21), .inl (cJ, 5, .inr (.inl m_strikes_c))), ((m_a 20), .inl (cJ, 160, .inr (.inl m_lost_c))), ((m_a 25), .inl (cZ, 2, .inl j36_m_a25_c)), ((m_a 27), .inl (cZ, 2, .inl j36_m_a27_c)), ((m_a 26), .inl (cI, 2, .inl j36_m_a26_c)), ((m_a 34), .inl (cZ, 2, .inl j36_m_a34_c)), ((m_a 35), .inl (cI, 1280, .inl j36_m_a35_c)), ((m_a 36), .inl (cZ, 1280, .inl j36_m_a36_c))]) [0, 1, 2, 3, 4, 5, 6, 7, 8, 9, 10, 11, 12, 13, 14, 15] rfl
            have hD9 := hD.sub (ws' := [(m, .inr (11, mG m_a m_thrown m_taped m_at m_token m_place m_value m_word m_bad m_badPlace m_fault m_faultPlace m_willing m_will j36_m_forgot m_isDrawn j36_m_x m_begin m_round m_roundCards m_fate m_any m_bothSend m_meanCards m_bestSum m_fitMany m_fitFirst m_fitSecond)), ((m_a 17), .inl (cI, 25, .inl m_has_c)), ((m_a 19), .inl (cI, 240, .inl m_pair_c)), ((m_a 37), .inl (cI, 656, .inl j36_m_a37_c)), ((m_a 18), .inl (cI, 250, .inl m_person_c)), ((m_a 23), .inl (cI, 2, .inl j36_m_a23_c)), ((m_a 33), .inl (cI, 2, .inl j36_m_a33_c)), ((m_a 24), .inl (cZ, 2, .inl j36_m_a24_c)), ((m_a 21), .inl (cJ, 5, .inr (.inl m_strikes_c))), ((m_a 20), .inl (cJ, 160, .inr (.inl m_lost_c))), ((m_a 25), .inl (cZ, 2, .inl j36_m_a25_c)), ((m_a 27), .inl (cZ, 2, .inl j36_m_a27_c)), ((m_a 26), .inl (cI, 2, .inl j36_m_a26_c)), ((m_a 34), .inl (cZ, 2, .inl j36_m_a34_c)), ((m_a 35), .inl (cI, 1280, .inl j36_m_a35_c)), ((m_a 36), .inl (cZ, 1280, .inl j36_m_a36_c))]) [0, 1, 2, 3, 4, 5, 6, 7, 8, 9, 10, 11, 12, 13, 14, 15] (by decide) rfl
            exact W.vret hx hb hr (fun t ht hW => ⟨⟨(j36_m_forgot, j36_m_x, j36_m_a37_c, j36_m_a23_c, j36_m_a33_c, j36_m_a24_c, j36_m_a25_c, j36_m_a27_c, j36_m_a26_c, j36_m_a34_c, j36_m_a35_c, j36_m_a36_c), rfl, ⟨hj36_m_a37_c, hj36_m_a36_c⟩, ⟨by rw [ht]; exact hP9, va_K.moved hW.alike hK, hD9⟩⟩, hS.F ht⟩) hS.2.2 dX12_goes_97
          have f43 := (show j36_l1.toInt < (m_has_c 0).toInt from z_nle rfl rfl c43)
          have r43a : ir j36_l1.toInt 0 39 := ir_lta f43 hj36_l1 r42 (by decide)
          have r43b : ir (m_has_c 0).toInt 1 40 := ir_ltb f43 hj36_l1 r42 (by decide)
          refine lv_iconst (v := 0) hx hb dX12_goes_46 (by decide) ?_
          refine lv_istore_n (lv' := [(2, .int 0), (0, .ref m), (1, .int j36_l1)]) hx hb dX12_goes_47 rfl hl (by decide) rfl (fun ls hl => ?_)
          have J48 : ∀ (n48 : Nat) (j48_l2 : Int32) (j48_m_forgot : Int32) (j48_m_x : Int64) (j48_m_a37_c : Nat → Int32) (j48_m_a24_c : Nat → Int32) (j48_m_a23_c : Nat → Int32) (j48_m_a33_c : Nat → Int32) (j48_m_a25_c : Nat → Int32) (j48_m_a34_c : Nat → Int32) (j48_m_a26_c : Nat → Int32) (j48_m_a35_c : Nat → Int32) (j48_m_a27_c : Nat → Int32) (j48_m_a36_c : Nat → Int32) (H : Heap) (locs : List Loc) (ls : Array Slot), (17 - j48_l2.toInt).toNat < n48 → (ir j48_l2.toInt 0 16) → (ar j48_m_a37_c 656 0 15) → (ar j48_m_a36_c 1280 0 1) → va_P g vwCl [(m, .inr (11, mG m_a m_thrown m_taped m_at m_token m_place m_value m_word m_bad m_badPlace m_fault m_faultPlace m_willing m_will j48_m_forgot m_isDrawn j48_m_x m_begin m_round m_roundCards m_fate m_any m_bothSend m_meanCards m_bestSum m_fitMany m_fitFirst m_fitSecond)), ((m_a 17), .inl (cI, 25, .inl m_has_c)), ((m_a 19), .inl (cI, 240, .inl m_pair_c)), ((m_a 37), .inl (cI, 656, .inl j48_m_a37_c)), ((m_a 18), .inl (cI, 250, .inl m_person_c)), ((m_a 23), .inl (cI, 2, .inl j48_m_a23_c)), ((m_a 33), .inl (cI, 2, .inl j48_m_a33_c)), ((m_a 24), .inl (cZ, 2, .inl j48_m_a24_c)), ((m_a 21), .inl (cJ, 5, .inr (.inl m_strikes_c))), ((m_a 20), .inl (cJ, 160, .inr (.inl m_lost_c))), ((m_a 25), .inl (cZ, 2, .inl j48_m_a25_c)), ((m_a 27), .inl (cZ, 2, .inl j48_m_a27_c)), ((m_a 26), .inl (cI, 2, .inl j48_m_a26_c)), ((m_a 34), .inl (cZ, 2, .inl j48_m_a34_c)), ((m_a 35), .inl (cI, 1280, .inl j48_m_a35_c)), ((m_a 36), .inl (cZ, 1280, .inl j48_m_a36_c))] H → va_D A [(m, .inr (11, mG m_a m_thrown m_taped m_at m_token m_place m_value m_word m_bad m_badPlace m_fault m_faultPlace m_willing m_will j48_m_forgot m_isDrawn j48_m_x m_begin m_round m_roundCards m_fate m_any m_bothSend m_meanCards m_bestSum m_fitMany m_fitFirst m_fitSecond)), ((m_a 17), .inl (cI, 25, .inl m_has_c)), ((m_a 19), .inl (cI, 240, .inl m_pair_c)), ((m_a 37), .inl (cI, 656, .inl j48_m_a37_c)), ((m_a 18), .inl (cI, 250, .inl m_person_c)), ((m_a 23), .inl (cI, 2, .inl j48_m_a23_c)), ((m_a 33), .inl (cI, 2, .inl j48_m_a33_c)), ((m_a 24), .inl (cZ, 2, .inl j48_m_a24_c)), ((m_a 21), .inl (cJ, 5, .inr (.inl m_strikes_c))), ((m_a 20), .inl (cJ, 160, .inr (.inl m_lost_c))), ((m_a 25), .inl (cZ, 2, .inl j48_m_a25_c)), ((m_a 27), .inl (cZ, 2, .inl j48_m_a27_c)), ((m_a 26), .inl (cI, 2, .inl j48_m_a26_c)), ((m_a 34), .inl (cZ, 2, .inl j48_m_a34_c)), ((m_a 35), .inl (cI, 1280, .inl j48_m_a35_c)), ((m_a 36), .inl (cZ, 1280, .inl j48_m_a36_c))] → va_S A s.heap H locs → lv_has ls 3 [(0, .ref m), (1, .int j36_l1), (2, .int j48_l2)] → W p l e (headSpec v_X12_goes ({ frames := 3, cells := 0, slots := 0, locals := 69 })).room s mth av below meth c H locs 0 0 QQ (F0 mth 48 ls []) := by
            intro n48
            induction n48 with
            | zero => exact fun j48_l2 j48_m_forgot j48_m_x j48_m_a37_c j48_m_a24_c j48_m_a23_c j48_m_a33_c j48_m_a25_c j48_m_a34_c j48_m_a26_c j48_m_a35_c j48_m_a27_c j48_m_a36_c H locs ls hn => absurd hn (Nat.not_lt_zero _)
            | succ n48 ih48 =>
              intro j48_l2 j48_m_forgot j48_m_x j48_m_a37_c j48_m_a24_c j48_m_a23_c j48_m_a33_c j48_m_a25_c j48_m_a34_c j48_m_a26_c j48_m_a35_c j48_m_a27_c j48_m_a36_c H locs ls hn48 hj48_l2 hj48_m_a37_c hj48_m_a36_c hP hD hS hl
              refine lv_iload_n hx hb dX12_goes_48 rfl (lv_at hl 2 rfl) ?_
              refine lv_aload_n hx hb dX12_goes_49 rfl (lv_at hl 0 rfl) ?_
              refine va_get (D := g) (ci := 11) (v := .ref (m_a 17)) (C := RX12) (T := TX12) (N := 56) hx hb hts iX12 hown hK hP 0 rfl rfl 17 (by decide) (hts (.fieldLink RX12 34 "CardsAtYuleModel" "has" "[I") (List.mem_cons_of_mem _ (List.mem_append_left _ (List.mem_of_getElem? (i := 0) rfl)))) (fun _ h9 => h9) rfl dX12_goes_50 ?_
              refine lv_iconst (v := 4) hx hb dX12_goes_53 (by decide) ?_
              refine va_iald (D := g) hx hb hK hP 1 0 rfl rfl (vc_in (by decide)) dX12_goes_54 ?_
              refine lv_topi (nm_r (e' := (m_has_c 4)) rfl ?_)
              refine lv_icmp_ge (tgt := 91) hx hb dX12_goes_55 (by decide) (fun c55 => ?_) (fun c55 => ?_)
              · have f55 := (show (m_has_c 4).toInt ≤ j48_l2.toInt from z_le rfl rfl c55)
                obtain ⟨y91, e91⟩ : ∃ y : Int32, y = j36_l1 + 1 := ⟨_, rfl⟩
                have q91 : y91.toInt = j36_l1.toInt + 1 := by rw [e91]; exact ad_z rfl rfl r43a (ir_c 1) (by decide) (by decide)
                have r91 : ir y91.toInt 1 40 := ad_r q91 r43a (ir_c 1) (by decide) (by decide)
                refine lv_iinc (v := y91) (lv' := [(1, .int y91), (0, .ref m), (2, .int j48_l2)]) hx hb dX12_goes_91 hl (k := 1) rfl e91.symm (by decide) rfl (fun ls hl => ?_)
                refine lv_goto (tgt := 36) hx hb dX12_goes_94 (by decide) ?_
                exact ih36 y91 j48_m_forgot j48_m_x j48_m_a37_c j48_m_a24_c j48_m_a23_c j48_m_a33_c j48_m_a25_c j48_m_a34_c j48_m_a26_c j48_m_a35_c j48_m_a27_c j48_m_a36_c _ _ _ (by omega) (ir_w r91 (by decide) (by decide)) hj48_m_a37_c hj48_m_a36_c (hP.sub [0, 1, 2, 3, 4, 5, 6, 7, 8, 9, 10, 11, 12, 13, 14, 15] rfl) (hD.sub [0, 1, 2, 3, 4, 5, 6, 7, 8, 9, 10, 11, 12, 13, 14, 15] (by decide) rfl) hS (lv_sub hl [1, 0] rfl)
              have f55 := (show j48_l2.toInt < (m_has_c 4).toInt from z_nle rfl rfl c55)
              have r55a : ir j48_l2.toInt 0 15 := ir_lta f55 hj48_l2 r8 (by decide)
              have r55b : ir (m_has_c 4).toInt 1 16 := ir_ltb f55 hj48_l2 r8 (by decide)
              refine lv_aload_n hx hb dX12_goes_58 rfl (lv_at hl 0 rfl) ?_
              refine lv_iload_n hx hb dX12_goes_59 rfl (lv_at hl 2 rfl) ?_
              refine lv_iload_n hx hb dX12_goes_60 rfl (lv_at hl 1 rfl) ?_
              refine rw_v (wr := [((m_a 17), .inl (cI, 25, .inl m_has_c)), ((m_a 37), .inl (cI, 656, .inl j48_m_a37_c)), ((m_a 27), .inl (cZ, 2, .inl j48_m_a27_c)), ((m_a 26), .inl (cI, 2, .inl j48_m_a26_c)), ((m_a 34), .inl (cZ, 2, .inl j48_m_a34_c)), ((m_a 35), .inl (cI, 1280, .inl j48_m_a35_c)), ((m_a 36), .inl (cZ, 1280, .inl j48_m_a36_c))]) (va_runV (As := [.int j48_l2, .int j36_l1]) (rest := []) ⟨hx, hb, hml, hown, hts⟩ (q_X12_asTold l g cI cJ cB cZ cL j48_l2 j36_l1 m m_a m_thrown m_taped m_at m_token m_place m_value m_word m_bad m_badPlace m_fault m_faultPlace m_willing m_will j48_m_forgot m_isDrawn j48_m_x m_begin m_round m_roundCards m_fate m_any m_bothSend m_meanCards m_bestSum m_fitMany m_fitFirst m_fitSecond m_pair_c m_person_c j48_m_a23_c j48_m_a33_c j48_m_a24_c m_strikes_c m_lost_c j48_m_a25_c H.size r55a hv_m_taped hv_m_at hv_m_will hv_m_isDrawn ha_m_pair_c ha_m_person_c) (cwV 2 hts (goodIn_app (g_4 (List.mem_cons_of_mem _ (List.mem_append_left _ (List.mem_of_getElem? (i := 1) rfl))) (List.mem_cons_of_mem _ (List.mem_append_left _ (List.mem_of_getElem? (i := 2) rfl))) (List.mem_cons_of_mem _ (List.mem_append_left _ (List.mem_of_getElem? (i := 3) rfl))) (List.mem_cons_of_mem _ (List.mem_append_left _ (List.mem_of_getElem? (i := 4) rfl))) (by decide +kernel)) (goodIn_sub (fun _ h => List.mem_cons_of_mem _ (List.mem_append_right _ (List.mem_append_left _ h))) good_v_X12_asTold)) rfl rfl rfl (by decide +kernel) ⟨Nat.le_of_ble_eq_true rfl, Nat.le_of_ble_eq_true rfl⟩) (pv_RW (q := (RX12, TX12, 56)) (ci := 11) (q0 := 0) (wc := [(m, .inr (11, mG m_a m_thrown m_taped m_at m_token m_place m_value m_word m_bad m_badPlace m_fault m_faultPlace m_willing m_will j48_m_forgot m_isDrawn j48_m_x m_begin m_round m_roundCards m_fate m_any m_bothSend m_meanCards m_bestSum m_fitMany m_fitFirst m_fitSecond)), ((m_a 19), .inl (cI, 240, .inl m_pair_c)), ((m_a 18), .inl (cI, 250, .inl m_person_c)), ((m_a 23), .inl (cI, 2, .inl j48_m_a23_c)), ((m_a 33), .inl (cI, 2, .inl j48_m_a33_c)), ((m_a 24), .inl (cZ, 2, .inl j48_m_a24_c)), ((m_a 21), .inl (cJ, 5, .inr (.inl m_strikes_c))), ((m_a 20), .inl (cJ, 160, .inr (.inl m_lost_c))), ((m_a 25), .inl (cZ, 2, .inl j48_m_a25_c))]) hK hP hD [0, 2, 4, 5, 6, 7, 8, 9, 10] (by decide) rfl rfl rfl) rfl rfl hl.1 rfl (lv_room (Nat.le_of_ble_eq_true rfl)) dX12_goes_61 ⟨Nat.le_of_ble_eq_true rfl, Nat.le_of_ble_eq_true rfl⟩) hS hA hP hD [0, 2, 4, 5, 6, 7, 8, 9, 10] [1, 3, 11, 12, 13, 14, 15] rfl rfl (by decide) (by decide) (fun u61 H locs hw61 hP hD hS => ?_)
              obtain ⟨n_m_ruleNow_c_61, n_m_oddsNow_c_61, n_m_maySend_c_61, n_m_maycome_c_61⟩ := u61
              have hP : va_P g vwCl [((m_a 17), .inl (cI, 25, .inl m_has_c)), ((m_a 37), .inl (cI, 656, .inl j48_m_a37_c)), ((m_a 27), .inl (cZ, 2, .inl j48_m_a27_c)), ((m_a 26), .inl (cI, 2, .inl j48_m_a26_c)), ((m_a 34), .inl (cZ, 2, .inl j48_m_a34_c)), ((m_a 35), .inl (cI, 1280, .inl j48_m_a35_c)), ((m_a 36), .inl (cZ, 1280, .inl j48_m_a36_c)), (m, .inr (11, mG m_a m_thrown m_taped m_at m_token m_place m_value m_word m_bad m_badPlace m_fault m_faultPlace m_willing m_will j48_m_forgot m_isDrawn j48_m_x m_begin m_round m_roundCards m_fate m_any m_bothSend m_meanCards m_bestSum m_fitMany m_fitFirst m_fitSecond)), ((m_a 19), .inl (cI, 240, .inl m_pair_c)), ((m_a 18), .inl (cI, 250, .inl m_person_c)), ((m_a 23), .inl (cI, 2, .inl n_m_ruleNow_c_61)), ((m_a 33), .inl (cI, 2, .inl n_m_oddsNow_c_61)), ((m_a 24), .inl (cZ, 2, .inl n_m_maySend_c_61)), ((m_a 21), .inl (cJ, 5, .inr (.inl m_strikes_c))), ((m_a 20), .inl (cJ, 160, .inr (.inl m_lost_c))), ((m_a 25), .inl (cZ, 2, .inl n_m_maycome_c_61))] H := hP
              have hD : va_D A [((m_a 17), .inl (cI, 25, .inl m_has_c)), ((m_a 37), .inl (cI, 656, .inl j48_m_a37_c)), ((m_a 27), .inl (cZ, 2, .inl j48_m_a27_c)), ((m_a 26), .inl (cI, 2, .inl j48_m_a26_c)), ((m_a 34), .inl (cZ, 2, .inl j48_m_a34_c)), ((m_a 35), .inl (cI, 1280, .inl j48_m_a35_c)), ((m_a 36), .inl (cZ, 1280, .inl j48_m_a36_c)), (m, .inr (11, mG m_a m_thrown m_taped m_at m_token m_place m_value m_word m_bad m_badPlace m_fault m_faultPlace m_willing m_will j48_m_forgot m_isDrawn j48_m_x m_begin m_round m_roundCards m_fate m_any m_bothSend m_meanCards m_bestSum m_fitMany m_fitFirst m_fitSecond)), ((m_a 19), .inl (cI, 240, .inl m_pair_c)), ((m_a 18), .inl (cI, 250, .inl m_person_c)), ((m_a 23), .inl (cI, 2, .inl n_m_ruleNow_c_61)), ((m_a 33), .inl (cI, 2, .inl n_m_oddsNow_c_61)), ((m_a 24), .inl (cZ, 2, .inl n_m_maySend_c_61)), ((m_a 21), .inl (cJ, 5, .inr (.inl m_strikes_c))), ((m_a 20), .inl (cJ, 160, .inr (.inl m_lost_c))), ((m_a 25), .inl (cZ, 2, .inl n_m_maycome_c_61))] := hD
              refine lv_aload_n hx hb dX12_goes_64 rfl (lv_at hl 0 rfl) ?_
              refine lv_iload_n hx hb dX12_goes_65 rfl (lv_at hl 2 rfl) ?_
              refine lv_iload_n hx hb dX12_goes_66 rfl (lv_at hl 1 rfl) ?_
              refine lv_aload_n hx hb dX12_goes_67 rfl (lv_at hl 0 rfl) ?_
              refine lv_aload_n hx hb dX12_goes_68 rfl (lv_at hl 0 rfl) ?_
              refine va_get (D := g) (ci := 11) (v := .ref (m_a 37)) (C := RX12) (T := TX12) (N := 56) hx hb hts iX12 hown hK hP 7 rfl rfl 37 (by decide) (hts (.fieldLink RX12 83 "CardsAtYuleModel" "states" "[I") (List.mem_cons_of_mem _ (List.mem_append_left _ (List.mem_of_getElem? (i := 5) rfl)))) (fun _ h9 => h9) rfl dX12_goes_69 ?_
              refine lv_bipush (v := 16) hx hb dX12_goes_72 (by decide) ?_
              refine lv_iload_n hx hb dX12_goes_74 rfl (lv_at hl 1 rfl) ?_
              refine lv_imul hx hb dX12_goes_75 ?_
              refine lv_topi (fun y75 e75 => ?_)
              have q75 : y75.toInt = 16 * j36_l1.toInt := by rw [e75]; exact mu_z rfl rfl (ir_c 16) r43a (by decide) (by decide) (by decide)
              have r75 : ir y75.toInt 0 624 := mu_r q75 (ir_c 16) r43a (by decide) (by decide) (by decide) (by decide)
              refine lv_iload_n hx hb dX12_goes_76 rfl (lv_at hl 2 rfl) ?_
              refine lv_iadd hx hb dX12_goes_77 ?_
              refine lv_topi (fun y77 e77 => ?_)
              have q77 : y77.toInt = y75.toInt + j48_l2.toInt := by rw [e77]; exact ad_z rfl rfl r75 r55a (by decide) (by decide)
              have r77 : ir y77.toInt 0 639 := ad_r q77 r75 r55a (by decide) (by decide)
              refine va_iald (D := g) hx hb hK hP 1 0 rfl rfl (vi_rg rfl r77 (by decide) (by decide)) dX12_goes_78 ?_
              refine lv_topi (fun y78 e78 => ?_)
              have r78 : ir y78.toInt 0 15 := by rw [e78]; exact hj48_m_a37_c _ (vi_cl (vi_rg rfl r77 (by decide) (by decide)))
              refine rw_i (wr := [((m_a 17), .inl (cI, 25, .inl m_has_c)), ((m_a 37), .inl (cI, 656, .inl j48_m_a37_c)), ((m_a 35), .inl (cI, 1280, .inl j48_m_a35_c)), ((m_a 36), .inl (cZ, 1280, .inl j48_m_a36_c)), ((m_a 19), .inl (cI, 240, .inl m_pair_c)), ((m_a 18), .inl (cI, 250, .inl m_person_c)), ((m_a 21), .inl (cJ, 5, .inr (.inl m_strikes_c))), ((m_a 20), .inl (cJ, 160, .inr (.inl m_lost_c)))]) (va_runV (As := [.int y78]) (rest := [.int j36_l1, .int j48_l2, .ref m]) ⟨hx, hb, hml, hown, hts⟩ (q_X12_yearOf l g cI cJ cB cZ cL y78 m m_a m_thrown m_taped m_at m_token m_place m_value m_word m_bad m_badPlace m_fault m_faultPlace m_willing m_will j48_m_forgot m_isDrawn j48_m_x m_begin m_round m_roundCards m_fate m_any m_bothSend m_meanCards m_bestSum m_fitMany m_fitFirst m_fitSecond j48_m_a27_c n_m_maySend_c_61 n_m_ruleNow_c_61 n_m_oddsNow_c_61 j48_m_a26_c n_m_maycome_c_61 j48_m_a34_c H.size hv_m_taped hv_m_at hv_m_will hv_m_isDrawn) (cwV 1 hts (goodIn_app (g_4 (List.mem_cons_of_mem _ (List.mem_append_left _ (List.mem_of_getElem? (i := 6) rfl))) (List.mem_cons_of_mem _ (List.mem_append_left _ (List.mem_of_getElem? (i := 7) rfl))) (List.mem_cons_of_mem _ (List.mem_append_left _ (List.mem_of_getElem? (i := 8) rfl))) (List.mem_cons_of_mem _ (List.mem_append_left _ (List.mem_of_getElem? (i := 4) rfl))) (by decide +kernel)) (goodIn_sub (fun _ h => List.mem_cons_of_mem _ (List.mem_append_right _ (List.mem_append_right _ (List.mem_append_left _ h)))) good_v_X12_yearOf)) rfl rfl rfl (by decide +kernel) ⟨Nat.le_of_ble_eq_true rfl, Nat.le_of_ble_eq_true rfl⟩) (pv_RW (q := (RX12, TX12, 56)) (ci := 11) (q0 := 0) (wc := [(m, .inr (11, mG m_a m_thrown m_taped m_at m_token m_place m_value m_word m_bad m_badPlace m_fault m_faultPlace m_willing m_will j48_m_forgot m_isDrawn j48_m_x m_begin m_round m_roundCards m_fate m_any m_bothSend m_meanCards m_bestSum m_fitMany m_fitFirst m_fitSecond)), ((m_a 27), .inl (cZ, 2, .inl j48_m_a27_c)), ((m_a 24), .inl (cZ, 2, .inl n_m_maySend_c_61)), ((m_a 23), .inl (cI, 2, .inl n_m_ruleNow_c_61)), ((m_a 33), .inl (cI, 2, .inl n_m_oddsNow_c_61)), ((m_a 26), .inl (cI, 2, .inl j48_m_a26_c)), ((m_a 25), .inl (cZ, 2, .inl n_m_maycome_c_61)), ((m_a 34), .inl (cZ, 2, .inl j48_m_a34_c))]) hK hP hD [7, 2, 12, 10, 11, 3, 15, 4] (by decide) rfl rfl rfl) rfl rfl hl.1 rfl (lv_room (Nat.le_of_ble_eq_true rfl)) dX12_goes_79 ⟨Nat.le_of_ble_eq_true rfl, Nat.le_of_ble_eq_true rfl⟩) hS hA hP hD [7, 2, 12, 10, 11, 3, 15, 4] [0, 1, 5, 6, 8, 9, 13, 14] rfl rfl (by decide) (by decide) (fun r79 u79 H locs hw79 hP hD hS => ?_)
              obtain ⟨n_m_forgot_79, n_m_x_79, n_m_gets_c_79, n_m_sent_c_79, n_m_cameFirst_c_79⟩ := u79
              have hP : va_P g vwCl [((m_a 17), .inl (cI, 25, .inl m_has_c)), ((m_a 37), .inl (cI, 656, .inl j48_m_a37_c)), ((m_a 35), .inl (cI, 1280, .inl j48_m_a35_c)), ((m_a 36), .inl (cZ, 1280, .inl j48_m_a36_c)), ((m_a 19), .inl (cI, 240, .inl m_pair_c)), ((m_a 18), .inl (cI, 250, .inl m_person_c)), ((m_a 21), .inl (cJ, 5, .inr (.inl m_strikes_c))), ((m_a 20), .inl (cJ, 160, .inr (.inl m_lost_c))), (m, .inr (11, mG m_a m_thrown m_taped m_at m_token m_place m_value m_word m_bad m_badPlace m_fault m_faultPlace m_willing m_will n_m_forgot_79 m_isDrawn n_m_x_79 m_begin m_round m_roundCards m_fate m_any m_bothSend m_meanCards m_bestSum m_fitMany m_fitFirst m_fitSecond)), ((m_a 27), .inl (cZ, 2, .inl n_m_gets_c_79)), ((m_a 24), .inl (cZ, 2, .inl n_m_maySend_c_61)), ((m_a 23), .inl (cI, 2, .inl n_m_ruleNow_c_61)), ((m_a 33), .inl (cI, 2, .inl n_m_oddsNow_c_61)), ((m_a 26), .inl (cI, 2, .inl n_m_sent_c_79)), ((m_a 25), .inl (cZ, 2, .inl n_m_maycome_c_61)), ((m_a 34), .inl (cZ, 2, .inl n_m_cameFirst_c_79))] H := hP
              have hD : va_D A [((m_a 17), .inl (cI, 25, .inl m_has_c)), ((m_a 37), .inl (cI, 656, .inl j48_m_a37_c)), ((m_a 35), .inl (cI, 1280, .inl j48_m_a35_c)), ((m_a 36), .inl (cZ, 1280, .inl j48_m_a36_c)), ((m_a 19), .inl (cI, 240, .inl m_pair_c)), ((m_a 18), .inl (cI, 250, .inl m_person_c)), ((m_a 21), .inl (cJ, 5, .inr (.inl m_strikes_c))), ((m_a 20), .inl (cJ, 160, .inr (.inl m_lost_c))), (m, .inr (11, mG m_a m_thrown m_taped m_at m_token m_place m_value m_word m_bad m_badPlace m_fault m_faultPlace m_willing m_will n_m_forgot_79 m_isDrawn n_m_x_79 m_begin m_round m_roundCards m_fate m_any m_bothSend m_meanCards m_bestSum m_fitMany m_fitFirst m_fitSecond)), ((m_a 27), .inl (cZ, 2, .inl n_m_gets_c_79)), ((m_a 24), .inl (cZ, 2, .inl n_m_maySend_c_61)), ((m_a 23), .inl (cI, 2, .inl n_m_ruleNow_c_61)), ((m_a 33), .inl (cI, 2, .inl n_m_oddsNow_c_61)), ((m_a 26), .inl (cI, 2, .inl n_m_sent_c_79)), ((m_a 25), .inl (cZ, 2, .inl n_m_maycome_c_61)), ((m_a 34), .inl (cZ, 2, .inl n_m_cameFirst_c_79))] := hD
              dsimp only at hw79
              have hw79_0 := hw79
              refine rw_v (wr := [((m_a 17), .inl (cI, 25, .inl m_has_c)), ((m_a 19), .inl (cI, 240, .inl m_pair_c)), ((m_a 18), .inl (cI, 250, .inl m_person_c)), ((m_a 21), .inl (cJ, 5, .inr (.inl m_strikes_c))), ((m_a 20), .inl (cJ, 160, .inr (.inl m_lost_c))), ((m_a 24), .inl (cZ, 2, .inl n_m_maySend_c_61)), ((m_a 23), .inl (cI, 2, .inl n_m_ruleNow_c_61)), ((m_a 33), .inl (cI, 2, .inl n_m_oddsNow_c_61)), ((m_a 25), .inl (cZ, 2, .inl n_m_maycome_c_61)), ((m_a 34), .inl (cZ, 2, .inl n_m_cameFirst_c_79))]) (va_runV (As := [.int j48_l2, .int j36_l1, .int r79]) (rest := []) ⟨hx, hb, hml, hown, hts⟩ (q_X12_keepsYear l g cI cJ cB cZ cL j48_l2 j36_l1 r79 m m_a m_thrown m_taped m_at m_token m_place m_value m_word m_bad m_badPlace m_fault m_faultPlace m_willing m_will n_m_forgot_79 m_isDrawn n_m_x_79 m_begin m_round m_roundCards m_fate m_any m_bothSend m_meanCards m_bestSum m_fitMany m_fitFirst m_fitSecond n_m_sent_c_79 j48_m_a35_c n_m_gets_c_79 j48_m_a36_c j48_m_a37_c H.size r55a r43a hw79_0 hv_m_taped hv_m_at hv_m_will hv_m_isDrawn hj48_m_a36_c hj48_m_a37_c) (cwV 3 hts (goodIn_app (g_4 (List.mem_cons_of_mem _ (List.mem_append_left _ (List.mem_of_getElem? (i := 9) rfl))) (List.mem_cons_of_mem _ (List.mem_append_left _ (List.mem_of_getElem? (i := 10) rfl))) (List.mem_cons_of_mem _ (List.mem_append_left _ (List.mem_of_getElem? (i := 11) rfl))) (List.mem_cons_of_mem _ (List.mem_append_left _ (List.mem_of_getElem? (i := 4) rfl))) (by decide +kernel)) (goodIn_sub (fun _ h => List.mem_cons_of_mem _ (List.mem_append_right _ (List.mem_append_right _ (List.mem_append_right _ (List.mem_append_left _ h))))) good_v_X12_keepsYear)) rfl rfl rfl (by decide +kernel) ⟨Nat.le_of_ble_eq_true rfl, Nat.le_of_ble_eq_true rfl⟩) (pv_RW (q := (RX12, TX12, 56)) (ci := 11) (q0 := 0) (wc := [(m, .inr (11, mG m_a m_thrown m_taped m_at m_token m_place m_value m_word m_bad m_badPlace m_fault m_faultPlace m_willing m_will n_m_forgot_79 m_isDrawn n_m_x_79 m_begin m_round m_roundCards m_fate m_any m_bothSend m_meanCards m_bestSum m_fitMany m_fitFirst m_fitSecond)), ((m_a 26), .inl (cI, 2, .inl n_m_sent_c_79)), ((m_a 35), .inl (cI, 1280, .inl j48_m_a35_c)), ((m_a 27), .inl (cZ, 2, .inl n_m_gets_c_79)), ((m_a 36), .inl (cZ, 1280, .inl j48_m_a36_c)), ((m_a 37), .inl (cI, 656, .inl j48_m_a37_c))]) hK hP hD [8, 13, 2, 9, 3, 1] (by decide) rfl rfl rfl) rfl rfl hl.1 rfl (lv_room (Nat.le_of_ble_eq_true rfl)) dX12_goes_82 ⟨Nat.le_of_ble_eq_true rfl, Nat.le_of_ble_eq_true rfl⟩) hS hA hP hD [8, 13, 2, 9, 3, 1] [0, 4, 5, 6, 7, 10, 11, 12, 14, 15] rfl rfl (by decide) (by decide) (fun u82 H locs hw82 hP hD hS => ?_)
              obtain ⟨n_m_sends_c_82, n_m_got_c_82, n_m_states_c_82⟩ := u82
              have hP : va_P g vwCl [((m_a 17), .inl (cI, 25, .inl m_has_c)), ((m_a 19), .inl (cI, 240, .inl m_pair_c)), ((m_a 18), .inl (cI, 250, .inl m_person_c)), ((m_a 21), .inl (cJ, 5, .inr (.inl m_strikes_c))), ((m_a 20), .inl (cJ, 160, .inr (.inl m_lost_c))), ((m_a 24), .inl (cZ, 2, .inl n_m_maySend_c_61)), ((m_a 23), .inl (cI, 2, .inl n_m_ruleNow_c_61)), ((m_a 33), .inl (cI, 2, .inl n_m_oddsNow_c_61)), ((m_a 25), .inl (cZ, 2, .inl n_m_maycome_c_61)), ((m_a 34), .inl (cZ, 2, .inl n_m_cameFirst_c_79)), (m, .inr (11, mG m_a m_thrown m_taped m_at m_token m_place m_value m_word m_bad m_badPlace m_fault m_faultPlace m_willing m_will n_m_forgot_79 m_isDrawn n_m_x_79 m_begin m_round m_roundCards m_fate m_any m_bothSend m_meanCards m_bestSum m_fitMany m_fitFirst m_fitSecond)), ((m_a 26), .inl (cI, 2, .inl n_m_sent_c_79)), ((m_a 35), .inl (cI, 1280, .inl n_m_sends_c_82)), ((m_a 27), .inl (cZ, 2, .inl n_m_gets_c_79)), ((m_a 36), .inl (cZ, 1280, .inl n_m_got_c_82)), ((m_a 37), .inl (cI, 656, .inl n_m_states_c_82))] H := hP
              have hD : va_D A [((m_a 17), .inl (cI, 25, .inl m_has_c)), ((m_a 19), .inl (cI, 240, .inl m_pair_c)), ((m_a 18), .inl (cI, 250, .inl m_person_c)), ((m_a 21), .inl (cJ, 5, .inr (.inl m_strikes_c))), ((m_a 20), .inl (cJ, 160, .inr (.inl m_lost_c))), ((m_a 24), .inl (cZ, 2, .inl n_m_maySend_c_61)), ((m_a 23), .inl (cI, 2, .inl n_m_ruleNow_c_61)), ((m_a 33), .inl (cI, 2, .inl n_m_oddsNow_c_61)), ((m_a 25), .inl (cZ, 2, .inl n_m_maycome_c_61)), ((m_a 34), .inl (cZ, 2, .inl n_m_cameFirst_c_79)), (m, .inr (11, mG m_a m_thrown m_taped m_at m_token m_place m_value m_word m_bad m_badPlace m_fault m_faultPlace m_willing m_will n_m_forgot_79 m_isDrawn n_m_x_79 m_begin m_round m_roundCards m_fate m_any m_bothSend m_meanCards m_bestSum m_fitMany m_fitFirst m_fitSecond)), ((m_a 26), .inl (cI, 2, .inl n_m_sent_c_79)), ((m_a 35), .inl (cI, 1280, .inl n_m_sends_c_82)), ((m_a 27), .inl (cZ, 2, .inl n_m_gets_c_79)), ((m_a 36), .inl (cZ, 1280, .inl n_m_got_c_82)), ((m_a 37), .inl (cI, 656, .inl n_m_states_c_82))] := hD
              dsimp only at hw82
              obtain ⟨hw82_0, hw82_1⟩ := hw82
              obtain ⟨y85, e85⟩ : ∃ y : Int32, y = j48_l2 + 1 := ⟨_, rfl⟩
              have q85 : y85.toInt = j48_l2.toInt + 1 := by rw [e85]; exact ad_z rfl rfl r55a (ir_c 1) (by decide) (by decide)
              have r85 : ir y85.toInt 1 16 := ad_r q85 r55a (ir_c 1) (by decide) (by decide)
              refine lv_iinc (v := y85) (lv' := [(2, .int y85), (0, .ref m), (1, .int j36_l1)]) hx hb dX12_goes_85 hl (k := 2) rfl e85.symm (by decide) rfl (fun ls hl => ?_)
              refine lv_goto (tgt := 48) hx hb dX12_goes_88 (by decide) ?_
              exact ih48 y85 n_m_forgot_79 n_m_x_79 n_m_states_c_82 n_m_maySend_c_61 n_m_ruleNow_c_61 n_m_oddsNow_c_61 n_m_maycome_c_61 n_m_cameFirst_c_79 n_m_sent_c_79 n_m_sends_c_82 n_m_gets_c_79 n_m_got_c_82 _ _ _ (by omega) (ir_w r85 (by decide) (by decide)) hw82_1 hw82_0 (hP.sub [10, 0, 1, 15, 2, 6, 7, 5, 3, 4, 8, 13, 11, 9, 12, 14] rfl) (hD.sub [10, 0, 1, 15, 2, 6, 7, 5, 3, 4, 8, 13, 11, 9, 12, 14] (by decide) rfl) hS (lv_sub hl [1, 2, 0] rfl)
          exact J48 _ 0 j36_m_forgot j36_m_x j36_m_a37_c j36_m_a24_c j36_m_a23_c j36_m_a33_c j36_m_a25_c j36_m_a34_c j36_m_a26_c j36_m_a35_c j36_m_a27_c j36_m_a36_c _ _ _ (Nat.lt_succ_self _) (by decide) hj36_m_a37_c hj36_m_a36_c (hP.sub [0, 1, 2, 3, 4, 5, 6, 7, 8, 9, 10, 11, 12, 13, 14, 15] rfl) (hD.sub [0, 1, 2, 3, 4, 5, 6, 7, 8, 9, 10, 11, 12, 13, 14, 15] (by decide) rfl) hS (lv_sub hl [1, 2, 0] rfl)
      exact J36 _ 0 m_forgot m_x j2_m_a37_c m_maySend_c m_ruleNow_c m_oddsNow_c m_maycome_c m_cameFirst_c m_sent_c m_sends_c m_gets_c m_got_c _ _ _ (Nat.lt_succ_self _) (by decide) hj2_m_a37_c ha_m_got_c (hP.sub [0, 1, 2, 3, 4, 5, 6, 7, 8, 9, 10, 11, 12, 13, 14, 15] rfl) (hD.sub [0, 1, 2, 3, 4, 5, 6, 7, 8, 9, 10, 11, 12, 13, 14, 15] (by decide) rfl) hS (lv_sub hl [1, 0] rfl)
  exact J2 _ 0 m_states_c _ _ _ (Nat.lt_succ_self _) (by decide) ha_m_states_c (hP.sub [0, 1, 2, 3, 4, 5, 6, 7, 8, 9, 10, 11, 12, 13, 14, 15] rfl) (hD.sub [0, 1, 2, 3, 4, 5, 6, 7, 8, 9, 10, 11, 12, 13, 14, 15] (by decide) rfl) hS (lv_sub hl [1, 0] rfl)
def v_X12_sentOf : List Cond := .code yX12_sentOf cX12_sentOf 4 (some .int) :: (([.fieldLink RX12 77 "CardsAtYuleModel" "sends" "[I"] : List Cond) ++ (wsX120 ++ ([] : List Cond)))
theorem good_v_X12_sentOf : v_X12_sentOf.all goodWord = true := ga_c (by decide +kernel) (ga_a (by decide +kernel) (ga_a good_wsX120 rfl))
set_option maxHeartbeats 4000000 in
set_option maxRecDepth 100000 in
theorem q_X12_sentOf (l : Launch) (g : va_G) (cI cJ cB cZ cL : ClassId) (p0 : Int32) (p1 : Int32) (p2 : Int32) (m : Nat) (m_a : Nat → Nat) (m_thrown : Int32) (m_taped : Int32) (m_at : Int32) (m_token : Int32) (m_place : Int32) (m_value : Int32) (m_word : Int64) (m_bad : Int32) (m_badPlace : Int32) (m_fault : Int32) (m_faultPlace : Int32) (m_willing : Int32) (m_will : Int32) (m_forgot : Int32) (m_isDrawn : Int32) (m_x : Int64) (m_begin : Int32) (m_round : Int32) (m_roundCards : Int32) (m_fate : Int32) (m_any : Int64) (m_bothSend : Int64) (m_meanCards : Int64) (m_bestSum : Int32) (m_fitMany : Int32) (m_fitFirst : Int64) (m_fitSecond : Int64) (m_sends_c : Nat → Int32) (sz : Nat) (hv_p0 : ir p0.toInt 0 15) (hv_p1 : ir p1.toInt 0 1) (hv_p2 : ir p2.toInt 0 39) (hv_m_taped : ir m_taped.toInt 0 1600) (hv_m_at : ir m_at.toInt 0 1600) (hv_m_will : ir m_will.toInt 0 1) (hv_m_isDrawn : ir m_isDrawn.toInt 0 1) : Met l yX12_sentOf v_X12_sentOf ({ frames := 0, cells := 0, slots := 0, locals := 0 }) (va_Pc [.ref m, .int p0, .int p1, .int p2] (pRO g (tyT cI cJ cB cZ cL) [(m, .inr (11, mG m_a m_thrown m_taped m_at m_token m_place m_value m_word m_bad m_badPlace m_fault m_faultPlace m_willing m_will m_forgot m_isDrawn m_x m_begin m_round m_roundCards m_fate m_any m_bothSend m_meanCards m_bestSum m_fitMany m_fitFirst m_fitSecond)), ((m_a 35), .inl (cI, 1280, .inl m_sends_c))] sz)) (va_Qi (fun (r : Int32) (u : Unit) => True) (fun (_ : Unit) (_ : State) => True) (va_A [] sz)) 0 0 (va_A [] sz) := by
  refine Met.ofW (cc := cX12_sentOf) (maxL := 4) (ret := (some .int)) (by decide) rfl ?_
  intro p e s mth args below meth c s₁ B hml hv
  obtain ⟨rfl, hsz, hP, hK⟩ := hv
  have hx := B.exec
  have hb := B.bytes
  have hr := B.returns
  have hts := atoms_spec (ws := v_X12_sentOf) B.pre
  have hown : s.vm.findClass RX12 = some mth.cls := findClass_of_methodNamed B.named
  have hlocks := B.notSynchronized
  clear B
  subst hsz
  have iX12 : ∀ w ∈ wsX120, w ∈ v_X12_sentOf := (fun _ h => List.mem_cons_of_mem _ (List.mem_append_right _ (List.mem_append_left _ h)))
  generalize hAe : (va_A [] s.heap.size) = A
  have hA : ∀ q : Nat, s.heap.size ≤ q → A q := fun q h => by rw [← hAe]; exact Or.inr h
  have hS : va_S A s.heap s.heap [] := va_S.rf
  have hl := lv_entry ([.ref m, .int p0, .int p1, .int p2]) (n := 4) (Nat.le_of_ble_eq_true rfl)
  rw [lg_entry_eq]
  generalize (lg_sl ([.ref m, .int p0, .int p1, .int p2]) ++ List.replicate (4 - (lg_sl ([.ref m, .int p0, .int p1, .int p2])).length) Slot.unset).toArray = ls at hl ⊢
  generalize ([.ref m, .int p0, .int p1, .int p2] : List Value).toArray = av at hts ⊢
  generalize hQ : MQ below _ av s _ _ A = QQ
  have hl : lv_has ls 4 [(0, .ref m), (1, .int p0), (2, .int p1), (3, .int p2)] := hl
  have hP : va_P g vwCl [(m, .inr (11, mG m_a m_thrown m_taped m_at m_token m_place m_value m_word m_bad m_badPlace m_fault m_faultPlace m_willing m_will m_forgot m_isDrawn m_x m_begin m_round m_roundCards m_fate m_any m_bothSend m_meanCards m_bestSum m_fitMany m_fitFirst m_fitSecond)), ((m_a 35), .inl (cI, 1280, .inl m_sends_c))] s.heap := hP
  refine lv_aload_n hx hb dX12_sentOf_0 rfl (lv_at hl 0 rfl) ?_
  refine va_get (D := g) (ci := 11) (v := .ref (m_a 35)) (C := RX12) (T := TX12) (N := 56) hx hb hts iX12 hown hK hP 0 rfl rfl 35 (by decide) (hts (.fieldLink RX12 77 "CardsAtYuleModel" "sends" "[I") (List.mem_cons_of_mem _ (List.mem_append_left _ (List.mem_of_getElem? (i := 0) rfl)))) (fun _ h9 => h9) rfl dX12_sentOf_1 ?_
  refine lv_bipush (v := 32) hx hb dX12_sentOf_4 (by decide) ?_
  refine lv_iload_n hx hb dX12_sentOf_6 rfl (lv_at hl 3 rfl) ?_
  refine lv_imul hx hb dX12_sentOf_7 ?_
  refine lv_topi (fun y7 e7 => ?_)
  have q7 : y7.toInt = 32 * p2.toInt := by rw [e7]; exact mu_z rfl rfl (ir_c 32) hv_p2 (by decide) (by decide) (by decide)
  have r7 : ir y7.toInt 0 1248 := mu_r q7 (ir_c 32) hv_p2 (by decide) (by decide) (by decide) (by decide)
  refine lv_iconst (v := 2) hx hb dX12_sentOf_8 (by decide) ?_
  refine lv_iload_n hx hb dX12_sentOf_9 rfl (lv_at hl 1 rfl) ?_
  refine lv_imul hx hb dX12_sentOf_10 ?_
  refine lv_topi (fun y10 e10 => ?_)
  have q10 : y10.toInt = 2 * p0.toInt := by rw [e10]; exact mu_z rfl rfl (ir_c 2) hv_p0 (by decide) (by decide) (by decide)
  have r10 : ir y10.toInt 0 30 := mu_r q10 (ir_c 2) hv_p0 (by decide) (by decide) (by decide) (by decide)
  refine lv_iadd hx hb dX12_sentOf_11 ?_
  refine lv_topi (fun y11 e11 => ?_)
  have q11 : y11.toInt = y7.toInt + y10.toInt := by rw [e11]; exact ad_z rfl rfl r7 r10 (by decide) (by decide)
  have r11 : ir y11.toInt 0 1278 := ad_r q11 r7 r10 (by decide) (by decide)
  refine lv_iload_n hx hb dX12_sentOf_12 rfl (lv_at hl 2 rfl) ?_
  refine lv_iadd hx hb dX12_sentOf_13 ?_
  refine lv_topi (fun y13 e13 => ?_)
  have q13 : y13.toInt = y11.toInt + p1.toInt := by rw [e13]; exact ad_z rfl rfl r11 hv_p1 (by decide) (by decide)
  have r13 : ir y13.toInt 0 1279 := ad_r q13 r11 hv_p1 (by decide) (by decide)
  refine va_iald (D := g) hx hb hK hP 1 0 rfl rfl (vi_rg rfl r13 (by decide) (by decide)) dX12_sentOf_14 ?_
  refine lv_topi (fun y14 e14 => ?_)
  subst hQ
  exact W.iret (v := y14) hx hb hr (fun t ht hW => ⟨⟨y14, (), rfl, trivial, trivial⟩, hS.F ht⟩) hS.2.2 dX12_sentOf_15
def v_X12_gotOf : List Cond := .code yX12_gotOf cX12_gotOf 4 (some .boolean) :: (([.fieldLink RX12 80 "CardsAtYuleModel" "got" "[Z"] : List Cond) ++ (wsX120 ++ ([] : List Cond)))
theorem good_v_X12_gotOf : v_X12_gotOf.all goodWord = true := ga_c (by decide +kernel) (ga_a (by decide +kernel) (ga_a good_wsX120 rfl))
set_option maxHeartbeats 4000000 in
set_option maxRecDepth 100000 in
theorem q_X12_gotOf (l : Launch) (g : va_G) (cI cJ cB cZ cL : ClassId) (p0 : Int32) (p1 : Int32) (p2 : Int32) (m : Nat) (m_a : Nat → Nat) (m_thrown : Int32) (m_taped : Int32) (m_at : Int32) (m_token : Int32) (m_place : Int32) (m_value : Int32) (m_word : Int64) (m_bad : Int32) (m_badPlace : Int32) (m_fault : Int32) (m_faultPlace : Int32) (m_willing : Int32) (m_will : Int32) (m_forgot : Int32) (m_isDrawn : Int32) (m_x : Int64) (m_begin : Int32) (m_round : Int32) (m_roundCards : Int32) (m_fate : Int32) (m_any : Int64) (m_bothSend : Int64) (m_meanCards : Int64) (m_bestSum : Int32) (m_fitMany : Int32) (m_fitFirst : Int64) (m_fitSecond : Int64) (m_got_c : Nat → Int32) (sz : Nat) (hv_p0 : ir p0.toInt 0 15) (hv_p1 : ir p1.toInt 0 1) (hv_p2 : ir p2.toInt 0 39) (hv_m_taped : ir m_taped.toInt 0 1600) (hv_m_at : ir m_at.toInt 0 1600) (hv_m_will : ir m_will.toInt 0 1) (hv_m_isDrawn : ir m_isDrawn.toInt 0 1) (ha_m_got_c : ar m_got_c 1280 0 1) : Met l yX12_gotOf v_X12_gotOf ({ frames := 0, cells := 0, slots := 0, locals := 0 }) (va_Pc [.ref m, .int p0, .int p1, .int p2] (pRO g (tyT cI cJ cB cZ cL) [(m, .inr (11, mG m_a m_thrown m_taped m_at m_token m_place m_value m_word m_bad m_badPlace m_fault m_faultPlace m_willing m_will m_forgot m_isDrawn m_x m_begin m_round m_roundCards m_fate m_any m_bothSend m_meanCards m_bestSum m_fitMany m_fitFirst m_fitSecond)), ((m_a 36), .inl (cZ, 1280, .inl m_got_c))] sz)) (va_Qi (fun (r : Int32) (u : Unit) => (ir r.toInt 0 1)) (fun (_ : Unit) (_ : State) => True) (va_A [] sz)) 0 0 (va_A [] sz) := by
  refine Met.ofW (cc := cX12_gotOf) (maxL := 4) (ret := (some .boolean)) (by decide) rfl ?_
  intro p e s mth args below meth c s₁ B hml hv
  obtain ⟨rfl, hsz, hP, hK⟩ := hv
  have hx := B.exec
  have hb := B.bytes
  have hr := B.returns
  have hts := atoms_spec (ws := v_X12_gotOf) B.pre
  have hown : s.vm.findClass RX12 = some mth.cls := findClass_of_methodNamed B.named
  have hlocks := B.notSynchronized
  clear B
  subst hsz
  have iX12 : ∀ w ∈ wsX120, w ∈ v_X12_gotOf := (fun _ h => List.mem_cons_of_mem _ (List.mem_append_right _ (List.mem_append_left _ h)))
  generalize hAe : (va_A [] s.heap.size) = A
  have hA : ∀ q : Nat, s.heap.size ≤ q → A q := fun q h => by rw [← hAe]; exact Or.inr h
  have hS : va_S A s.heap s.heap [] := va_S.rf
  have hl := lv_entry ([.ref m, .int p0, .int p1, .int p2]) (n := 4) (Nat.le_of_ble_eq_true rfl)
  rw [lg_entry_eq]
  generalize (lg_sl ([.ref m, .int p0, .int p1, .int p2]) ++ List.replicate (4 - (lg_sl ([.ref m, .int p0, .int p1, .int p2])).length) Slot.unset).toArray = ls at hl ⊢
  generalize ([.ref m, .int p0, .int p1, .int p2] : List Value).toArray = av at hts ⊢
  generalize hQ : MQ below _ av s _ _ A = QQ
  have hl : lv_has ls 4 [(0, .ref m), (1, .int p0), (2, .int p1), (3, .int p2)] := hl
  have hP : va_P g vwCl [(m, .inr (11, mG m_a m_thrown m_taped m_at m_token m_place m_value m_word m_bad m_badPlace m_fault m_faultPlace m_willing m_will m_forgot m_isDrawn m_x m_begin m_round m_roundCards m_fate m_any m_bothSend m_meanCards m_bestSum m_fitMany m_fitFirst m_fitSecond)), ((m_a 36), .inl (cZ, 1280, .inl m_got_c))] s.heap := hP
  refine lv_aload_n hx hb dX12_gotOf_0 rfl (lv_at hl 0 rfl) ?_
  refine va_get (D := g) (ci := 11) (v := .ref (m_a 36)) (C := RX12) (T := TX12) (N := 56) hx hb hts iX12 hown hK hP 0 rfl rfl 36 (by decide) (hts (.fieldLink RX12 80 "CardsAtYuleModel" "got" "[Z") (List.mem_cons_of_mem _ (List.mem_append_left _ (List.mem_of_getElem? (i := 0) rfl)))) (fun _ h9 => h9) rfl dX12_gotOf_1 ?_
  refine lv_bipush (v := 32) hx hb dX12_gotOf_4 (by decide) ?_
  refine lv_iload_n hx hb dX12_gotOf_6 rfl (lv_at hl 3 rfl) ?_
  refine lv_imul hx hb dX12_gotOf_7 ?_
  refine lv_topi (fun y7 e7 => ?_)
  have q7 : y7.toInt = 32 * p2.toInt := by rw [e7]; exact mu_z rfl rfl (ir_c 32) hv_p2 (by decide) (by decide) (by decide)
  have r7 : ir y7.toInt 0 1248 := mu_r q7 (ir_c 32) hv_p2 (by decide) (by decide) (by decide) (by decide)
  refine lv_iconst (v := 2) hx hb dX12_gotOf_8 (by decide) ?_
  refine lv_iload_n hx hb dX12_gotOf_9 rfl (lv_at hl 1 rfl) ?_
  refine lv_imul hx hb dX12_gotOf_10 ?_
  refine lv_topi (fun y10 e10 => ?_)
  have q10 : y10.toInt = 2 * p0.toInt := by rw [e10]; exact mu_z rfl rfl (ir_c 2) hv_p0 (by decide) (by decide) (by decide)
  have r10 : ir y10.toInt 0 30 := mu_r q10 (ir_c 2) hv_p0 (by decide) (by decide) (by decide) (by decide)
  refine lv_iadd hx hb dX12_gotOf_11 ?_
  refine lv_topi (fun y11 e11 => ?_)
  have q11 : y11.toInt = y7.toInt + y10.toInt := by rw [e11]; exact ad_z rfl rfl r7 r10 (by decide) (by decide)
  have r11 : ir y11.toInt 0 1278 := ad_r q11 r7 r10 (by decide) (by decide)
  refine lv_iload_n hx hb dX12_gotOf_12 rfl (lv_at hl 2 rfl) ?_
  refine lv_iadd hx hb dX12_gotOf_13 ?_
  refine lv_topi (fun y13 e13 => ?_)
  have q13 : y13.toInt = y11.toInt + p1.toInt := by rw [e13]; exact ad_z rfl rfl r11 hv_p1 (by decide) (by decide)
  have r13 : ir y13.toInt 0 1279 := ad_r q13 r11 hv_p1 (by decide) (by decide)
  refine va_zald (D := g) hx hb hK hP 1 3 rfl rfl (vi_rg rfl r13 (by decide) (by decide)) dX12_gotOf_14 ?_
  refine lv_topi (fun y14 e14 => ?_)
  have r14 : ir y14.toInt 0 1 := by rw [e14]; exact ha_m_got_c _ (vi_cl (vi_rg rfl r13 (by decide) (by decide)))
  subst hQ
  exact W.zret (v := y14) hx hb hr (bo_n r14) (fun t ht hW => ⟨⟨y14, (), rfl, r14, trivial⟩, hS.F ht⟩) hS.2.2 dX12_gotOf_15
