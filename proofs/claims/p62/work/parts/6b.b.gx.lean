def v_X12_yearOf : List Cond := .code yX12_yearOf cX12_yearOf 5 (some .int) :: (([.fieldLink RX12 74 "CardsAtYuleModel" "cameFirst" "[Z", .fieldLink RX12 65 "CardsAtYuleModel" "gets" "[Z", .fieldLink RX12 62 "CardsAtYuleModel" "sent" "[I", .fieldLink RX12 59 "CardsAtYuleModel" "maycome" "[Z", .fieldLink RX12 68 "CardsAtYuleModel" "willing" "I", .fieldLink RX12 56 "CardsAtYuleModel" "maySend" "[Z", .fieldLink RX12 53 "CardsAtYuleModel" "ruleNow" "[I", .methodLink RX12 318 yX12_isForgotten, .instanceMethod yX12_isForgotten, .selects RX12 yX12_isForgotten yX12_isForgotten, .initialized RX12, .methodLink RX12 315 yX12_wouldSend, .instanceMethod yX12_wouldSend, .selects RX12 yX12_wouldSend yX12_wouldSend, .fieldLink RX12 312 "CardsAtYuleModel" "will" "Z"] : List Cond) ++ (v_X12_isForgotten ++ (v_X12_wouldSend ++ (wsX120 ++ ([] : List Cond)))))
theorem good_v_X12_yearOf : v_X12_yearOf.all goodWord = true := ga_c (by decide +kernel) (ga_a (by decide +kernel) (ga_a good_v_X12_isForgotten (ga_a good_v_X12_wouldSend (ga_a good_wsX120 rfl))))
set_option maxHeartbeats 4000000 in
set_option maxRecDepth 100000 in
theorem q_X12_yearOf (l : Launch) (g : va_G) (cI cJ cB cZ cL : ClassId) (p0 : Int32) (m : Nat) (m_a : Nat → Nat) (m_thrown : Int32) (m_taped : Int32) (m_at : Int32) (m_token : Int32) (m_place : Int32) (m_value : Int32) (m_word : Int64) (m_bad : Int32) (m_badPlace : Int32) (m_fault : Int32) (m_faultPlace : Int32) (m_willing : Int32) (m_will : Int32) (m_forgot : Int32) (m_isDrawn : Int32) (m_x : Int64) (m_begin : Int32) (m_round : Int32) (m_roundCards : Int32) (m_fate : Int32) (m_any : Int64) (m_bothSend : Int64) (m_meanCards : Int64) (m_bestSum : Int32) (m_fitMany : Int32) (m_fitFirst : Int64) (m_fitSecond : Int64) (m_gets_c : Nat → Int32) (m_maySend_c : Nat → Int32) (m_ruleNow_c : Nat → Int32) (m_oddsNow_c : Nat → Int32) (m_sent_c : Nat → Int32) (m_maycome_c : Nat → Int32) (m_cameFirst_c : Nat → Int32) (sz : Nat) (hv_m_taped : ir m_taped.toInt 0 1600) (hv_m_at : ir m_at.toInt 0 1600) (hv_m_will : ir m_will.toInt 0 1) (hv_m_isDrawn : ir m_isDrawn.toInt 0 1) : Met l yX12_yearOf v_X12_yearOf ({ frames := 2, cells := 0, slots := 0, locals := 44 }) (va_Pc [.ref m, .int p0] (pRW g (tyT cI cJ cB cZ cL) [(m, .inr (11, mG m_a m_thrown m_taped m_at m_token m_place m_value m_word m_bad m_badPlace m_fault m_faultPlace m_willing m_will m_forgot m_isDrawn m_x m_begin m_round m_roundCards m_fate m_any m_bothSend m_meanCards m_bestSum m_fitMany m_fitFirst m_fitSecond)), ((m_a 27), .inl (cZ, 2, .inl m_gets_c)), ((m_a 24), .inl (cZ, 2, .inl m_maySend_c)), ((m_a 23), .inl (cI, 2, .inl m_ruleNow_c)), ((m_a 33), .inl (cI, 2, .inl m_oddsNow_c)), ((m_a 26), .inl (cI, 2, .inl m_sent_c)), ((m_a 25), .inl (cZ, 2, .inl m_maycome_c)), ((m_a 34), .inl (cZ, 2, .inl m_cameFirst_c))] sz)) (va_Qi (fun (r : Int32) (u : Int32 × Int64 × (Nat → Int32) × (Nat → Int32) × (Nat → Int32)) => match u with | (n_m_forgot, n_m_x, n_m_gets_c, n_m_sent_c, n_m_cameFirst_c) => (ir r.toInt 0 15)) (fun (u : Int32 × Int64 × (Nat → Int32) × (Nat → Int32) × (Nat → Int32)) (t : State) => bRW g (tyT cI cJ cB cZ cL) (va_A [(m, .inr (11, mG m_a m_thrown m_taped m_at m_token m_place m_value m_word m_bad m_badPlace m_fault m_faultPlace m_willing m_will m_forgot m_isDrawn m_x m_begin m_round m_roundCards m_fate m_any m_bothSend m_meanCards m_bestSum m_fitMany m_fitFirst m_fitSecond)), ((m_a 27), .inl (cZ, 2, .inl m_gets_c)), ((m_a 24), .inl (cZ, 2, .inl m_maySend_c)), ((m_a 23), .inl (cI, 2, .inl m_ruleNow_c)), ((m_a 33), .inl (cI, 2, .inl m_oddsNow_c)), ((m_a 26), .inl (cI, 2, .inl m_sent_c)), ((m_a 25), .inl (cZ, 2, .inl m_maycome_c)), ((m_a 34), .inl (cZ, 2, .inl m_cameFirst_c))] sz) (match u with | (n_m_forgot, n_m_x, n_m_gets_c, n_m_sent_c, n_m_cameFirst_c) => [(m, .inr (11, mG m_a m_thrown m_taped m_at m_token m_place m_value m_word m_bad m_badPlace m_fault m_faultPlace m_willing m_will n_m_forgot m_isDrawn n_m_x m_begin m_round m_roundCards m_fate m_any m_bothSend m_meanCards m_bestSum m_fitMany m_fitFirst m_fitSecond)), ((m_a 27), .inl (cZ, 2, .inl n_m_gets_c)), ((m_a 24), .inl (cZ, 2, .inl m_maySend_c)), ((m_a 23), .inl (cI, 2, .inl m_ruleNow_c)), ((m_a 33), .inl (cI, 2, .inl m_oddsNow_c)), ((m_a 26), .inl (cI, 2, .inl n_m_sent_c)), ((m_a 25), .inl (cZ, 2, .inl m_maycome_c)), ((m_a 34), .inl (cZ, 2, .inl n_m_cameFirst_c))]) t) (va_A [(m, .inr (11, mG m_a m_thrown m_taped m_at m_token m_place m_value m_word m_bad m_badPlace m_fault m_faultPlace m_willing m_will m_forgot m_isDrawn m_x m_begin m_round m_roundCards m_fate m_any m_bothSend m_meanCards m_bestSum m_fitMany m_fitFirst m_fitSecond)), ((m_a 27), .inl (cZ, 2, .inl m_gets_c)), ((m_a 24), .inl (cZ, 2, .inl m_maySend_c)), ((m_a 23), .inl (cI, 2, .inl m_ruleNow_c)), ((m_a 33), .inl (cI, 2, .inl m_oddsNow_c)), ((m_a 26), .inl (cI, 2, .inl m_sent_c)), ((m_a 25), .inl (cZ, 2, .inl m_maycome_c)), ((m_a 34), .inl (cZ, 2, .inl m_cameFirst_c))] sz)) 0 0 (va_A [(m, .inr (11, mG m_a m_thrown m_taped m_at m_token m_place m_value m_word m_bad m_badPlace m_fault m_faultPlace m_willing m_will m_forgot m_isDrawn m_x m_begin m_round m_roundCards m_fate m_any m_bothSend m_meanCards m_bestSum m_fitMany m_fitFirst m_fitSecond)), ((m_a 27), .inl (cZ, 2, .inl m_gets_c)), ((m_a 24), .inl (cZ, 2, .inl m_maySend_c)), ((m_a 23), .inl (cI, 2, .inl m_ruleNow_c)), ((m_a 33), .inl (cI, 2, .inl m_oddsNow_c)), ((m_a 26), .inl (cI, 2, .inl m_sent_c)), ((m_a 25), .inl (cZ, 2, .inl m_maycome_c)), ((m_a 34), .inl (cZ, 2, .inl m_cameFirst_c))] sz) := by
  refine Met.ofW (cc := cX12_yearOf) (maxL := 5) (ret := (some .int)) (by decide) rfl ?_
  intro p e s mth args below meth c s₁ B hml hv
  obtain ⟨rfl, hsz, hP, hK, hD0⟩ := hv
  have hx := B.exec
  have hb := B.bytes
  have hr := B.returns
  have hts := atoms_spec (ws := v_X12_yearOf) B.pre
  have hown : s.vm.findClass RX12 = some mth.cls := findClass_of_methodNamed B.named
  have hlocks := B.notSynchronized
  clear B
  subst hsz
  have iX12 : ∀ w ∈ wsX120, w ∈ v_X12_yearOf := (fun _ h => List.mem_cons_of_mem _ (List.mem_append_right _ (List.mem_append_right _ (List.mem_append_right _ (List.mem_append_left _ h)))))
  have hD := hD0.self (sz := s.heap.size)
  generalize hAe : (va_A [(m, .inr (11, mG m_a m_thrown m_taped m_at m_token m_place m_value m_word m_bad m_badPlace m_fault m_faultPlace m_willing m_will m_forgot m_isDrawn m_x m_begin m_round m_roundCards m_fate m_any m_bothSend m_meanCards m_bestSum m_fitMany m_fitFirst m_fitSecond)), ((m_a 27), .inl (cZ, 2, .inl m_gets_c)), ((m_a 24), .inl (cZ, 2, .inl m_maySend_c)), ((m_a 23), .inl (cI, 2, .inl m_ruleNow_c)), ((m_a 33), .inl (cI, 2, .inl m_oddsNow_c)), ((m_a 26), .inl (cI, 2, .inl m_sent_c)), ((m_a 25), .inl (cZ, 2, .inl m_maycome_c)), ((m_a 34), .inl (cZ, 2, .inl m_cameFirst_c))] s.heap.size) = A at hD ⊢
  have hA : ∀ q : Nat, s.heap.size ≤ q → A q := fun q h => by rw [← hAe]; exact Or.inr h
  have hS : va_S A s.heap s.heap [] := va_S.rf
  have hl := lv_entry ([.ref m, .int p0]) (n := 5) (Nat.le_of_ble_eq_true rfl)
  rw [lg_entry_eq]
  generalize (lg_sl ([.ref m, .int p0]) ++ List.replicate (5 - (lg_sl ([.ref m, .int p0])).length) Slot.unset).toArray = ls at hl ⊢
  generalize ([.ref m, .int p0] : List Value).toArray = av at hts ⊢
  generalize hQ : MQ below _ av s _ _ A = QQ
  have hl : lv_has ls 5 [(0, .ref m), (1, .int p0)] := hl
  have hP : va_P g vwCl [(m, .inr (11, mG m_a m_thrown m_taped m_at m_token m_place m_value m_word m_bad m_badPlace m_fault m_faultPlace m_willing m_will m_forgot m_isDrawn m_x m_begin m_round m_roundCards m_fate m_any m_bothSend m_meanCards m_bestSum m_fitMany m_fitFirst m_fitSecond)), ((m_a 27), .inl (cZ, 2, .inl m_gets_c)), ((m_a 24), .inl (cZ, 2, .inl m_maySend_c)), ((m_a 23), .inl (cI, 2, .inl m_ruleNow_c)), ((m_a 33), .inl (cI, 2, .inl m_oddsNow_c)), ((m_a 26), .inl (cI, 2, .inl m_sent_c)), ((m_a 25), .inl (cZ, 2, .inl m_maycome_c)), ((m_a 34), .inl (cZ, 2, .inl m_cameFirst_c))] s.heap := hP
  refine lv_iconst (v := 0) hx hb dX12_yearOf_0 (by decide) ?_
  refine lv_istore_n (lv' := [(2, .int 0), (0, .ref m), (1, .int p0)]) hx hb dX12_yearOf_1 rfl hl (by decide) rfl (fun ls hl => ?_)
  have J2 : ∀ (n2 : Nat) (j2_l2 : Int32) (j2_m_a27_c : Nat → Int32) (j2_m_forgot : Int32) (j2_m_x : Int64) (j2_m_a26_c : Nat → Int32) (H : Heap) (locs : List Loc) (ls : Array Slot), (3 - j2_l2.toInt).toNat < n2 → (ir j2_l2.toInt 0 2) → va_P g vwCl [(m, .inr (11, mG m_a m_thrown m_taped m_at m_token m_place m_value m_word m_bad m_badPlace m_fault m_faultPlace m_willing m_will j2_m_forgot m_isDrawn j2_m_x m_begin m_round m_roundCards m_fate m_any m_bothSend m_meanCards m_bestSum m_fitMany m_fitFirst m_fitSecond)), ((m_a 27), .inl (cZ, 2, .inl j2_m_a27_c)), ((m_a 24), .inl (cZ, 2, .inl m_maySend_c)), ((m_a 23), .inl (cI, 2, .inl m_ruleNow_c)), ((m_a 33), .inl (cI, 2, .inl m_oddsNow_c)), ((m_a 26), .inl (cI, 2, .inl j2_m_a26_c)), ((m_a 25), .inl (cZ, 2, .inl m_maycome_c)), ((m_a 34), .inl (cZ, 2, .inl m_cameFirst_c))] H → va_D A [(m, .inr (11, mG m_a m_thrown m_taped m_at m_token m_place m_value m_word m_bad m_badPlace m_fault m_faultPlace m_willing m_will j2_m_forgot m_isDrawn j2_m_x m_begin m_round m_roundCards m_fate m_any m_bothSend m_meanCards m_bestSum m_fitMany m_fitFirst m_fitSecond)), ((m_a 27), .inl (cZ, 2, .inl j2_m_a27_c)), ((m_a 24), .inl (cZ, 2, .inl m_maySend_c)), ((m_a 23), .inl (cI, 2, .inl m_ruleNow_c)), ((m_a 33), .inl (cI, 2, .inl m_oddsNow_c)), ((m_a 26), .inl (cI, 2, .inl j2_m_a26_c)), ((m_a 25), .inl (cZ, 2, .inl m_maycome_c)), ((m_a 34), .inl (cZ, 2, .inl m_cameFirst_c))] → va_S A s.heap H locs → lv_has ls 5 [(0, .ref m), (1, .int p0), (2, .int j2_l2)] → W p l e (headSpec v_X12_yearOf ({ frames := 2, cells := 0, slots := 0, locals := 44 })).room s mth av below meth c H locs 0 0 QQ (F0 mth 2 ls []) := by
    intro n2
    induction n2 with
    | zero => exact fun j2_l2 j2_m_a27_c j2_m_forgot j2_m_x j2_m_a26_c H locs ls hn => absurd hn (Nat.not_lt_zero _)
    | succ n2 ih2 =>
      intro j2_l2 j2_m_a27_c j2_m_forgot j2_m_x j2_m_a26_c H locs ls hn2 hj2_l2 hP hD hS hl
      refine lv_iload_n hx hb dX12_yearOf_2 rfl (lv_at hl 2 rfl) ?_
      refine lv_iconst (v := 2) hx hb dX12_yearOf_3 (by decide) ?_
      refine lv_icmp_ge (tgt := 82) hx hb dX12_yearOf_4 (by decide) (fun c4 => ?_) (fun c4 => ?_)
      rotate_left 1
      · have f4 := (show j2_l2.toInt < 2 from z_nle rfl rfl c4)
        have r4a : ir j2_l2.toInt 0 1 := ir_lta f4 hj2_l2 (ir_c 2) (by decide)
        refine lv_aload_n hx hb dX12_yearOf_7 rfl (lv_at hl 0 rfl) ?_
        refine va_get (D := g) (ci := 11) (v := .ref (m_a 27)) (C := RX12) (T := TX12) (N := 56) hx hb hts iX12 hown hK hP 0 rfl rfl 27 (by decide) (hts (.fieldLink RX12 65 "CardsAtYuleModel" "gets" "[Z") (List.mem_cons_of_mem _ (List.mem_append_left _ (List.mem_of_getElem? (i := 1) rfl)))) (fun _ h9 => h9) rfl dX12_yearOf_8 ?_
        refine lv_iload_n hx hb dX12_yearOf_11 rfl (lv_at hl 2 rfl) ?_
        refine lv_iconst (v := 0) hx hb dX12_yearOf_12 (by decide) ?_
        refine va_zast (D := g) hx hb hK hP hD hS 1 3 rfl rfl (vi_rg rfl r4a (by decide) (by decide)) dX12_yearOf_13 (fun H locs hP hD hS => ?_)
        obtain ⟨g13, e13⟩ : ∃ z, z = upd j2_m_a27_c j2_l2.toNatClampNeg (vp_nar .boolean (0 : Int32)) := ⟨_, rfl⟩
        have hP : va_P g vwCl [(m, .inr (11, mG m_a m_thrown m_taped m_at m_token m_place m_value m_word m_bad m_badPlace m_fault m_faultPlace m_willing m_will j2_m_forgot m_isDrawn j2_m_x m_begin m_round m_roundCards m_fate m_any m_bothSend m_meanCards m_bestSum m_fitMany m_fitFirst m_fitSecond)), ((m_a 27), .inl (cZ, 2, .inl (upd j2_m_a27_c j2_l2.toNatClampNeg (vp_nar .boolean (0 : Int32))))), ((m_a 24), .inl (cZ, 2, .inl m_maySend_c)), ((m_a 23), .inl (cI, 2, .inl m_ruleNow_c)), ((m_a 33), .inl (cI, 2, .inl m_oddsNow_c)), ((m_a 26), .inl (cI, 2, .inl j2_m_a26_c)), ((m_a 25), .inl (cZ, 2, .inl m_maycome_c)), ((m_a 34), .inl (cZ, 2, .inl m_cameFirst_c))] H := hP
        have hD : va_D A [(m, .inr (11, mG m_a m_thrown m_taped m_at m_token m_place m_value m_word m_bad m_badPlace m_fault m_faultPlace m_willing m_will j2_m_forgot m_isDrawn j2_m_x m_begin m_round m_roundCards m_fate m_any m_bothSend m_meanCards m_bestSum m_fitMany m_fitFirst m_fitSecond)), ((m_a 27), .inl (cZ, 2, .inl (upd j2_m_a27_c j2_l2.toNatClampNeg (vp_nar .boolean (0 : Int32))))), ((m_a 24), .inl (cZ, 2, .inl m_maySend_c)), ((m_a 23), .inl (cI, 2, .inl m_ruleNow_c)), ((m_a 33), .inl (cI, 2, .inl m_oddsNow_c)), ((m_a 26), .inl (cI, 2, .inl j2_m_a26_c)), ((m_a 25), .inl (cZ, 2, .inl m_maycome_c)), ((m_a 34), .inl (cZ, 2, .inl m_cameFirst_c))] := hD
        rw [← e13] at hP hD
        refine lv_iload_n hx hb dX12_yearOf_14 rfl (lv_at hl 2 rfl) ?_
        refine lv_aload_n hx hb dX12_yearOf_15 rfl (lv_at hl 0 rfl) ?_
        refine va_get (D := g) (ci := 11) (v := .int m_willing) (C := RX12) (T := TX12) (N := 56) hx hb hts iX12 hown hK hP 0 rfl rfl 28 (by decide) (hts (.fieldLink RX12 68 "CardsAtYuleModel" "willing" "I") (List.mem_cons_of_mem _ (List.mem_append_left _ (List.mem_of_getElem? (i := 4) rfl)))) (fun _ h9 => h9) rfl dX12_yearOf_16 ?_
        have J60 : ∀ (j60_s0 : Int32) (j60_m_forgot : Int32) (j60_m_x : Int64) (H : Heap) (locs : List Loc) (ls : Array Slot), (ir j60_s0.toInt 0 1) → va_P g vwCl [(m, .inr (11, mG m_a m_thrown m_taped m_at m_token m_place m_value m_word m_bad m_badPlace m_fault m_faultPlace m_willing m_will j60_m_forgot m_isDrawn j60_m_x m_begin m_round m_roundCards m_fate m_any m_bothSend m_meanCards m_bestSum m_fitMany m_fitFirst m_fitSecond)), ((m_a 27), .inl (cZ, 2, .inl g13)), ((m_a 24), .inl (cZ, 2, .inl m_maySend_c)), ((m_a 23), .inl (cI, 2, .inl m_ruleNow_c)), ((m_a 33), .inl (cI, 2, .inl m_oddsNow_c)), ((m_a 26), .inl (cI, 2, .inl j2_m_a26_c)), ((m_a 25), .inl (cZ, 2, .inl m_maycome_c)), ((m_a 34), .inl (cZ, 2, .inl m_cameFirst_c))] H → va_D A [(m, .inr (11, mG m_a m_thrown m_taped m_at m_token m_place m_value m_word m_bad m_badPlace m_fault m_faultPlace m_willing m_will j60_m_forgot m_isDrawn j60_m_x m_begin m_round m_roundCards m_fate m_any m_bothSend m_meanCards m_bestSum m_fitMany m_fitFirst m_fitSecond)), ((m_a 27), .inl (cZ, 2, .inl g13)), ((m_a 24), .inl (cZ, 2, .inl m_maySend_c)), ((m_a 23), .inl (cI, 2, .inl m_ruleNow_c)), ((m_a 33), .inl (cI, 2, .inl m_oddsNow_c)), ((m_a 26), .inl (cI, 2, .inl j2_m_a26_c)), ((m_a 25), .inl (cZ, 2, .inl m_maycome_c)), ((m_a 34), .inl (cZ, 2, .inl m_cameFirst_c))] → va_S A s.heap H locs → lv_has ls 5 [(0, .ref m), (1, .int p0), (2, .int j2_l2)] → W p l e (headSpec v_X12_yearOf ({ frames := 2, cells := 0, slots := 0, locals := 44 })).room s mth av below meth c H locs 0 0 QQ (F0 mth 60 ls [.int j60_s0]) := by
          intro j60_s0 j60_m_forgot j60_m_x H locs ls hj60_s0 hP hD hS hl
          refine lv_istore_n (lv' := [(3, .int j60_s0), (0, .ref m), (1, .int p0), (2, .int j2_l2)]) hx hb dX12_yearOf_60 rfl hl (by decide) rfl (fun ls hl => ?_)
          refine lv_aload_n hx hb dX12_yearOf_61 rfl (lv_at hl 1 rfl) ?_
          refine va_get (D := g) (ci := 11) (v := .ref (m_a 26)) (C := RX12) (T := TX12) (N := 56) hx hb hts iX12 hown hK hP 0 rfl rfl 26 (by decide) (hts (.fieldLink RX12 62 "CardsAtYuleModel" "sent" "[I") (List.mem_cons_of_mem _ (List.mem_append_left _ (List.mem_of_getElem? (i := 2) rfl)))) (fun _ h9 => h9) rfl dX12_yearOf_62 ?_
          refine lv_iload_n hx hb dX12_yearOf_65 rfl (lv_at hl 3 rfl) ?_
          refine lv_iload_n hx hb dX12_yearOf_66 rfl (lv_at hl 0 rfl) ?_
          have J75 : ∀ (j75_s0 : Int32) (H : Heap) (locs : List Loc) (ls : Array Slot), (ir j75_s0.toInt 0 1) → va_P g vwCl [(m, .inr (11, mG m_a m_thrown m_taped m_at m_token m_place m_value m_word m_bad m_badPlace m_fault m_faultPlace m_willing m_will j60_m_forgot m_isDrawn j60_m_x m_begin m_round m_roundCards m_fate m_any m_bothSend m_meanCards m_bestSum m_fitMany m_fitFirst m_fitSecond)), ((m_a 27), .inl (cZ, 2, .inl g13)), ((m_a 24), .inl (cZ, 2, .inl m_maySend_c)), ((m_a 23), .inl (cI, 2, .inl m_ruleNow_c)), ((m_a 33), .inl (cI, 2, .inl m_oddsNow_c)), ((m_a 26), .inl (cI, 2, .inl j2_m_a26_c)), ((m_a 25), .inl (cZ, 2, .inl m_maycome_c)), ((m_a 34), .inl (cZ, 2, .inl m_cameFirst_c))] H → va_D A [(m, .inr (11, mG m_a m_thrown m_taped m_at m_token m_place m_value m_word m_bad m_badPlace m_fault m_faultPlace m_willing m_will j60_m_forgot m_isDrawn j60_m_x m_begin m_round m_roundCards m_fate m_any m_bothSend m_meanCards m_bestSum m_fitMany m_fitFirst m_fitSecond)), ((m_a 27), .inl (cZ, 2, .inl g13)), ((m_a 24), .inl (cZ, 2, .inl m_maySend_c)), ((m_a 23), .inl (cI, 2, .inl m_ruleNow_c)), ((m_a 33), .inl (cI, 2, .inl m_oddsNow_c)), ((m_a 26), .inl (cI, 2, .inl j2_m_a26_c)), ((m_a 25), .inl (cZ, 2, .inl m_maycome_c)), ((m_a 34), .inl (cZ, 2, .inl m_cameFirst_c))] → va_S A s.heap H locs → lv_has ls 5 [(0, .ref m), (1, .int p0), (2, .int j2_l2)] → W p l e (headSpec v_X12_yearOf ({ frames := 2, cells := 0, slots := 0, locals := 44 })).room s mth av below meth c H locs 0 0 QQ (F0 mth 75 ls [.int j75_s0, .int j2_l2, .ref (m_a 26)]) := by
            intro j75_s0 H locs ls hj75_s0 hP hD hS hl
            refine va_iast (D := g) hx hb hK hP hD hS 5 0 rfl rfl (vi_rg rfl r4a (by decide) (by decide)) dX12_yearOf_75 (fun H locs hP hD hS => ?_)
            obtain ⟨g75, e75⟩ : ∃ z, z = upd j2_m_a26_c j2_l2.toNatClampNeg j75_s0 := ⟨_, rfl⟩
            have hP : va_P g vwCl [(m, .inr (11, mG m_a m_thrown m_taped m_at m_token m_place m_value m_word m_bad m_badPlace m_fault m_faultPlace m_willing m_will j60_m_forgot m_isDrawn j60_m_x m_begin m_round m_roundCards m_fate m_any m_bothSend m_meanCards m_bestSum m_fitMany m_fitFirst m_fitSecond)), ((m_a 27), .inl (cZ, 2, .inl g13)), ((m_a 24), .inl (cZ, 2, .inl m_maySend_c)), ((m_a 23), .inl (cI, 2, .inl m_ruleNow_c)), ((m_a 33), .inl (cI, 2, .inl m_oddsNow_c)), ((m_a 26), .inl (cI, 2, .inl (upd j2_m_a26_c j2_l2.toNatClampNeg j75_s0))), ((m_a 25), .inl (cZ, 2, .inl m_maycome_c)), ((m_a 34), .inl (cZ, 2, .inl m_cameFirst_c))] H := hP
            have hD : va_D A [(m, .inr (11, mG m_a m_thrown m_taped m_at m_token m_place m_value m_word m_bad m_badPlace m_fault m_faultPlace m_willing m_will j60_m_forgot m_isDrawn j60_m_x m_begin m_round m_roundCards m_fate m_any m_bothSend m_meanCards m_bestSum m_fitMany m_fitFirst m_fitSecond)), ((m_a 27), .inl (cZ, 2, .inl g13)), ((m_a 24), .inl (cZ, 2, .inl m_maySend_c)), ((m_a 23), .inl (cI, 2, .inl m_ruleNow_c)), ((m_a 33), .inl (cI, 2, .inl m_oddsNow_c)), ((m_a 26), .inl (cI, 2, .inl (upd j2_m_a26_c j2_l2.toNatClampNeg j75_s0))), ((m_a 25), .inl (cZ, 2, .inl m_maycome_c)), ((m_a 34), .inl (cZ, 2, .inl m_cameFirst_c))] := hD
            rw [← e75] at hP hD
            obtain ⟨y76, e76⟩ : ∃ y : Int32, y = j2_l2 + 1 := ⟨_, rfl⟩
            have q76 : y76.toInt = j2_l2.toInt + 1 := by rw [e76]; exact ad_z rfl rfl r4a (ir_c 1) (by decide) (by decide)
            have r76 : ir y76.toInt 1 2 := ad_r q76 r4a (ir_c 1) (by decide) (by decide)
            refine lv_iinc (v := y76) (lv' := [(2, .int y76), (0, .ref m), (1, .int p0)]) hx hb dX12_yearOf_76 hl (k := 2) rfl e76.symm (by decide) rfl (fun ls hl => ?_)
            refine lv_goto (tgt := 2) hx hb dX12_yearOf_79 (by decide) ?_
            exact ih2 y76 g13 j60_m_forgot j60_m_x g75 _ _ _ (by omega) (ir_w r76 (by decide) (by decide)) (hP.sub [0, 1, 2, 3, 4, 5, 6, 7] rfl) (hD.sub [0, 1, 2, 3, 4, 5, 6, 7] (by decide) rfl) hS (lv_sub hl [1, 2, 0] rfl)
          refine lv_if_eq (tgt := 74) hx hb dX12_yearOf_67 (by decide) (fun c67 => ?_) (fun c67 => ?_)
          · have f67 := (show j60_s0.toInt = 0 from z_eq rfl rfl c67)
            have r67a : ir j60_s0.toInt 0 0 := ir_eqa f67 hj60_s0 (ir_c 0) (by decide) (by decide)
            refine lv_iconst (v := 0) hx hb dX12_yearOf_74 (by decide) ?_
            exact J75 0 _ _ _ (by decide) (hP.sub [0, 1, 2, 3, 4, 5, 6, 7] rfl) (hD.sub [0, 1, 2, 3, 4, 5, 6, 7] (by decide) rfl) hS (lv_sub hl [1, 2, 3] rfl)
          have f67 := (show j60_s0.toInt ≠ 0 from z_ne rfl rfl c67)
          have r67a : ir j60_s0.toInt 1 1 := ir_nel f67 hj60_s0 (by decide) (by decide)
          refine lv_iconst (v := 1) hx hb dX12_yearOf_70 (by decide) ?_
          refine lv_goto (tgt := 75) hx hb dX12_yearOf_71 (by decide) ?_
          exact J75 1 _ _ _ (by decide) (hP.sub [0, 1, 2, 3, 4, 5, 6, 7] rfl) (hD.sub [0, 1, 2, 3, 4, 5, 6, 7] (by decide) rfl) hS (lv_sub hl [1, 2, 3] rfl)
        refine lv_icmp_ne (tgt := 29) hx hb dX12_yearOf_19 (by decide) (fun c19 => ?_) (fun c19 => ?_)
        rotate_left 1
        · have f19 := (show j2_l2.toInt = m_willing.toInt from z_eq rfl rfl c19)
          have r19b : ir m_willing.toInt 0 1 := ir_eqb f19 r4a (rg_all m_willing) (by decide) (by decide)
          refine lv_aload_n hx hb dX12_yearOf_22 rfl (lv_at hl 0 rfl) ?_
          refine va_get (D := g) (ci := 11) (v := .int m_will) (C := RX12) (T := TX12) (N := 56) hx hb hts iX12 hown hK hP 0 rfl rfl 29 (by decide) (hts (.fieldLink RX12 312 "CardsAtYuleModel" "will" "Z") (List.mem_cons_of_mem _ (List.mem_append_left _ (List.mem_of_getElem? (i := 14) rfl)))) (fun _ h9 => h9) rfl dX12_yearOf_23 ?_
          refine lv_goto (tgt := 60) hx hb dX12_yearOf_26 (by decide) ?_
          exact J60 m_will j2_m_forgot j2_m_x _ _ _ hv_m_will (hP.sub [0, 1, 2, 3, 4, 5, 6, 7] rfl) (hD.sub [0, 1, 2, 3, 4, 5, 6, 7] (by decide) rfl) hS (lv_sub hl [0, 1, 2] rfl)
        have f19 := (show j2_l2.toInt ≠ m_willing.toInt from z_ne rfl rfl c19)
        refine lv_aload_n hx hb dX12_yearOf_29 rfl (lv_at hl 0 rfl) ?_
        refine va_get (D := g) (ci := 11) (v := .ref (m_a 24)) (C := RX12) (T := TX12) (N := 56) hx hb hts iX12 hown hK hP 0 rfl rfl 24 (by decide) (hts (.fieldLink RX12 56 "CardsAtYuleModel" "maySend" "[Z") (List.mem_cons_of_mem _ (List.mem_append_left _ (List.mem_of_getElem? (i := 5) rfl)))) (fun _ h9 => h9) rfl dX12_yearOf_30 ?_
        refine lv_iload_n hx hb dX12_yearOf_33 rfl (lv_at hl 2 rfl) ?_
        refine va_zald (D := g) hx hb hK hP 2 3 rfl rfl (vi_rg rfl r4a (by decide) (by decide)) dX12_yearOf_34 ?_
        refine lv_topi (fun y34 e34 => ?_)
        have J59 : ∀ (j59_m_forgot : Int32) (j59_m_x : Int64) (H : Heap) (locs : List Loc) (ls : Array Slot), va_P g vwCl [(m, .inr (11, mG m_a m_thrown m_taped m_at m_token m_place m_value m_word m_bad m_badPlace m_fault m_faultPlace m_willing m_will j59_m_forgot m_isDrawn j59_m_x m_begin m_round m_roundCards m_fate m_any m_bothSend m_meanCards m_bestSum m_fitMany m_fitFirst m_fitSecond)), ((m_a 27), .inl (cZ, 2, .inl g13)), ((m_a 24), .inl (cZ, 2, .inl m_maySend_c)), ((m_a 23), .inl (cI, 2, .inl m_ruleNow_c)), ((m_a 33), .inl (cI, 2, .inl m_oddsNow_c)), ((m_a 26), .inl (cI, 2, .inl j2_m_a26_c)), ((m_a 25), .inl (cZ, 2, .inl m_maycome_c)), ((m_a 34), .inl (cZ, 2, .inl m_cameFirst_c))] H → va_D A [(m, .inr (11, mG m_a m_thrown m_taped m_at m_token m_place m_value m_word m_bad m_badPlace m_fault m_faultPlace m_willing m_will j59_m_forgot m_isDrawn j59_m_x m_begin m_round m_roundCards m_fate m_any m_bothSend m_meanCards m_bestSum m_fitMany m_fitFirst m_fitSecond)), ((m_a 27), .inl (cZ, 2, .inl g13)), ((m_a 24), .inl (cZ, 2, .inl m_maySend_c)), ((m_a 23), .inl (cI, 2, .inl m_ruleNow_c)), ((m_a 33), .inl (cI, 2, .inl m_oddsNow_c)), ((m_a 26), .inl (cI, 2, .inl j2_m_a26_c)), ((m_a 25), .inl (cZ, 2, .inl m_maycome_c)), ((m_a 34), .inl (cZ, 2, .inl m_cameFirst_c))] → va_S A s.heap H locs → lv_has ls 5 [(0, .ref m), (1, .int p0), (2, .int j2_l2)] → W p l e (headSpec v_X12_yearOf ({ frames := 2, cells := 0, slots := 0, locals := 44 })).room s mth av below meth c H locs 0 0 QQ (F0 mth 59 ls []) := by
          intro j59_m_forgot j59_m_x H locs ls  hP hD hS hl
          refine lv_iconst (v := 0) hx hb dX12_yearOf_59 (by decide) ?_
          exact J60 0 j59_m_forgot j59_m_x _ _ _ (by decide) (hP.sub [0, 1, 2, 3, 4, 5, 6, 7] rfl) (hD.sub [0, 1, 2, 3, 4, 5, 6, 7] (by decide) rfl) hS (lv_sub hl [0, 1, 2] rfl)
        refine lv_if_eq (tgt := 59) hx hb dX12_yearOf_35 (by decide) (fun c35 => ?_) (fun c35 => ?_)
        · have f35 := (show y34.toInt = 0 from z_eq rfl rfl c35)
          have r35a : ir y34.toInt 0 0 := ir_eqa f35 (rg_all y34) (ir_c 0) (by decide) (by decide)
          exact J59 j2_m_forgot j2_m_x _ _ _  (hP.sub [0, 1, 2, 3, 4, 5, 6, 7] rfl) (hD.sub [0, 1, 2, 3, 4, 5, 6, 7] (by decide) rfl) hS (lv_sub hl [0, 1, 2] rfl)
        have f35 := (show y34.toInt ≠ 0 from z_ne rfl rfl c35)
        refine lv_aload_n hx hb dX12_yearOf_38 rfl (lv_at hl 0 rfl) ?_
        refine lv_iload_n hx hb dX12_yearOf_39 rfl (lv_at hl 2 rfl) ?_
        refine lv_iload_n hx hb dX12_yearOf_40 rfl (lv_at hl 1 rfl) ?_
        refine ro_i (va_runV (As := [.int j2_l2, .int p0]) (rest := []) ⟨hx, hb, hml, hown, hts⟩ (q_X12_wouldSend l g cI cJ cB cZ cL j2_l2 p0 m m_a m_thrown m_taped m_at m_token m_place m_value m_word m_bad m_badPlace m_fault m_faultPlace m_willing m_will j2_m_forgot m_isDrawn j2_m_x m_begin m_round m_roundCards m_fate m_any m_bothSend m_meanCards m_bestSum m_fitMany m_fitFirst m_fitSecond m_ruleNow_c H.size r4a hv_m_taped hv_m_at hv_m_will hv_m_isDrawn) (cwV 2 hts (goodIn_app (g_4 (List.mem_cons_of_mem _ (List.mem_append_left _ (List.mem_of_getElem? (i := 11) rfl))) (List.mem_cons_of_mem _ (List.mem_append_left _ (List.mem_of_getElem? (i := 12) rfl))) (List.mem_cons_of_mem _ (List.mem_append_left _ (List.mem_of_getElem? (i := 13) rfl))) (List.mem_cons_of_mem _ (List.mem_append_left _ (List.mem_of_getElem? (i := 10) rfl))) (by decide +kernel)) (goodIn_sub (fun _ h => List.mem_cons_of_mem _ (List.mem_append_right _ (List.mem_append_right _ (List.mem_append_left _ h)))) good_v_X12_wouldSend)) rfl rfl rfl (by decide +kernel) ⟨Nat.le_of_ble_eq_true rfl, Nat.le_of_ble_eq_true rfl⟩) (pv_RO (q := (RX12, TX12, 56)) (ci := 11) (q0 := 0) (wc := [(m, .inr (11, mG m_a m_thrown m_taped m_at m_token m_place m_value m_word m_bad m_badPlace m_fault m_faultPlace m_willing m_will j2_m_forgot m_isDrawn j2_m_x m_begin m_round m_roundCards m_fate m_any m_bothSend m_meanCards m_bestSum m_fitMany m_fitFirst m_fitSecond)), ((m_a 23), .inl (cI, 2, .inl m_ruleNow_c))]) hK hP [0, 3] rfl rfl rfl) rfl rfl hl.1 rfl (lv_room (Nat.le_of_ble_eq_true rfl)) dX12_yearOf_41 ⟨Nat.le_of_ble_eq_true rfl, Nat.le_of_ble_eq_true rfl⟩) hS hA hP (fun r41 u41 H locs hw41 hP hS => ?_)
        have hw41_0 := hw41
        refine lv_if_eq (tgt := 59) hx hb dX12_yearOf_44 (by decide) (fun c44 => ?_) (fun c44 => ?_)
        · have f44 := (show r41.toInt = 0 from z_eq rfl rfl c44)
          have r44a : ir r41.toInt 0 0 := ir_eqa f44 hw41_0 (ir_c 0) (by decide) (by decide)
          exact J59 j2_m_forgot j2_m_x _ _ _  (hP.sub [0, 1, 2, 3, 4, 5, 6, 7] rfl) (hD.sub [0, 1, 2, 3, 4, 5, 6, 7] (by decide) rfl) hS (lv_sub hl [0, 1, 2] rfl)
        have f44 := (show r41.toInt ≠ 0 from z_ne rfl rfl c44)
        have r44a : ir r41.toInt 1 1 := ir_nel f44 hw41_0 (by decide) (by decide)
        refine lv_aload_n hx hb dX12_yearOf_47 rfl (lv_at hl 0 rfl) ?_
        refine lv_iload_n hx hb dX12_yearOf_48 rfl (lv_at hl 2 rfl) ?_
        refine rw_i (wr := [((m_a 27), .inl (cZ, 2, .inl g13)), ((m_a 24), .inl (cZ, 2, .inl m_maySend_c)), ((m_a 23), .inl (cI, 2, .inl m_ruleNow_c)), ((m_a 26), .inl (cI, 2, .inl j2_m_a26_c)), ((m_a 25), .inl (cZ, 2, .inl m_maycome_c)), ((m_a 34), .inl (cZ, 2, .inl m_cameFirst_c))]) (va_runV (As := [.int j2_l2]) (rest := []) ⟨hx, hb, hml, hown, hts⟩ (q_X12_isForgotten l g cI cJ cB cZ cL j2_l2 m m_a m_thrown m_taped m_at m_token m_place m_value m_word m_bad m_badPlace m_fault m_faultPlace m_willing m_will j2_m_forgot m_isDrawn j2_m_x m_begin m_round m_roundCards m_fate m_any m_bothSend m_meanCards m_bestSum m_fitMany m_fitFirst m_fitSecond m_oddsNow_c H.size r4a hv_m_taped hv_m_at hv_m_will hv_m_isDrawn) (cwV 1 hts (goodIn_app (g_4 (List.mem_cons_of_mem _ (List.mem_append_left _ (List.mem_of_getElem? (i := 7) rfl))) (List.mem_cons_of_mem _ (List.mem_append_left _ (List.mem_of_getElem? (i := 8) rfl))) (List.mem_cons_of_mem _ (List.mem_append_left _ (List.mem_of_getElem? (i := 9) rfl))) (List.mem_cons_of_mem _ (List.mem_append_left _ (List.mem_of_getElem? (i := 10) rfl))) (by decide +kernel)) (goodIn_sub (fun _ h => List.mem_cons_of_mem _ (List.mem_append_right _ (List.mem_append_left _ h))) good_v_X12_isForgotten)) rfl rfl rfl (by decide +kernel) ⟨Nat.le_of_ble_eq_true rfl, Nat.le_of_ble_eq_true rfl⟩) (pv_RW (q := (RX12, TX12, 56)) (ci := 11) (q0 := 0) (wc := [(m, .inr (11, mG m_a m_thrown m_taped m_at m_token m_place m_value m_word m_bad m_badPlace m_fault m_faultPlace m_willing m_will j2_m_forgot m_isDrawn j2_m_x m_begin m_round m_roundCards m_fate m_any m_bothSend m_meanCards m_bestSum m_fitMany m_fitFirst m_fitSecond)), ((m_a 33), .inl (cI, 2, .inl m_oddsNow_c))]) hK hP hD [0, 4] (by decide) rfl rfl rfl) rfl rfl hl.1 rfl (lv_room (Nat.le_of_ble_eq_true rfl)) dX12_yearOf_49 ⟨Nat.le_of_ble_eq_true rfl, Nat.le_of_ble_eq_true rfl⟩) hS hA hP hD [0, 4] [1, 2, 3, 5, 6, 7] rfl rfl (by decide) (by decide) (fun r49 u49 H locs hw49 hP hD hS => ?_)
        obtain ⟨n_m_forgot_49, n_m_x_49⟩ := u49
        have hP : va_P g vwCl [((m_a 27), .inl (cZ, 2, .inl g13)), ((m_a 24), .inl (cZ, 2, .inl m_maySend_c)), ((m_a 23), .inl (cI, 2, .inl m_ruleNow_c)), ((m_a 26), .inl (cI, 2, .inl j2_m_a26_c)), ((m_a 25), .inl (cZ, 2, .inl m_maycome_c)), ((m_a 34), .inl (cZ, 2, .inl m_cameFirst_c)), (m, .inr (11, mG m_a m_thrown m_taped m_at m_token m_place m_value m_word m_bad m_badPlace m_fault m_faultPlace m_willing m_will n_m_forgot_49 m_isDrawn n_m_x_49 m_begin m_round m_roundCards m_fate m_any m_bothSend m_meanCards m_bestSum m_fitMany m_fitFirst m_fitSecond)), ((m_a 33), .inl (cI, 2, .inl m_oddsNow_c))] H := hP
        have hD : va_D A [((m_a 27), .inl (cZ, 2, .inl g13)), ((m_a 24), .inl (cZ, 2, .inl m_maySend_c)), ((m_a 23), .inl (cI, 2, .inl m_ruleNow_c)), ((m_a 26), .inl (cI, 2, .inl j2_m_a26_c)), ((m_a 25), .inl (cZ, 2, .inl m_maycome_c)), ((m_a 34), .inl (cZ, 2, .inl m_cameFirst_c)), (m, .inr (11, mG m_a m_thrown m_taped m_at m_token m_place m_value m_word m_bad m_badPlace m_fault m_faultPlace m_willing m_will n_m_forgot_49 m_isDrawn n_m_x_49 m_begin m_round m_roundCards m_fate m_any m_bothSend m_meanCards m_bestSum m_fitMany m_fitFirst m_fitSecond)), ((m_a 33), .inl (cI, 2, .inl m_oddsNow_c))] := hD
        dsimp only at hw49
        have hw49_0 := hw49
        refine lv_if_ne (tgt := 59) hx hb dX12_yearOf_52 (by decide) (fun c52 => ?_) (fun c52 => ?_)
        · have f52 := (show r49.toInt ≠ 0 from z_ne rfl rfl c52)
          have r52a : ir r49.toInt 1 1 := ir_nel f52 hw49_0 (by decide) (by decide)
          exact J59 n_m_forgot_49 n_m_x_49 _ _ _  (hP.sub [6, 0, 1, 2, 7, 3, 4, 5] rfl) (hD.sub [6, 0, 1, 2, 7, 3, 4, 5] (by decide) rfl) hS (lv_sub hl [0, 1, 2] rfl)
        have f52 := (show r49.toInt = 0 from z_eq rfl rfl c52)
        have r52a : ir r49.toInt 0 0 := ir_eqa f52 hw49_0 (ir_c 0) (by decide) (by decide)
        refine lv_iconst (v := 1) hx hb dX12_yearOf_55 (by decide) ?_
        refine lv_goto (tgt := 60) hx hb dX12_yearOf_56 (by decide) ?_
        exact J60 1 n_m_forgot_49 n_m_x_49 _ _ _ (by decide) (hP.sub [6, 0, 1, 2, 7, 3, 4, 5] rfl) (hD.sub [6, 0, 1, 2, 7, 3, 4, 5] (by decide) rfl) hS (lv_sub hl [0, 1, 2] rfl)
      have f4 := (show 2 ≤ j2_l2.toInt from z_le rfl rfl c4)
      have r4a : ir j2_l2.toInt 2 2 := ir_leb f4 (ir_c 2) hj2_l2 (by decide)
      refine lv_aload_n hx hb dX12_yearOf_82 rfl (lv_at hl 0 rfl) ?_
      refine va_get (D := g) (ci := 11) (v := .ref (m_a 34)) (C := RX12) (T := TX12) (N := 56) hx hb hts iX12 hown hK hP 0 rfl rfl 34 (by decide) (hts (.fieldLink RX12 74 "CardsAtYuleModel" "cameFirst" "[Z") (List.mem_cons_of_mem _ (List.mem_append_left _ (List.mem_of_getElem? (i := 0) rfl)))) (fun _ h9 => h9) rfl dX12_yearOf_83 ?_
      refine lv_astore_n (lv' := [(2, .ref (m_a 34)), (0, .ref m), (1, .int p0)]) hx hb dX12_yearOf_86 rfl hl (by decide) rfl (fun ls hl => ?_)
      refine lv_iconst (v := 0) hx hb dX12_yearOf_87 (by decide) ?_
      refine lv_istore_n (lv' := [(3, .int 0), (2, .ref (m_a 34)), (0, .ref m), (1, .int p0)]) hx hb dX12_yearOf_88 rfl hl (by decide) rfl (fun ls hl => ?_)
      have J89 : ∀ (n89 : Nat) (j89_l3 : Int32) (j89_m_a34_c : Nat → Int32) (H : Heap) (locs : List Loc) (ls : Array Slot), (3 - j89_l3.toInt).toNat < n89 → (ir j89_l3.toInt 0 2) → va_P g vwCl [(m, .inr (11, mG m_a m_thrown m_taped m_at m_token m_place m_value m_word m_bad m_badPlace m_fault m_faultPlace m_willing m_will j2_m_forgot m_isDrawn j2_m_x m_begin m_round m_roundCards m_fate m_any m_bothSend m_meanCards m_bestSum m_fitMany m_fitFirst m_fitSecond)), ((m_a 27), .inl (cZ, 2, .inl j2_m_a27_c)), ((m_a 24), .inl (cZ, 2, .inl m_maySend_c)), ((m_a 23), .inl (cI, 2, .inl m_ruleNow_c)), ((m_a 33), .inl (cI, 2, .inl m_oddsNow_c)), ((m_a 26), .inl (cI, 2, .inl j2_m_a26_c)), ((m_a 25), .inl (cZ, 2, .inl m_maycome_c)), ((m_a 34), .inl (cZ, 2, .inl j89_m_a34_c))] H → va_D A [(m, .inr (11, mG m_a m_thrown m_taped m_at m_token m_place m_value m_word m_bad m_badPlace m_fault m_faultPlace m_willing m_will j2_m_forgot m_isDrawn j2_m_x m_begin m_round m_roundCards m_fate m_any m_bothSend m_meanCards m_bestSum m_fitMany m_fitFirst m_fitSecond)), ((m_a 27), .inl (cZ, 2, .inl j2_m_a27_c)), ((m_a 24), .inl (cZ, 2, .inl m_maySend_c)), ((m_a 23), .inl (cI, 2, .inl m_ruleNow_c)), ((m_a 33), .inl (cI, 2, .inl m_oddsNow_c)), ((m_a 26), .inl (cI, 2, .inl j2_m_a26_c)), ((m_a 25), .inl (cZ, 2, .inl m_maycome_c)), ((m_a 34), .inl (cZ, 2, .inl j89_m_a34_c))] → va_S A s.heap H locs → lv_has ls 5 [(0, .ref m), (1, .int p0), (2, .ref (m_a 34)), (3, .int j89_l3)] → W p l e (headSpec v_X12_yearOf ({ frames := 2, cells := 0, slots := 0, locals := 44 })).room s mth av below meth c H locs 0 0 QQ (F0 mth 89 ls []) := by
        intro n89
        induction n89 with
        | zero => exact fun j89_l3 j89_m_a34_c H locs ls hn => absurd hn (Nat.not_lt_zero _)
        | succ n89 ih89 =>
          intro j89_l3 j89_m_a34_c H locs ls hn89 hj89_l3 hP hD hS hl
          refine lv_iload_n hx hb dX12_yearOf_89 rfl (lv_at hl 3 rfl) ?_
          refine lv_iconst (v := 2) hx hb dX12_yearOf_90 (by decide) ?_
          refine lv_icmp_ge (tgt := 131) hx hb dX12_yearOf_91 (by decide) (fun c91 => ?_) (fun c91 => ?_)
          rotate_left 1
          · have f91 := (show j89_l3.toInt < 2 from z_nle rfl rfl c91)
            have r91a : ir j89_l3.toInt 0 1 := ir_lta f91 hj89_l3 (ir_c 2) (by decide)
            refine lv_aload_n hx hb dX12_yearOf_94 rfl (lv_at hl 2 rfl) ?_
            refine lv_iload_n hx hb dX12_yearOf_95 rfl (lv_at hl 3 rfl) ?_
            refine lv_aload_n hx hb dX12_yearOf_96 rfl (lv_at hl 0 rfl) ?_
            refine va_get (D := g) (ci := 11) (v := .ref (m_a 26)) (C := RX12) (T := TX12) (N := 56) hx hb hts iX12 hown hK hP 0 rfl rfl 26 (by decide) (hts (.fieldLink RX12 62 "CardsAtYuleModel" "sent" "[I") (List.mem_cons_of_mem _ (List.mem_append_left _ (List.mem_of_getElem? (i := 2) rfl)))) (fun _ h9 => h9) rfl dX12_yearOf_97 ?_
            refine lv_iconst (v := 1) hx hb dX12_yearOf_100 (by decide) ?_
            refine lv_iload_n hx hb dX12_yearOf_101 rfl (lv_at hl 3 rfl) ?_
            refine lv_isub hx hb dX12_yearOf_102 ?_
            refine lv_topi (fun y102 e102 => ?_)
            have q102 : y102.toInt = 1 - j89_l3.toInt := by rw [e102]; exact su_z rfl rfl (ir_c 1) r91a (by decide) (by decide)
            have r102 : ir y102.toInt 0 1 := su_r q102 (ir_c 1) r91a (by decide) (by decide)
            refine va_iald (D := g) hx hb hK hP 5 0 rfl rfl (vi_rg rfl r102 (by decide) (by decide)) dX12_yearOf_103 ?_
            refine lv_topi (fun y103 e103 => ?_)
            refine lv_iconst (v := 1) hx hb dX12_yearOf_104 (by decide) ?_
            have J124 : ∀ (j124_s0 : Int32) (H : Heap) (locs : List Loc) (ls : Array Slot), (ir j124_s0.toInt 0 1) → va_P g vwCl [(m, .inr (11, mG m_a m_thrown m_taped m_at m_token m_place m_value m_word m_bad m_badPlace m_fault m_faultPlace m_willing m_will j2_m_forgot m_isDrawn j2_m_x m_begin m_round m_roundCards m_fate m_any m_bothSend m_meanCards m_bestSum m_fitMany m_fitFirst m_fitSecond)), ((m_a 27), .inl (cZ, 2, .inl j2_m_a27_c)), ((m_a 24), .inl (cZ, 2, .inl m_maySend_c)), ((m_a 23), .inl (cI, 2, .inl m_ruleNow_c)), ((m_a 33), .inl (cI, 2, .inl m_oddsNow_c)), ((m_a 26), .inl (cI, 2, .inl j2_m_a26_c)), ((m_a 25), .inl (cZ, 2, .inl m_maycome_c)), ((m_a 34), .inl (cZ, 2, .inl j89_m_a34_c))] H → va_D A [(m, .inr (11, mG m_a m_thrown m_taped m_at m_token m_place m_value m_word m_bad m_badPlace m_fault m_faultPlace m_willing m_will j2_m_forgot m_isDrawn j2_m_x m_begin m_round m_roundCards m_fate m_any m_bothSend m_meanCards m_bestSum m_fitMany m_fitFirst m_fitSecond)), ((m_a 27), .inl (cZ, 2, .inl j2_m_a27_c)), ((m_a 24), .inl (cZ, 2, .inl m_maySend_c)), ((m_a 23), .inl (cI, 2, .inl m_ruleNow_c)), ((m_a 33), .inl (cI, 2, .inl m_oddsNow_c)), ((m_a 26), .inl (cI, 2, .inl j2_m_a26_c)), ((m_a 25), .inl (cZ, 2, .inl m_maycome_c)), ((m_a 34), .inl (cZ, 2, .inl j89_m_a34_c))] → va_S A s.heap H locs → lv_has ls 5 [(0, .ref m), (1, .int p0), (2, .ref (m_a 34)), (3, .int j89_l3)] → W p l e (headSpec v_X12_yearOf ({ frames := 2, cells := 0, slots := 0, locals := 44 })).room s mth av below meth c H locs 0 0 QQ (F0 mth 124 ls [.int j124_s0, .int j89_l3, .ref (m_a 34)]) := by
              intro j124_s0 H locs ls hj124_s0 hP hD hS hl
              refine va_zast (D := g) hx hb hK hP hD hS 7 3 rfl rfl (vi_rg rfl r91a (by decide) (by decide)) dX12_yearOf_124 (fun H locs hP hD hS => ?_)
              obtain ⟨g124, e124⟩ : ∃ z, z = upd j89_m_a34_c j89_l3.toNatClampNeg (vp_nar .boolean j124_s0) := ⟨_, rfl⟩
              have hP : va_P g vwCl [(m, .inr (11, mG m_a m_thrown m_taped m_at m_token m_place m_value m_word m_bad m_badPlace m_fault m_faultPlace m_willing m_will j2_m_forgot m_isDrawn j2_m_x m_begin m_round m_roundCards m_fate m_any m_bothSend m_meanCards m_bestSum m_fitMany m_fitFirst m_fitSecond)), ((m_a 27), .inl (cZ, 2, .inl j2_m_a27_c)), ((m_a 24), .inl (cZ, 2, .inl m_maySend_c)), ((m_a 23), .inl (cI, 2, .inl m_ruleNow_c)), ((m_a 33), .inl (cI, 2, .inl m_oddsNow_c)), ((m_a 26), .inl (cI, 2, .inl j2_m_a26_c)), ((m_a 25), .inl (cZ, 2, .inl m_maycome_c)), ((m_a 34), .inl (cZ, 2, .inl (upd j89_m_a34_c j89_l3.toNatClampNeg (vp_nar .boolean j124_s0))))] H := hP
              have hD : va_D A [(m, .inr (11, mG m_a m_thrown m_taped m_at m_token m_place m_value m_word m_bad m_badPlace m_fault m_faultPlace m_willing m_will j2_m_forgot m_isDrawn j2_m_x m_begin m_round m_roundCards m_fate m_any m_bothSend m_meanCards m_bestSum m_fitMany m_fitFirst m_fitSecond)), ((m_a 27), .inl (cZ, 2, .inl j2_m_a27_c)), ((m_a 24), .inl (cZ, 2, .inl m_maySend_c)), ((m_a 23), .inl (cI, 2, .inl m_ruleNow_c)), ((m_a 33), .inl (cI, 2, .inl m_oddsNow_c)), ((m_a 26), .inl (cI, 2, .inl j2_m_a26_c)), ((m_a 25), .inl (cZ, 2, .inl m_maycome_c)), ((m_a 34), .inl (cZ, 2, .inl (upd j89_m_a34_c j89_l3.toNatClampNeg (vp_nar .boolean j124_s0))))] := hD
              rw [← e124] at hP hD
              obtain ⟨y125, e125⟩ : ∃ y : Int32, y = j89_l3 + 1 := ⟨_, rfl⟩
              have q125 : y125.toInt = j89_l3.toInt + 1 := by rw [e125]; exact ad_z rfl rfl r91a (ir_c 1) (by decide) (by decide)
              have r125 : ir y125.toInt 1 2 := ad_r q125 r91a (ir_c 1) (by decide) (by decide)
              refine lv_iinc (v := y125) (lv' := [(3, .int y125), (0, .ref m), (1, .int p0), (2, .ref (m_a 34))]) hx hb dX12_yearOf_125 hl (k := 3) rfl e125.symm (by decide) rfl (fun ls hl => ?_)
              refine lv_goto (tgt := 89) hx hb dX12_yearOf_128 (by decide) ?_
              exact ih89 y125 g124 _ _ _ (by omega) (ir_w r125 (by decide) (by decide)) (hP.sub [0, 1, 2, 3, 4, 5, 6, 7] rfl) (hD.sub [0, 1, 2, 3, 4, 5, 6, 7] (by decide) rfl) hS (lv_sub hl [1, 2, 3, 0] rfl)
            have J123 : ∀  (H : Heap) (locs : List Loc) (ls : Array Slot), va_P g vwCl [(m, .inr (11, mG m_a m_thrown m_taped m_at m_token m_place m_value m_word m_bad m_badPlace m_fault m_faultPlace m_willing m_will j2_m_forgot m_isDrawn j2_m_x m_begin m_round m_roundCards m_fate m_any m_bothSend m_meanCards m_bestSum m_fitMany m_fitFirst m_fitSecond)), ((m_a 27), .inl (cZ, 2, .inl j2_m_a27_c)), ((m_a 24), .inl (cZ, 2, .inl m_maySend_c)), ((m_a 23), .inl (cI, 2, .inl m_ruleNow_c)), ((m_a 33), .inl (cI, 2, .inl m_oddsNow_c)), ((m_a 26), .inl (cI, 2, .inl j2_m_a26_c)), ((m_a 25), .inl (cZ, 2, .inl m_maycome_c)), ((m_a 34), .inl (cZ, 2, .inl j89_m_a34_c))] H → va_D A [(m, .inr (11, mG m_a m_thrown m_taped m_at m_token m_place m_value m_word m_bad m_badPlace m_fault m_faultPlace m_willing m_will j2_m_forgot m_isDrawn j2_m_x m_begin m_round m_roundCards m_fate m_any m_bothSend m_meanCards m_bestSum m_fitMany m_fitFirst m_fitSecond)), ((m_a 27), .inl (cZ, 2, .inl j2_m_a27_c)), ((m_a 24), .inl (cZ, 2, .inl m_maySend_c)), ((m_a 23), .inl (cI, 2, .inl m_ruleNow_c)), ((m_a 33), .inl (cI, 2, .inl m_oddsNow_c)), ((m_a 26), .inl (cI, 2, .inl j2_m_a26_c)), ((m_a 25), .inl (cZ, 2, .inl m_maycome_c)), ((m_a 34), .inl (cZ, 2, .inl j89_m_a34_c))] → va_S A s.heap H locs → lv_has ls 5 [(0, .ref m), (1, .int p0), (2, .ref (m_a 34)), (3, .int j89_l3)] → W p l e (headSpec v_X12_yearOf ({ frames := 2, cells := 0, slots := 0, locals := 44 })).room s mth av below meth c H locs 0 0 QQ (F0 mth 123 ls [.int j89_l3, .ref (m_a 34)]) := by
              intro  H locs ls  hP hD hS hl
              refine lv_iconst (v := 0) hx hb dX12_yearOf_123 (by decide) ?_
              exact J124 0 _ _ _ (by decide) (hP.sub [0, 1, 2, 3, 4, 5, 6, 7] rfl) (hD.sub [0, 1, 2, 3, 4, 5, 6, 7] (by decide) rfl) hS (lv_sub hl [0, 1, 2, 3] rfl)
            refine lv_icmp_ne (tgt := 123) hx hb dX12_yearOf_105 (by decide) (fun c105 => ?_) (fun c105 => ?_)
            · have f105 := (show y103.toInt ≠ 1 from z_ne rfl rfl c105)
              exact J123  _ _ _  (hP.sub [0, 1, 2, 3, 4, 5, 6, 7] rfl) (hD.sub [0, 1, 2, 3, 4, 5, 6, 7] (by decide) rfl) hS (lv_sub hl [0, 1, 2, 3] rfl)
            have f105 := (show y103.toInt = 1 from z_eq rfl rfl c105)
            have r105a : ir y103.toInt 1 1 := ir_eqa f105 (rg_all y103) (ir_c 1) (by decide) (by decide)
            refine lv_aload_n hx hb dX12_yearOf_108 rfl (lv_at hl 0 rfl) ?_
            refine va_get (D := g) (ci := 11) (v := .ref (m_a 25)) (C := RX12) (T := TX12) (N := 56) hx hb hts iX12 hown hK hP 0 rfl rfl 25 (by decide) (hts (.fieldLink RX12 59 "CardsAtYuleModel" "maycome" "[Z") (List.mem_cons_of_mem _ (List.mem_append_left _ (List.mem_of_getElem? (i := 3) rfl)))) (fun _ h9 => h9) rfl dX12_yearOf_109 ?_
            refine lv_iconst (v := 1) hx hb dX12_yearOf_112 (by decide) ?_
            refine lv_iload_n hx hb dX12_yearOf_113 rfl (lv_at hl 3 rfl) ?_
            refine lv_isub hx hb dX12_yearOf_114 ?_
            refine lv_topi (fun y114 e114 => ?_)
            have q114 : y114.toInt = 1 - j89_l3.toInt := by rw [e114]; exact su_z rfl rfl (ir_c 1) r91a (by decide) (by decide)
            have r114 : ir y114.toInt 0 1 := su_r q114 (ir_c 1) r91a (by decide) (by decide)
            refine va_zald (D := g) hx hb hK hP 6 3 rfl rfl (vi_rg rfl r114 (by decide) (by decide)) dX12_yearOf_115 ?_
            refine lv_topi (fun y115 e115 => ?_)
            refine lv_if_eq (tgt := 123) hx hb dX12_yearOf_116 (by decide) (fun c116 => ?_) (fun c116 => ?_)
            · have f116 := (show y115.toInt = 0 from z_eq rfl rfl c116)
              have r116a : ir y115.toInt 0 0 := ir_eqa f116 (rg_all y115) (ir_c 0) (by decide) (by decide)
              exact J123  _ _ _  (hP.sub [0, 1, 2, 3, 4, 5, 6, 7] rfl) (hD.sub [0, 1, 2, 3, 4, 5, 6, 7] (by decide) rfl) hS (lv_sub hl [0, 1, 2, 3] rfl)
            have f116 := (show y115.toInt ≠ 0 from z_ne rfl rfl c116)
            refine lv_iconst (v := 1) hx hb dX12_yearOf_119 (by decide) ?_
            refine lv_goto (tgt := 124) hx hb dX12_yearOf_120 (by decide) ?_
            exact J124 1 _ _ _ (by decide) (hP.sub [0, 1, 2, 3, 4, 5, 6, 7] rfl) (hD.sub [0, 1, 2, 3, 4, 5, 6, 7] (by decide) rfl) hS (lv_sub hl [0, 1, 2, 3] rfl)
          have f91 := (show 2 ≤ j89_l3.toInt from z_le rfl rfl c91)
          have r91a : ir j89_l3.toInt 2 2 := ir_leb f91 (ir_c 2) hj89_l3 (by decide)
          refine lv_iconst (v := 0) hx hb dX12_yearOf_131 (by decide) ?_
          refine lv_istore_n (lv' := [(3, .int 0), (0, .ref m), (1, .int p0), (2, .ref (m_a 34))]) hx hb dX12_yearOf_132 rfl hl (by decide) rfl (fun ls hl => ?_)
          have J133 : ∀ (n133 : Nat) (j133_l3 : Int32) (j133_m_forgot : Int32) (j133_m_x : Int64) (j133_m_a26_c : Nat → Int32) (H : Heap) (locs : List Loc) (ls : Array Slot), (3 - j133_l3.toInt).toNat < n133 → (ir j133_l3.toInt 0 2) → va_P g vwCl [(m, .inr (11, mG m_a m_thrown m_taped m_at m_token m_place m_value m_word m_bad m_badPlace m_fault m_faultPlace m_willing m_will j133_m_forgot m_isDrawn j133_m_x m_begin m_round m_roundCards m_fate m_any m_bothSend m_meanCards m_bestSum m_fitMany m_fitFirst m_fitSecond)), ((m_a 27), .inl (cZ, 2, .inl j2_m_a27_c)), ((m_a 24), .inl (cZ, 2, .inl m_maySend_c)), ((m_a 23), .inl (cI, 2, .inl m_ruleNow_c)), ((m_a 33), .inl (cI, 2, .inl m_oddsNow_c)), ((m_a 26), .inl (cI, 2, .inl j133_m_a26_c)), ((m_a 25), .inl (cZ, 2, .inl m_maycome_c)), ((m_a 34), .inl (cZ, 2, .inl j89_m_a34_c))] H → va_D A [(m, .inr (11, mG m_a m_thrown m_taped m_at m_token m_place m_value m_word m_bad m_badPlace m_fault m_faultPlace m_willing m_will j133_m_forgot m_isDrawn j133_m_x m_begin m_round m_roundCards m_fate m_any m_bothSend m_meanCards m_bestSum m_fitMany m_fitFirst m_fitSecond)), ((m_a 27), .inl (cZ, 2, .inl j2_m_a27_c)), ((m_a 24), .inl (cZ, 2, .inl m_maySend_c)), ((m_a 23), .inl (cI, 2, .inl m_ruleNow_c)), ((m_a 33), .inl (cI, 2, .inl m_oddsNow_c)), ((m_a 26), .inl (cI, 2, .inl j133_m_a26_c)), ((m_a 25), .inl (cZ, 2, .inl m_maycome_c)), ((m_a 34), .inl (cZ, 2, .inl j89_m_a34_c))] → va_S A s.heap H locs → lv_has ls 5 [(0, .ref m), (1, .int p0), (2, .ref (m_a 34)), (3, .int j133_l3)] → W p l e (headSpec v_X12_yearOf ({ frames := 2, cells := 0, slots := 0, locals := 44 })).room s mth av below meth c H locs 0 0 QQ (F0 mth 133 ls []) := by
            intro n133
            induction n133 with
            | zero => exact fun j133_l3 j133_m_forgot j133_m_x j133_m_a26_c H locs ls hn => absurd hn (Nat.not_lt_zero _)
            | succ n133 ih133 =>
              intro j133_l3 j133_m_forgot j133_m_x j133_m_a26_c H locs ls hn133 hj133_l3 hP hD hS hl
              refine lv_iload_n hx hb dX12_yearOf_133 rfl (lv_at hl 3 rfl) ?_
              refine lv_iconst (v := 2) hx hb dX12_yearOf_134 (by decide) ?_
              refine lv_icmp_ge (tgt := 202) hx hb dX12_yearOf_135 (by decide) (fun c135 => ?_) (fun c135 => ?_)
              rotate_left 1
              · have f135 := (show j133_l3.toInt < 2 from z_nle rfl rfl c135)
                have r135a : ir j133_l3.toInt 0 1 := ir_lta f135 hj133_l3 (ir_c 2) (by decide)
                refine lv_iload_n hx hb dX12_yearOf_138 rfl (lv_at hl 3 rfl) ?_
                refine lv_aload_n hx hb dX12_yearOf_139 rfl (lv_at hl 0 rfl) ?_
                refine va_get (D := g) (ci := 11) (v := .int m_willing) (C := RX12) (T := TX12) (N := 56) hx hb hts iX12 hown hK hP 0 rfl rfl 28 (by decide) (hts (.fieldLink RX12 68 "CardsAtYuleModel" "willing" "I") (List.mem_cons_of_mem _ (List.mem_append_left _ (List.mem_of_getElem? (i := 4) rfl)))) (fun _ h9 => h9) rfl dX12_yearOf_140 ?_
                have J196 : ∀ (j196_m_forgot : Int32) (j196_m_x : Int64) (j196_m_a26_c : Nat → Int32) (H : Heap) (locs : List Loc) (ls : Array Slot), va_P g vwCl [(m, .inr (11, mG m_a m_thrown m_taped m_at m_token m_place m_value m_word m_bad m_badPlace m_fault m_faultPlace m_willing m_will j196_m_forgot m_isDrawn j196_m_x m_begin m_round m_roundCards m_fate m_any m_bothSend m_meanCards m_bestSum m_fitMany m_fitFirst m_fitSecond)), ((m_a 27), .inl (cZ, 2, .inl j2_m_a27_c)), ((m_a 24), .inl (cZ, 2, .inl m_maySend_c)), ((m_a 23), .inl (cI, 2, .inl m_ruleNow_c)), ((m_a 33), .inl (cI, 2, .inl m_oddsNow_c)), ((m_a 26), .inl (cI, 2, .inl j196_m_a26_c)), ((m_a 25), .inl (cZ, 2, .inl m_maycome_c)), ((m_a 34), .inl (cZ, 2, .inl j89_m_a34_c))] H → va_D A [(m, .inr (11, mG m_a m_thrown m_taped m_at m_token m_place m_value m_word m_bad m_badPlace m_fault m_faultPlace m_willing m_will j196_m_forgot m_isDrawn j196_m_x m_begin m_round m_roundCards m_fate m_any m_bothSend m_meanCards m_bestSum m_fitMany m_fitFirst m_fitSecond)), ((m_a 27), .inl (cZ, 2, .inl j2_m_a27_c)), ((m_a 24), .inl (cZ, 2, .inl m_maySend_c)), ((m_a 23), .inl (cI, 2, .inl m_ruleNow_c)), ((m_a 33), .inl (cI, 2, .inl m_oddsNow_c)), ((m_a 26), .inl (cI, 2, .inl j196_m_a26_c)), ((m_a 25), .inl (cZ, 2, .inl m_maycome_c)), ((m_a 34), .inl (cZ, 2, .inl j89_m_a34_c))] → va_S A s.heap H locs → lv_has ls 5 [(0, .ref m), (1, .int p0), (2, .ref (m_a 34)), (3, .int j133_l3)] → W p l e (headSpec v_X12_yearOf ({ frames := 2, cells := 0, slots := 0, locals := 44 })).room s mth av below meth c H locs 0 0 QQ (F0 mth 196 ls []) := by
                  intro j196_m_forgot j196_m_x j196_m_a26_c H locs ls  hP hD hS hl
                  obtain ⟨y196, e196⟩ : ∃ y : Int32, y = j133_l3 + 1 := ⟨_, rfl⟩
                  have q196 : y196.toInt = j133_l3.toInt + 1 := by rw [e196]; exact ad_z rfl rfl r135a (ir_c 1) (by decide) (by decide)
                  have r196 : ir y196.toInt 1 2 := ad_r q196 r135a (ir_c 1) (by decide) (by decide)
                  refine lv_iinc (v := y196) (lv' := [(3, .int y196), (0, .ref m), (1, .int p0), (2, .ref (m_a 34))]) hx hb dX12_yearOf_196 hl (k := 3) rfl e196.symm (by decide) rfl (fun ls hl => ?_)
                  refine lv_goto (tgt := 133) hx hb dX12_yearOf_199 (by decide) ?_
                  exact ih133 y196 j196_m_forgot j196_m_x j196_m_a26_c _ _ _ (by omega) (ir_w r196 (by decide) (by decide)) (hP.sub [0, 1, 2, 3, 4, 5, 6, 7] rfl) (hD.sub [0, 1, 2, 3, 4, 5, 6, 7] (by decide) rfl) hS (lv_sub hl [1, 2, 3, 0] rfl)
                refine lv_icmp_eq (tgt := 196) hx hb dX12_yearOf_143 (by decide) (fun c143 => ?_) (fun c143 => ?_)
                · have f143 := (show j133_l3.toInt = m_willing.toInt from z_eq rfl rfl c143)
                  have r143b : ir m_willing.toInt 0 1 := ir_eqb f143 r135a (rg_all m_willing) (by decide) (by decide)
                  exact J196 j133_m_forgot j133_m_x j133_m_a26_c _ _ _  (hP.sub [0, 1, 2, 3, 4, 5, 6, 7] rfl) (hD.sub [0, 1, 2, 3, 4, 5, 6, 7] (by decide) rfl) hS (lv_sub hl [0, 1, 2, 3] rfl)
                have f143 := (show j133_l3.toInt ≠ m_willing.toInt from z_ne rfl rfl c143)
                refine lv_aload_n hx hb dX12_yearOf_146 rfl (lv_at hl 0 rfl) ?_
                refine va_get (D := g) (ci := 11) (v := .ref (m_a 24)) (C := RX12) (T := TX12) (N := 56) hx hb hts iX12 hown hK hP 0 rfl rfl 24 (by decide) (hts (.fieldLink RX12 56 "CardsAtYuleModel" "maySend" "[Z") (List.mem_cons_of_mem _ (List.mem_append_left _ (List.mem_of_getElem? (i := 5) rfl)))) (fun _ h9 => h9) rfl dX12_yearOf_147 ?_
                refine lv_iload_n hx hb dX12_yearOf_150 rfl (lv_at hl 3 rfl) ?_
                refine va_zald (D := g) hx hb hK hP 2 3 rfl rfl (vi_rg rfl r135a (by decide) (by decide)) dX12_yearOf_151 ?_
                refine lv_topi (fun y151 e151 => ?_)
                refine lv_if_eq (tgt := 196) hx hb dX12_yearOf_152 (by decide) (fun c152 => ?_) (fun c152 => ?_)
                · have f152 := (show y151.toInt = 0 from z_eq rfl rfl c152)
                  have r152a : ir y151.toInt 0 0 := ir_eqa f152 (rg_all y151) (ir_c 0) (by decide) (by decide)
                  exact J196 j133_m_forgot j133_m_x j133_m_a26_c _ _ _  (hP.sub [0, 1, 2, 3, 4, 5, 6, 7] rfl) (hD.sub [0, 1, 2, 3, 4, 5, 6, 7] (by decide) rfl) hS (lv_sub hl [0, 1, 2, 3] rfl)
                have f152 := (show y151.toInt ≠ 0 from z_ne rfl rfl c152)
                refine lv_aload_n hx hb dX12_yearOf_155 rfl (lv_at hl 0 rfl) ?_
                refine va_get (D := g) (ci := 11) (v := .ref (m_a 26)) (C := RX12) (T := TX12) (N := 56) hx hb hts iX12 hown hK hP 0 rfl rfl 26 (by decide) (hts (.fieldLink RX12 62 "CardsAtYuleModel" "sent" "[I") (List.mem_cons_of_mem _ (List.mem_append_left _ (List.mem_of_getElem? (i := 2) rfl)))) (fun _ h9 => h9) rfl dX12_yearOf_156 ?_
                refine lv_iload_n hx hb dX12_yearOf_159 rfl (lv_at hl 3 rfl) ?_
                refine va_iald (D := g) hx hb hK hP 5 0 rfl rfl (vi_rg rfl r135a (by decide) (by decide)) dX12_yearOf_160 ?_
                refine lv_topi (fun y160 e160 => ?_)
                refine lv_if_ne (tgt := 196) hx hb dX12_yearOf_161 (by decide) (fun c161 => ?_) (fun c161 => ?_)
                · have f161 := (show y160.toInt ≠ 0 from z_ne rfl rfl c161)
                  exact J196 j133_m_forgot j133_m_x j133_m_a26_c _ _ _  (hP.sub [0, 1, 2, 3, 4, 5, 6, 7] rfl) (hD.sub [0, 1, 2, 3, 4, 5, 6, 7] (by decide) rfl) hS (lv_sub hl [0, 1, 2, 3] rfl)
                have f161 := (show y160.toInt = 0 from z_eq rfl rfl c161)
                have r161a : ir y160.toInt 0 0 := ir_eqa f161 (rg_all y160) (ir_c 0) (by decide) (by decide)
                refine lv_aload_n hx hb dX12_yearOf_164 rfl (lv_at hl 0 rfl) ?_
                refine va_get (D := g) (ci := 11) (v := .ref (m_a 23)) (C := RX12) (T := TX12) (N := 56) hx hb hts iX12 hown hK hP 0 rfl rfl 23 (by decide) (hts (.fieldLink RX12 53 "CardsAtYuleModel" "ruleNow" "[I") (List.mem_cons_of_mem _ (List.mem_append_left _ (List.mem_of_getElem? (i := 6) rfl)))) (fun _ h9 => h9) rfl dX12_yearOf_165 ?_
                refine lv_iload_n hx hb dX12_yearOf_168 rfl (lv_at hl 3 rfl) ?_
                refine va_iald (D := g) hx hb hK hP 3 0 rfl rfl (vi_rg rfl r135a (by decide) (by decide)) dX12_yearOf_169 ?_
                refine lv_topi (fun y169 e169 => ?_)
                refine lv_bipush (v := 16) hx hb dX12_yearOf_170 (by decide) ?_
                refine lv_icmp_lt (tgt := 196) hx hb dX12_yearOf_172 (by decide) (fun c172 => ?_) (fun c172 => ?_)
                · have f172 := (show y169.toInt < 16 from z_lt rfl rfl c172)
                  have r172a : ir y169.toInt (-2147483648) 15 := ir_lta f172 (rg_all y169) (ir_c 16) (by decide)
                  exact J196 j133_m_forgot j133_m_x j133_m_a26_c _ _ _  (hP.sub [0, 1, 2, 3, 4, 5, 6, 7] rfl) (hD.sub [0, 1, 2, 3, 4, 5, 6, 7] (by decide) rfl) hS (lv_sub hl [0, 1, 2, 3] rfl)
                have f172 := (show 16 ≤ y169.toInt from z_nlt rfl rfl c172)
                have r172a : ir y169.toInt 16 2147483647 := ir_leb f172 (ir_c 16) (rg_all y169) (by decide)
                refine lv_aload_n hx hb dX12_yearOf_175 rfl (lv_at hl 2 rfl) ?_
                refine lv_iload_n hx hb dX12_yearOf_176 rfl (lv_at hl 3 rfl) ?_
                refine va_zald (D := g) hx hb hK hP 7 3 rfl rfl (vi_rg rfl r135a (by decide) (by decide)) dX12_yearOf_177 ?_
                refine lv_topi (fun y177 e177 => ?_)
                refine lv_if_eq (tgt := 196) hx hb dX12_yearOf_178 (by decide) (fun c178 => ?_) (fun c178 => ?_)
                · have f178 := (show y177.toInt = 0 from z_eq rfl rfl c178)
                  have r178a : ir y177.toInt 0 0 := ir_eqa f178 (rg_all y177) (ir_c 0) (by decide) (by decide)
                  exact J196 j133_m_forgot j133_m_x j133_m_a26_c _ _ _  (hP.sub [0, 1, 2, 3, 4, 5, 6, 7] rfl) (hD.sub [0, 1, 2, 3, 4, 5, 6, 7] (by decide) rfl) hS (lv_sub hl [0, 1, 2, 3] rfl)
                have f178 := (show y177.toInt ≠ 0 from z_ne rfl rfl c178)
                refine lv_aload_n hx hb dX12_yearOf_181 rfl (lv_at hl 0 rfl) ?_
                refine lv_iload_n hx hb dX12_yearOf_182 rfl (lv_at hl 3 rfl) ?_
                refine rw_i (wr := [((m_a 27), .inl (cZ, 2, .inl j2_m_a27_c)), ((m_a 24), .inl (cZ, 2, .inl m_maySend_c)), ((m_a 23), .inl (cI, 2, .inl m_ruleNow_c)), ((m_a 26), .inl (cI, 2, .inl j133_m_a26_c)), ((m_a 25), .inl (cZ, 2, .inl m_maycome_c)), ((m_a 34), .inl (cZ, 2, .inl j89_m_a34_c))]) (va_runV (As := [.int j133_l3]) (rest := []) ⟨hx, hb, hml, hown, hts⟩ (q_X12_isForgotten l g cI cJ cB cZ cL j133_l3 m m_a m_thrown m_taped m_at m_token m_place m_value m_word m_bad m_badPlace m_fault m_faultPlace m_willing m_will j133_m_forgot m_isDrawn j133_m_x m_begin m_round m_roundCards m_fate m_any m_bothSend m_meanCards m_bestSum m_fitMany m_fitFirst m_fitSecond m_oddsNow_c H.size r135a hv_m_taped hv_m_at hv_m_will hv_m_isDrawn) (cwV 1 hts (goodIn_app (g_4 (List.mem_cons_of_mem _ (List.mem_append_left _ (List.mem_of_getElem? (i := 7) rfl))) (List.mem_cons_of_mem _ (List.mem_append_left _ (List.mem_of_getElem? (i := 8) rfl))) (List.mem_cons_of_mem _ (List.mem_append_left _ (List.mem_of_getElem? (i := 9) rfl))) (List.mem_cons_of_mem _ (List.mem_append_left _ (List.mem_of_getElem? (i := 10) rfl))) (by decide +kernel)) (goodIn_sub (fun _ h => List.mem_cons_of_mem _ (List.mem_append_right _ (List.mem_append_left _ h))) good_v_X12_isForgotten)) rfl rfl rfl (by decide +kernel) ⟨Nat.le_of_ble_eq_true rfl, Nat.le_of_ble_eq_true rfl⟩) (pv_RW (q := (RX12, TX12, 56)) (ci := 11) (q0 := 0) (wc := [(m, .inr (11, mG m_a m_thrown m_taped m_at m_token m_place m_value m_word m_bad m_badPlace m_fault m_faultPlace m_willing m_will j133_m_forgot m_isDrawn j133_m_x m_begin m_round m_roundCards m_fate m_any m_bothSend m_meanCards m_bestSum m_fitMany m_fitFirst m_fitSecond)), ((m_a 33), .inl (cI, 2, .inl m_oddsNow_c))]) hK hP hD [0, 4] (by decide) rfl rfl rfl) rfl rfl hl.1 rfl (lv_room (Nat.le_of_ble_eq_true rfl)) dX12_yearOf_183 ⟨Nat.le_of_ble_eq_true rfl, Nat.le_of_ble_eq_true rfl⟩) hS hA hP hD [0, 4] [1, 2, 3, 5, 6, 7] rfl rfl (by decide) (by decide) (fun r183 u183 H locs hw183 hP hD hS => ?_)
                obtain ⟨n_m_forgot_183, n_m_x_183⟩ := u183
                have hP : va_P g vwCl [((m_a 27), .inl (cZ, 2, .inl j2_m_a27_c)), ((m_a 24), .inl (cZ, 2, .inl m_maySend_c)), ((m_a 23), .inl (cI, 2, .inl m_ruleNow_c)), ((m_a 26), .inl (cI, 2, .inl j133_m_a26_c)), ((m_a 25), .inl (cZ, 2, .inl m_maycome_c)), ((m_a 34), .inl (cZ, 2, .inl j89_m_a34_c)), (m, .inr (11, mG m_a m_thrown m_taped m_at m_token m_place m_value m_word m_bad m_badPlace m_fault m_faultPlace m_willing m_will n_m_forgot_183 m_isDrawn n_m_x_183 m_begin m_round m_roundCards m_fate m_any m_bothSend m_meanCards m_bestSum m_fitMany m_fitFirst m_fitSecond)), ((m_a 33), .inl (cI, 2, .inl m_oddsNow_c))] H := hP
                have hD : va_D A [((m_a 27), .inl (cZ, 2, .inl j2_m_a27_c)), ((m_a 24), .inl (cZ, 2, .inl m_maySend_c)), ((m_a 23), .inl (cI, 2, .inl m_ruleNow_c)), ((m_a 26), .inl (cI, 2, .inl j133_m_a26_c)), ((m_a 25), .inl (cZ, 2, .inl m_maycome_c)), ((m_a 34), .inl (cZ, 2, .inl j89_m_a34_c)), (m, .inr (11, mG m_a m_thrown m_taped m_at m_token m_place m_value m_word m_bad m_badPlace m_fault m_faultPlace m_willing m_will n_m_forgot_183 m_isDrawn n_m_x_183 m_begin m_round m_roundCards m_fate m_any m_bothSend m_meanCards m_bestSum m_fitMany m_fitFirst m_fitSecond)), ((m_a 33), .inl (cI, 2, .inl m_oddsNow_c))] := hD
                dsimp only at hw183
                have hw183_0 := hw183
                refine lv_if_ne (tgt := 196) hx hb dX12_yearOf_186 (by decide) (fun c186 => ?_) (fun c186 => ?_)
                · have f186 := (show r183.toInt ≠ 0 from z_ne rfl rfl c186)
                  have r186a : ir r183.toInt 1 1 := ir_nel f186 hw183_0 (by decide) (by decide)
                  exact J196 n_m_forgot_183 n_m_x_183 j133_m_a26_c _ _ _  (hP.sub [6, 0, 1, 2, 7, 3, 4, 5] rfl) (hD.sub [6, 0, 1, 2, 7, 3, 4, 5] (by decide) rfl) hS (lv_sub hl [0, 1, 2, 3] rfl)
                have f186 := (show r183.toInt = 0 from z_eq rfl rfl c186)
                have r186a : ir r183.toInt 0 0 := ir_eqa f186 hw183_0 (ir_c 0) (by decide) (by decide)
                refine lv_aload_n hx hb dX12_yearOf_189 rfl (lv_at hl 0 rfl) ?_
                refine va_get (D := g) (ci := 11) (v := .ref (m_a 26)) (C := RX12) (T := TX12) (N := 56) hx hb hts iX12 hown hK hP 6 rfl rfl 26 (by decide) (hts (.fieldLink RX12 62 "CardsAtYuleModel" "sent" "[I") (List.mem_cons_of_mem _ (List.mem_append_left _ (List.mem_of_getElem? (i := 2) rfl)))) (fun _ h9 => h9) rfl dX12_yearOf_190 ?_
                refine lv_iload_n hx hb dX12_yearOf_193 rfl (lv_at hl 3 rfl) ?_
                refine lv_iconst (v := 2) hx hb dX12_yearOf_194 (by decide) ?_
                refine va_iast (D := g) hx hb hK hP hD hS 3 0 rfl rfl (vi_rg rfl r135a (by decide) (by decide)) dX12_yearOf_195 (fun H locs hP hD hS => ?_)
                obtain ⟨g195, e195⟩ : ∃ z, z = upd j133_m_a26_c j133_l3.toNatClampNeg (2 : Int32) := ⟨_, rfl⟩
                have hP : va_P g vwCl [((m_a 27), .inl (cZ, 2, .inl j2_m_a27_c)), ((m_a 24), .inl (cZ, 2, .inl m_maySend_c)), ((m_a 23), .inl (cI, 2, .inl m_ruleNow_c)), ((m_a 26), .inl (cI, 2, .inl (upd j133_m_a26_c j133_l3.toNatClampNeg (2 : Int32)))), ((m_a 25), .inl (cZ, 2, .inl m_maycome_c)), ((m_a 34), .inl (cZ, 2, .inl j89_m_a34_c)), (m, .inr (11, mG m_a m_thrown m_taped m_at m_token m_place m_value m_word m_bad m_badPlace m_fault m_faultPlace m_willing m_will n_m_forgot_183 m_isDrawn n_m_x_183 m_begin m_round m_roundCards m_fate m_any m_bothSend m_meanCards m_bestSum m_fitMany m_fitFirst m_fitSecond)), ((m_a 33), .inl (cI, 2, .inl m_oddsNow_c))] H := hP
                have hD : va_D A [((m_a 27), .inl (cZ, 2, .inl j2_m_a27_c)), ((m_a 24), .inl (cZ, 2, .inl m_maySend_c)), ((m_a 23), .inl (cI, 2, .inl m_ruleNow_c)), ((m_a 26), .inl (cI, 2, .inl (upd j133_m_a26_c j133_l3.toNatClampNeg (2 : Int32)))), ((m_a 25), .inl (cZ, 2, .inl m_maycome_c)), ((m_a 34), .inl (cZ, 2, .inl j89_m_a34_c)), (m, .inr (11, mG m_a m_thrown m_taped m_at m_token m_place m_value m_word m_bad m_badPlace m_fault m_faultPlace m_willing m_will n_m_forgot_183 m_isDrawn n_m_x_183 m_begin m_round m_roundCards m_fate m_any m_bothSend m_meanCards m_bestSum m_fitMany m_fitFirst m_fitSecond)), ((m_a 33), .inl (cI, 2, .inl m_oddsNow_c))] := hD
                rw [← e195] at hP hD
                exact J196 n_m_forgot_183 n_m_x_183 g195 _ _ _  (hP.sub [6, 0, 1, 2, 7, 3, 4, 5] rfl) (hD.sub [6, 0, 1, 2, 7, 3, 4, 5] (by decide) rfl) hS (lv_sub hl [0, 1, 2, 3] rfl)
              have f135 := (show 2 ≤ j133_l3.toInt from z_le rfl rfl c135)
              have r135a : ir j133_l3.toInt 2 2 := ir_leb f135 (ir_c 2) hj133_l3 (by decide)
              refine lv_iload_n hx hb dX12_yearOf_202 rfl (lv_at hl 1 rfl) ?_
              refine lv_iconst (v := 5) hx hb dX12_yearOf_203 (by decide) ?_
              refine lv_iand hx hb dX12_yearOf_204 ?_
              refine lv_topi (fun y204 e204 => ?_)
              have r204 : ir y204.toInt 0 5 := by rw [e204]; exact an_y rfl (ir_c 5) (by decide)
              refine lv_iconst (v := 1) hx hb dX12_yearOf_205 (by decide) ?_
              refine lv_ishl hx hb dX12_yearOf_206 ?_
              refine lv_topi (fun y206 e206 => ?_)
              have r206 : ir y206.toInt 0 10 := by rw [e206]; exact sl_r 1 rfl r204 (by decide) (by decide) (by decide) (by decide) (by decide)
              refine lv_istore_n (lv' := [(3, .int y206), (0, .ref m), (1, .int p0), (2, .ref (m_a 34))]) hx hb dX12_yearOf_207 rfl hl (by decide) rfl (fun ls hl => ?_)
              refine lv_iconst (v := 0) hx hb dX12_yearOf_208 (by decide) ?_
              refine lv_istore (lv' := [(4, .int 0), (3, .int y206), (0, .ref m), (1, .int p0), (2, .ref (m_a 34))]) hx hb dX12_yearOf_209 hl (by decide) rfl (fun ls hl => ?_)
              have J211 : ∀ (n211 : Nat) (j211_l3 : Int32) (j211_l4 : Int32) (j211_m_a27_c : Nat → Int32) (H : Heap) (locs : List Loc) (ls : Array Slot), (3 - j211_l4.toInt).toNat < n211 → (ir j211_l3.toInt 0 15) → (ir j211_l4.toInt 0 2) → va_P g vwCl [(m, .inr (11, mG m_a m_thrown m_taped m_at m_token m_place m_value m_word m_bad m_badPlace m_fault m_faultPlace m_willing m_will j133_m_forgot m_isDrawn j133_m_x m_begin m_round m_roundCards m_fate m_any m_bothSend m_meanCards m_bestSum m_fitMany m_fitFirst m_fitSecond)), ((m_a 27), .inl (cZ, 2, .inl j211_m_a27_c)), ((m_a 24), .inl (cZ, 2, .inl m_maySend_c)), ((m_a 23), .inl (cI, 2, .inl m_ruleNow_c)), ((m_a 33), .inl (cI, 2, .inl m_oddsNow_c)), ((m_a 26), .inl (cI, 2, .inl j133_m_a26_c)), ((m_a 25), .inl (cZ, 2, .inl m_maycome_c)), ((m_a 34), .inl (cZ, 2, .inl j89_m_a34_c))] H → va_D A [(m, .inr (11, mG m_a m_thrown m_taped m_at m_token m_place m_value m_word m_bad m_badPlace m_fault m_faultPlace m_willing m_will j133_m_forgot m_isDrawn j133_m_x m_begin m_round m_roundCards m_fate m_any m_bothSend m_meanCards m_bestSum m_fitMany m_fitFirst m_fitSecond)), ((m_a 27), .inl (cZ, 2, .inl j211_m_a27_c)), ((m_a 24), .inl (cZ, 2, .inl m_maySend_c)), ((m_a 23), .inl (cI, 2, .inl m_ruleNow_c)), ((m_a 33), .inl (cI, 2, .inl m_oddsNow_c)), ((m_a 26), .inl (cI, 2, .inl j133_m_a26_c)), ((m_a 25), .inl (cZ, 2, .inl m_maycome_c)), ((m_a 34), .inl (cZ, 2, .inl j89_m_a34_c))] → va_S A s.heap H locs → lv_has ls 5 [(0, .ref m), (3, .int j211_l3), (4, .int j211_l4)] → W p l e (headSpec v_X12_yearOf ({ frames := 2, cells := 0, slots := 0, locals := 44 })).room s mth av below meth c H locs 0 0 QQ (F0 mth 211 ls []) := by
                intro n211
                induction n211 with
                | zero => exact fun j211_l3 j211_l4 j211_m_a27_c H locs ls hn => absurd hn (Nat.not_lt_zero _)
                | succ n211 ih211 =>
                  intro j211_l3 j211_l4 j211_m_a27_c H locs ls hn211 hj211_l3 hj211_l4 hP hD hS hl
                  refine lv_iload hx hb dX12_yearOf_211 (lv_at hl 2 rfl) ?_
                  refine lv_iconst (v := 2) hx hb dX12_yearOf_213 (by decide) ?_
                  refine lv_icmp_ge (tgt := 282) hx hb dX12_yearOf_214 (by decide) (fun c214 => ?_) (fun c214 => ?_)
                  · have f214 := (show 2 ≤ j211_l4.toInt from z_le rfl rfl c214)
                    have r214a : ir j211_l4.toInt 2 2 := ir_leb f214 (ir_c 2) hj211_l4 (by decide)
                    refine lv_iload_n hx hb dX12_yearOf_282 rfl (lv_at hl 1 rfl) ?_
                    subst hQ
                    have hP9 := hP.sub (ws' := [(m, .inr (11, mG m_a m_thrown m_taped m_at m_token m_place m_value m_word m_bad m_badPlace m_fault m_faultPlace m_willing m_will j133_m_forgot m_isDrawn j133_m_x m_begin m_round m_roundCards m_fate m_any m_bothSend m_meanCards m_bestSum m_fitMany m_fitFirst m_fitSecond)), ((m_a 27), .inl (cZ, 2, .inl j211_m_a27_c)), ((m_a 24), .inl (cZ, 2, .inl m_maySend_c)), ((m_a 23), .inl (cI, 2, .inl m_ruleNow_c)), ((m_a 33), .inl (cI, 2, .inl m_oddsNow_c)), ((m_a 26), .inl (cI, 2, .inl j133_m_a26_c)), ((m_a 25), .inl (cZ, 2, .inl m_maycome_c)), ((m_a 34), .inl (cZ, 2, .inl j89_m_a34_c))]) [0, 1, 2, 3, 4, 5, 6, 7] rfl
                    have hD9 := hD.sub (ws' := [(m, .inr (11, mG m_a m_thrown m_taped m_at m_token m_place m_value m_word m_bad m_badPlace m_fault m_faultPlace m_willing m_will j133_m_forgot m_isDrawn j133_m_x m_begin m_round m_roundCards m_fate m_any m_bothSend m_meanCards m_bestSum m_fitMany m_fitFirst m_fitSecond)), ((m_a 27), .inl (cZ, 2, .inl j211_m_a27_c)), ((m_a 24), .inl (cZ, 2, .inl m_maySend_c)), ((m_a 23), .inl (cI, 2, .inl m_ruleNow_c)), ((m_a 33), .inl (cI, 2, .inl m_oddsNow_c)), ((m_a 26), .inl (cI, 2, .inl j133_m_a26_c)), ((m_a 25), .inl (cZ, 2, .inl m_maycome_c)), ((m_a 34), .inl (cZ, 2, .inl j89_m_a34_c))]) [0, 1, 2, 3, 4, 5, 6, 7] (by decide) rfl
                    exact W.iret (v := j211_l3) hx hb hr (fun t ht hW => ⟨⟨j211_l3, (j133_m_forgot, j133_m_x, j211_m_a27_c, j133_m_a26_c, j89_m_a34_c), rfl, hj211_l3, ⟨by rw [ht]; exact hP9, va_K.moved hW.alike hK, hD9⟩⟩, hS.F ht⟩) hS.2.2 dX12_yearOf_283
                  have f214 := (show j211_l4.toInt < 2 from z_nle rfl rfl c214)
                  have r214a : ir j211_l4.toInt 0 1 := ir_lta f214 hj211_l4 (ir_c 2) (by decide)
                  refine lv_aload_n hx hb dX12_yearOf_217 rfl (lv_at hl 0 rfl) ?_
                  refine va_get (D := g) (ci := 11) (v := .ref (m_a 27)) (C := RX12) (T := TX12) (N := 56) hx hb hts iX12 hown hK hP 0 rfl rfl 27 (by decide) (hts (.fieldLink RX12 65 "CardsAtYuleModel" "gets" "[Z") (List.mem_cons_of_mem _ (List.mem_append_left _ (List.mem_of_getElem? (i := 1) rfl)))) (fun _ h9 => h9) rfl dX12_yearOf_218 ?_
                  refine lv_iload hx hb dX12_yearOf_221 (lv_at hl 2 rfl) ?_
                  refine lv_aload_n hx hb dX12_yearOf_223 rfl (lv_at hl 0 rfl) ?_
                  refine va_get (D := g) (ci := 11) (v := .ref (m_a 26)) (C := RX12) (T := TX12) (N := 56) hx hb hts iX12 hown hK hP 0 rfl rfl 26 (by decide) (hts (.fieldLink RX12 62 "CardsAtYuleModel" "sent" "[I") (List.mem_cons_of_mem _ (List.mem_append_left _ (List.mem_of_getElem? (i := 2) rfl)))) (fun _ h9 => h9) rfl dX12_yearOf_224 ?_
                  refine lv_iconst (v := 1) hx hb dX12_yearOf_227 (by decide) ?_
                  refine lv_iload hx hb dX12_yearOf_228 (lv_at hl 2 rfl) ?_
                  refine lv_isub hx hb dX12_yearOf_230 ?_
                  refine lv_topi (fun y230 e230 => ?_)
                  have q230 : y230.toInt = 1 - j211_l4.toInt := by rw [e230]; exact su_z rfl rfl (ir_c 1) r214a (by decide) (by decide)
                  have r230 : ir y230.toInt 0 1 := su_r q230 (ir_c 1) r214a (by decide) (by decide)
                  refine va_iald (D := g) hx hb hK hP 5 0 rfl rfl (vi_rg rfl r230 (by decide) (by decide)) dX12_yearOf_231 ?_
                  refine lv_topi (fun y231 e231 => ?_)
                  have J252 : ∀ (j252_s0 : Int32) (H : Heap) (locs : List Loc) (ls : Array Slot), (ir j252_s0.toInt 0 1) → (ir y231.toInt (-2147483648) 2147483647) → va_P g vwCl [(m, .inr (11, mG m_a m_thrown m_taped m_at m_token m_place m_value m_word m_bad m_badPlace m_fault m_faultPlace m_willing m_will j133_m_forgot m_isDrawn j133_m_x m_begin m_round m_roundCards m_fate m_any m_bothSend m_meanCards m_bestSum m_fitMany m_fitFirst m_fitSecond)), ((m_a 27), .inl (cZ, 2, .inl j211_m_a27_c)), ((m_a 24), .inl (cZ, 2, .inl m_maySend_c)), ((m_a 23), .inl (cI, 2, .inl m_ruleNow_c)), ((m_a 33), .inl (cI, 2, .inl m_oddsNow_c)), ((m_a 26), .inl (cI, 2, .inl j133_m_a26_c)), ((m_a 25), .inl (cZ, 2, .inl m_maycome_c)), ((m_a 34), .inl (cZ, 2, .inl j89_m_a34_c))] H → va_D A [(m, .inr (11, mG m_a m_thrown m_taped m_at m_token m_place m_value m_word m_bad m_badPlace m_fault m_faultPlace m_willing m_will j133_m_forgot m_isDrawn j133_m_x m_begin m_round m_roundCards m_fate m_any m_bothSend m_meanCards m_bestSum m_fitMany m_fitFirst m_fitSecond)), ((m_a 27), .inl (cZ, 2, .inl j211_m_a27_c)), ((m_a 24), .inl (cZ, 2, .inl m_maySend_c)), ((m_a 23), .inl (cI, 2, .inl m_ruleNow_c)), ((m_a 33), .inl (cI, 2, .inl m_oddsNow_c)), ((m_a 26), .inl (cI, 2, .inl j133_m_a26_c)), ((m_a 25), .inl (cZ, 2, .inl m_maycome_c)), ((m_a 34), .inl (cZ, 2, .inl j89_m_a34_c))] → va_S A s.heap H locs → lv_has ls 5 [(0, .ref m), (3, .int j211_l3), (4, .int j211_l4)] → W p l e (headSpec v_X12_yearOf ({ frames := 2, cells := 0, slots := 0, locals := 44 })).room s mth av below meth c H locs 0 0 QQ (F0 mth 252 ls [.int j252_s0, .int j211_l4, .ref (m_a 27)]) := by
                    intro j252_s0 H locs ls hj252_s0 t252_1 hP hD hS hl
                    refine va_zast (D := g) hx hb hK hP hD hS 1 3 rfl rfl (vi_rg rfl r214a (by decide) (by decide)) dX12_yearOf_252 (fun H locs hP hD hS => ?_)
                    obtain ⟨g252, e252⟩ : ∃ z, z = upd j211_m_a27_c j211_l4.toNatClampNeg (vp_nar .boolean j252_s0) := ⟨_, rfl⟩
                    have hP : va_P g vwCl [(m, .inr (11, mG m_a m_thrown m_taped m_at m_token m_place m_value m_word m_bad m_badPlace m_fault m_faultPlace m_willing m_will j133_m_forgot m_isDrawn j133_m_x m_begin m_round m_roundCards m_fate m_any m_bothSend m_meanCards m_bestSum m_fitMany m_fitFirst m_fitSecond)), ((m_a 27), .inl (cZ, 2, .inl (upd j211_m_a27_c j211_l4.toNatClampNeg (vp_nar .boolean j252_s0)))), ((m_a 24), .inl (cZ, 2, .inl m_maySend_c)), ((m_a 23), .inl (cI, 2, .inl m_ruleNow_c)), ((m_a 33), .inl (cI, 2, .inl m_oddsNow_c)), ((m_a 26), .inl (cI, 2, .inl j133_m_a26_c)), ((m_a 25), .inl (cZ, 2, .inl m_maycome_c)), ((m_a 34), .inl (cZ, 2, .inl j89_m_a34_c))] H := hP
                    have hD : va_D A [(m, .inr (11, mG m_a m_thrown m_taped m_at m_token m_place m_value m_word m_bad m_badPlace m_fault m_faultPlace m_willing m_will j133_m_forgot m_isDrawn j133_m_x m_begin m_round m_roundCards m_fate m_any m_bothSend m_meanCards m_bestSum m_fitMany m_fitFirst m_fitSecond)), ((m_a 27), .inl (cZ, 2, .inl (upd j211_m_a27_c j211_l4.toNatClampNeg (vp_nar .boolean j252_s0)))), ((m_a 24), .inl (cZ, 2, .inl m_maySend_c)), ((m_a 23), .inl (cI, 2, .inl m_ruleNow_c)), ((m_a 33), .inl (cI, 2, .inl m_oddsNow_c)), ((m_a 26), .inl (cI, 2, .inl j133_m_a26_c)), ((m_a 25), .inl (cZ, 2, .inl m_maycome_c)), ((m_a 34), .inl (cZ, 2, .inl j89_m_a34_c))] := hD
                    rw [← e252] at hP hD
                    refine lv_iload_n hx hb dX12_yearOf_253 rfl (lv_at hl 1 rfl) ?_
                    refine lv_aload_n hx hb dX12_yearOf_254 rfl (lv_at hl 0 rfl) ?_
                    refine va_get (D := g) (ci := 11) (v := .ref (m_a 27)) (C := RX12) (T := TX12) (N := 56) hx hb hts iX12 hown hK hP 0 rfl rfl 27 (by decide) (hts (.fieldLink RX12 65 "CardsAtYuleModel" "gets" "[Z") (List.mem_cons_of_mem _ (List.mem_append_left _ (List.mem_of_getElem? (i := 1) rfl)))) (fun _ h9 => h9) rfl dX12_yearOf_255 ?_
                    refine lv_iload hx hb dX12_yearOf_258 (lv_at hl 2 rfl) ?_
                    refine va_zald (D := g) hx hb hK hP 1 3 rfl rfl (vi_rg rfl r214a (by decide) (by decide)) dX12_yearOf_260 ?_
                    refine lv_topi (fun y260 e260 => ?_)
                    have J274 : ∀ (j274_s0 : Int32) (H : Heap) (locs : List Loc) (ls : Array Slot), (ir j274_s0.toInt 0 4) → va_P g vwCl [(m, .inr (11, mG m_a m_thrown m_taped m_at m_token m_place m_value m_word m_bad m_badPlace m_fault m_faultPlace m_willing m_will j133_m_forgot m_isDrawn j133_m_x m_begin m_round m_roundCards m_fate m_any m_bothSend m_meanCards m_bestSum m_fitMany m_fitFirst m_fitSecond)), ((m_a 27), .inl (cZ, 2, .inl g252)), ((m_a 24), .inl (cZ, 2, .inl m_maySend_c)), ((m_a 23), .inl (cI, 2, .inl m_ruleNow_c)), ((m_a 33), .inl (cI, 2, .inl m_oddsNow_c)), ((m_a 26), .inl (cI, 2, .inl j133_m_a26_c)), ((m_a 25), .inl (cZ, 2, .inl m_maycome_c)), ((m_a 34), .inl (cZ, 2, .inl j89_m_a34_c))] H → va_D A [(m, .inr (11, mG m_a m_thrown m_taped m_at m_token m_place m_value m_word m_bad m_badPlace m_fault m_faultPlace m_willing m_will j133_m_forgot m_isDrawn j133_m_x m_begin m_round m_roundCards m_fate m_any m_bothSend m_meanCards m_bestSum m_fitMany m_fitFirst m_fitSecond)), ((m_a 27), .inl (cZ, 2, .inl g252)), ((m_a 24), .inl (cZ, 2, .inl m_maySend_c)), ((m_a 23), .inl (cI, 2, .inl m_ruleNow_c)), ((m_a 33), .inl (cI, 2, .inl m_oddsNow_c)), ((m_a 26), .inl (cI, 2, .inl j133_m_a26_c)), ((m_a 25), .inl (cZ, 2, .inl m_maycome_c)), ((m_a 34), .inl (cZ, 2, .inl j89_m_a34_c))] → va_S A s.heap H locs → lv_has ls 5 [(0, .ref m), (4, .int j211_l4)] → W p l e (headSpec v_X12_yearOf ({ frames := 2, cells := 0, slots := 0, locals := 44 })).room s mth av below meth c H locs 0 0 QQ (F0 mth 274 ls [.int j274_s0, .int j211_l3]) := by
                      intro j274_s0 H locs ls hj274_s0 hP hD hS hl
                      refine lv_ior hx hb dX12_yearOf_274 ?_
                      refine lv_topi (fun y274 e274 => ?_)
                      have r274 : ir y274.toInt 0 15 := by rw [e274]; exact or_r 4 rfl rfl hj211_l3 hj274_s0 (by decide) (by decide) (by decide) (by decide) (by decide)
                      refine lv_istore_n (lv' := [(3, .int y274), (0, .ref m), (4, .int j211_l4)]) hx hb dX12_yearOf_275 rfl hl (by decide) rfl (fun ls hl => ?_)
                      obtain ⟨y276, e276⟩ : ∃ y : Int32, y = j211_l4 + 1 := ⟨_, rfl⟩
                      have q276 : y276.toInt = j211_l4.toInt + 1 := by rw [e276]; exact ad_z rfl rfl r214a (ir_c 1) (by decide) (by decide)
                      have r276 : ir y276.toInt 1 2 := ad_r q276 r214a (ir_c 1) (by decide) (by decide)
                      refine lv_iinc (v := y276) (lv' := [(4, .int y276), (3, .int y274), (0, .ref m)]) hx hb dX12_yearOf_276 hl (k := 2) rfl e276.symm (by decide) rfl (fun ls hl => ?_)
                      refine lv_goto (tgt := 211) hx hb dX12_yearOf_279 (by decide) ?_
                      exact ih211 y274 y276 g252 _ _ _ (by omega) r274 (ir_w r276 (by decide) (by decide)) (hP.sub [0, 1, 2, 3, 4, 5, 6, 7] rfl) (hD.sub [0, 1, 2, 3, 4, 5, 6, 7] (by decide) rfl) hS (lv_sub hl [2, 1, 0] rfl)
                    refine lv_if_eq (tgt := 273) hx hb dX12_yearOf_261 (by decide) (fun c261 => ?_) (fun c261 => ?_)
                    · have f261 := (show y260.toInt = 0 from z_eq rfl rfl c261)
                      have r261a : ir y260.toInt 0 0 := ir_eqa f261 (rg_all y260) (ir_c 0) (by decide) (by decide)
                      refine lv_iconst (v := 0) hx hb dX12_yearOf_273 (by decide) ?_
                      exact J274 0 _ _ _ (by decide) (hP.sub [0, 1, 2, 3, 4, 5, 6, 7] rfl) (hD.sub [0, 1, 2, 3, 4, 5, 6, 7] (by decide) rfl) hS (lv_sub hl [0, 2] rfl)
                    have f261 := (show y260.toInt ≠ 0 from z_ne rfl rfl c261)
                    refine lv_iconst (v := 1) hx hb dX12_yearOf_264 (by decide) ?_
                    refine lv_iconst (v := 2) hx hb dX12_yearOf_265 (by decide) ?_
                    refine lv_iload hx hb dX12_yearOf_266 (lv_at hl 2 rfl) ?_
                    refine lv_imul hx hb dX12_yearOf_268 ?_
                    refine lv_topi (fun y268 e268 => ?_)
                    have q268 : y268.toInt = 2 * j211_l4.toInt := by rw [e268]; exact mu_z rfl rfl (ir_c 2) r214a (by decide) (by decide) (by decide)
                    have r268 : ir y268.toInt 0 2 := mu_r q268 (ir_c 2) r214a (by decide) (by decide) (by decide) (by decide)
                    refine lv_ishl hx hb dX12_yearOf_269 ?_
                    refine lv_topi (fun y269 e269 => ?_)
                    have r269 : ir y269.toInt 1 4 := by rw [e269]; exact s1_r 2 rfl r268 (by decide) (by decide)
                    refine lv_goto (tgt := 274) hx hb dX12_yearOf_270 (by decide) ?_
                    exact J274 y269 _ _ _ (ir_w r269 (by decide) (by decide)) (hP.sub [0, 1, 2, 3, 4, 5, 6, 7] rfl) (hD.sub [0, 1, 2, 3, 4, 5, 6, 7] (by decide) rfl) hS (lv_sub hl [0, 2] rfl)
                  have J251 : ∀  (H : Heap) (locs : List Loc) (ls : Array Slot), (ir y231.toInt (-2147483648) 2147483647) → va_P g vwCl [(m, .inr (11, mG m_a m_thrown m_taped m_at m_token m_place m_value m_word m_bad m_badPlace m_fault m_faultPlace m_willing m_will j133_m_forgot m_isDrawn j133_m_x m_begin m_round m_roundCards m_fate m_any m_bothSend m_meanCards m_bestSum m_fitMany m_fitFirst m_fitSecond)), ((m_a 27), .inl (cZ, 2, .inl j211_m_a27_c)), ((m_a 24), .inl (cZ, 2, .inl m_maySend_c)), ((m_a 23), .inl (cI, 2, .inl m_ruleNow_c)), ((m_a 33), .inl (cI, 2, .inl m_oddsNow_c)), ((m_a 26), .inl (cI, 2, .inl j133_m_a26_c)), ((m_a 25), .inl (cZ, 2, .inl m_maycome_c)), ((m_a 34), .inl (cZ, 2, .inl j89_m_a34_c))] H → va_D A [(m, .inr (11, mG m_a m_thrown m_taped m_at m_token m_place m_value m_word m_bad m_badPlace m_fault m_faultPlace m_willing m_will j133_m_forgot m_isDrawn j133_m_x m_begin m_round m_roundCards m_fate m_any m_bothSend m_meanCards m_bestSum m_fitMany m_fitFirst m_fitSecond)), ((m_a 27), .inl (cZ, 2, .inl j211_m_a27_c)), ((m_a 24), .inl (cZ, 2, .inl m_maySend_c)), ((m_a 23), .inl (cI, 2, .inl m_ruleNow_c)), ((m_a 33), .inl (cI, 2, .inl m_oddsNow_c)), ((m_a 26), .inl (cI, 2, .inl j133_m_a26_c)), ((m_a 25), .inl (cZ, 2, .inl m_maycome_c)), ((m_a 34), .inl (cZ, 2, .inl j89_m_a34_c))] → va_S A s.heap H locs → lv_has ls 5 [(0, .ref m), (3, .int j211_l3), (4, .int j211_l4)] → W p l e (headSpec v_X12_yearOf ({ frames := 2, cells := 0, slots := 0, locals := 44 })).room s mth av below meth c H locs 0 0 QQ (F0 mth 251 ls [.int j211_l4, .ref (m_a 27)]) := by
                    intro  H locs ls t251_2 hP hD hS hl
                    refine lv_iconst (v := 0) hx hb dX12_yearOf_251 (by decide) ?_
                    exact J252 0 _ _ _ (by decide) t251_2 (hP.sub [0, 1, 2, 3, 4, 5, 6, 7] rfl) (hD.sub [0, 1, 2, 3, 4, 5, 6, 7] (by decide) rfl) hS (lv_sub hl [0, 1, 2] rfl)
                  refine lv_if_le (tgt := 251) hx hb dX12_yearOf_232 (by decide) (fun c232 => ?_) (fun c232 => ?_)
                  · have f232 := (show y231.toInt ≤ 0 from z_le rfl rfl c232)
                    have r232a : ir y231.toInt (-2147483648) 0 := ir_lea f232 (rg_all y231) (ir_c 0) (by decide)
                    exact J251  _ _ _ (ir_w r232a (by decide) (by decide)) (hP.sub [0, 1, 2, 3, 4, 5, 6, 7] rfl) (hD.sub [0, 1, 2, 3, 4, 5, 6, 7] (by decide) rfl) hS (lv_sub hl [0, 1, 2] rfl)
                  have f232 := (show 0 < y231.toInt from z_nle rfl rfl c232)
                  have r232a : ir y231.toInt 1 2147483647 := ir_ltb f232 (ir_c 0) (rg_all y231) (by decide)
                  refine lv_aload_n hx hb dX12_yearOf_235 rfl (lv_at hl 0 rfl) ?_
                  refine va_get (D := g) (ci := 11) (v := .ref (m_a 25)) (C := RX12) (T := TX12) (N := 56) hx hb hts iX12 hown hK hP 0 rfl rfl 25 (by decide) (hts (.fieldLink RX12 59 "CardsAtYuleModel" "maycome" "[Z") (List.mem_cons_of_mem _ (List.mem_append_left _ (List.mem_of_getElem? (i := 3) rfl)))) (fun _ h9 => h9) rfl dX12_yearOf_236 ?_
                  refine lv_iconst (v := 1) hx hb dX12_yearOf_239 (by decide) ?_
                  refine lv_iload hx hb dX12_yearOf_240 (lv_at hl 2 rfl) ?_
                  refine lv_isub hx hb dX12_yearOf_242 ?_
                  refine lv_topi (fun y242 e242 => ?_)
                  have q242 : y242.toInt = 1 - j211_l4.toInt := by rw [e242]; exact su_z rfl rfl (ir_c 1) r214a (by decide) (by decide)
                  have r242 : ir y242.toInt 0 1 := su_r q242 (ir_c 1) r214a (by decide) (by decide)
                  refine va_zald (D := g) hx hb hK hP 6 3 rfl rfl (vi_rg rfl r242 (by decide) (by decide)) dX12_yearOf_243 ?_
                  refine lv_topi (fun y243 e243 => ?_)
                  refine lv_if_eq (tgt := 251) hx hb dX12_yearOf_244 (by decide) (fun c244 => ?_) (fun c244 => ?_)
                  · have f244 := (show y243.toInt = 0 from z_eq rfl rfl c244)
                    have r244a : ir y243.toInt 0 0 := ir_eqa f244 (rg_all y243) (ir_c 0) (by decide) (by decide)
                    exact J251  _ _ _ (ir_w r232a (by decide) (by decide)) (hP.sub [0, 1, 2, 3, 4, 5, 6, 7] rfl) (hD.sub [0, 1, 2, 3, 4, 5, 6, 7] (by decide) rfl) hS (lv_sub hl [0, 1, 2] rfl)
                  have f244 := (show y243.toInt ≠ 0 from z_ne rfl rfl c244)
                  refine lv_iconst (v := 1) hx hb dX12_yearOf_247 (by decide) ?_
                  refine lv_goto (tgt := 252) hx hb dX12_yearOf_248 (by decide) ?_
                  exact J252 1 _ _ _ (by decide) (ir_w r232a (by decide) (by decide)) (hP.sub [0, 1, 2, 3, 4, 5, 6, 7] rfl) (hD.sub [0, 1, 2, 3, 4, 5, 6, 7] (by decide) rfl) hS (lv_sub hl [0, 1, 2] rfl)
              exact J211 _ y206 0 j2_m_a27_c _ _ _ (Nat.lt_succ_self _) (ir_w r206 (by decide) (by decide)) (by decide) (hP.sub [0, 1, 2, 3, 4, 5, 6, 7] rfl) (hD.sub [0, 1, 2, 3, 4, 5, 6, 7] (by decide) rfl) hS (lv_sub hl [2, 1, 0] rfl)
          exact J133 _ 0 j2_m_forgot j2_m_x j2_m_a26_c _ _ _ (Nat.lt_succ_self _) (by decide) (hP.sub [0, 1, 2, 3, 4, 5, 6, 7] rfl) (hD.sub [0, 1, 2, 3, 4, 5, 6, 7] (by decide) rfl) hS (lv_sub hl [1, 2, 3, 0] rfl)
      exact J89 _ 0 m_cameFirst_c _ _ _ (Nat.lt_succ_self _) (by decide) (hP.sub [0, 1, 2, 3, 4, 5, 6, 7] rfl) (hD.sub [0, 1, 2, 3, 4, 5, 6, 7] (by decide) rfl) hS (lv_sub hl [2, 3, 1, 0] rfl)
  exact J2 _ 0 m_gets_c m_forgot m_x m_sent_c _ _ _ (Nat.lt_succ_self _) (by decide) (hP.sub [0, 1, 2, 3, 4, 5, 6, 7] rfl) (hD.sub [0, 1, 2, 3, 4, 5, 6, 7] (by decide) rfl) hS (lv_sub hl [1, 2, 0] rfl)
def v_X12_rulesAlone : List Cond := .code yX12_rulesAlone cX12_rulesAlone 4 none :: (([.fieldLink RX12 53 "CardsAtYuleModel" "ruleNow" "[I", .fieldLink RX12 56 "CardsAtYuleModel" "maySend" "[Z", .fieldLink RX12 59 "CardsAtYuleModel" "maycome" "[Z"] : List Cond) ++ (wsX120 ++ ([] : List Cond)))
theorem good_v_X12_rulesAlone : v_X12_rulesAlone.all goodWord = true := ga_c (by decide +kernel) (ga_a (by decide +kernel) (ga_a good_wsX120 rfl))
set_option maxHeartbeats 4000000 in
set_option maxRecDepth 100000 in
theorem q_X12_rulesAlone (l : Launch) (g : va_G) (cI cJ cB cZ cL : ClassId) (p0 : Int32) (p1 : Int32) (m : Nat) (m_a : Nat → Nat) (m_thrown : Int32) (m_taped : Int32) (m_at : Int32) (m_token : Int32) (m_place : Int32) (m_value : Int32) (m_word : Int64) (m_bad : Int32) (m_badPlace : Int32) (m_fault : Int32) (m_faultPlace : Int32) (m_willing : Int32) (m_will : Int32) (m_forgot : Int32) (m_isDrawn : Int32) (m_x : Int64) (m_begin : Int32) (m_round : Int32) (m_roundCards : Int32) (m_fate : Int32) (m_any : Int64) (m_bothSend : Int64) (m_meanCards : Int64) (m_bestSum : Int32) (m_fitMany : Int32) (m_fitFirst : Int64) (m_fitSecond : Int64) (m_ruleNow_c : Nat → Int32) (m_maySend_c : Nat → Int32) (m_maycome_c : Nat → Int32) (sz : Nat) (hv_m_taped : ir m_taped.toInt 0 1600) (hv_m_at : ir m_at.toInt 0 1600) (hv_m_will : ir m_will.toInt 0 1) (hv_m_isDrawn : ir m_isDrawn.toInt 0 1) : Met l yX12_rulesAlone v_X12_rulesAlone ({ frames := 0, cells := 0, slots := 0, locals := 0 }) (va_Pc [.ref m, .int p0, .int p1] (pRW g (tyT cI cJ cB cZ cL) [(m, .inr (11, mG m_a m_thrown m_taped m_at m_token m_place m_value m_word m_bad m_badPlace m_fault m_faultPlace m_willing m_will m_forgot m_isDrawn m_x m_begin m_round m_roundCards m_fate m_any m_bothSend m_meanCards m_bestSum m_fitMany m_fitFirst m_fitSecond)), ((m_a 23), .inl (cI, 2, .inl m_ruleNow_c)), ((m_a 24), .inl (cZ, 2, .inl m_maySend_c)), ((m_a 25), .inl (cZ, 2, .inl m_maycome_c))] sz)) (va_Qv (fun (u : (Nat → Int32) × (Nat → Int32) × (Nat → Int32)) => match u with | (n_m_ruleNow_c, n_m_maySend_c, n_m_maycome_c) => True) (fun (u : (Nat → Int32) × (Nat → Int32) × (Nat → Int32)) (t : State) => bRW g (tyT cI cJ cB cZ cL) (va_A [(m, .inr (11, mG m_a m_thrown m_taped m_at m_token m_place m_value m_word m_bad m_badPlace m_fault m_faultPlace m_willing m_will m_forgot m_isDrawn m_x m_begin m_round m_roundCards m_fate m_any m_bothSend m_meanCards m_bestSum m_fitMany m_fitFirst m_fitSecond)), ((m_a 23), .inl (cI, 2, .inl m_ruleNow_c)), ((m_a 24), .inl (cZ, 2, .inl m_maySend_c)), ((m_a 25), .inl (cZ, 2, .inl m_maycome_c))] sz) (match u with | (n_m_ruleNow_c, n_m_maySend_c, n_m_maycome_c) => [(m, .inr (11, mG m_a m_thrown m_taped m_at m_token m_place m_value m_word m_bad m_badPlace m_fault m_faultPlace m_willing m_will m_forgot m_isDrawn m_x m_begin m_round m_roundCards m_fate m_any m_bothSend m_meanCards m_bestSum m_fitMany m_fitFirst m_fitSecond)), ((m_a 23), .inl (cI, 2, .inl n_m_ruleNow_c)), ((m_a 24), .inl (cZ, 2, .inl n_m_maySend_c)), ((m_a 25), .inl (cZ, 2, .inl n_m_maycome_c))]) t) (va_A [(m, .inr (11, mG m_a m_thrown m_taped m_at m_token m_place m_value m_word m_bad m_badPlace m_fault m_faultPlace m_willing m_will m_forgot m_isDrawn m_x m_begin m_round m_roundCards m_fate m_any m_bothSend m_meanCards m_bestSum m_fitMany m_fitFirst m_fitSecond)), ((m_a 23), .inl (cI, 2, .inl m_ruleNow_c)), ((m_a 24), .inl (cZ, 2, .inl m_maySend_c)), ((m_a 25), .inl (cZ, 2, .inl m_maycome_c))] sz)) 0 0 (va_A [(m, .inr (11, mG m_a m_thrown m_taped m_at m_token m_place m_value m_word m_bad m_badPlace m_fault m_faultPlace m_willing m_will m_forgot m_isDrawn m_x m_begin m_round m_roundCards m_fate m_any m_bothSend m_meanCards m_bestSum m_fitMany m_fitFirst m_fitSecond)), ((m_a 23), .inl (cI, 2, .inl m_ruleNow_c)), ((m_a 24), .inl (cZ, 2, .inl m_maySend_c)), ((m_a 25), .inl (cZ, 2, .inl m_maycome_c))] sz) := by
  refine Met.ofW (cc := cX12_rulesAlone) (maxL := 4) (ret := none) (by decide) rfl ?_
  intro p e s mth args below meth c s₁ B hml hv
  obtain ⟨rfl, hsz, hP, hK, hD0⟩ := hv
  have hx := B.exec
  have hb := B.bytes
  have hr := B.returns
  have hts := atoms_spec (ws := v_X12_rulesAlone) B.pre
  have hown : s.vm.findClass RX12 = some mth.cls := findClass_of_methodNamed B.named
  have hlocks := B.notSynchronized
  clear B
  subst hsz
  have iX12 : ∀ w ∈ wsX120, w ∈ v_X12_rulesAlone := (fun _ h => List.mem_cons_of_mem _ (List.mem_append_right _ (List.mem_append_left _ h)))
  have hD := hD0.self (sz := s.heap.size)
  generalize hAe : (va_A [(m, .inr (11, mG m_a m_thrown m_taped m_at m_token m_place m_value m_word m_bad m_badPlace m_fault m_faultPlace m_willing m_will m_forgot m_isDrawn m_x m_begin m_round m_roundCards m_fate m_any m_bothSend m_meanCards m_bestSum m_fitMany m_fitFirst m_fitSecond)), ((m_a 23), .inl (cI, 2, .inl m_ruleNow_c)), ((m_a 24), .inl (cZ, 2, .inl m_maySend_c)), ((m_a 25), .inl (cZ, 2, .inl m_maycome_c))] s.heap.size) = A at hD ⊢
  have hA : ∀ q : Nat, s.heap.size ≤ q → A q := fun q h => by rw [← hAe]; exact Or.inr h
  have hS : va_S A s.heap s.heap [] := va_S.rf
  have hl := lv_entry ([.ref m, .int p0, .int p1]) (n := 4) (Nat.le_of_ble_eq_true rfl)
  rw [lg_entry_eq]
  generalize (lg_sl ([.ref m, .int p0, .int p1]) ++ List.replicate (4 - (lg_sl ([.ref m, .int p0, .int p1])).length) Slot.unset).toArray = ls at hl ⊢
  generalize ([.ref m, .int p0, .int p1] : List Value).toArray = av at hts ⊢
  generalize hQ : MQ below _ av s _ _ A = QQ
  have hl : lv_has ls 4 [(0, .ref m), (1, .int p0), (2, .int p1)] := hl
  have hP : va_P g vwCl [(m, .inr (11, mG m_a m_thrown m_taped m_at m_token m_place m_value m_word m_bad m_badPlace m_fault m_faultPlace m_willing m_will m_forgot m_isDrawn m_x m_begin m_round m_roundCards m_fate m_any m_bothSend m_meanCards m_bestSum m_fitMany m_fitFirst m_fitSecond)), ((m_a 23), .inl (cI, 2, .inl m_ruleNow_c)), ((m_a 24), .inl (cZ, 2, .inl m_maySend_c)), ((m_a 25), .inl (cZ, 2, .inl m_maycome_c))] s.heap := hP
  refine lv_aload_n hx hb dX12_rulesAlone_0 rfl (lv_at hl 0 rfl) ?_
  refine va_get (D := g) (ci := 11) (v := .ref (m_a 23)) (C := RX12) (T := TX12) (N := 56) hx hb hts iX12 hown hK hP 0 rfl rfl 23 (by decide) (hts (.fieldLink RX12 53 "CardsAtYuleModel" "ruleNow" "[I") (List.mem_cons_of_mem _ (List.mem_append_left _ (List.mem_of_getElem? (i := 0) rfl)))) (fun _ h9 => h9) rfl dX12_rulesAlone_1 ?_
  refine lv_iconst (v := 0) hx hb dX12_rulesAlone_4 (by decide) ?_
  refine lv_iload_n hx hb dX12_rulesAlone_5 rfl (lv_at hl 1 rfl) ?_
  refine va_iast (D := g) hx hb hK hP hD hS 1 0 rfl rfl (vc_in (by decide)) dX12_rulesAlone_6 (fun H locs hP hD hS => ?_)
  obtain ⟨g6, e6⟩ : ∃ z, z = upd m_ruleNow_c 0 p0 := ⟨_, rfl⟩
  have hP : va_P g vwCl [(m, .inr (11, mG m_a m_thrown m_taped m_at m_token m_place m_value m_word m_bad m_badPlace m_fault m_faultPlace m_willing m_will m_forgot m_isDrawn m_x m_begin m_round m_roundCards m_fate m_any m_bothSend m_meanCards m_bestSum m_fitMany m_fitFirst m_fitSecond)), ((m_a 23), .inl (cI, 2, .inl (upd m_ruleNow_c 0 p0))), ((m_a 24), .inl (cZ, 2, .inl m_maySend_c)), ((m_a 25), .inl (cZ, 2, .inl m_maycome_c))] H := hP
  have hD : va_D A [(m, .inr (11, mG m_a m_thrown m_taped m_at m_token m_place m_value m_word m_bad m_badPlace m_fault m_faultPlace m_willing m_will m_forgot m_isDrawn m_x m_begin m_round m_roundCards m_fate m_any m_bothSend m_meanCards m_bestSum m_fitMany m_fitFirst m_fitSecond)), ((m_a 23), .inl (cI, 2, .inl (upd m_ruleNow_c 0 p0))), ((m_a 24), .inl (cZ, 2, .inl m_maySend_c)), ((m_a 25), .inl (cZ, 2, .inl m_maycome_c))] := hD
  rw [← e6] at hP hD
  refine lv_aload_n hx hb dX12_rulesAlone_7 rfl (lv_at hl 0 rfl) ?_
  refine va_get (D := g) (ci := 11) (v := .ref (m_a 23)) (C := RX12) (T := TX12) (N := 56) hx hb hts iX12 hown hK hP 0 rfl rfl 23 (by decide) (hts (.fieldLink RX12 53 "CardsAtYuleModel" "ruleNow" "[I") (List.mem_cons_of_mem _ (List.mem_append_left _ (List.mem_of_getElem? (i := 0) rfl)))) (fun _ h9 => h9) rfl dX12_rulesAlone_8 ?_
  refine lv_iconst (v := 1) hx hb dX12_rulesAlone_11 (by decide) ?_
  refine lv_iload_n hx hb dX12_rulesAlone_12 rfl (lv_at hl 2 rfl) ?_
  refine va_iast (D := g) hx hb hK hP hD hS 1 0 rfl rfl (vc_in (by decide)) dX12_rulesAlone_13 (fun H locs hP hD hS => ?_)
  obtain ⟨g13, e13⟩ : ∃ z, z = upd g6 1 p1 := ⟨_, rfl⟩
  have hP : va_P g vwCl [(m, .inr (11, mG m_a m_thrown m_taped m_at m_token m_place m_value m_word m_bad m_badPlace m_fault m_faultPlace m_willing m_will m_forgot m_isDrawn m_x m_begin m_round m_roundCards m_fate m_any m_bothSend m_meanCards m_bestSum m_fitMany m_fitFirst m_fitSecond)), ((m_a 23), .inl (cI, 2, .inl (upd g6 1 p1))), ((m_a 24), .inl (cZ, 2, .inl m_maySend_c)), ((m_a 25), .inl (cZ, 2, .inl m_maycome_c))] H := hP
  have hD : va_D A [(m, .inr (11, mG m_a m_thrown m_taped m_at m_token m_place m_value m_word m_bad m_badPlace m_fault m_faultPlace m_willing m_will m_forgot m_isDrawn m_x m_begin m_round m_roundCards m_fate m_any m_bothSend m_meanCards m_bestSum m_fitMany m_fitFirst m_fitSecond)), ((m_a 23), .inl (cI, 2, .inl (upd g6 1 p1))), ((m_a 24), .inl (cZ, 2, .inl m_maySend_c)), ((m_a 25), .inl (cZ, 2, .inl m_maycome_c))] := hD
  rw [← e13] at hP hD
  refine lv_iconst (v := 0) hx hb dX12_rulesAlone_14 (by decide) ?_
  refine lv_istore_n (lv' := [(3, .int 0), (0, .ref m), (1, .int p0), (2, .int p1)]) hx hb dX12_rulesAlone_15 rfl hl (by decide) rfl (fun ls hl => ?_)
  have J16 : ∀ (n16 : Nat) (j16_l3 : Int32) (j16_m_a24_c : Nat → Int32) (j16_m_a25_c : Nat → Int32) (H : Heap) (locs : List Loc) (ls : Array Slot), (3 - j16_l3.toInt).toNat < n16 → (ir j16_l3.toInt 0 2) → va_P g vwCl [(m, .inr (11, mG m_a m_thrown m_taped m_at m_token m_place m_value m_word m_bad m_badPlace m_fault m_faultPlace m_willing m_will m_forgot m_isDrawn m_x m_begin m_round m_roundCards m_fate m_any m_bothSend m_meanCards m_bestSum m_fitMany m_fitFirst m_fitSecond)), ((m_a 23), .inl (cI, 2, .inl g13)), ((m_a 24), .inl (cZ, 2, .inl j16_m_a24_c)), ((m_a 25), .inl (cZ, 2, .inl j16_m_a25_c))] H → va_D A [(m, .inr (11, mG m_a m_thrown m_taped m_at m_token m_place m_value m_word m_bad m_badPlace m_fault m_faultPlace m_willing m_will m_forgot m_isDrawn m_x m_begin m_round m_roundCards m_fate m_any m_bothSend m_meanCards m_bestSum m_fitMany m_fitFirst m_fitSecond)), ((m_a 23), .inl (cI, 2, .inl g13)), ((m_a 24), .inl (cZ, 2, .inl j16_m_a24_c)), ((m_a 25), .inl (cZ, 2, .inl j16_m_a25_c))] → va_S A s.heap H locs → lv_has ls 4 [(0, .ref m), (3, .int j16_l3)] → W p l e (headSpec v_X12_rulesAlone ({ frames := 0, cells := 0, slots := 0, locals := 0 })).room s mth av below meth c H locs 0 0 QQ (F0 mth 16 ls []) := by
    intro n16
    induction n16 with
    | zero => exact fun j16_l3 j16_m_a24_c j16_m_a25_c H locs ls hn => absurd hn (Nat.not_lt_zero _)
    | succ n16 ih16 =>
      intro j16_l3 j16_m_a24_c j16_m_a25_c H locs ls hn16 hj16_l3 hP hD hS hl
      refine lv_iload_n hx hb dX12_rulesAlone_16 rfl (lv_at hl 1 rfl) ?_
      refine lv_iconst (v := 2) hx hb dX12_rulesAlone_17 (by decide) ?_
      refine lv_icmp_ge (tgt := 41) hx hb dX12_rulesAlone_18 (by decide) (fun c18 => ?_) (fun c18 => ?_)
      · have f18 := (show 2 ≤ j16_l3.toInt from z_le rfl rfl c18)
        have r18a : ir j16_l3.toInt 2 2 := ir_leb f18 (ir_c 2) hj16_l3 (by decide)
        subst hQ
        have hP9 := hP.sub (ws' := [(m, .inr (11, mG m_a m_thrown m_taped m_at m_token m_place m_value m_word m_bad m_badPlace m_fault m_faultPlace m_willing m_will m_forgot m_isDrawn m_x m_begin m_round m_roundCards m_fate m_any m_bothSend m_meanCards m_bestSum m_fitMany m_fitFirst m_fitSecond)), ((m_a 23), .inl (cI, 2, .inl g13)), ((m_a 24), .inl (cZ, 2, .inl j16_m_a24_c)), ((m_a 25), .inl (cZ, 2, .inl j16_m_a25_c))]) [0, 1, 2, 3] rfl
        have hD9 := hD.sub (ws' := [(m, .inr (11, mG m_a m_thrown m_taped m_at m_token m_place m_value m_word m_bad m_badPlace m_fault m_faultPlace m_willing m_will m_forgot m_isDrawn m_x m_begin m_round m_roundCards m_fate m_any m_bothSend m_meanCards m_bestSum m_fitMany m_fitFirst m_fitSecond)), ((m_a 23), .inl (cI, 2, .inl g13)), ((m_a 24), .inl (cZ, 2, .inl j16_m_a24_c)), ((m_a 25), .inl (cZ, 2, .inl j16_m_a25_c))]) [0, 1, 2, 3] (by decide) rfl
        exact W.vret hx hb hr (fun t ht hW => ⟨⟨(g13, j16_m_a24_c, j16_m_a25_c), rfl, trivial, ⟨by rw [ht]; exact hP9, va_K.moved hW.alike hK, hD9⟩⟩, hS.F ht⟩) hS.2.2 dX12_rulesAlone_41
      have f18 := (show j16_l3.toInt < 2 from z_nle rfl rfl c18)
      have r18a : ir j16_l3.toInt 0 1 := ir_lta f18 hj16_l3 (ir_c 2) (by decide)
      refine lv_aload_n hx hb dX12_rulesAlone_21 rfl (lv_at hl 0 rfl) ?_
      refine va_get (D := g) (ci := 11) (v := .ref (m_a 24)) (C := RX12) (T := TX12) (N := 56) hx hb hts iX12 hown hK hP 0 rfl rfl 24 (by decide) (hts (.fieldLink RX12 56 "CardsAtYuleModel" "maySend" "[Z") (List.mem_cons_of_mem _ (List.mem_append_left _ (List.mem_of_getElem? (i := 1) rfl)))) (fun _ h9 => h9) rfl dX12_rulesAlone_22 ?_
      refine lv_iload_n hx hb dX12_rulesAlone_25 rfl (lv_at hl 1 rfl) ?_
      refine lv_iconst (v := 1) hx hb dX12_rulesAlone_26 (by decide) ?_
      refine va_zast (D := g) hx hb hK hP hD hS 2 3 rfl rfl (vi_rg rfl r18a (by decide) (by decide)) dX12_rulesAlone_27 (fun H locs hP hD hS => ?_)
      obtain ⟨g27, e27⟩ : ∃ z, z = upd j16_m_a24_c j16_l3.toNatClampNeg (vp_nar .boolean (1 : Int32)) := ⟨_, rfl⟩
      have hP : va_P g vwCl [(m, .inr (11, mG m_a m_thrown m_taped m_at m_token m_place m_value m_word m_bad m_badPlace m_fault m_faultPlace m_willing m_will m_forgot m_isDrawn m_x m_begin m_round m_roundCards m_fate m_any m_bothSend m_meanCards m_bestSum m_fitMany m_fitFirst m_fitSecond)), ((m_a 23), .inl (cI, 2, .inl g13)), ((m_a 24), .inl (cZ, 2, .inl (upd j16_m_a24_c j16_l3.toNatClampNeg (vp_nar .boolean (1 : Int32))))), ((m_a 25), .inl (cZ, 2, .inl j16_m_a25_c))] H := hP
      have hD : va_D A [(m, .inr (11, mG m_a m_thrown m_taped m_at m_token m_place m_value m_word m_bad m_badPlace m_fault m_faultPlace m_willing m_will m_forgot m_isDrawn m_x m_begin m_round m_roundCards m_fate m_any m_bothSend m_meanCards m_bestSum m_fitMany m_fitFirst m_fitSecond)), ((m_a 23), .inl (cI, 2, .inl g13)), ((m_a 24), .inl (cZ, 2, .inl (upd j16_m_a24_c j16_l3.toNatClampNeg (vp_nar .boolean (1 : Int32))))), ((m_a 25), .inl (cZ, 2, .inl j16_m_a25_c))] := hD
      rw [← e27] at hP hD
      refine lv_aload_n hx hb dX12_rulesAlone_28 rfl (lv_at hl 0 rfl) ?_
      refine va_get (D := g) (ci := 11) (v := .ref (m_a 25)) (C := RX12) (T := TX12) (N := 56) hx hb hts iX12 hown hK hP 0 rfl rfl 25 (by decide) (hts (.fieldLink RX12 59 "CardsAtYuleModel" "maycome" "[Z") (List.mem_cons_of_mem _ (List.mem_append_left _ (List.mem_of_getElem? (i := 2) rfl)))) (fun _ h9 => h9) rfl dX12_rulesAlone_29 ?_
      refine lv_iload_n hx hb dX12_rulesAlone_32 rfl (lv_at hl 1 rfl) ?_
      refine lv_iconst (v := 1) hx hb dX12_rulesAlone_33 (by decide) ?_
      refine va_zast (D := g) hx hb hK hP hD hS 3 3 rfl rfl (vi_rg rfl r18a (by decide) (by decide)) dX12_rulesAlone_34 (fun H locs hP hD hS => ?_)
      obtain ⟨g34, e34⟩ : ∃ z, z = upd j16_m_a25_c j16_l3.toNatClampNeg (vp_nar .boolean (1 : Int32)) := ⟨_, rfl⟩
      have hP : va_P g vwCl [(m, .inr (11, mG m_a m_thrown m_taped m_at m_token m_place m_value m_word m_bad m_badPlace m_fault m_faultPlace m_willing m_will m_forgot m_isDrawn m_x m_begin m_round m_roundCards m_fate m_any m_bothSend m_meanCards m_bestSum m_fitMany m_fitFirst m_fitSecond)), ((m_a 23), .inl (cI, 2, .inl g13)), ((m_a 24), .inl (cZ, 2, .inl g27)), ((m_a 25), .inl (cZ, 2, .inl (upd j16_m_a25_c j16_l3.toNatClampNeg (vp_nar .boolean (1 : Int32)))))] H := hP
      have hD : va_D A [(m, .inr (11, mG m_a m_thrown m_taped m_at m_token m_place m_value m_word m_bad m_badPlace m_fault m_faultPlace m_willing m_will m_forgot m_isDrawn m_x m_begin m_round m_roundCards m_fate m_any m_bothSend m_meanCards m_bestSum m_fitMany m_fitFirst m_fitSecond)), ((m_a 23), .inl (cI, 2, .inl g13)), ((m_a 24), .inl (cZ, 2, .inl g27)), ((m_a 25), .inl (cZ, 2, .inl (upd j16_m_a25_c j16_l3.toNatClampNeg (vp_nar .boolean (1 : Int32)))))] := hD
      rw [← e34] at hP hD
      obtain ⟨y35, e35⟩ : ∃ y : Int32, y = j16_l3 + 1 := ⟨_, rfl⟩
      have q35 : y35.toInt = j16_l3.toInt + 1 := by rw [e35]; exact ad_z rfl rfl r18a (ir_c 1) (by decide) (by decide)
      have r35 : ir y35.toInt 1 2 := ad_r q35 r18a (ir_c 1) (by decide) (by decide)
      refine lv_iinc (v := y35) (lv' := [(3, .int y35), (0, .ref m)]) hx hb dX12_rulesAlone_35 hl (k := 1) rfl e35.symm (by decide) rfl (fun ls hl => ?_)
      refine lv_goto (tgt := 16) hx hb dX12_rulesAlone_38 (by decide) ?_
      exact ih16 y35 g27 g34 _ _ _ (by omega) (ir_w r35 (by decide) (by decide)) (hP.sub [0, 1, 2, 3] rfl) (hD.sub [0, 1, 2, 3] (by decide) rfl) hS (lv_sub hl [1, 0] rfl)
  exact J16 _ 0 m_maySend_c m_maycome_c _ _ _ (Nat.lt_succ_self _) (by decide) (hP.sub [0, 1, 2, 3] rfl) (hD.sub [0, 1, 2, 3] (by decide) rfl) hS (lv_sub hl [1, 0] rfl)
def v_X12_cardsNow : List Cond := .code yX12_cardsNow cX12_cardsNow 1 (some .int) :: (([.fieldLink RX12 62 "CardsAtYuleModel" "sent" "[I"] : List Cond) ++ (wsX120 ++ ([] : List Cond)))
theorem good_v_X12_cardsNow : v_X12_cardsNow.all goodWord = true := ga_c (by decide +kernel) (ga_a (by decide +kernel) (ga_a good_wsX120 rfl))
set_option maxHeartbeats 4000000 in
set_option maxRecDepth 100000 in
theorem q_X12_cardsNow (l : Launch) (g : va_G) (cI cJ cB cZ cL : ClassId) (m : Nat) (m_a : Nat → Nat) (m_thrown : Int32) (m_taped : Int32) (m_at : Int32) (m_token : Int32) (m_place : Int32) (m_value : Int32) (m_word : Int64) (m_bad : Int32) (m_badPlace : Int32) (m_fault : Int32) (m_faultPlace : Int32) (m_willing : Int32) (m_will : Int32) (m_forgot : Int32) (m_isDrawn : Int32) (m_x : Int64) (m_begin : Int32) (m_round : Int32) (m_roundCards : Int32) (m_fate : Int32) (m_any : Int64) (m_bothSend : Int64) (m_meanCards : Int64) (m_bestSum : Int32) (m_fitMany : Int32) (m_fitFirst : Int64) (m_fitSecond : Int64) (m_sent_c : Nat → Int32) (sz : Nat) (hv_m_taped : ir m_taped.toInt 0 1600) (hv_m_at : ir m_at.toInt 0 1600) (hv_m_will : ir m_will.toInt 0 1) (hv_m_isDrawn : ir m_isDrawn.toInt 0 1) : Met l yX12_cardsNow v_X12_cardsNow ({ frames := 0, cells := 0, slots := 0, locals := 0 }) (va_Pc [.ref m] (pRO g (tyT cI cJ cB cZ cL) [(m, .inr (11, mG m_a m_thrown m_taped m_at m_token m_place m_value m_word m_bad m_badPlace m_fault m_faultPlace m_willing m_will m_forgot m_isDrawn m_x m_begin m_round m_roundCards m_fate m_any m_bothSend m_meanCards m_bestSum m_fitMany m_fitFirst m_fitSecond)), ((m_a 26), .inl (cI, 2, .inl m_sent_c))] sz)) (va_Qi (fun (r : Int32) (u : Unit) => (ir r.toInt 0 2)) (fun (_ : Unit) (_ : State) => True) (va_A [] sz)) 0 0 (va_A [] sz) := by
  refine Met.ofW (cc := cX12_cardsNow) (maxL := 1) (ret := (some .int)) (by decide) rfl ?_
  intro p e s mth args below meth c s₁ B hml hv
  obtain ⟨rfl, hsz, hP, hK⟩ := hv
  have hx := B.exec
  have hb := B.bytes
  have hr := B.returns
  have hts := atoms_spec (ws := v_X12_cardsNow) B.pre
  have hown : s.vm.findClass RX12 = some mth.cls := findClass_of_methodNamed B.named
  have hlocks := B.notSynchronized
  clear B
  subst hsz
  have iX12 : ∀ w ∈ wsX120, w ∈ v_X12_cardsNow := (fun _ h => List.mem_cons_of_mem _ (List.mem_append_right _ (List.mem_append_left _ h)))
  generalize hAe : (va_A [] s.heap.size) = A
  have hA : ∀ q : Nat, s.heap.size ≤ q → A q := fun q h => by rw [← hAe]; exact Or.inr h
  have hS : va_S A s.heap s.heap [] := va_S.rf
  have hl := lv_entry ([.ref m]) (n := 1) (Nat.le_of_ble_eq_true rfl)
  rw [lg_entry_eq]
  generalize (lg_sl ([.ref m]) ++ List.replicate (1 - (lg_sl ([.ref m])).length) Slot.unset).toArray = ls at hl ⊢
  generalize ([.ref m] : List Value).toArray = av at hts ⊢
  generalize hQ : MQ below _ av s _ _ A = QQ
  have hl : lv_has ls 1 [(0, .ref m)] := hl
  have hP : va_P g vwCl [(m, .inr (11, mG m_a m_thrown m_taped m_at m_token m_place m_value m_word m_bad m_badPlace m_fault m_faultPlace m_willing m_will m_forgot m_isDrawn m_x m_begin m_round m_roundCards m_fate m_any m_bothSend m_meanCards m_bestSum m_fitMany m_fitFirst m_fitSecond)), ((m_a 26), .inl (cI, 2, .inl m_sent_c))] s.heap := hP
  refine lv_aload_n hx hb dX12_cardsNow_0 rfl (lv_at hl 0 rfl) ?_
  refine va_get (D := g) (ci := 11) (v := .ref (m_a 26)) (C := RX12) (T := TX12) (N := 56) hx hb hts iX12 hown hK hP 0 rfl rfl 26 (by decide) (hts (.fieldLink RX12 62 "CardsAtYuleModel" "sent" "[I") (List.mem_cons_of_mem _ (List.mem_append_left _ (List.mem_of_getElem? (i := 0) rfl)))) (fun _ h9 => h9) rfl dX12_cardsNow_1 ?_
  refine lv_iconst (v := 0) hx hb dX12_cardsNow_4 (by decide) ?_
  refine va_iald (D := g) hx hb hK hP 1 0 rfl rfl (vc_in (by decide)) dX12_cardsNow_5 ?_
  refine lv_topi (nm_r (e' := (m_sent_c 0)) rfl ?_)
  have J14 : ∀ (j14_s0 : Int32) (H : Heap) (locs : List Loc) (ls : Array Slot), (ir j14_s0.toInt 0 1) → (ir (m_sent_c 0).toInt (-2147483648) 2147483647) → va_P g vwCl [(m, .inr (11, mG m_a m_thrown m_taped m_at m_token m_place m_value m_word m_bad m_badPlace m_fault m_faultPlace m_willing m_will m_forgot m_isDrawn m_x m_begin m_round m_roundCards m_fate m_any m_bothSend m_meanCards m_bestSum m_fitMany m_fitFirst m_fitSecond)), ((m_a 26), .inl (cI, 2, .inl m_sent_c))] H → va_S A s.heap H locs → lv_has ls 1 [(0, .ref m)] → W p l e (headSpec v_X12_cardsNow ({ frames := 0, cells := 0, slots := 0, locals := 0 })).room s mth av below meth c H locs 0 0 QQ (F0 mth 14 ls [.int j14_s0]) := by
    intro j14_s0 H locs ls hj14_s0 t14_1 hP hS hl
    refine lv_aload_n hx hb dX12_cardsNow_14 rfl (lv_at hl 0 rfl) ?_
    refine va_get (D := g) (ci := 11) (v := .ref (m_a 26)) (C := RX12) (T := TX12) (N := 56) hx hb hts iX12 hown hK hP 0 rfl rfl 26 (by decide) (hts (.fieldLink RX12 62 "CardsAtYuleModel" "sent" "[I") (List.mem_cons_of_mem _ (List.mem_append_left _ (List.mem_of_getElem? (i := 0) rfl)))) (fun _ h9 => h9) rfl dX12_cardsNow_15 ?_
    refine lv_iconst (v := 1) hx hb dX12_cardsNow_18 (by decide) ?_
    refine va_iald (D := g) hx hb hK hP 1 0 rfl rfl (vc_in (by decide)) dX12_cardsNow_19 ?_
    refine lv_topi (nm_r (e' := (m_sent_c 1)) rfl ?_)
    refine lv_if_le (tgt := 27) hx hb dX12_cardsNow_20 (by decide) (fun c20 => ?_) (fun c20 => ?_)
    · have f20 := (show (m_sent_c 1).toInt ≤ 0 from z_le rfl rfl c20)
      have r20a : ir (m_sent_c 1).toInt (-2147483648) 0 := ir_lea f20 (rg_all (m_sent_c 1)) (ir_c 0) (by decide)
      refine lv_iconst (v := 0) hx hb dX12_cardsNow_27 (by decide) ?_
      refine lv_iadd hx hb dX12_cardsNow_28 ?_
      refine lv_topi (fun y28 e28 => ?_)
      have q28 : y28.toInt = j14_s0.toInt + 0 := by rw [e28]; exact ad_z rfl rfl hj14_s0 (ir_c 0) (by decide) (by decide)
      have r28 : ir y28.toInt 0 1 := ad_r q28 hj14_s0 (ir_c 0) (by decide) (by decide)
      subst hQ
      exact W.iret (v := y28) hx hb hr (fun t ht hW => ⟨⟨y28, (), rfl, (ir_w r28 (by decide) (by decide)), trivial⟩, hS.F ht⟩) hS.2.2 dX12_cardsNow_29
    have f20 := (show 0 < (m_sent_c 1).toInt from z_nle rfl rfl c20)
    have r20a : ir (m_sent_c 1).toInt 1 2147483647 := ir_ltb f20 (ir_c 0) (rg_all (m_sent_c 1)) (by decide)
    refine lv_iconst (v := 1) hx hb dX12_cardsNow_23 (by decide) ?_
    refine lv_goto (tgt := 28) hx hb dX12_cardsNow_24 (by decide) ?_
    refine lv_iadd hx hb dX12_cardsNow_28 ?_
    refine lv_topi (fun y28 e28 => ?_)
    have q28 : y28.toInt = j14_s0.toInt + 1 := by rw [e28]; exact ad_z rfl rfl hj14_s0 (ir_c 1) (by decide) (by decide)
    have r28 : ir y28.toInt 1 2 := ad_r q28 hj14_s0 (ir_c 1) (by decide) (by decide)
    subst hQ
    exact W.iret (v := y28) hx hb hr (fun t ht hW => ⟨⟨y28, (), rfl, (ir_w r28 (by decide) (by decide)), trivial⟩, hS.F ht⟩) hS.2.2 dX12_cardsNow_29
  refine lv_if_le (tgt := 13) hx hb dX12_cardsNow_6 (by decide) (fun c6 => ?_) (fun c6 => ?_)
  · have f6 := (show (m_sent_c 0).toInt ≤ 0 from z_le rfl rfl c6)
    have r6a : ir (m_sent_c 0).toInt (-2147483648) 0 := ir_lea f6 (rg_all (m_sent_c 0)) (ir_c 0) (by decide)
    refine lv_iconst (v := 0) hx hb dX12_cardsNow_13 (by decide) ?_
    exact J14 0 _ _ _ (by decide) (ir_w r6a (by decide) (by decide)) (hP.sub [0, 1] rfl) hS (lv_sub hl [0] rfl)
  have f6 := (show 0 < (m_sent_c 0).toInt from z_nle rfl rfl c6)
  have r6a : ir (m_sent_c 0).toInt 1 2147483647 := ir_ltb f6 (ir_c 0) (rg_all (m_sent_c 0)) (by decide)
  refine lv_iconst (v := 1) hx hb dX12_cardsNow_9 (by decide) ?_
  refine lv_goto (tgt := 14) hx hb dX12_cardsNow_10 (by decide) ?_
  exact J14 1 _ _ _ (by decide) (ir_w r6a (by decide) (by decide)) (hP.sub [0, 1] rfl) hS (lv_sub hl [0] rfl)
def v_X12_isDead : List Cond := .code yX12_isDead cX12_isDead 3 (some .boolean) :: (([.methodLink RX12 273 yX12_has0, .instanceMethod yX12_has0, .selects RX12 yX12_has0 yX12_has0, .initialized RX12] : List Cond) ++ (v_X12_has0 ++ ([] : List Cond)))
theorem good_v_X12_isDead : v_X12_isDead.all goodWord = true := ga_c (by decide +kernel) (ga_a (by decide +kernel) (ga_a good_v_X12_has0 rfl))
set_option maxHeartbeats 4000000 in
set_option maxRecDepth 100000 in
theorem q_X12_isDead (l : Launch) (g : va_G) (cI cJ cB cZ cL : ClassId) (p0 : Int32) (p1 : Int32) (m : Nat) (m_a : Nat → Nat) (m_thrown : Int32) (m_taped : Int32) (m_at : Int32) (m_token : Int32) (m_place : Int32) (m_value : Int32) (m_word : Int64) (m_bad : Int32) (m_badPlace : Int32) (m_fault : Int32) (m_faultPlace : Int32) (m_willing : Int32) (m_will : Int32) (m_forgot : Int32) (m_isDrawn : Int32) (m_x : Int64) (m_begin : Int32) (m_round : Int32) (m_roundCards : Int32) (m_fate : Int32) (m_any : Int64) (m_bothSend : Int64) (m_meanCards : Int64) (m_bestSum : Int32) (m_fitMany : Int32) (m_fitFirst : Int64) (m_fitSecond : Int64) (m_person_c : Nat → Int32) (sz : Nat) (hv_p0 : ir p0.toInt 0 15) (hv_m_taped : ir m_taped.toInt 0 1600) (hv_m_at : ir m_at.toInt 0 1600) (hv_m_will : ir m_will.toInt 0 1) (hv_m_isDrawn : ir m_isDrawn.toInt 0 1) (ha_m_person_c : perI m_person_c) : Met l yX12_isDead v_X12_isDead ({ frames := 1, cells := 0, slots := 0, locals := 22 }) (va_Pc [.ref m, .int p0, .int p1] (pRO g (tyT cI cJ cB cZ cL) [(m, .inr (11, mG m_a m_thrown m_taped m_at m_token m_place m_value m_word m_bad m_badPlace m_fault m_faultPlace m_willing m_will m_forgot m_isDrawn m_x m_begin m_round m_roundCards m_fate m_any m_bothSend m_meanCards m_bestSum m_fitMany m_fitFirst m_fitSecond)), ((m_a 18), .inl (cI, 250, .inl m_person_c))] sz)) (va_Qi (fun (r : Int32) (u : Unit) => (ir r.toInt 0 1)) (fun (_ : Unit) (_ : State) => True) (va_A [] sz)) 0 0 (va_A [] sz) := by
  refine Met.ofW (cc := cX12_isDead) (maxL := 3) (ret := (some .boolean)) (by decide) rfl ?_
  intro p e s mth args below meth c s₁ B hml hv
  obtain ⟨rfl, hsz, hP, hK⟩ := hv
  have hx := B.exec
  have hb := B.bytes
  have hr := B.returns
  have hts := atoms_spec (ws := v_X12_isDead) B.pre
  have hown : s.vm.findClass RX12 = some mth.cls := findClass_of_methodNamed B.named
  have hlocks := B.notSynchronized
  clear B
  subst hsz
  generalize hAe : (va_A [] s.heap.size) = A
  have hA : ∀ q : Nat, s.heap.size ≤ q → A q := fun q h => by rw [← hAe]; exact Or.inr h
  have hS : va_S A s.heap s.heap [] := va_S.rf
  have hl := lv_entry ([.ref m, .int p0, .int p1]) (n := 3) (Nat.le_of_ble_eq_true rfl)
  rw [lg_entry_eq]
  generalize (lg_sl ([.ref m, .int p0, .int p1]) ++ List.replicate (3 - (lg_sl ([.ref m, .int p0, .int p1])).length) Slot.unset).toArray = ls at hl ⊢
  generalize ([.ref m, .int p0, .int p1] : List Value).toArray = av at hts ⊢
  generalize hQ : MQ below _ av s _ _ A = QQ
  have hl : lv_has ls 3 [(0, .ref m), (1, .int p0), (2, .int p1)] := hl
  have hP : va_P g vwCl [(m, .inr (11, mG m_a m_thrown m_taped m_at m_token m_place m_value m_word m_bad m_badPlace m_fault m_faultPlace m_willing m_will m_forgot m_isDrawn m_x m_begin m_round m_roundCards m_fate m_any m_bothSend m_meanCards m_bestSum m_fitMany m_fitFirst m_fitSecond)), ((m_a 18), .inl (cI, 250, .inl m_person_c))] s.heap := hP
  refine lv_aload_n hx hb dX12_isDead_0 rfl (lv_at hl 0 rfl) ?_
  refine lv_iload_n hx hb dX12_isDead_1 rfl (lv_at hl 1 rfl) ?_
  refine lv_iconst (v := 3) hx hb dX12_isDead_2 (by decide) ?_
  refine ro_i (va_runV (As := [.int p0, .int 3]) (rest := []) ⟨hx, hb, hml, hown, hts⟩ (q_X12_has0 l g cI cJ cB cZ cL p0 3 m m_a m_thrown m_taped m_at m_token m_place m_value m_word m_bad m_badPlace m_fault m_faultPlace m_willing m_will m_forgot m_isDrawn m_x m_begin m_round m_roundCards m_fate m_any m_bothSend m_meanCards m_bestSum m_fitMany m_fitFirst m_fitSecond m_person_c s.heap.size hv_p0 (by decide) hv_m_taped hv_m_at hv_m_will hv_m_isDrawn ha_m_person_c) (cwV 2 hts (goodIn_app (g_4 (List.mem_cons_of_mem _ (List.mem_append_left _ (List.mem_of_getElem? (i := 0) rfl))) (List.mem_cons_of_mem _ (List.mem_append_left _ (List.mem_of_getElem? (i := 1) rfl))) (List.mem_cons_of_mem _ (List.mem_append_left _ (List.mem_of_getElem? (i := 2) rfl))) (List.mem_cons_of_mem _ (List.mem_append_left _ (List.mem_of_getElem? (i := 3) rfl))) (by decide +kernel)) (goodIn_sub (fun _ h => List.mem_cons_of_mem _ (List.mem_append_right _ (List.mem_append_left _ h))) good_v_X12_has0)) rfl rfl rfl (by decide +kernel) ⟨Nat.le_of_ble_eq_true rfl, Nat.le_of_ble_eq_true rfl⟩) (pv_RO (q := (RX12, TX12, 56)) (ci := 11) (q0 := 0) (wc := [(m, .inr (11, mG m_a m_thrown m_taped m_at m_token m_place m_value m_word m_bad m_badPlace m_fault m_faultPlace m_willing m_will m_forgot m_isDrawn m_x m_begin m_round m_roundCards m_fate m_any m_bothSend m_meanCards m_bestSum m_fitMany m_fitFirst m_fitSecond)), ((m_a 18), .inl (cI, 250, .inl m_person_c))]) hK hP [0, 1] rfl rfl rfl) rfl rfl hl.1 rfl (lv_room (Nat.le_of_ble_eq_true rfl)) dX12_isDead_3 ⟨Nat.le_of_ble_eq_true rfl, Nat.le_of_ble_eq_true rfl⟩) hS hA hP (fun r3 u3 H locs hw3 hP hS => ?_)
  refine lv_iconst (v := (-1)) hx hb dX12_isDead_6 (by decide) ?_
  refine lv_icmp_eq (tgt := 24) hx hb dX12_isDead_7 (by decide) (fun c7 => ?_) (fun c7 => ?_)
  · have f7 := (show r3.toInt = (-1) from z_eq rfl rfl c7)
    have r7a : ir r3.toInt (-1) (-1) := ir_eqa f7 (rg_all r3) (ir_c (-1)) (by decide) (by decide)
    refine lv_iconst (v := 0) hx hb dX12_isDead_24 (by decide) ?_
    subst hQ
    exact W.zret (v := 0) hx hb hr rfl (fun t ht hW => ⟨⟨0, (), rfl, (show ir (0 : Int32).toInt 0 1 by decide), trivial⟩, hS.F ht⟩) hS.2.2 dX12_isDead_25
  have f7 := (show r3.toInt ≠ (-1) from z_ne rfl rfl c7)
  refine lv_iload_n hx hb dX12_isDead_10 rfl (lv_at hl 2 rfl) ?_
  refine lv_aload_n hx hb dX12_isDead_11 rfl (lv_at hl 0 rfl) ?_
  refine lv_iload_n hx hb dX12_isDead_12 rfl (lv_at hl 1 rfl) ?_
  refine lv_iconst (v := 3) hx hb dX12_isDead_13 (by decide) ?_
  refine ro_i (va_runV (As := [.int p0, .int 3]) (rest := [.int p1]) ⟨hx, hb, hml, hown, hts⟩ (q_X12_has0 l g cI cJ cB cZ cL p0 3 m m_a m_thrown m_taped m_at m_token m_place m_value m_word m_bad m_badPlace m_fault m_faultPlace m_willing m_will m_forgot m_isDrawn m_x m_begin m_round m_roundCards m_fate m_any m_bothSend m_meanCards m_bestSum m_fitMany m_fitFirst m_fitSecond m_person_c H.size hv_p0 (by decide) hv_m_taped hv_m_at hv_m_will hv_m_isDrawn ha_m_person_c) (cwV 2 hts (goodIn_app (g_4 (List.mem_cons_of_mem _ (List.mem_append_left _ (List.mem_of_getElem? (i := 0) rfl))) (List.mem_cons_of_mem _ (List.mem_append_left _ (List.mem_of_getElem? (i := 1) rfl))) (List.mem_cons_of_mem _ (List.mem_append_left _ (List.mem_of_getElem? (i := 2) rfl))) (List.mem_cons_of_mem _ (List.mem_append_left _ (List.mem_of_getElem? (i := 3) rfl))) (by decide +kernel)) (goodIn_sub (fun _ h => List.mem_cons_of_mem _ (List.mem_append_right _ (List.mem_append_left _ h))) good_v_X12_has0)) rfl rfl rfl (by decide +kernel) ⟨Nat.le_of_ble_eq_true rfl, Nat.le_of_ble_eq_true rfl⟩) (pv_RO (q := (RX12, TX12, 56)) (ci := 11) (q0 := 0) (wc := [(m, .inr (11, mG m_a m_thrown m_taped m_at m_token m_place m_value m_word m_bad m_badPlace m_fault m_faultPlace m_willing m_will m_forgot m_isDrawn m_x m_begin m_round m_roundCards m_fate m_any m_bothSend m_meanCards m_bestSum m_fitMany m_fitFirst m_fitSecond)), ((m_a 18), .inl (cI, 250, .inl m_person_c))]) hK hP [0, 1] rfl rfl rfl) rfl rfl hl.1 rfl (lv_room (Nat.le_of_ble_eq_true rfl)) dX12_isDead_14 ⟨Nat.le_of_ble_eq_true rfl, Nat.le_of_ble_eq_true rfl⟩) hS hA hP (fun r14 u14 H locs hw14 hP hS => ?_)
  refine lv_icmp_lt (tgt := 24) hx hb dX12_isDead_17 (by decide) (fun c17 => ?_) (fun c17 => ?_)
  rotate_left 1
  · have f17 := (show r14.toInt ≤ p1.toInt from z_nlt rfl rfl c17)
    refine lv_iconst (v := 1) hx hb dX12_isDead_20 (by decide) ?_
    refine lv_goto (tgt := 25) hx hb dX12_isDead_21 (by decide) ?_
    subst hQ
    exact W.zret (v := 1) hx hb hr rfl (fun t ht hW => ⟨⟨1, (), rfl, (show ir (1 : Int32).toInt 0 1 by decide), trivial⟩, hS.F ht⟩) hS.2.2 dX12_isDead_25
  have f17 := (show p1.toInt < r14.toInt from z_lt rfl rfl c17)
  have r17a : ir p1.toInt (-2147483648) 2147483646 := ir_lta f17 (rg_all p1) (rg_all r14) (by decide)
  have r17b : ir r14.toInt (-2147483647) 2147483647 := ir_ltb f17 (rg_all p1) (rg_all r14) (by decide)
  refine lv_iconst (v := 0) hx hb dX12_isDead_24 (by decide) ?_
  subst hQ
  exact W.zret (v := 0) hx hb hr rfl (fun t ht hW => ⟨⟨0, (), rfl, (show ir (0 : Int32).toInt 0 1 by decide), trivial⟩, hS.F ht⟩) hS.2.2 dX12_isDead_25
def v_X12_asTold : List Cond := .code yX12_asTold cX12_asTold 6 none :: (([.methodLink RX12 321 yX12_whoOf, .instanceMethod yX12_whoOf, .selects RX12 yX12_whoOf yX12_whoOf, .initialized RX12, .fieldLink RX12 53 "CardsAtYuleModel" "ruleNow" "[I", .methodLink RX12 324 yX12_ruleOf, .instanceMethod yX12_ruleOf, .selects RX12 yX12_ruleOf yX12_ruleOf, .fieldLink RX12 71 "CardsAtYuleModel" "oddsNow" "[I", .methodLink RX12 273 yX12_has0, .instanceMethod yX12_has0, .selects RX12 yX12_has0 yX12_has0, .fieldLink RX12 56 "CardsAtYuleModel" "maySend" "[Z", .methodLink RX12 327 yX12_isDead, .instanceMethod yX12_isDead, .selects RX12 yX12_isDead yX12_isDead, .fieldLink RX12 59 "CardsAtYuleModel" "maycome" "[Z", .fieldLink RX12 46 "CardsAtYuleModel" "strikes" "[J", .fieldLink RX12 43 "CardsAtYuleModel" "lost" "[J"] : List Cond) ++ (v_X12_whoOf ++ (v_X12_ruleOf ++ (v_X12_has0 ++ (v_X12_isDead ++ (wsX120 ++ ([] : List Cond)))))))
theorem good_v_X12_asTold : v_X12_asTold.all goodWord = true := ga_c (by decide +kernel) (ga_a (by decide +kernel) (ga_a good_v_X12_whoOf (ga_a good_v_X12_ruleOf (ga_a good_v_X12_has0 (ga_a good_v_X12_isDead (ga_a good_wsX120 rfl))))))
set_option maxHeartbeats 4000000 in
set_option maxRecDepth 100000 in
theorem q_X12_asTold (l : Launch) (g : va_G) (cI cJ cB cZ cL : ClassId) (p0 : Int32) (p1 : Int32) (m : Nat) (m_a : Nat → Nat) (m_thrown : Int32) (m_taped : Int32) (m_at : Int32) (m_token : Int32) (m_place : Int32) (m_value : Int32) (m_word : Int64) (m_bad : Int32) (m_badPlace : Int32) (m_fault : Int32) (m_faultPlace : Int32) (m_willing : Int32) (m_will : Int32) (m_forgot : Int32) (m_isDrawn : Int32) (m_x : Int64) (m_begin : Int32) (m_round : Int32) (m_roundCards : Int32) (m_fate : Int32) (m_any : Int64) (m_bothSend : Int64) (m_meanCards : Int64) (m_bestSum : Int32) (m_fitMany : Int32) (m_fitFirst : Int64) (m_fitSecond : Int64) (m_pair_c : Nat → Int32) (m_person_c : Nat → Int32) (m_ruleNow_c : Nat → Int32) (m_oddsNow_c : Nat → Int32) (m_maySend_c : Nat → Int32) (m_strikes_c : Nat → Int64) (m_lost_c : Nat → Int64) (m_maycome_c : Nat → Int32) (sz : Nat) (hv_p0 : ir p0.toInt 0 15) (hv_m_taped : ir m_taped.toInt 0 1600) (hv_m_at : ir m_at.toInt 0 1600) (hv_m_will : ir m_will.toInt 0 1) (hv_m_isDrawn : ir m_isDrawn.toInt 0 1) (ha_m_pair_c : ar m_pair_c 240 0 15) (ha_m_person_c : perI m_person_c) : Met l yX12_asTold v_X12_asTold ({ frames := 2, cells := 0, slots := 0, locals := 44 }) (va_Pc [.ref m, .int p0, .int p1] (pRW g (tyT cI cJ cB cZ cL) [(m, .inr (11, mG m_a m_thrown m_taped m_at m_token m_place m_value m_word m_bad m_badPlace m_fault m_faultPlace m_willing m_will m_forgot m_isDrawn m_x m_begin m_round m_roundCards m_fate m_any m_bothSend m_meanCards m_bestSum m_fitMany m_fitFirst m_fitSecond)), ((m_a 19), .inl (cI, 240, .inl m_pair_c)), ((m_a 18), .inl (cI, 250, .inl m_person_c)), ((m_a 23), .inl (cI, 2, .inl m_ruleNow_c)), ((m_a 33), .inl (cI, 2, .inl m_oddsNow_c)), ((m_a 24), .inl (cZ, 2, .inl m_maySend_c)), ((m_a 21), .inl (cJ, 5, .inr (.inl m_strikes_c))), ((m_a 20), .inl (cJ, 160, .inr (.inl m_lost_c))), ((m_a 25), .inl (cZ, 2, .inl m_maycome_c))] sz)) (va_Qv (fun (u : (Nat → Int32) × (Nat → Int32) × (Nat → Int32) × (Nat → Int32)) => match u with | (n_m_ruleNow_c, n_m_oddsNow_c, n_m_maySend_c, n_m_maycome_c) => True) (fun (u : (Nat → Int32) × (Nat → Int32) × (Nat → Int32) × (Nat → Int32)) (t : State) => bRW g (tyT cI cJ cB cZ cL) (va_A [(m, .inr (11, mG m_a m_thrown m_taped m_at m_token m_place m_value m_word m_bad m_badPlace m_fault m_faultPlace m_willing m_will m_forgot m_isDrawn m_x m_begin m_round m_roundCards m_fate m_any m_bothSend m_meanCards m_bestSum m_fitMany m_fitFirst m_fitSecond)), ((m_a 19), .inl (cI, 240, .inl m_pair_c)), ((m_a 18), .inl (cI, 250, .inl m_person_c)), ((m_a 23), .inl (cI, 2, .inl m_ruleNow_c)), ((m_a 33), .inl (cI, 2, .inl m_oddsNow_c)), ((m_a 24), .inl (cZ, 2, .inl m_maySend_c)), ((m_a 21), .inl (cJ, 5, .inr (.inl m_strikes_c))), ((m_a 20), .inl (cJ, 160, .inr (.inl m_lost_c))), ((m_a 25), .inl (cZ, 2, .inl m_maycome_c))] sz) (match u with | (n_m_ruleNow_c, n_m_oddsNow_c, n_m_maySend_c, n_m_maycome_c) => [(m, .inr (11, mG m_a m_thrown m_taped m_at m_token m_place m_value m_word m_bad m_badPlace m_fault m_faultPlace m_willing m_will m_forgot m_isDrawn m_x m_begin m_round m_roundCards m_fate m_any m_bothSend m_meanCards m_bestSum m_fitMany m_fitFirst m_fitSecond)), ((m_a 19), .inl (cI, 240, .inl m_pair_c)), ((m_a 18), .inl (cI, 250, .inl m_person_c)), ((m_a 23), .inl (cI, 2, .inl n_m_ruleNow_c)), ((m_a 33), .inl (cI, 2, .inl n_m_oddsNow_c)), ((m_a 24), .inl (cZ, 2, .inl n_m_maySend_c)), ((m_a 21), .inl (cJ, 5, .inr (.inl m_strikes_c))), ((m_a 20), .inl (cJ, 160, .inr (.inl m_lost_c))), ((m_a 25), .inl (cZ, 2, .inl n_m_maycome_c))]) t) (va_A [(m, .inr (11, mG m_a m_thrown m_taped m_at m_token m_place m_value m_word m_bad m_badPlace m_fault m_faultPlace m_willing m_will m_forgot m_isDrawn m_x m_begin m_round m_roundCards m_fate m_any m_bothSend m_meanCards m_bestSum m_fitMany m_fitFirst m_fitSecond)), ((m_a 19), .inl (cI, 240, .inl m_pair_c)), ((m_a 18), .inl (cI, 250, .inl m_person_c)), ((m_a 23), .inl (cI, 2, .inl m_ruleNow_c)), ((m_a 33), .inl (cI, 2, .inl m_oddsNow_c)), ((m_a 24), .inl (cZ, 2, .inl m_maySend_c)), ((m_a 21), .inl (cJ, 5, .inr (.inl m_strikes_c))), ((m_a 20), .inl (cJ, 160, .inr (.inl m_lost_c))), ((m_a 25), .inl (cZ, 2, .inl m_maycome_c))] sz)) 0 0 (va_A [(m, .inr (11, mG m_a m_thrown m_taped m_at m_token m_place m_value m_word m_bad m_badPlace m_fault m_faultPlace m_willing m_will m_forgot m_isDrawn m_x m_begin m_round m_roundCards m_fate m_any m_bothSend m_meanCards m_bestSum m_fitMany m_fitFirst m_fitSecond)), ((m_a 19), .inl (cI, 240, .inl m_pair_c)), ((m_a 18), .inl (cI, 250, .inl m_person_c)), ((m_a 23), .inl (cI, 2, .inl m_ruleNow_c)), ((m_a 33), .inl (cI, 2, .inl m_oddsNow_c)), ((m_a 24), .inl (cZ, 2, .inl m_maySend_c)), ((m_a 21), .inl (cJ, 5, .inr (.inl m_strikes_c))), ((m_a 20), .inl (cJ, 160, .inr (.inl m_lost_c))), ((m_a 25), .inl (cZ, 2, .inl m_maycome_c))] sz) := by
  refine Met.ofW (cc := cX12_asTold) (maxL := 6) (ret := none) (by decide) rfl ?_
  intro p e s mth args below meth c s₁ B hml hv
  obtain ⟨rfl, hsz, hP, hK, hD0⟩ := hv
  have hx := B.exec
  have hb := B.bytes
  have hr := B.returns
  have hts := atoms_spec (ws := v_X12_asTold) B.pre
  have hown : s.vm.findClass RX12 = some mth.cls := findClass_of_methodNamed B.named
  have hlocks := B.notSynchronized
  clear B
  subst hsz
  have iX12 : ∀ w ∈ wsX120, w ∈ v_X12_asTold := (fun _ h => List.mem_cons_of_mem _ (List.mem_append_right _ (List.mem_append_right _ (List.mem_append_right _ (List.mem_append_right _ (List.mem_append_right _ (List.mem_append_left _ h)))))))
  have hD := hD0.self (sz := s.heap.size)
  generalize hAe : (va_A [(m, .inr (11, mG m_a m_thrown m_taped m_at m_token m_place m_value m_word m_bad m_badPlace m_fault m_faultPlace m_willing m_will m_forgot m_isDrawn m_x m_begin m_round m_roundCards m_fate m_any m_bothSend m_meanCards m_bestSum m_fitMany m_fitFirst m_fitSecond)), ((m_a 19), .inl (cI, 240, .inl m_pair_c)), ((m_a 18), .inl (cI, 250, .inl m_person_c)), ((m_a 23), .inl (cI, 2, .inl m_ruleNow_c)), ((m_a 33), .inl (cI, 2, .inl m_oddsNow_c)), ((m_a 24), .inl (cZ, 2, .inl m_maySend_c)), ((m_a 21), .inl (cJ, 5, .inr (.inl m_strikes_c))), ((m_a 20), .inl (cJ, 160, .inr (.inl m_lost_c))), ((m_a 25), .inl (cZ, 2, .inl m_maycome_c))] s.heap.size) = A at hD ⊢
  have hA : ∀ q : Nat, s.heap.size ≤ q → A q := fun q h => by rw [← hAe]; exact Or.inr h
  have hS : va_S A s.heap s.heap [] := va_S.rf
  have hl := lv_entry ([.ref m, .int p0, .int p1]) (n := 6) (Nat.le_of_ble_eq_true rfl)
  rw [lg_entry_eq]
  generalize (lg_sl ([.ref m, .int p0, .int p1]) ++ List.replicate (6 - (lg_sl ([.ref m, .int p0, .int p1])).length) Slot.unset).toArray = ls at hl ⊢
  generalize ([.ref m, .int p0, .int p1] : List Value).toArray = av at hts ⊢
  generalize hQ : MQ below _ av s _ _ A = QQ
  have hl : lv_has ls 6 [(0, .ref m), (1, .int p0), (2, .int p1)] := hl
  have hP : va_P g vwCl [(m, .inr (11, mG m_a m_thrown m_taped m_at m_token m_place m_value m_word m_bad m_badPlace m_fault m_faultPlace m_willing m_will m_forgot m_isDrawn m_x m_begin m_round m_roundCards m_fate m_any m_bothSend m_meanCards m_bestSum m_fitMany m_fitFirst m_fitSecond)), ((m_a 19), .inl (cI, 240, .inl m_pair_c)), ((m_a 18), .inl (cI, 250, .inl m_person_c)), ((m_a 23), .inl (cI, 2, .inl m_ruleNow_c)), ((m_a 33), .inl (cI, 2, .inl m_oddsNow_c)), ((m_a 24), .inl (cZ, 2, .inl m_maySend_c)), ((m_a 21), .inl (cJ, 5, .inr (.inl m_strikes_c))), ((m_a 20), .inl (cJ, 160, .inr (.inl m_lost_c))), ((m_a 25), .inl (cZ, 2, .inl m_maycome_c))] s.heap := hP
  refine lv_iconst (v := 0) hx hb dX12_asTold_0 (by decide) ?_
  refine lv_istore_n (lv' := [(3, .int 0), (0, .ref m), (1, .int p0), (2, .int p1)]) hx hb dX12_asTold_1 rfl hl (by decide) rfl (fun ls hl => ?_)
  have J2 : ∀ (n2 : Nat) (j2_l3 : Int32) (j2_m_a23_c : Nat → Int32) (j2_m_a33_c : Nat → Int32) (j2_m_a24_c : Nat → Int32) (j2_m_a25_c : Nat → Int32) (H : Heap) (locs : List Loc) (ls : Array Slot), (3 - j2_l3.toInt).toNat < n2 → (ir j2_l3.toInt 0 2) → va_P g vwCl [(m, .inr (11, mG m_a m_thrown m_taped m_at m_token m_place m_value m_word m_bad m_badPlace m_fault m_faultPlace m_willing m_will m_forgot m_isDrawn m_x m_begin m_round m_roundCards m_fate m_any m_bothSend m_meanCards m_bestSum m_fitMany m_fitFirst m_fitSecond)), ((m_a 19), .inl (cI, 240, .inl m_pair_c)), ((m_a 18), .inl (cI, 250, .inl m_person_c)), ((m_a 23), .inl (cI, 2, .inl j2_m_a23_c)), ((m_a 33), .inl (cI, 2, .inl j2_m_a33_c)), ((m_a 24), .inl (cZ, 2, .inl j2_m_a24_c)), ((m_a 21), .inl (cJ, 5, .inr (.inl m_strikes_c))), ((m_a 20), .inl (cJ, 160, .inr (.inl m_lost_c))), ((m_a 25), .inl (cZ, 2, .inl j2_m_a25_c))] H → va_D A [(m, .inr (11, mG m_a m_thrown m_taped m_at m_token m_place m_value m_word m_bad m_badPlace m_fault m_faultPlace m_willing m_will m_forgot m_isDrawn m_x m_begin m_round m_roundCards m_fate m_any m_bothSend m_meanCards m_bestSum m_fitMany m_fitFirst m_fitSecond)), ((m_a 19), .inl (cI, 240, .inl m_pair_c)), ((m_a 18), .inl (cI, 250, .inl m_person_c)), ((m_a 23), .inl (cI, 2, .inl j2_m_a23_c)), ((m_a 33), .inl (cI, 2, .inl j2_m_a33_c)), ((m_a 24), .inl (cZ, 2, .inl j2_m_a24_c)), ((m_a 21), .inl (cJ, 5, .inr (.inl m_strikes_c))), ((m_a 20), .inl (cJ, 160, .inr (.inl m_lost_c))), ((m_a 25), .inl (cZ, 2, .inl j2_m_a25_c))] → va_S A s.heap H locs → lv_has ls 6 [(0, .ref m), (1, .int p0), (2, .int p1), (3, .int j2_l3)] → W p l e (headSpec v_X12_asTold ({ frames := 2, cells := 0, slots := 0, locals := 44 })).room s mth av below meth c H locs 0 0 QQ (F0 mth 2 ls []) := by
    intro n2
    induction n2 with
    | zero => exact fun j2_l3 j2_m_a23_c j2_m_a33_c j2_m_a24_c j2_m_a25_c H locs ls hn => absurd hn (Nat.not_lt_zero _)
    | succ n2 ih2 =>
      intro j2_l3 j2_m_a23_c j2_m_a33_c j2_m_a24_c j2_m_a25_c H locs ls hn2 hj2_l3 hP hD hS hl
      refine lv_iload_n hx hb dX12_asTold_2 rfl (lv_at hl 3 rfl) ?_
      refine lv_iconst (v := 2) hx hb dX12_asTold_3 (by decide) ?_
      refine lv_icmp_ge (tgt := 143) hx hb dX12_asTold_4 (by decide) (fun c4 => ?_) (fun c4 => ?_)
      · have f4 := (show 2 ≤ j2_l3.toInt from z_le rfl rfl c4)
        have r4a : ir j2_l3.toInt 2 2 := ir_leb f4 (ir_c 2) hj2_l3 (by decide)
        subst hQ
        have hP9 := hP.sub (ws' := [(m, .inr (11, mG m_a m_thrown m_taped m_at m_token m_place m_value m_word m_bad m_badPlace m_fault m_faultPlace m_willing m_will m_forgot m_isDrawn m_x m_begin m_round m_roundCards m_fate m_any m_bothSend m_meanCards m_bestSum m_fitMany m_fitFirst m_fitSecond)), ((m_a 19), .inl (cI, 240, .inl m_pair_c)), ((m_a 18), .inl (cI, 250, .inl m_person_c)), ((m_a 23), .inl (cI, 2, .inl j2_m_a23_c)), ((m_a 33), .inl (cI, 2, .inl j2_m_a33_c)), ((m_a 24), .inl (cZ, 2, .inl j2_m_a24_c)), ((m_a 21), .inl (cJ, 5, .inr (.inl m_strikes_c))), ((m_a 20), .inl (cJ, 160, .inr (.inl m_lost_c))), ((m_a 25), .inl (cZ, 2, .inl j2_m_a25_c))]) [0, 1, 2, 3, 4, 5, 6, 7, 8] rfl
        have hD9 := hD.sub (ws' := [(m, .inr (11, mG m_a m_thrown m_taped m_at m_token m_place m_value m_word m_bad m_badPlace m_fault m_faultPlace m_willing m_will m_forgot m_isDrawn m_x m_begin m_round m_roundCards m_fate m_any m_bothSend m_meanCards m_bestSum m_fitMany m_fitFirst m_fitSecond)), ((m_a 19), .inl (cI, 240, .inl m_pair_c)), ((m_a 18), .inl (cI, 250, .inl m_person_c)), ((m_a 23), .inl (cI, 2, .inl j2_m_a23_c)), ((m_a 33), .inl (cI, 2, .inl j2_m_a33_c)), ((m_a 24), .inl (cZ, 2, .inl j2_m_a24_c)), ((m_a 21), .inl (cJ, 5, .inr (.inl m_strikes_c))), ((m_a 20), .inl (cJ, 160, .inr (.inl m_lost_c))), ((m_a 25), .inl (cZ, 2, .inl j2_m_a25_c))]) [0, 1, 2, 3, 4, 5, 6, 7, 8] (by decide) rfl
        exact W.vret hx hb hr (fun t ht hW => ⟨⟨(j2_m_a23_c, j2_m_a33_c, j2_m_a24_c, j2_m_a25_c), rfl, trivial, ⟨by rw [ht]; exact hP9, va_K.moved hW.alike hK, hD9⟩⟩, hS.F ht⟩) hS.2.2 dX12_asTold_143
      have f4 := (show j2_l3.toInt < 2 from z_nle rfl rfl c4)
      have r4a : ir j2_l3.toInt 0 1 := ir_lta f4 hj2_l3 (ir_c 2) (by decide)
      refine lv_aload_n hx hb dX12_asTold_7 rfl (lv_at hl 0 rfl) ?_
      refine lv_iload_n hx hb dX12_asTold_8 rfl (lv_at hl 1 rfl) ?_
      refine lv_iload_n hx hb dX12_asTold_9 rfl (lv_at hl 3 rfl) ?_
      refine ro_i (va_runV (As := [.int p0, .int j2_l3]) (rest := []) ⟨hx, hb, hml, hown, hts⟩ (q_X12_whoOf l g cI cJ cB cZ cL p0 j2_l3 m m_a m_thrown m_taped m_at m_token m_place m_value m_word m_bad m_badPlace m_fault m_faultPlace m_willing m_will m_forgot m_isDrawn m_x m_begin m_round m_roundCards m_fate m_any m_bothSend m_meanCards m_bestSum m_fitMany m_fitFirst m_fitSecond m_pair_c H.size hv_p0 r4a hv_m_taped hv_m_at hv_m_will hv_m_isDrawn ha_m_pair_c) (cwV 2 hts (goodIn_app (g_4 (List.mem_cons_of_mem _ (List.mem_append_left _ (List.mem_of_getElem? (i := 0) rfl))) (List.mem_cons_of_mem _ (List.mem_append_left _ (List.mem_of_getElem? (i := 1) rfl))) (List.mem_cons_of_mem _ (List.mem_append_left _ (List.mem_of_getElem? (i := 2) rfl))) (List.mem_cons_of_mem _ (List.mem_append_left _ (List.mem_of_getElem? (i := 3) rfl))) (by decide +kernel)) (goodIn_sub (fun _ h => List.mem_cons_of_mem _ (List.mem_append_right _ (List.mem_append_left _ h))) good_v_X12_whoOf)) rfl rfl rfl (by decide +kernel) ⟨Nat.le_of_ble_eq_true rfl, Nat.le_of_ble_eq_true rfl⟩) (pv_RO (q := (RX12, TX12, 56)) (ci := 11) (q0 := 0) (wc := [(m, .inr (11, mG m_a m_thrown m_taped m_at m_token m_place m_value m_word m_bad m_badPlace m_fault m_faultPlace m_willing m_will m_forgot m_isDrawn m_x m_begin m_round m_roundCards m_fate m_any m_bothSend m_meanCards m_bestSum m_fitMany m_fitFirst m_fitSecond)), ((m_a 19), .inl (cI, 240, .inl m_pair_c))]) hK hP [0, 1] rfl rfl rfl) rfl rfl hl.1 rfl (lv_room (Nat.le_of_ble_eq_true rfl)) dX12_asTold_10 ⟨Nat.le_of_ble_eq_true rfl, Nat.le_of_ble_eq_true rfl⟩) hS hA hP (fun r10 u10 H locs hw10 hP hS => ?_)
      obtain ⟨hw10_0, hw10_1⟩ := hw10
      have hw10_0 : r10 = whoV m_pair_c p0 j2_l3 := hw10_0
      refine lv_istore (lv' := [(4, .int r10), (0, .ref m), (1, .int p0), (2, .int p1), (3, .int j2_l3)]) hx hb dX12_asTold_13 hl (by decide) rfl (fun ls hl => ?_)
      refine lv_aload_n hx hb dX12_asTold_15 rfl (lv_at hl 1 rfl) ?_
      refine lv_iload_n hx hb dX12_asTold_16 rfl (lv_at hl 2 rfl) ?_
      refine lv_iconst (v := 1) hx hb dX12_asTold_17 (by decide) ?_
      refine lv_iload_n hx hb dX12_asTold_18 rfl (lv_at hl 4 rfl) ?_
      refine lv_isub hx hb dX12_asTold_19 ?_
      refine lv_topi (fun y19 e19 => ?_)
      have q19 : y19.toInt = 1 - j2_l3.toInt := by rw [e19]; exact su_z rfl rfl (ir_c 1) r4a (by decide) (by decide)
      have r19 : ir y19.toInt 0 1 := su_r q19 (ir_c 1) r4a (by decide) (by decide)
      refine ro_i (va_runV (As := [.int p0, .int y19]) (rest := []) ⟨hx, hb, hml, hown, hts⟩ (q_X12_whoOf l g cI cJ cB cZ cL p0 y19 m m_a m_thrown m_taped m_at m_token m_place m_value m_word m_bad m_badPlace m_fault m_faultPlace m_willing m_will m_forgot m_isDrawn m_x m_begin m_round m_roundCards m_fate m_any m_bothSend m_meanCards m_bestSum m_fitMany m_fitFirst m_fitSecond m_pair_c H.size hv_p0 r19 hv_m_taped hv_m_at hv_m_will hv_m_isDrawn ha_m_pair_c) (cwV 2 hts (goodIn_app (g_4 (List.mem_cons_of_mem _ (List.mem_append_left _ (List.mem_of_getElem? (i := 0) rfl))) (List.mem_cons_of_mem _ (List.mem_append_left _ (List.mem_of_getElem? (i := 1) rfl))) (List.mem_cons_of_mem _ (List.mem_append_left _ (List.mem_of_getElem? (i := 2) rfl))) (List.mem_cons_of_mem _ (List.mem_append_left _ (List.mem_of_getElem? (i := 3) rfl))) (by decide +kernel)) (goodIn_sub (fun _ h => List.mem_cons_of_mem _ (List.mem_append_right _ (List.mem_append_left _ h))) good_v_X12_whoOf)) rfl rfl rfl (by decide +kernel) ⟨Nat.le_of_ble_eq_true rfl, Nat.le_of_ble_eq_true rfl⟩) (pv_RO (q := (RX12, TX12, 56)) (ci := 11) (q0 := 0) (wc := [(m, .inr (11, mG m_a m_thrown m_taped m_at m_token m_place m_value m_word m_bad m_badPlace m_fault m_faultPlace m_willing m_will m_forgot m_isDrawn m_x m_begin m_round m_roundCards m_fate m_any m_bothSend m_meanCards m_bestSum m_fitMany m_fitFirst m_fitSecond)), ((m_a 19), .inl (cI, 240, .inl m_pair_c))]) hK hP [0, 1] rfl rfl rfl) rfl rfl hl.1 rfl (lv_room (Nat.le_of_ble_eq_true rfl)) dX12_asTold_20 ⟨Nat.le_of_ble_eq_true rfl, Nat.le_of_ble_eq_true rfl⟩) hS hA hP (fun r20 u20 H locs hw20 hP hS => ?_)
      obtain ⟨hw20_0, hw20_1⟩ := hw20
      have hw20_0 : r20 = whoV m_pair_c p0 y19 := hw20_0
      refine lv_istore (lv' := [(5, .int r20), (4, .int r10), (0, .ref m), (1, .int p0), (2, .int p1), (3, .int j2_l3)]) hx hb dX12_asTold_23 hl (by decide) rfl (fun ls hl => ?_)
      refine lv_aload_n hx hb dX12_asTold_25 rfl (lv_at hl 2 rfl) ?_
      refine va_get (D := g) (ci := 11) (v := .ref (m_a 23)) (C := RX12) (T := TX12) (N := 56) hx hb hts iX12 hown hK hP 0 rfl rfl 23 (by decide) (hts (.fieldLink RX12 53 "CardsAtYuleModel" "ruleNow" "[I") (List.mem_cons_of_mem _ (List.mem_append_left _ (List.mem_of_getElem? (i := 4) rfl)))) (fun _ h9 => h9) rfl dX12_asTold_26 ?_
      refine lv_iload_n hx hb dX12_asTold_29 rfl (lv_at hl 5 rfl) ?_
      refine lv_aload_n hx hb dX12_asTold_30 rfl (lv_at hl 2 rfl) ?_
      refine lv_iload hx hb dX12_asTold_31 (lv_at hl 1 rfl) ?_
      refine ro_i (va_runV (As := [.int r10]) (rest := [.int j2_l3, .ref (m_a 23)]) ⟨hx, hb, hml, hown, hts⟩ (q_X12_ruleOf l g cI cJ cB cZ cL r10 m m_a m_thrown m_taped m_at m_token m_place m_value m_word m_bad m_badPlace m_fault m_faultPlace m_willing m_will m_forgot m_isDrawn m_x m_begin m_round m_roundCards m_fate m_any m_bothSend m_meanCards m_bestSum m_fitMany m_fitFirst m_fitSecond m_person_c H.size hw10_1 hv_m_taped hv_m_at hv_m_will hv_m_isDrawn ha_m_person_c) (cwV 1 hts (goodIn_app (g_4 (List.mem_cons_of_mem _ (List.mem_append_left _ (List.mem_of_getElem? (i := 5) rfl))) (List.mem_cons_of_mem _ (List.mem_append_left _ (List.mem_of_getElem? (i := 6) rfl))) (List.mem_cons_of_mem _ (List.mem_append_left _ (List.mem_of_getElem? (i := 7) rfl))) (List.mem_cons_of_mem _ (List.mem_append_left _ (List.mem_of_getElem? (i := 3) rfl))) (by decide +kernel)) (goodIn_sub (fun _ h => List.mem_cons_of_mem _ (List.mem_append_right _ (List.mem_append_right _ (List.mem_append_left _ h)))) good_v_X12_ruleOf)) rfl rfl rfl (by decide +kernel) ⟨Nat.le_of_ble_eq_true rfl, Nat.le_of_ble_eq_true rfl⟩) (pv_RO (q := (RX12, TX12, 56)) (ci := 11) (q0 := 0) (wc := [(m, .inr (11, mG m_a m_thrown m_taped m_at m_token m_place m_value m_word m_bad m_badPlace m_fault m_faultPlace m_willing m_will m_forgot m_isDrawn m_x m_begin m_round m_roundCards m_fate m_any m_bothSend m_meanCards m_bestSum m_fitMany m_fitFirst m_fitSecond)), ((m_a 18), .inl (cI, 250, .inl m_person_c))]) hK hP [0, 2] rfl rfl rfl) rfl rfl hl.1 rfl (lv_room (Nat.le_of_ble_eq_true rfl)) dX12_asTold_33 ⟨Nat.le_of_ble_eq_true rfl, Nat.le_of_ble_eq_true rfl⟩) hS hA hP (fun r33 u33 H locs hw33 hP hS => ?_)
      obtain ⟨hw33_0, hw33_1⟩ := hw33
      have hw33_0 : r33 = ruV m_person_c r10 := hw33_0
      refine va_iast (D := g) hx hb hK hP hD hS 3 0 rfl rfl (vi_rg rfl r4a (by decide) (by decide)) dX12_asTold_36 (fun H locs hP hD hS => ?_)
      obtain ⟨g36, e36⟩ : ∃ z, z = upd j2_m_a23_c j2_l3.toNatClampNeg r33 := ⟨_, rfl⟩
      have hP : va_P g vwCl [(m, .inr (11, mG m_a m_thrown m_taped m_at m_token m_place m_value m_word m_bad m_badPlace m_fault m_faultPlace m_willing m_will m_forgot m_isDrawn m_x m_begin m_round m_roundCards m_fate m_any m_bothSend m_meanCards m_bestSum m_fitMany m_fitFirst m_fitSecond)), ((m_a 19), .inl (cI, 240, .inl m_pair_c)), ((m_a 18), .inl (cI, 250, .inl m_person_c)), ((m_a 23), .inl (cI, 2, .inl (upd j2_m_a23_c j2_l3.toNatClampNeg r33))), ((m_a 33), .inl (cI, 2, .inl j2_m_a33_c)), ((m_a 24), .inl (cZ, 2, .inl j2_m_a24_c)), ((m_a 21), .inl (cJ, 5, .inr (.inl m_strikes_c))), ((m_a 20), .inl (cJ, 160, .inr (.inl m_lost_c))), ((m_a 25), .inl (cZ, 2, .inl j2_m_a25_c))] H := hP
      have hD : va_D A [(m, .inr (11, mG m_a m_thrown m_taped m_at m_token m_place m_value m_word m_bad m_badPlace m_fault m_faultPlace m_willing m_will m_forgot m_isDrawn m_x m_begin m_round m_roundCards m_fate m_any m_bothSend m_meanCards m_bestSum m_fitMany m_fitFirst m_fitSecond)), ((m_a 19), .inl (cI, 240, .inl m_pair_c)), ((m_a 18), .inl (cI, 250, .inl m_person_c)), ((m_a 23), .inl (cI, 2, .inl (upd j2_m_a23_c j2_l3.toNatClampNeg r33))), ((m_a 33), .inl (cI, 2, .inl j2_m_a33_c)), ((m_a 24), .inl (cZ, 2, .inl j2_m_a24_c)), ((m_a 21), .inl (cJ, 5, .inr (.inl m_strikes_c))), ((m_a 20), .inl (cJ, 160, .inr (.inl m_lost_c))), ((m_a 25), .inl (cZ, 2, .inl j2_m_a25_c))] := hD
      rw [← e36] at hP hD
      refine lv_aload_n hx hb dX12_asTold_37 rfl (lv_at hl 2 rfl) ?_
      refine va_get (D := g) (ci := 11) (v := .ref (m_a 33)) (C := RX12) (T := TX12) (N := 56) hx hb hts iX12 hown hK hP 0 rfl rfl 33 (by decide) (hts (.fieldLink RX12 71 "CardsAtYuleModel" "oddsNow" "[I") (List.mem_cons_of_mem _ (List.mem_append_left _ (List.mem_of_getElem? (i := 8) rfl)))) (fun _ h9 => h9) rfl dX12_asTold_38 ?_
      refine lv_iload_n hx hb dX12_asTold_41 rfl (lv_at hl 5 rfl) ?_
      refine lv_aload_n hx hb dX12_asTold_42 rfl (lv_at hl 2 rfl) ?_
      refine lv_iload hx hb dX12_asTold_43 (lv_at hl 1 rfl) ?_
      refine lv_iconst (v := 2) hx hb dX12_asTold_45 (by decide) ?_
      refine ro_i (va_runV (As := [.int r10, .int 2]) (rest := [.int j2_l3, .ref (m_a 33)]) ⟨hx, hb, hml, hown, hts⟩ (q_X12_has0 l g cI cJ cB cZ cL r10 2 m m_a m_thrown m_taped m_at m_token m_place m_value m_word m_bad m_badPlace m_fault m_faultPlace m_willing m_will m_forgot m_isDrawn m_x m_begin m_round m_roundCards m_fate m_any m_bothSend m_meanCards m_bestSum m_fitMany m_fitFirst m_fitSecond m_person_c H.size hw10_1 (by decide) hv_m_taped hv_m_at hv_m_will hv_m_isDrawn ha_m_person_c) (cwV 2 hts (goodIn_app (g_4 (List.mem_cons_of_mem _ (List.mem_append_left _ (List.mem_of_getElem? (i := 9) rfl))) (List.mem_cons_of_mem _ (List.mem_append_left _ (List.mem_of_getElem? (i := 10) rfl))) (List.mem_cons_of_mem _ (List.mem_append_left _ (List.mem_of_getElem? (i := 11) rfl))) (List.mem_cons_of_mem _ (List.mem_append_left _ (List.mem_of_getElem? (i := 3) rfl))) (by decide +kernel)) (goodIn_sub (fun _ h => List.mem_cons_of_mem _ (List.mem_append_right _ (List.mem_append_right _ (List.mem_append_right _ (List.mem_append_left _ h))))) good_v_X12_has0)) rfl rfl rfl (by decide +kernel) ⟨Nat.le_of_ble_eq_true rfl, Nat.le_of_ble_eq_true rfl⟩) (pv_RO (q := (RX12, TX12, 56)) (ci := 11) (q0 := 0) (wc := [(m, .inr (11, mG m_a m_thrown m_taped m_at m_token m_place m_value m_word m_bad m_badPlace m_fault m_faultPlace m_willing m_will m_forgot m_isDrawn m_x m_begin m_round m_roundCards m_fate m_any m_bothSend m_meanCards m_bestSum m_fitMany m_fitFirst m_fitSecond)), ((m_a 18), .inl (cI, 250, .inl m_person_c))]) hK hP [0, 2] rfl rfl rfl) rfl rfl hl.1 rfl (lv_room (Nat.le_of_ble_eq_true rfl)) dX12_asTold_46 ⟨Nat.le_of_ble_eq_true rfl, Nat.le_of_ble_eq_true rfl⟩) hS hA hP (fun r46 u46 H locs hw46 hP hS => ?_)
      refine va_iast (D := g) hx hb hK hP hD hS 4 0 rfl rfl (vi_rg rfl r4a (by decide) (by decide)) dX12_asTold_49 (fun H locs hP hD hS => ?_)
      obtain ⟨g49, e49⟩ : ∃ z, z = upd j2_m_a33_c j2_l3.toNatClampNeg r46 := ⟨_, rfl⟩
      have hP : va_P g vwCl [(m, .inr (11, mG m_a m_thrown m_taped m_at m_token m_place m_value m_word m_bad m_badPlace m_fault m_faultPlace m_willing m_will m_forgot m_isDrawn m_x m_begin m_round m_roundCards m_fate m_any m_bothSend m_meanCards m_bestSum m_fitMany m_fitFirst m_fitSecond)), ((m_a 19), .inl (cI, 240, .inl m_pair_c)), ((m_a 18), .inl (cI, 250, .inl m_person_c)), ((m_a 23), .inl (cI, 2, .inl g36)), ((m_a 33), .inl (cI, 2, .inl (upd j2_m_a33_c j2_l3.toNatClampNeg r46))), ((m_a 24), .inl (cZ, 2, .inl j2_m_a24_c)), ((m_a 21), .inl (cJ, 5, .inr (.inl m_strikes_c))), ((m_a 20), .inl (cJ, 160, .inr (.inl m_lost_c))), ((m_a 25), .inl (cZ, 2, .inl j2_m_a25_c))] H := hP
      have hD : va_D A [(m, .inr (11, mG m_a m_thrown m_taped m_at m_token m_place m_value m_word m_bad m_badPlace m_fault m_faultPlace m_willing m_will m_forgot m_isDrawn m_x m_begin m_round m_roundCards m_fate m_any m_bothSend m_meanCards m_bestSum m_fitMany m_fitFirst m_fitSecond)), ((m_a 19), .inl (cI, 240, .inl m_pair_c)), ((m_a 18), .inl (cI, 250, .inl m_person_c)), ((m_a 23), .inl (cI, 2, .inl g36)), ((m_a 33), .inl (cI, 2, .inl (upd j2_m_a33_c j2_l3.toNatClampNeg r46))), ((m_a 24), .inl (cZ, 2, .inl j2_m_a24_c)), ((m_a 21), .inl (cJ, 5, .inr (.inl m_strikes_c))), ((m_a 20), .inl (cJ, 160, .inr (.inl m_lost_c))), ((m_a 25), .inl (cZ, 2, .inl j2_m_a25_c))] := hD
      rw [← e49] at hP hD
      refine lv_aload_n hx hb dX12_asTold_50 rfl (lv_at hl 2 rfl) ?_
      refine va_get (D := g) (ci := 11) (v := .ref (m_a 24)) (C := RX12) (T := TX12) (N := 56) hx hb hts iX12 hown hK hP 0 rfl rfl 24 (by decide) (hts (.fieldLink RX12 56 "CardsAtYuleModel" "maySend" "[Z") (List.mem_cons_of_mem _ (List.mem_append_left _ (List.mem_of_getElem? (i := 12) rfl)))) (fun _ h9 => h9) rfl dX12_asTold_51 ?_
      refine lv_iload_n hx hb dX12_asTold_54 rfl (lv_at hl 5 rfl) ?_
      refine lv_aload_n hx hb dX12_asTold_55 rfl (lv_at hl 2 rfl) ?_
      refine lv_iload hx hb dX12_asTold_56 (lv_at hl 1 rfl) ?_
      refine lv_iload_n hx hb dX12_asTold_58 rfl (lv_at hl 4 rfl) ?_
      refine ro_i (va_runV (As := [.int r10, .int p1]) (rest := [.int j2_l3, .ref (m_a 24)]) ⟨hx, hb, hml, hown, hts⟩ (q_X12_isDead l g cI cJ cB cZ cL r10 p1 m m_a m_thrown m_taped m_at m_token m_place m_value m_word m_bad m_badPlace m_fault m_faultPlace m_willing m_will m_forgot m_isDrawn m_x m_begin m_round m_roundCards m_fate m_any m_bothSend m_meanCards m_bestSum m_fitMany m_fitFirst m_fitSecond m_person_c H.size hw10_1 hv_m_taped hv_m_at hv_m_will hv_m_isDrawn ha_m_person_c) (cwV 2 hts (goodIn_app (g_4 (List.mem_cons_of_mem _ (List.mem_append_left _ (List.mem_of_getElem? (i := 13) rfl))) (List.mem_cons_of_mem _ (List.mem_append_left _ (List.mem_of_getElem? (i := 14) rfl))) (List.mem_cons_of_mem _ (List.mem_append_left _ (List.mem_of_getElem? (i := 15) rfl))) (List.mem_cons_of_mem _ (List.mem_append_left _ (List.mem_of_getElem? (i := 3) rfl))) (by decide +kernel)) (goodIn_sub (fun _ h => List.mem_cons_of_mem _ (List.mem_append_right _ (List.mem_append_right _ (List.mem_append_right _ (List.mem_append_right _ (List.mem_append_left _ h)))))) good_v_X12_isDead)) rfl rfl rfl (by decide +kernel) ⟨Nat.le_of_ble_eq_true rfl, Nat.le_of_ble_eq_true rfl⟩) (pv_RO (q := (RX12, TX12, 56)) (ci := 11) (q0 := 0) (wc := [(m, .inr (11, mG m_a m_thrown m_taped m_at m_token m_place m_value m_word m_bad m_badPlace m_fault m_faultPlace m_willing m_will m_forgot m_isDrawn m_x m_begin m_round m_roundCards m_fate m_any m_bothSend m_meanCards m_bestSum m_fitMany m_fitFirst m_fitSecond)), ((m_a 18), .inl (cI, 250, .inl m_person_c))]) hK hP [0, 2] rfl rfl rfl) rfl rfl hl.1 rfl (lv_room (Nat.le_of_ble_eq_true rfl)) dX12_asTold_59 ⟨Nat.le_of_ble_eq_true rfl, Nat.le_of_ble_eq_true rfl⟩) hS hA hP (fun r59 u59 H locs hw59 hP hS => ?_)
      have hw59_0 := hw59
      have J70 : ∀ (j70_s0 : Int32) (H : Heap) (locs : List Loc) (ls : Array Slot), (ir j70_s0.toInt 0 1) → va_P g vwCl [(m, .inr (11, mG m_a m_thrown m_taped m_at m_token m_place m_value m_word m_bad m_badPlace m_fault m_faultPlace m_willing m_will m_forgot m_isDrawn m_x m_begin m_round m_roundCards m_fate m_any m_bothSend m_meanCards m_bestSum m_fitMany m_fitFirst m_fitSecond)), ((m_a 19), .inl (cI, 240, .inl m_pair_c)), ((m_a 18), .inl (cI, 250, .inl m_person_c)), ((m_a 23), .inl (cI, 2, .inl g36)), ((m_a 33), .inl (cI, 2, .inl g49)), ((m_a 24), .inl (cZ, 2, .inl j2_m_a24_c)), ((m_a 21), .inl (cJ, 5, .inr (.inl m_strikes_c))), ((m_a 20), .inl (cJ, 160, .inr (.inl m_lost_c))), ((m_a 25), .inl (cZ, 2, .inl j2_m_a25_c))] H → va_D A [(m, .inr (11, mG m_a m_thrown m_taped m_at m_token m_place m_value m_word m_bad m_badPlace m_fault m_faultPlace m_willing m_will m_forgot m_isDrawn m_x m_begin m_round m_roundCards m_fate m_any m_bothSend m_meanCards m_bestSum m_fitMany m_fitFirst m_fitSecond)), ((m_a 19), .inl (cI, 240, .inl m_pair_c)), ((m_a 18), .inl (cI, 250, .inl m_person_c)), ((m_a 23), .inl (cI, 2, .inl g36)), ((m_a 33), .inl (cI, 2, .inl g49)), ((m_a 24), .inl (cZ, 2, .inl j2_m_a24_c)), ((m_a 21), .inl (cJ, 5, .inr (.inl m_strikes_c))), ((m_a 20), .inl (cJ, 160, .inr (.inl m_lost_c))), ((m_a 25), .inl (cZ, 2, .inl j2_m_a25_c))] → va_S A s.heap H locs → lv_has ls 6 [(0, .ref m), (1, .int p0), (2, .int p1), (3, .int j2_l3), (5, .int r20)] → W p l e (headSpec v_X12_asTold ({ frames := 2, cells := 0, slots := 0, locals := 44 })).room s mth av below meth c H locs 0 0 QQ (F0 mth 70 ls [.int j70_s0, .int j2_l3, .ref (m_a 24)]) := by
        intro j70_s0 H locs ls hj70_s0 hP hD hS hl
        refine va_zast (D := g) hx hb hK hP hD hS 5 3 rfl rfl (vi_rg rfl r4a (by decide) (by decide)) dX12_asTold_70 (fun H locs hP hD hS => ?_)
        obtain ⟨g70, e70⟩ : ∃ z, z = upd j2_m_a24_c j2_l3.toNatClampNeg (vp_nar .boolean j70_s0) := ⟨_, rfl⟩
        have hP : va_P g vwCl [(m, .inr (11, mG m_a m_thrown m_taped m_at m_token m_place m_value m_word m_bad m_badPlace m_fault m_faultPlace m_willing m_will m_forgot m_isDrawn m_x m_begin m_round m_roundCards m_fate m_any m_bothSend m_meanCards m_bestSum m_fitMany m_fitFirst m_fitSecond)), ((m_a 19), .inl (cI, 240, .inl m_pair_c)), ((m_a 18), .inl (cI, 250, .inl m_person_c)), ((m_a 23), .inl (cI, 2, .inl g36)), ((m_a 33), .inl (cI, 2, .inl g49)), ((m_a 24), .inl (cZ, 2, .inl (upd j2_m_a24_c j2_l3.toNatClampNeg (vp_nar .boolean j70_s0)))), ((m_a 21), .inl (cJ, 5, .inr (.inl m_strikes_c))), ((m_a 20), .inl (cJ, 160, .inr (.inl m_lost_c))), ((m_a 25), .inl (cZ, 2, .inl j2_m_a25_c))] H := hP
        have hD : va_D A [(m, .inr (11, mG m_a m_thrown m_taped m_at m_token m_place m_value m_word m_bad m_badPlace m_fault m_faultPlace m_willing m_will m_forgot m_isDrawn m_x m_begin m_round m_roundCards m_fate m_any m_bothSend m_meanCards m_bestSum m_fitMany m_fitFirst m_fitSecond)), ((m_a 19), .inl (cI, 240, .inl m_pair_c)), ((m_a 18), .inl (cI, 250, .inl m_person_c)), ((m_a 23), .inl (cI, 2, .inl g36)), ((m_a 33), .inl (cI, 2, .inl g49)), ((m_a 24), .inl (cZ, 2, .inl (upd j2_m_a24_c j2_l3.toNatClampNeg (vp_nar .boolean j70_s0)))), ((m_a 21), .inl (cJ, 5, .inr (.inl m_strikes_c))), ((m_a 20), .inl (cJ, 160, .inr (.inl m_lost_c))), ((m_a 25), .inl (cZ, 2, .inl j2_m_a25_c))] := hD
        rw [← e70] at hP hD
        refine lv_aload_n hx hb dX12_asTold_71 rfl (lv_at hl 0 rfl) ?_
        refine va_get (D := g) (ci := 11) (v := .ref (m_a 25)) (C := RX12) (T := TX12) (N := 56) hx hb hts iX12 hown hK hP 0 rfl rfl 25 (by decide) (hts (.fieldLink RX12 59 "CardsAtYuleModel" "maycome" "[Z") (List.mem_cons_of_mem _ (List.mem_append_left _ (List.mem_of_getElem? (i := 16) rfl)))) (fun _ h9 => h9) rfl dX12_asTold_72 ?_
        refine lv_iload_n hx hb dX12_asTold_75 rfl (lv_at hl 3 rfl) ?_
        refine lv_aload_n hx hb dX12_asTold_76 rfl (lv_at hl 0 rfl) ?_
        refine va_get (D := g) (ci := 11) (v := .ref (m_a 21)) (C := RX12) (T := TX12) (N := 56) hx hb hts iX12 hown hK hP 0 rfl rfl 21 (by decide) (hts (.fieldLink RX12 46 "CardsAtYuleModel" "strikes" "[J") (List.mem_cons_of_mem _ (List.mem_append_left _ (List.mem_of_getElem? (i := 17) rfl)))) (fun _ h9 => h9) rfl dX12_asTold_77 ?_
        refine lv_iconst (v := 0) hx hb dX12_asTold_80 (by decide) ?_
        refine va_lald (D := g) hx hb hK hP 6 1 rfl rfl (vc_in (by decide)) dX12_asTold_81 ?_
        refine lv_topl (nm_r (e' := (m_strikes_c 0)) rfl ?_)
        refine lv_iload_n hx hb dX12_asTold_82 rfl (lv_at hl 2 rfl) ?_
        refine lv_lshr (v := ((m_strikes_c 0) >>> (p1.toInt64 &&& 63))) hx hb dX12_asTold_83 rfl ?_
        refine lv_topl (fun y83 e83 => ?_)
        refine lv_lconst (v := 1) hx hb dX12_asTold_84 (by decide) ?_
        refine lv_land hx hb dX12_asTold_85 ?_
        refine lv_topl (fun y85 e85 => ?_)
        have r85 : ir y85.toInt 0 1 := by rw [e85]; exact lan_y (by decide)
        refine lv_lconst (v := 0) hx hb dX12_asTold_86 (by decide) ?_
        refine W.lcmp hx hb dX12_asTold_87 ?_
        have J136 : ∀ (j136_s0 : Int32) (H : Heap) (locs : List Loc) (ls : Array Slot), (ir j136_s0.toInt 0 1) → va_P g vwCl [(m, .inr (11, mG m_a m_thrown m_taped m_at m_token m_place m_value m_word m_bad m_badPlace m_fault m_faultPlace m_willing m_will m_forgot m_isDrawn m_x m_begin m_round m_roundCards m_fate m_any m_bothSend m_meanCards m_bestSum m_fitMany m_fitFirst m_fitSecond)), ((m_a 19), .inl (cI, 240, .inl m_pair_c)), ((m_a 18), .inl (cI, 250, .inl m_person_c)), ((m_a 23), .inl (cI, 2, .inl g36)), ((m_a 33), .inl (cI, 2, .inl g49)), ((m_a 24), .inl (cZ, 2, .inl g70)), ((m_a 21), .inl (cJ, 5, .inr (.inl m_strikes_c))), ((m_a 20), .inl (cJ, 160, .inr (.inl m_lost_c))), ((m_a 25), .inl (cZ, 2, .inl j2_m_a25_c))] H → va_D A [(m, .inr (11, mG m_a m_thrown m_taped m_at m_token m_place m_value m_word m_bad m_badPlace m_fault m_faultPlace m_willing m_will m_forgot m_isDrawn m_x m_begin m_round m_roundCards m_fate m_any m_bothSend m_meanCards m_bestSum m_fitMany m_fitFirst m_fitSecond)), ((m_a 19), .inl (cI, 240, .inl m_pair_c)), ((m_a 18), .inl (cI, 250, .inl m_person_c)), ((m_a 23), .inl (cI, 2, .inl g36)), ((m_a 33), .inl (cI, 2, .inl g49)), ((m_a 24), .inl (cZ, 2, .inl g70)), ((m_a 21), .inl (cJ, 5, .inr (.inl m_strikes_c))), ((m_a 20), .inl (cJ, 160, .inr (.inl m_lost_c))), ((m_a 25), .inl (cZ, 2, .inl j2_m_a25_c))] → va_S A s.heap H locs → lv_has ls 6 [(0, .ref m), (1, .int p0), (2, .int p1), (3, .int j2_l3)] → W p l e (headSpec v_X12_asTold ({ frames := 2, cells := 0, slots := 0, locals := 44 })).room s mth av below meth c H locs 0 0 QQ (F0 mth 136 ls [.int j136_s0, .int j2_l3, .ref (m_a 25)]) := by
          intro j136_s0 H locs ls hj136_s0 hP hD hS hl
          refine va_zast (D := g) hx hb hK hP hD hS 8 3 rfl rfl (vi_rg rfl r4a (by decide) (by decide)) dX12_asTold_136 (fun H locs hP hD hS => ?_)
          obtain ⟨g136, e136⟩ : ∃ z, z = upd j2_m_a25_c j2_l3.toNatClampNeg (vp_nar .boolean j136_s0) := ⟨_, rfl⟩
          have hP : va_P g vwCl [(m, .inr (11, mG m_a m_thrown m_taped m_at m_token m_place m_value m_word m_bad m_badPlace m_fault m_faultPlace m_willing m_will m_forgot m_isDrawn m_x m_begin m_round m_roundCards m_fate m_any m_bothSend m_meanCards m_bestSum m_fitMany m_fitFirst m_fitSecond)), ((m_a 19), .inl (cI, 240, .inl m_pair_c)), ((m_a 18), .inl (cI, 250, .inl m_person_c)), ((m_a 23), .inl (cI, 2, .inl g36)), ((m_a 33), .inl (cI, 2, .inl g49)), ((m_a 24), .inl (cZ, 2, .inl g70)), ((m_a 21), .inl (cJ, 5, .inr (.inl m_strikes_c))), ((m_a 20), .inl (cJ, 160, .inr (.inl m_lost_c))), ((m_a 25), .inl (cZ, 2, .inl (upd j2_m_a25_c j2_l3.toNatClampNeg (vp_nar .boolean j136_s0))))] H := hP
          have hD : va_D A [(m, .inr (11, mG m_a m_thrown m_taped m_at m_token m_place m_value m_word m_bad m_badPlace m_fault m_faultPlace m_willing m_will m_forgot m_isDrawn m_x m_begin m_round m_roundCards m_fate m_any m_bothSend m_meanCards m_bestSum m_fitMany m_fitFirst m_fitSecond)), ((m_a 19), .inl (cI, 240, .inl m_pair_c)), ((m_a 18), .inl (cI, 250, .inl m_person_c)), ((m_a 23), .inl (cI, 2, .inl g36)), ((m_a 33), .inl (cI, 2, .inl g49)), ((m_a 24), .inl (cZ, 2, .inl g70)), ((m_a 21), .inl (cJ, 5, .inr (.inl m_strikes_c))), ((m_a 20), .inl (cJ, 160, .inr (.inl m_lost_c))), ((m_a 25), .inl (cZ, 2, .inl (upd j2_m_a25_c j2_l3.toNatClampNeg (vp_nar .boolean j136_s0))))] := hD
          rw [← e136] at hP hD
          obtain ⟨y137, e137⟩ : ∃ y : Int32, y = j2_l3 + 1 := ⟨_, rfl⟩
          have q137 : y137.toInt = j2_l3.toInt + 1 := by rw [e137]; exact ad_z rfl rfl r4a (ir_c 1) (by decide) (by decide)
          have r137 : ir y137.toInt 1 2 := ad_r q137 r4a (ir_c 1) (by decide) (by decide)
          refine lv_iinc (v := y137) (lv' := [(3, .int y137), (0, .ref m), (1, .int p0), (2, .int p1)]) hx hb dX12_asTold_137 hl (k := 3) rfl e137.symm (by decide) rfl (fun ls hl => ?_)
          refine lv_goto (tgt := 2) hx hb dX12_asTold_140 (by decide) ?_
          exact ih2 y137 g36 g49 g70 g136 _ _ _ (by omega) (ir_w r137 (by decide) (by decide)) (hP.sub [0, 1, 2, 3, 4, 5, 6, 7, 8] rfl) (hD.sub [0, 1, 2, 3, 4, 5, 6, 7, 8] (by decide) rfl) hS (lv_sub hl [1, 2, 3, 0] rfl)
        have J135 : ∀  (H : Heap) (locs : List Loc) (ls : Array Slot), va_P g vwCl [(m, .inr (11, mG m_a m_thrown m_taped m_at m_token m_place m_value m_word m_bad m_badPlace m_fault m_faultPlace m_willing m_will m_forgot m_isDrawn m_x m_begin m_round m_roundCards m_fate m_any m_bothSend m_meanCards m_bestSum m_fitMany m_fitFirst m_fitSecond)), ((m_a 19), .inl (cI, 240, .inl m_pair_c)), ((m_a 18), .inl (cI, 250, .inl m_person_c)), ((m_a 23), .inl (cI, 2, .inl g36)), ((m_a 33), .inl (cI, 2, .inl g49)), ((m_a 24), .inl (cZ, 2, .inl g70)), ((m_a 21), .inl (cJ, 5, .inr (.inl m_strikes_c))), ((m_a 20), .inl (cJ, 160, .inr (.inl m_lost_c))), ((m_a 25), .inl (cZ, 2, .inl j2_m_a25_c))] H → va_D A [(m, .inr (11, mG m_a m_thrown m_taped m_at m_token m_place m_value m_word m_bad m_badPlace m_fault m_faultPlace m_willing m_will m_forgot m_isDrawn m_x m_begin m_round m_roundCards m_fate m_any m_bothSend m_meanCards m_bestSum m_fitMany m_fitFirst m_fitSecond)), ((m_a 19), .inl (cI, 240, .inl m_pair_c)), ((m_a 18), .inl (cI, 250, .inl m_person_c)), ((m_a 23), .inl (cI, 2, .inl g36)), ((m_a 33), .inl (cI, 2, .inl g49)), ((m_a 24), .inl (cZ, 2, .inl g70)), ((m_a 21), .inl (cJ, 5, .inr (.inl m_strikes_c))), ((m_a 20), .inl (cJ, 160, .inr (.inl m_lost_c))), ((m_a 25), .inl (cZ, 2, .inl j2_m_a25_c))] → va_S A s.heap H locs → lv_has ls 6 [(0, .ref m), (1, .int p0), (2, .int p1), (3, .int j2_l3)] → W p l e (headSpec v_X12_asTold ({ frames := 2, cells := 0, slots := 0, locals := 44 })).room s mth av below meth c H locs 0 0 QQ (F0 mth 135 ls [.int j2_l3, .ref (m_a 25)]) := by
          intro  H locs ls  hP hD hS hl
          refine lv_iconst (v := 0) hx hb dX12_asTold_135 (by decide) ?_
          exact J136 0 _ _ _ (by decide) (hP.sub [0, 1, 2, 3, 4, 5, 6, 7, 8] rfl) (hD.sub [0, 1, 2, 3, 4, 5, 6, 7, 8] (by decide) rfl) hS (lv_sub hl [0, 1, 2, 3] rfl)
        refine lv_if_ne (tgt := 135) hx hb dX12_asTold_88 (by decide) (fun c88 => ?_) (fun c88 => ?_)
        · have f88 := (show y85.toInt ≠ 0 from y_ne rfl rfl c88)
          have r88a : ir y85.toInt 1 1 := ir_nel f88 r85 (by decide) (by decide)
          exact J135  _ _ _  (hP.sub [0, 1, 2, 3, 4, 5, 6, 7, 8] rfl) (hD.sub [0, 1, 2, 3, 4, 5, 6, 7, 8] (by decide) rfl) hS (lv_sub hl [0, 1, 2, 3] rfl)
        have f88 := (show y85.toInt = 0 from y_eq rfl rfl c88)
        have r88a : ir y85.toInt 0 0 := ir_eqa f88 r85 (ir_c 0) (by decide) (by decide)
        refine lv_aload_n hx hb dX12_asTold_91 rfl (lv_at hl 0 rfl) ?_
        refine va_get (D := g) (ci := 11) (v := .ref (m_a 20)) (C := RX12) (T := TX12) (N := 56) hx hb hts iX12 hown hK hP 0 rfl rfl 20 (by decide) (hts (.fieldLink RX12 43 "CardsAtYuleModel" "lost" "[J") (List.mem_cons_of_mem _ (List.mem_append_left _ (List.mem_of_getElem? (i := 18) rfl)))) (fun _ h9 => h9) rfl dX12_asTold_92 ?_
        refine lv_iconst (v := 2) hx hb dX12_asTold_95 (by decide) ?_
        refine lv_iload_n hx hb dX12_asTold_96 rfl (lv_at hl 1 rfl) ?_
        refine lv_imul hx hb dX12_asTold_97 ?_
        refine lv_topi (fun y97 e97 => ?_)
        have q97 : y97.toInt = 2 * p0.toInt := by rw [e97]; exact mu_z rfl rfl (ir_c 2) hv_p0 (by decide) (by decide) (by decide)
        have r97 : ir y97.toInt 0 30 := mu_r q97 (ir_c 2) hv_p0 (by decide) (by decide) (by decide) (by decide)
        refine lv_iload_n hx hb dX12_asTold_98 rfl (lv_at hl 3 rfl) ?_
        refine lv_iadd hx hb dX12_asTold_99 ?_
        refine lv_topi (fun y99 e99 => ?_)
        have q99 : y99.toInt = y97.toInt + j2_l3.toInt := by rw [e99]; exact ad_z rfl rfl r97 r4a (by decide) (by decide)
        have r99 : ir y99.toInt 0 31 := ad_r q99 r97 r4a (by decide) (by decide)
        refine va_lald (D := g) hx hb hK hP 7 1 rfl rfl (vi_rg rfl r99 (by decide) (by decide)) dX12_asTold_100 ?_
        refine lv_topl (fun y100 e100 => ?_)
        refine lv_iload_n hx hb dX12_asTold_101 rfl (lv_at hl 2 rfl) ?_
        refine lv_lshr (v := (y100 >>> (p1.toInt64 &&& 63))) hx hb dX12_asTold_102 rfl ?_
        refine lv_topl (fun y102 e102 => ?_)
        refine lv_lconst (v := 1) hx hb dX12_asTold_103 (by decide) ?_
        refine lv_land hx hb dX12_asTold_104 ?_
        refine lv_topl (fun y104 e104 => ?_)
        have r104 : ir y104.toInt 0 1 := by rw [e104]; exact lan_y (by decide)
        refine lv_lconst (v := 0) hx hb dX12_asTold_105 (by decide) ?_
        refine W.lcmp hx hb dX12_asTold_106 ?_
        refine lv_if_ne (tgt := 135) hx hb dX12_asTold_107 (by decide) (fun c107 => ?_) (fun c107 => ?_)
        · have f107 := (show y104.toInt ≠ 0 from y_ne rfl rfl c107)
          have r107a : ir y104.toInt 1 1 := ir_nel f107 r104 (by decide) (by decide)
          exact J135  _ _ _  (hP.sub [0, 1, 2, 3, 4, 5, 6, 7, 8] rfl) (hD.sub [0, 1, 2, 3, 4, 5, 6, 7, 8] (by decide) rfl) hS (lv_sub hl [0, 1, 2, 3] rfl)
        have f107 := (show y104.toInt = 0 from y_eq rfl rfl c107)
        have r107a : ir y104.toInt 0 0 := ir_eqa f107 r104 (ir_c 0) (by decide) (by decide)
        refine lv_aload_n hx hb dX12_asTold_110 rfl (lv_at hl 0 rfl) ?_
        refine lv_iload hx hb dX12_asTold_111 (lv_at hl 4 rfl) ?_
        refine lv_iload_n hx hb dX12_asTold_113 rfl (lv_at hl 2 rfl) ?_
        refine ro_i (va_runV (As := [.int r20, .int p1]) (rest := [.int j2_l3, .ref (m_a 25)]) ⟨hx, hb, hml, hown, hts⟩ (q_X12_isDead l g cI cJ cB cZ cL r20 p1 m m_a m_thrown m_taped m_at m_token m_place m_value m_word m_bad m_badPlace m_fault m_faultPlace m_willing m_will m_forgot m_isDrawn m_x m_begin m_round m_roundCards m_fate m_any m_bothSend m_meanCards m_bestSum m_fitMany m_fitFirst m_fitSecond m_person_c H.size hw20_1 hv_m_taped hv_m_at hv_m_will hv_m_isDrawn ha_m_person_c) (cwV 2 hts (goodIn_app (g_4 (List.mem_cons_of_mem _ (List.mem_append_left _ (List.mem_of_getElem? (i := 13) rfl))) (List.mem_cons_of_mem _ (List.mem_append_left _ (List.mem_of_getElem? (i := 14) rfl))) (List.mem_cons_of_mem _ (List.mem_append_left _ (List.mem_of_getElem? (i := 15) rfl))) (List.mem_cons_of_mem _ (List.mem_append_left _ (List.mem_of_getElem? (i := 3) rfl))) (by decide +kernel)) (goodIn_sub (fun _ h => List.mem_cons_of_mem _ (List.mem_append_right _ (List.mem_append_right _ (List.mem_append_right _ (List.mem_append_right _ (List.mem_append_left _ h)))))) good_v_X12_isDead)) rfl rfl rfl (by decide +kernel) ⟨Nat.le_of_ble_eq_true rfl, Nat.le_of_ble_eq_true rfl⟩) (pv_RO (q := (RX12, TX12, 56)) (ci := 11) (q0 := 0) (wc := [(m, .inr (11, mG m_a m_thrown m_taped m_at m_token m_place m_value m_word m_bad m_badPlace m_fault m_faultPlace m_willing m_will m_forgot m_isDrawn m_x m_begin m_round m_roundCards m_fate m_any m_bothSend m_meanCards m_bestSum m_fitMany m_fitFirst m_fitSecond)), ((m_a 18), .inl (cI, 250, .inl m_person_c))]) hK hP [0, 2] rfl rfl rfl) rfl rfl hl.1 rfl (lv_room (Nat.le_of_ble_eq_true rfl)) dX12_asTold_114 ⟨Nat.le_of_ble_eq_true rfl, Nat.le_of_ble_eq_true rfl⟩) hS hA hP (fun r114 u114 H locs hw114 hP hS => ?_)
        have hw114_0 := hw114
        refine lv_if_ne (tgt := 135) hx hb dX12_asTold_117 (by decide) (fun c117 => ?_) (fun c117 => ?_)
        · have f117 := (show r114.toInt ≠ 0 from z_ne rfl rfl c117)
          have r117a : ir r114.toInt 1 1 := ir_nel f117 hw114_0 (by decide) (by decide)
          exact J135  _ _ _  (hP.sub [0, 1, 2, 3, 4, 5, 6, 7, 8] rfl) (hD.sub [0, 1, 2, 3, 4, 5, 6, 7, 8] (by decide) rfl) hS (lv_sub hl [0, 1, 2, 3] rfl)
        have f117 := (show r114.toInt = 0 from z_eq rfl rfl c117)
        have r117a : ir r114.toInt 0 0 := ir_eqa f117 hw114_0 (ir_c 0) (by decide) (by decide)
        refine lv_aload_n hx hb dX12_asTold_120 rfl (lv_at hl 0 rfl) ?_
        refine lv_iload hx hb dX12_asTold_121 (lv_at hl 4 rfl) ?_
        refine lv_iconst (v := 4) hx hb dX12_asTold_123 (by decide) ?_
        refine ro_i (va_runV (As := [.int r20, .int 4]) (rest := [.int j2_l3, .ref (m_a 25)]) ⟨hx, hb, hml, hown, hts⟩ (q_X12_has0 l g cI cJ cB cZ cL r20 4 m m_a m_thrown m_taped m_at m_token m_place m_value m_word m_bad m_badPlace m_fault m_faultPlace m_willing m_will m_forgot m_isDrawn m_x m_begin m_round m_roundCards m_fate m_any m_bothSend m_meanCards m_bestSum m_fitMany m_fitFirst m_fitSecond m_person_c H.size hw20_1 (by decide) hv_m_taped hv_m_at hv_m_will hv_m_isDrawn ha_m_person_c) (cwV 2 hts (goodIn_app (g_4 (List.mem_cons_of_mem _ (List.mem_append_left _ (List.mem_of_getElem? (i := 9) rfl))) (List.mem_cons_of_mem _ (List.mem_append_left _ (List.mem_of_getElem? (i := 10) rfl))) (List.mem_cons_of_mem _ (List.mem_append_left _ (List.mem_of_getElem? (i := 11) rfl))) (List.mem_cons_of_mem _ (List.mem_append_left _ (List.mem_of_getElem? (i := 3) rfl))) (by decide +kernel)) (goodIn_sub (fun _ h => List.mem_cons_of_mem _ (List.mem_append_right _ (List.mem_append_right _ (List.mem_append_right _ (List.mem_append_left _ h))))) good_v_X12_has0)) rfl rfl rfl (by decide +kernel) ⟨Nat.le_of_ble_eq_true rfl, Nat.le_of_ble_eq_true rfl⟩) (pv_RO (q := (RX12, TX12, 56)) (ci := 11) (q0 := 0) (wc := [(m, .inr (11, mG m_a m_thrown m_taped m_at m_token m_place m_value m_word m_bad m_badPlace m_fault m_faultPlace m_willing m_will m_forgot m_isDrawn m_x m_begin m_round m_roundCards m_fate m_any m_bothSend m_meanCards m_bestSum m_fitMany m_fitFirst m_fitSecond)), ((m_a 18), .inl (cI, 250, .inl m_person_c))]) hK hP [0, 2] rfl rfl rfl) rfl rfl hl.1 rfl (lv_room (Nat.le_of_ble_eq_true rfl)) dX12_asTold_124 ⟨Nat.le_of_ble_eq_true rfl, Nat.le_of_ble_eq_true rfl⟩) hS hA hP (fun r124 u124 H locs hw124 hP hS => ?_)
        refine lv_iload_n hx hb dX12_asTold_127 rfl (lv_at hl 2 rfl) ?_
        refine lv_icmp_eq (tgt := 135) hx hb dX12_asTold_128 (by decide) (fun c128 => ?_) (fun c128 => ?_)
        · have f128 := (show r124.toInt = p1.toInt from z_eq rfl rfl c128)
          exact J135  _ _ _  (hP.sub [0, 1, 2, 3, 4, 5, 6, 7, 8] rfl) (hD.sub [0, 1, 2, 3, 4, 5, 6, 7, 8] (by decide) rfl) hS (lv_sub hl [0, 1, 2, 3] rfl)
        have f128 := (show r124.toInt ≠ p1.toInt from z_ne rfl rfl c128)
        refine lv_iconst (v := 1) hx hb dX12_asTold_131 (by decide) ?_
        refine lv_goto (tgt := 136) hx hb dX12_asTold_132 (by decide) ?_
        exact J136 1 _ _ _ (by decide) (hP.sub [0, 1, 2, 3, 4, 5, 6, 7, 8] rfl) (hD.sub [0, 1, 2, 3, 4, 5, 6, 7, 8] (by decide) rfl) hS (lv_sub hl [0, 1, 2, 3] rfl)
      refine lv_if_ne (tgt := 69) hx hb dX12_asTold_62 (by decide) (fun c62 => ?_) (fun c62 => ?_)
      · have f62 := (show r59.toInt ≠ 0 from z_ne rfl rfl c62)
        have r62a : ir r59.toInt 1 1 := ir_nel f62 hw59_0 (by decide) (by decide)
        refine lv_iconst (v := 0) hx hb dX12_asTold_69 (by decide) ?_
        exact J70 0 _ _ _ (by decide) (hP.sub [0, 1, 2, 3, 4, 5, 6, 7, 8] rfl) (hD.sub [0, 1, 2, 3, 4, 5, 6, 7, 8] (by decide) rfl) hS (lv_sub hl [2, 3, 4, 5, 0] rfl)
      have f62 := (show r59.toInt = 0 from z_eq rfl rfl c62)
      have r62a : ir r59.toInt 0 0 := ir_eqa f62 hw59_0 (ir_c 0) (by decide) (by decide)
      refine lv_iconst (v := 1) hx hb dX12_asTold_65 (by decide) ?_
      refine lv_goto (tgt := 70) hx hb dX12_asTold_66 (by decide) ?_
      exact J70 1 _ _ _ (by decide) (hP.sub [0, 1, 2, 3, 4, 5, 6, 7, 8] rfl) (hD.sub [0, 1, 2, 3, 4, 5, 6, 7, 8] (by decide) rfl) hS (lv_sub hl [2, 3, 4, 5, 0] rfl)
  exact J2 _ 0 m_ruleNow_c m_oddsNow_c m_maySend_c m_maycome_c _ _ _ (Nat.lt_succ_self _) (by decide) (hP.sub [0, 1, 2, 3, 4, 5, 6, 7, 8] rfl) (hD.sub [0, 1, 2, 3, 4, 5, 6, 7, 8] (by decide) rfl) hS (lv_sub hl [1, 2, 3, 0] rfl)
