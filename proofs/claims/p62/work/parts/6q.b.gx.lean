def v_fX12_yearOf : List Cond := .code yX12_yearOf cX12_yearOf 5 (some .int) :: (([.fieldLink RX12 65 "CardsAtYuleModel" "gets" "[Z", .fieldLink RX12 68 "CardsAtYuleModel" "willing" "I", .fieldLink RX12 56 "CardsAtYuleModel" "maySend" "[Z", .methodLink RX12 315 yX12_wouldSend, .instanceMethod yX12_wouldSend, .selects RX12 yX12_wouldSend yX12_wouldSend, .initialized RX12, .methodLink RX12 318 yX12_isForgotten, .instanceMethod yX12_isForgotten, .selects RX12 yX12_isForgotten yX12_isForgotten, .fieldLink RX12 62 "CardsAtYuleModel" "sent" "[I", .fieldLink RX12 74 "CardsAtYuleModel" "cameFirst" "[Z", .fieldLink RX12 59 "CardsAtYuleModel" "maycome" "[Z", .fieldLink RX12 53 "CardsAtYuleModel" "ruleNow" "[I"] : List Cond) ++ (v_fX12_wouldSend_0 ++ (v_fX12_isForgotten ++ (v_fX12_wouldSend_1 ++ (wsX120 ++ ([] : List Cond))))))
theorem good_v_fX12_yearOf : v_fX12_yearOf.all goodWord = true := ga_c (by decide +kernel) (ga_a (by decide +kernel) (ga_a good_v_fX12_wouldSend_0 (ga_a good_v_fX12_isForgotten (ga_a good_v_fX12_wouldSend_1 (ga_a good_wsX120 rfl)))))
set_option maxHeartbeats 4000000 in
set_option maxRecDepth 100000 in
theorem k_fX12_yearOf (l : Launch) (g : va_G) (cI cJ cB cZ cL : ClassId) (mo : Nat) (m_a : Nat → Nat) (m_thrown : Int32) (m_taped : Int32) (m_at : Int32) (m_token : Int32) (m_place : Int32) (m_value : Int32) (m_word : Int64) (m_bad : Int32) (m_badPlace : Int32) (m_fault : Int32) (m_faultPlace : Int32) (m_will : Int32) (m_forgot : Int32) (m_x : Int64) (m_any : Int64) (m_bothSend : Int64) (m_meanCards : Int64) (m_bestSum : Int32) (m_fitMany : Int32) (m_fitFirst : Int64) (m_fitSecond : Int64) (vb : Int32) (vr : Int32) (vc : Int32) (vf : Int32) (fr : Nat → Int32) (fm : Nat → Int32) (fc : Nat → Int32) (fs : Nat → Int32) (fg : Nat → Int32) (fk : Nat → Int32) (ra : Nat) (rb : Nat) (js : Nat) (sz : Nat) (hS_r0 : fr 0 = nI ra) (hS_r1 : fr 1 = nI rb) (hS_m0 : fm 0 = 1) (hS_m1 : fm 1 = 1) (hS_c0 : fc 0 = 1) (hS_c1 : fc 1 = 1) (hra : ra < 32) (hrb : rb < 32) (hjs : js < 16) : Met l yX12_yearOf v_fX12_yearOf ({ frames := 2, cells := 0, slots := 0, locals := 44 }) (va_Pc [.ref mo, .int (nI js)] (pRW g (tyT cI cJ cB cZ cL) [(mo, .inr (11, mG m_a m_thrown m_taped m_at m_token m_place m_value m_word m_bad m_badPlace m_fault m_faultPlace (-1) m_will m_forgot 0 m_x vb vr vc vf m_any m_bothSend m_meanCards m_bestSum m_fitMany m_fitFirst m_fitSecond)), ((m_a 23), .inl (cI, 2, .inl fr)), ((m_a 24), .inl (cZ, 2, .inl fm)), ((m_a 25), .inl (cZ, 2, .inl fc)), ((m_a 26), .inl (cI, 2, .inl fs)), ((m_a 27), .inl (cZ, 2, .inl fg)), ((m_a 34), .inl (cZ, 2, .inl fk))] sz)) (va_Qi (fun (r : Int32) (u : (Nat → Int32) × (Nat → Int32) × (Nat → Int32)) => match u with | (h1, h2, h3) => r = nI (nx ra rb js) ∧ ∃ v0 v1 : Nat, h1 0 = nI v0 ∧ h1 1 = nI v1 ∧ v0 ≤ 2 ∧ v1 ≤ 2 ∧ b1 v0 + b1 v1 = sc ra rb js) (fun (u : (Nat → Int32) × (Nat → Int32) × (Nat → Int32)) (t : State) => bRW g (tyT cI cJ cB cZ cL) (va_A [(mo, .inr (11, mG m_a m_thrown m_taped m_at m_token m_place m_value m_word m_bad m_badPlace m_fault m_faultPlace (-1) m_will m_forgot 0 m_x vb vr vc vf m_any m_bothSend m_meanCards m_bestSum m_fitMany m_fitFirst m_fitSecond)), ((m_a 23), .inl (cI, 2, .inl fr)), ((m_a 24), .inl (cZ, 2, .inl fm)), ((m_a 25), .inl (cZ, 2, .inl fc)), ((m_a 26), .inl (cI, 2, .inl fs)), ((m_a 27), .inl (cZ, 2, .inl fg)), ((m_a 34), .inl (cZ, 2, .inl fk))] sz) (match u with | (h1, h2, h3) => [(mo, .inr (11, mG m_a m_thrown m_taped m_at m_token m_place m_value m_word m_bad m_badPlace m_fault m_faultPlace (-1) m_will m_forgot 0 m_x vb vr vc vf m_any m_bothSend m_meanCards m_bestSum m_fitMany m_fitFirst m_fitSecond)), ((m_a 23), .inl (cI, 2, .inl fr)), ((m_a 24), .inl (cZ, 2, .inl fm)), ((m_a 25), .inl (cZ, 2, .inl fc)), ((m_a 26), .inl (cI, 2, .inl h1)), ((m_a 27), .inl (cZ, 2, .inl h2)), ((m_a 34), .inl (cZ, 2, .inl h3))]) t) (va_A [(mo, .inr (11, mG m_a m_thrown m_taped m_at m_token m_place m_value m_word m_bad m_badPlace m_fault m_faultPlace (-1) m_will m_forgot 0 m_x vb vr vc vf m_any m_bothSend m_meanCards m_bestSum m_fitMany m_fitFirst m_fitSecond)), ((m_a 23), .inl (cI, 2, .inl fr)), ((m_a 24), .inl (cZ, 2, .inl fm)), ((m_a 25), .inl (cZ, 2, .inl fc)), ((m_a 26), .inl (cI, 2, .inl fs)), ((m_a 27), .inl (cZ, 2, .inl fg)), ((m_a 34), .inl (cZ, 2, .inl fk))] sz)) 0 0 (va_A [(mo, .inr (11, mG m_a m_thrown m_taped m_at m_token m_place m_value m_word m_bad m_badPlace m_fault m_faultPlace (-1) m_will m_forgot 0 m_x vb vr vc vf m_any m_bothSend m_meanCards m_bestSum m_fitMany m_fitFirst m_fitSecond)), ((m_a 23), .inl (cI, 2, .inl fr)), ((m_a 24), .inl (cZ, 2, .inl fm)), ((m_a 25), .inl (cZ, 2, .inl fc)), ((m_a 26), .inl (cI, 2, .inl fs)), ((m_a 27), .inl (cZ, 2, .inl fg)), ((m_a 34), .inl (cZ, 2, .inl fk))] sz) := by
  refine Met.ofW (cc := cX12_yearOf) (maxL := 5) (ret := (some .int)) (by decide) rfl ?_
  intro p e s m args below meth c s₁ B hml hv
  obtain ⟨rfl, hsz, hP, hK, hD0⟩ := hv
  have hx := B.exec
  have hb := B.bytes
  have hr := B.returns
  have hts := atoms_spec (ws := v_fX12_yearOf) B.pre
  have hown : s.vm.findClass RX12 = some m.cls := findClass_of_methodNamed B.named
  have hlocks := B.notSynchronized
  subst hsz
  have iX12 : ∀ w ∈ wsX120, w ∈ v_fX12_yearOf := (fun _ h => List.mem_cons_of_mem _ (List.mem_append_right _ (List.mem_append_right _ (List.mem_append_right _ (List.mem_append_right _ (List.mem_append_left _ h))))))
  have hD := hD0.self (sz := s.heap.size)
  generalize hAe : (va_A [(mo, .inr (11, mG m_a m_thrown m_taped m_at m_token m_place m_value m_word m_bad m_badPlace m_fault m_faultPlace (-1) m_will m_forgot 0 m_x vb vr vc vf m_any m_bothSend m_meanCards m_bestSum m_fitMany m_fitFirst m_fitSecond)), ((m_a 23), .inl (cI, 2, .inl fr)), ((m_a 24), .inl (cZ, 2, .inl fm)), ((m_a 25), .inl (cZ, 2, .inl fc)), ((m_a 26), .inl (cI, 2, .inl fs)), ((m_a 27), .inl (cZ, 2, .inl fg)), ((m_a 34), .inl (cZ, 2, .inl fk))] s.heap.size) = A at hD ⊢
  have hA : ∀ q : Nat, s.heap.size ≤ q → A q := fun q h => by rw [← hAe]; exact Or.inr h
  have hS : va_S A s.heap s.heap [] := va_S.rf
  have hl := lv_entry ([.ref mo, .int (nI js)]) (n := 5) (Nat.le_of_ble_eq_true rfl)
  rw [lg_entry_eq]
  generalize (lg_sl ([.ref mo, .int (nI js)]) ++ List.replicate (5 - (lg_sl ([.ref mo, .int (nI js)])).length) Slot.unset).toArray = ls at hl ⊢
  have hl : lv_has ls 5 [(0, .ref mo), (1, .int (nI js))] := hl
  have hP : va_P g vwCl [(mo, .inr (11, mG m_a m_thrown m_taped m_at m_token m_place m_value m_word m_bad m_badPlace m_fault m_faultPlace (-1) m_will m_forgot 0 m_x vb vr vc vf m_any m_bothSend m_meanCards m_bestSum m_fitMany m_fitFirst m_fitSecond)), ((m_a 23), .inl (cI, 2, .inl fr)), ((m_a 24), .inl (cZ, 2, .inl fm)), ((m_a 25), .inl (cZ, 2, .inl fc)), ((m_a 26), .inl (cI, 2, .inl fs)), ((m_a 27), .inl (cZ, 2, .inl fg)), ((m_a 34), .inl (cZ, 2, .inl fk))] s.heap := hP
  refine lv_iconst (v := 0) hx hb dX12_yearOf_0 (by decide) ?_
  refine lv_istore_n (lv' := [(2, .int 0), (0, .ref mo), (1, .int (nI js))]) hx hb dX12_yearOf_1 rfl hl (by decide) rfl (fun ls hl => ?_)
  refine lv_iload_n hx hb dX12_yearOf_2 rfl (lv_at hl 0 rfl) ?_
  refine lv_iconst (v := 2) hx hb dX12_yearOf_3 (by decide) ?_
  refine lv_icmp_ge (tgt := 82) hx hb dX12_yearOf_4 (by decide) (fun c1 => absurd c1 (by decide)) (fun _ => ?_)
  refine lv_aload_n hx hb dX12_yearOf_7 rfl (lv_at hl 1 rfl) ?_
  refine va_get (D := g) (ci := 11) (v := .ref (m_a 27)) (C := RX12) (T := TX12) (N := 56) hx hb hts iX12 hown hK hP 0 rfl rfl 27 (by decide) (hts (.fieldLink RX12 65 "CardsAtYuleModel" "gets" "[Z") (List.mem_cons_of_mem _ (List.mem_append_left _ (List.mem_of_getElem? (i := 0) rfl)))) (fun _ h9 => h9) rfl dX12_yearOf_8 ?_
  refine lv_iload_n hx hb dX12_yearOf_11 rfl (lv_at hl 0 rfl) ?_
  refine lv_iconst (v := 0) hx hb dX12_yearOf_12 (by decide) ?_
  refine va_zast (D := g) hx hb hK hP hD hS 5 3 rfl rfl (vc_in (by decide)) dX12_yearOf_13 (fun H locs hP hD hS => ?_)
  have hP : va_P g vwCl [(mo, .inr (11, mG m_a m_thrown m_taped m_at m_token m_place m_value m_word m_bad m_badPlace m_fault m_faultPlace (-1) m_will m_forgot 0 m_x vb vr vc vf m_any m_bothSend m_meanCards m_bestSum m_fitMany m_fitFirst m_fitSecond)), ((m_a 23), .inl (cI, 2, .inl fr)), ((m_a 24), .inl (cZ, 2, .inl fm)), ((m_a 25), .inl (cZ, 2, .inl fc)), ((m_a 26), .inl (cI, 2, .inl fs)), ((m_a 27), .inl (cZ, 2, .inl (upd fg 0 0))), ((m_a 34), .inl (cZ, 2, .inl fk))] H := hP
  have hD : va_D A [(mo, .inr (11, mG m_a m_thrown m_taped m_at m_token m_place m_value m_word m_bad m_badPlace m_fault m_faultPlace (-1) m_will m_forgot 0 m_x vb vr vc vf m_any m_bothSend m_meanCards m_bestSum m_fitMany m_fitFirst m_fitSecond)), ((m_a 23), .inl (cI, 2, .inl fr)), ((m_a 24), .inl (cZ, 2, .inl fm)), ((m_a 25), .inl (cZ, 2, .inl fc)), ((m_a 26), .inl (cI, 2, .inl fs)), ((m_a 27), .inl (cZ, 2, .inl (upd fg 0 0))), ((m_a 34), .inl (cZ, 2, .inl fk))] := hD
  refine lv_iload_n hx hb dX12_yearOf_14 rfl (lv_at hl 0 rfl) ?_
  refine lv_aload_n hx hb dX12_yearOf_15 rfl (lv_at hl 1 rfl) ?_
  refine va_get (D := g) (ci := 11) (v := .int (-1)) (C := RX12) (T := TX12) (N := 56) hx hb hts iX12 hown hK hP 0 rfl rfl 28 (by decide) (hts (.fieldLink RX12 68 "CardsAtYuleModel" "willing" "I") (List.mem_cons_of_mem _ (List.mem_append_left _ (List.mem_of_getElem? (i := 1) rfl)))) (fun _ h9 => h9) rfl dX12_yearOf_16 ?_
  refine lv_icmp_ne (tgt := 29) hx hb dX12_yearOf_19 (by decide) (fun _ => ?_) (fun c2 => absurd c2 (by decide))
  refine lv_aload_n hx hb dX12_yearOf_29 rfl (lv_at hl 1 rfl) ?_
  refine va_get (D := g) (ci := 11) (v := .ref (m_a 24)) (C := RX12) (T := TX12) (N := 56) hx hb hts iX12 hown hK hP 0 rfl rfl 24 (by decide) (hts (.fieldLink RX12 56 "CardsAtYuleModel" "maySend" "[Z") (List.mem_cons_of_mem _ (List.mem_append_left _ (List.mem_of_getElem? (i := 2) rfl)))) (fun _ h9 => h9) rfl dX12_yearOf_30 ?_
  refine lv_iload_n hx hb dX12_yearOf_33 rfl (lv_at hl 0 rfl) ?_
  refine va_zald (D := g) hx hb hK hP 2 3 rfl rfl (vc_in (by decide)) dX12_yearOf_34 ?_
  refine lv_topi (nm_r (e' := 1) hS_m0 ?_)
  refine lv_if_eq (tgt := 59) hx hb dX12_yearOf_35 (by decide) (fun c3 => absurd c3 (by decide)) (fun _ => ?_)
  refine lv_aload_n hx hb dX12_yearOf_38 rfl (lv_at hl 1 rfl) ?_
  refine lv_iload_n hx hb dX12_yearOf_39 rfl (lv_at hl 0 rfl) ?_
  refine lv_iload_n hx hb dX12_yearOf_40 rfl (lv_at hl 2 rfl) ?_
  refine ro_i (va_runV (As := [.int 0, .int (nI js)]) (rest := []) ⟨hx, hb, hml, hown, hts⟩ (k_fX12_wouldSend_0 l g cI cJ cB cZ cL mo m_a m_thrown m_taped m_at m_token m_place m_value m_word m_bad m_badPlace m_fault m_faultPlace m_will m_forgot m_x m_any m_bothSend m_meanCards m_bestSum m_fitMany m_fitFirst m_fitSecond vb vr vc vf fr ra js H.size hS_r0 (by omega) (by omega)) (cwV 2 hts (goodIn_app (g_4 (List.mem_cons_of_mem _ (List.mem_append_left _ (List.mem_of_getElem? (i := 3) rfl))) (List.mem_cons_of_mem _ (List.mem_append_left _ (List.mem_of_getElem? (i := 4) rfl))) (List.mem_cons_of_mem _ (List.mem_append_left _ (List.mem_of_getElem? (i := 5) rfl))) (List.mem_cons_of_mem _ (List.mem_append_left _ (List.mem_of_getElem? (i := 6) rfl))) (by decide +kernel)) (goodIn_sub (fun _ h => List.mem_cons_of_mem _ (List.mem_append_right _ (List.mem_append_left _ h))) good_v_fX12_wouldSend_0)) rfl rfl rfl (by decide +kernel) ⟨Nat.le_of_ble_eq_true rfl, Nat.le_of_ble_eq_true rfl⟩) (pv_RO (q := (RX12, TX12, 56)) (ci := 11) (q0 := 0) (wc := [(mo, .inr (11, mG m_a m_thrown m_taped m_at m_token m_place m_value m_word m_bad m_badPlace m_fault m_faultPlace (-1) m_will m_forgot 0 m_x vb vr vc vf m_any m_bothSend m_meanCards m_bestSum m_fitMany m_fitFirst m_fitSecond)), ((m_a 23), .inl (cI, 2, .inl fr))]) hK hP [0, 1] rfl rfl rfl) rfl rfl hl.1 rfl (lv_room (Nat.le_of_ble_eq_true rfl)) dX12_yearOf_41 ⟨Nat.le_of_ble_eq_true rfl, Nat.le_of_ble_eq_true rfl⟩) hS hA hP (fun r4 u5 H locs hw6 hP hS => ?_)
  rcases hw6 with ⟨rfl, hw6_0⟩ | ⟨rfl, hw6_0⟩
  · refine lv_if_eq (tgt := 59) hx hb dX12_yearOf_44 (by decide) (fun c7 => absurd c7 (by decide)) (fun _ => ?_)
    refine lv_aload_n hx hb dX12_yearOf_47 rfl (lv_at hl 1 rfl) ?_
    refine lv_iload_n hx hb dX12_yearOf_48 rfl (lv_at hl 0 rfl) ?_
    refine ro_i (va_runV (As := [.int 0]) (rest := []) ⟨hx, hb, hml, hown, hts⟩ (k_fX12_isForgotten l g cI cJ cB cZ cL mo m_a m_thrown m_taped m_at m_token m_place m_value m_word m_bad m_badPlace m_fault m_faultPlace m_will m_forgot m_x m_any m_bothSend m_meanCards m_bestSum m_fitMany m_fitFirst m_fitSecond vb vr vc vf 0 H.size ) (cwV 1 hts (goodIn_app (g_4 (List.mem_cons_of_mem _ (List.mem_append_left _ (List.mem_of_getElem? (i := 7) rfl))) (List.mem_cons_of_mem _ (List.mem_append_left _ (List.mem_of_getElem? (i := 8) rfl))) (List.mem_cons_of_mem _ (List.mem_append_left _ (List.mem_of_getElem? (i := 9) rfl))) (List.mem_cons_of_mem _ (List.mem_append_left _ (List.mem_of_getElem? (i := 6) rfl))) (by decide +kernel)) (goodIn_sub (fun _ h => List.mem_cons_of_mem _ (List.mem_append_right _ (List.mem_append_right _ (List.mem_append_left _ h)))) good_v_fX12_isForgotten)) rfl rfl rfl (by decide +kernel) ⟨Nat.le_of_ble_eq_true rfl, Nat.le_of_ble_eq_true rfl⟩) (pv_RO (q := (RX12, TX12, 56)) (ci := 11) (q0 := 0) (wc := [(mo, .inr (11, mG m_a m_thrown m_taped m_at m_token m_place m_value m_word m_bad m_badPlace m_fault m_faultPlace (-1) m_will m_forgot 0 m_x vb vr vc vf m_any m_bothSend m_meanCards m_bestSum m_fitMany m_fitFirst m_fitSecond))]) hK hP [0] rfl rfl rfl) rfl rfl hl.1 rfl (lv_room (Nat.le_of_ble_eq_true rfl)) dX12_yearOf_49 ⟨Nat.le_of_ble_eq_true rfl, Nat.le_of_ble_eq_true rfl⟩) hS hA hP (fun r8 u9 H locs hw10 hP hS => ?_)
    subst hw10
    refine lv_if_ne (tgt := 59) hx hb dX12_yearOf_52 (by decide) (fun c11 => absurd c11 (by decide)) (fun _ => ?_)
    refine lv_iconst (v := 1) hx hb dX12_yearOf_55 (by decide) ?_
    refine lv_goto (tgt := 60) hx hb dX12_yearOf_56 (by decide) ?_
    refine lv_istore_n (lv' := [(3, .int 1), (2, .int 0), (0, .ref mo), (1, .int (nI js))]) hx hb dX12_yearOf_60 rfl hl (by decide) rfl (fun ls hl => ?_)
    refine lv_aload_n hx hb dX12_yearOf_61 rfl (lv_at hl 2 rfl) ?_
    refine va_get (D := g) (ci := 11) (v := .ref (m_a 26)) (C := RX12) (T := TX12) (N := 56) hx hb hts iX12 hown hK hP 0 rfl rfl 26 (by decide) (hts (.fieldLink RX12 62 "CardsAtYuleModel" "sent" "[I") (List.mem_cons_of_mem _ (List.mem_append_left _ (List.mem_of_getElem? (i := 10) rfl)))) (fun _ h9 => h9) rfl dX12_yearOf_62 ?_
    refine lv_iload_n hx hb dX12_yearOf_65 rfl (lv_at hl 1 rfl) ?_
    refine lv_iload_n hx hb dX12_yearOf_66 rfl (lv_at hl 0 rfl) ?_
    refine lv_if_eq (tgt := 74) hx hb dX12_yearOf_67 (by decide) (fun c12 => absurd c12 (by decide)) (fun _ => ?_)
    refine lv_iconst (v := 1) hx hb dX12_yearOf_70 (by decide) ?_
    refine lv_goto (tgt := 75) hx hb dX12_yearOf_71 (by decide) ?_
    refine va_iast (D := g) hx hb hK hP hD hS 4 0 rfl rfl (vc_in (by decide)) dX12_yearOf_75 (fun H locs hP hD hS => ?_)
    have hP : va_P g vwCl [(mo, .inr (11, mG m_a m_thrown m_taped m_at m_token m_place m_value m_word m_bad m_badPlace m_fault m_faultPlace (-1) m_will m_forgot 0 m_x vb vr vc vf m_any m_bothSend m_meanCards m_bestSum m_fitMany m_fitFirst m_fitSecond)), ((m_a 23), .inl (cI, 2, .inl fr)), ((m_a 24), .inl (cZ, 2, .inl fm)), ((m_a 25), .inl (cZ, 2, .inl fc)), ((m_a 26), .inl (cI, 2, .inl (upd fs 0 1))), ((m_a 27), .inl (cZ, 2, .inl (upd fg 0 0))), ((m_a 34), .inl (cZ, 2, .inl fk))] H := hP
    have hD : va_D A [(mo, .inr (11, mG m_a m_thrown m_taped m_at m_token m_place m_value m_word m_bad m_badPlace m_fault m_faultPlace (-1) m_will m_forgot 0 m_x vb vr vc vf m_any m_bothSend m_meanCards m_bestSum m_fitMany m_fitFirst m_fitSecond)), ((m_a 23), .inl (cI, 2, .inl fr)), ((m_a 24), .inl (cZ, 2, .inl fm)), ((m_a 25), .inl (cZ, 2, .inl fc)), ((m_a 26), .inl (cI, 2, .inl (upd fs 0 1))), ((m_a 27), .inl (cZ, 2, .inl (upd fg 0 0))), ((m_a 34), .inl (cZ, 2, .inl fk))] := hD
    refine lv_iinc (v := 1) (lv' := [(2, .int 1), (3, .int 1), (0, .ref mo), (1, .int (nI js))]) hx hb dX12_yearOf_76 hl (k := 1) rfl (by decide) (by decide) rfl (fun ls hl => ?_)
    refine lv_goto (tgt := 2) hx hb dX12_yearOf_79 (by decide) ?_
    refine lv_iload_n hx hb dX12_yearOf_2 rfl (lv_at hl 0 rfl) ?_
    refine lv_iconst (v := 2) hx hb dX12_yearOf_3 (by decide) ?_
    refine lv_icmp_ge (tgt := 82) hx hb dX12_yearOf_4 (by decide) (fun c13 => absurd c13 (by decide)) (fun _ => ?_)
    refine lv_aload_n hx hb dX12_yearOf_7 rfl (lv_at hl 2 rfl) ?_
    refine va_get (D := g) (ci := 11) (v := .ref (m_a 27)) (C := RX12) (T := TX12) (N := 56) hx hb hts iX12 hown hK hP 0 rfl rfl 27 (by decide) (hts (.fieldLink RX12 65 "CardsAtYuleModel" "gets" "[Z") (List.mem_cons_of_mem _ (List.mem_append_left _ (List.mem_of_getElem? (i := 0) rfl)))) (fun _ h9 => h9) rfl dX12_yearOf_8 ?_
    refine lv_iload_n hx hb dX12_yearOf_11 rfl (lv_at hl 0 rfl) ?_
    refine lv_iconst (v := 0) hx hb dX12_yearOf_12 (by decide) ?_
    refine va_zast (D := g) hx hb hK hP hD hS 5 3 rfl rfl (vc_in (by decide)) dX12_yearOf_13 (fun H locs hP hD hS => ?_)
    have hP : va_P g vwCl [(mo, .inr (11, mG m_a m_thrown m_taped m_at m_token m_place m_value m_word m_bad m_badPlace m_fault m_faultPlace (-1) m_will m_forgot 0 m_x vb vr vc vf m_any m_bothSend m_meanCards m_bestSum m_fitMany m_fitFirst m_fitSecond)), ((m_a 23), .inl (cI, 2, .inl fr)), ((m_a 24), .inl (cZ, 2, .inl fm)), ((m_a 25), .inl (cZ, 2, .inl fc)), ((m_a 26), .inl (cI, 2, .inl (upd fs 0 1))), ((m_a 27), .inl (cZ, 2, .inl (upd (upd fg 0 0) 1 0))), ((m_a 34), .inl (cZ, 2, .inl fk))] H := hP
    have hD : va_D A [(mo, .inr (11, mG m_a m_thrown m_taped m_at m_token m_place m_value m_word m_bad m_badPlace m_fault m_faultPlace (-1) m_will m_forgot 0 m_x vb vr vc vf m_any m_bothSend m_meanCards m_bestSum m_fitMany m_fitFirst m_fitSecond)), ((m_a 23), .inl (cI, 2, .inl fr)), ((m_a 24), .inl (cZ, 2, .inl fm)), ((m_a 25), .inl (cZ, 2, .inl fc)), ((m_a 26), .inl (cI, 2, .inl (upd fs 0 1))), ((m_a 27), .inl (cZ, 2, .inl (upd (upd fg 0 0) 1 0))), ((m_a 34), .inl (cZ, 2, .inl fk))] := hD
    refine lv_iload_n hx hb dX12_yearOf_14 rfl (lv_at hl 0 rfl) ?_
    refine lv_aload_n hx hb dX12_yearOf_15 rfl (lv_at hl 2 rfl) ?_
    refine va_get (D := g) (ci := 11) (v := .int (-1)) (C := RX12) (T := TX12) (N := 56) hx hb hts iX12 hown hK hP 0 rfl rfl 28 (by decide) (hts (.fieldLink RX12 68 "CardsAtYuleModel" "willing" "I") (List.mem_cons_of_mem _ (List.mem_append_left _ (List.mem_of_getElem? (i := 1) rfl)))) (fun _ h9 => h9) rfl dX12_yearOf_16 ?_
    refine lv_icmp_ne (tgt := 29) hx hb dX12_yearOf_19 (by decide) (fun _ => ?_) (fun c14 => absurd c14 (by decide))
    refine lv_aload_n hx hb dX12_yearOf_29 rfl (lv_at hl 2 rfl) ?_
    refine va_get (D := g) (ci := 11) (v := .ref (m_a 24)) (C := RX12) (T := TX12) (N := 56) hx hb hts iX12 hown hK hP 0 rfl rfl 24 (by decide) (hts (.fieldLink RX12 56 "CardsAtYuleModel" "maySend" "[Z") (List.mem_cons_of_mem _ (List.mem_append_left _ (List.mem_of_getElem? (i := 2) rfl)))) (fun _ h9 => h9) rfl dX12_yearOf_30 ?_
    refine lv_iload_n hx hb dX12_yearOf_33 rfl (lv_at hl 0 rfl) ?_
    refine va_zald (D := g) hx hb hK hP 2 3 rfl rfl (vc_in (by decide)) dX12_yearOf_34 ?_
    refine lv_topi (nm_r (e' := 1) hS_m1 ?_)
    refine lv_if_eq (tgt := 59) hx hb dX12_yearOf_35 (by decide) (fun c15 => absurd c15 (by decide)) (fun _ => ?_)
    refine lv_aload_n hx hb dX12_yearOf_38 rfl (lv_at hl 2 rfl) ?_
    refine lv_iload_n hx hb dX12_yearOf_39 rfl (lv_at hl 0 rfl) ?_
    refine lv_iload_n hx hb dX12_yearOf_40 rfl (lv_at hl 3 rfl) ?_
    refine ro_i (va_runV (As := [.int 1, .int (nI js)]) (rest := []) ⟨hx, hb, hml, hown, hts⟩ (k_fX12_wouldSend_1 l g cI cJ cB cZ cL mo m_a m_thrown m_taped m_at m_token m_place m_value m_word m_bad m_badPlace m_fault m_faultPlace m_will m_forgot m_x m_any m_bothSend m_meanCards m_bestSum m_fitMany m_fitFirst m_fitSecond vb vr vc vf fr rb js H.size hS_r1 (by omega) (by omega)) (cwV 2 hts (goodIn_app (g_4 (List.mem_cons_of_mem _ (List.mem_append_left _ (List.mem_of_getElem? (i := 3) rfl))) (List.mem_cons_of_mem _ (List.mem_append_left _ (List.mem_of_getElem? (i := 4) rfl))) (List.mem_cons_of_mem _ (List.mem_append_left _ (List.mem_of_getElem? (i := 5) rfl))) (List.mem_cons_of_mem _ (List.mem_append_left _ (List.mem_of_getElem? (i := 6) rfl))) (by decide +kernel)) (goodIn_sub (fun _ h => List.mem_cons_of_mem _ (List.mem_append_right _ (List.mem_append_right _ (List.mem_append_right _ (List.mem_append_left _ h))))) good_v_fX12_wouldSend_1)) rfl rfl rfl (by decide +kernel) ⟨Nat.le_of_ble_eq_true rfl, Nat.le_of_ble_eq_true rfl⟩) (pv_RO (q := (RX12, TX12, 56)) (ci := 11) (q0 := 0) (wc := [(mo, .inr (11, mG m_a m_thrown m_taped m_at m_token m_place m_value m_word m_bad m_badPlace m_fault m_faultPlace (-1) m_will m_forgot 0 m_x vb vr vc vf m_any m_bothSend m_meanCards m_bestSum m_fitMany m_fitFirst m_fitSecond)), ((m_a 23), .inl (cI, 2, .inl fr))]) hK hP [0, 1] rfl rfl rfl) rfl rfl hl.1 rfl (lv_room (Nat.le_of_ble_eq_true rfl)) dX12_yearOf_41 ⟨Nat.le_of_ble_eq_true rfl, Nat.le_of_ble_eq_true rfl⟩) hS hA hP (fun r16 u17 H locs hw18 hP hS => ?_)
    rcases hw18 with ⟨rfl, hw18_0⟩ | ⟨rfl, hw18_0⟩
    · refine lv_if_eq (tgt := 59) hx hb dX12_yearOf_44 (by decide) (fun c19 => absurd c19 (by decide)) (fun _ => ?_)
      refine lv_aload_n hx hb dX12_yearOf_47 rfl (lv_at hl 2 rfl) ?_
      refine lv_iload_n hx hb dX12_yearOf_48 rfl (lv_at hl 0 rfl) ?_
      refine ro_i (va_runV (As := [.int 1]) (rest := []) ⟨hx, hb, hml, hown, hts⟩ (k_fX12_isForgotten l g cI cJ cB cZ cL mo m_a m_thrown m_taped m_at m_token m_place m_value m_word m_bad m_badPlace m_fault m_faultPlace m_will m_forgot m_x m_any m_bothSend m_meanCards m_bestSum m_fitMany m_fitFirst m_fitSecond vb vr vc vf 1 H.size ) (cwV 1 hts (goodIn_app (g_4 (List.mem_cons_of_mem _ (List.mem_append_left _ (List.mem_of_getElem? (i := 7) rfl))) (List.mem_cons_of_mem _ (List.mem_append_left _ (List.mem_of_getElem? (i := 8) rfl))) (List.mem_cons_of_mem _ (List.mem_append_left _ (List.mem_of_getElem? (i := 9) rfl))) (List.mem_cons_of_mem _ (List.mem_append_left _ (List.mem_of_getElem? (i := 6) rfl))) (by decide +kernel)) (goodIn_sub (fun _ h => List.mem_cons_of_mem _ (List.mem_append_right _ (List.mem_append_right _ (List.mem_append_left _ h)))) good_v_fX12_isForgotten)) rfl rfl rfl (by decide +kernel) ⟨Nat.le_of_ble_eq_true rfl, Nat.le_of_ble_eq_true rfl⟩) (pv_RO (q := (RX12, TX12, 56)) (ci := 11) (q0 := 0) (wc := [(mo, .inr (11, mG m_a m_thrown m_taped m_at m_token m_place m_value m_word m_bad m_badPlace m_fault m_faultPlace (-1) m_will m_forgot 0 m_x vb vr vc vf m_any m_bothSend m_meanCards m_bestSum m_fitMany m_fitFirst m_fitSecond))]) hK hP [0] rfl rfl rfl) rfl rfl hl.1 rfl (lv_room (Nat.le_of_ble_eq_true rfl)) dX12_yearOf_49 ⟨Nat.le_of_ble_eq_true rfl, Nat.le_of_ble_eq_true rfl⟩) hS hA hP (fun r20 u21 H locs hw22 hP hS => ?_)
      subst hw22
      refine lv_if_ne (tgt := 59) hx hb dX12_yearOf_52 (by decide) (fun c23 => absurd c23 (by decide)) (fun _ => ?_)
      refine lv_iconst (v := 1) hx hb dX12_yearOf_55 (by decide) ?_
      refine lv_goto (tgt := 60) hx hb dX12_yearOf_56 (by decide) ?_
      refine lv_istore_n (lv' := [(3, .int 1), (2, .int 1), (0, .ref mo), (1, .int (nI js))]) hx hb dX12_yearOf_60 rfl hl (by decide) rfl (fun ls hl => ?_)
      refine lv_aload_n hx hb dX12_yearOf_61 rfl (lv_at hl 2 rfl) ?_
      refine va_get (D := g) (ci := 11) (v := .ref (m_a 26)) (C := RX12) (T := TX12) (N := 56) hx hb hts iX12 hown hK hP 0 rfl rfl 26 (by decide) (hts (.fieldLink RX12 62 "CardsAtYuleModel" "sent" "[I") (List.mem_cons_of_mem _ (List.mem_append_left _ (List.mem_of_getElem? (i := 10) rfl)))) (fun _ h9 => h9) rfl dX12_yearOf_62 ?_
      refine lv_iload_n hx hb dX12_yearOf_65 rfl (lv_at hl 1 rfl) ?_
      refine lv_iload_n hx hb dX12_yearOf_66 rfl (lv_at hl 0 rfl) ?_
      refine lv_if_eq (tgt := 74) hx hb dX12_yearOf_67 (by decide) (fun c24 => absurd c24 (by decide)) (fun _ => ?_)
      refine lv_iconst (v := 1) hx hb dX12_yearOf_70 (by decide) ?_
      refine lv_goto (tgt := 75) hx hb dX12_yearOf_71 (by decide) ?_
      refine va_iast (D := g) hx hb hK hP hD hS 4 0 rfl rfl (vc_in (by decide)) dX12_yearOf_75 (fun H locs hP hD hS => ?_)
      have hP : va_P g vwCl [(mo, .inr (11, mG m_a m_thrown m_taped m_at m_token m_place m_value m_word m_bad m_badPlace m_fault m_faultPlace (-1) m_will m_forgot 0 m_x vb vr vc vf m_any m_bothSend m_meanCards m_bestSum m_fitMany m_fitFirst m_fitSecond)), ((m_a 23), .inl (cI, 2, .inl fr)), ((m_a 24), .inl (cZ, 2, .inl fm)), ((m_a 25), .inl (cZ, 2, .inl fc)), ((m_a 26), .inl (cI, 2, .inl (upd (upd fs 0 1) 1 1))), ((m_a 27), .inl (cZ, 2, .inl (upd (upd fg 0 0) 1 0))), ((m_a 34), .inl (cZ, 2, .inl fk))] H := hP
      have hD : va_D A [(mo, .inr (11, mG m_a m_thrown m_taped m_at m_token m_place m_value m_word m_bad m_badPlace m_fault m_faultPlace (-1) m_will m_forgot 0 m_x vb vr vc vf m_any m_bothSend m_meanCards m_bestSum m_fitMany m_fitFirst m_fitSecond)), ((m_a 23), .inl (cI, 2, .inl fr)), ((m_a 24), .inl (cZ, 2, .inl fm)), ((m_a 25), .inl (cZ, 2, .inl fc)), ((m_a 26), .inl (cI, 2, .inl (upd (upd fs 0 1) 1 1))), ((m_a 27), .inl (cZ, 2, .inl (upd (upd fg 0 0) 1 0))), ((m_a 34), .inl (cZ, 2, .inl fk))] := hD
      refine lv_iinc (v := 2) (lv' := [(2, .int 2), (3, .int 1), (0, .ref mo), (1, .int (nI js))]) hx hb dX12_yearOf_76 hl (k := 1) rfl (by decide) (by decide) rfl (fun ls hl => ?_)
      refine lv_goto (tgt := 2) hx hb dX12_yearOf_79 (by decide) ?_
      refine lv_iload_n hx hb dX12_yearOf_2 rfl (lv_at hl 0 rfl) ?_
      refine lv_iconst (v := 2) hx hb dX12_yearOf_3 (by decide) ?_
      refine lv_icmp_ge (tgt := 82) hx hb dX12_yearOf_4 (by decide) (fun _ => ?_) (fun c25 => absurd c25 (by decide))
      refine lv_aload_n hx hb dX12_yearOf_82 rfl (lv_at hl 2 rfl) ?_
      refine va_get (D := g) (ci := 11) (v := .ref (m_a 34)) (C := RX12) (T := TX12) (N := 56) hx hb hts iX12 hown hK hP 0 rfl rfl 34 (by decide) (hts (.fieldLink RX12 74 "CardsAtYuleModel" "cameFirst" "[Z") (List.mem_cons_of_mem _ (List.mem_append_left _ (List.mem_of_getElem? (i := 11) rfl)))) (fun _ h9 => h9) rfl dX12_yearOf_83 ?_
      refine lv_astore_n (lv' := [(2, .ref (m_a 34)), (3, .int 1), (0, .ref mo), (1, .int (nI js))]) hx hb dX12_yearOf_86 rfl hl (by decide) rfl (fun ls hl => ?_)
      refine lv_iconst (v := 0) hx hb dX12_yearOf_87 (by decide) ?_
      refine lv_istore_n (lv' := [(3, .int 0), (2, .ref (m_a 34)), (0, .ref mo), (1, .int (nI js))]) hx hb dX12_yearOf_88 rfl hl (by decide) rfl (fun ls hl => ?_)
      refine lv_iload_n hx hb dX12_yearOf_89 rfl (lv_at hl 0 rfl) ?_
      refine lv_iconst (v := 2) hx hb dX12_yearOf_90 (by decide) ?_
      refine lv_icmp_ge (tgt := 131) hx hb dX12_yearOf_91 (by decide) (fun c26 => absurd c26 (by decide)) (fun _ => ?_)
      refine lv_aload_n hx hb dX12_yearOf_94 rfl (lv_at hl 1 rfl) ?_
      refine lv_iload_n hx hb dX12_yearOf_95 rfl (lv_at hl 0 rfl) ?_
      refine lv_aload_n hx hb dX12_yearOf_96 rfl (lv_at hl 2 rfl) ?_
      refine va_get (D := g) (ci := 11) (v := .ref (m_a 26)) (C := RX12) (T := TX12) (N := 56) hx hb hts iX12 hown hK hP 0 rfl rfl 26 (by decide) (hts (.fieldLink RX12 62 "CardsAtYuleModel" "sent" "[I") (List.mem_cons_of_mem _ (List.mem_append_left _ (List.mem_of_getElem? (i := 10) rfl)))) (fun _ h9 => h9) rfl dX12_yearOf_97 ?_
      refine lv_iconst (v := 1) hx hb dX12_yearOf_100 (by decide) ?_
      refine lv_iload_n hx hb dX12_yearOf_101 rfl (lv_at hl 0 rfl) ?_
      refine lv_isub hx hb dX12_yearOf_102 ?_
      refine lv_topi (nm_r (e' := 1) (by decide) ?_)
      refine va_iald (D := g) hx hb hK hP 4 0 rfl rfl (vc_in (by decide)) dX12_yearOf_103 ?_
      refine lv_topi (nm_r (e' := 1) rfl ?_)
      refine lv_iconst (v := 1) hx hb dX12_yearOf_104 (by decide) ?_
      refine lv_icmp_ne (tgt := 123) hx hb dX12_yearOf_105 (by decide) (fun c27 => absurd c27 (by decide)) (fun _ => ?_)
      refine lv_aload_n hx hb dX12_yearOf_108 rfl (lv_at hl 2 rfl) ?_
      refine va_get (D := g) (ci := 11) (v := .ref (m_a 25)) (C := RX12) (T := TX12) (N := 56) hx hb hts iX12 hown hK hP 0 rfl rfl 25 (by decide) (hts (.fieldLink RX12 59 "CardsAtYuleModel" "maycome" "[Z") (List.mem_cons_of_mem _ (List.mem_append_left _ (List.mem_of_getElem? (i := 12) rfl)))) (fun _ h9 => h9) rfl dX12_yearOf_109 ?_
      refine lv_iconst (v := 1) hx hb dX12_yearOf_112 (by decide) ?_
      refine lv_iload_n hx hb dX12_yearOf_113 rfl (lv_at hl 0 rfl) ?_
      refine lv_isub hx hb dX12_yearOf_114 ?_
      refine lv_topi (nm_r (e' := 1) (by decide) ?_)
      refine va_zald (D := g) hx hb hK hP 3 3 rfl rfl (vc_in (by decide)) dX12_yearOf_115 ?_
      refine lv_topi (nm_r (e' := 1) hS_c1 ?_)
      refine lv_if_eq (tgt := 123) hx hb dX12_yearOf_116 (by decide) (fun c28 => absurd c28 (by decide)) (fun _ => ?_)
      refine lv_iconst (v := 1) hx hb dX12_yearOf_119 (by decide) ?_
      refine lv_goto (tgt := 124) hx hb dX12_yearOf_120 (by decide) ?_
      refine va_zast (D := g) hx hb hK hP hD hS 6 3 rfl rfl (vc_in (by decide)) dX12_yearOf_124 (fun H locs hP hD hS => ?_)
      have hP : va_P g vwCl [(mo, .inr (11, mG m_a m_thrown m_taped m_at m_token m_place m_value m_word m_bad m_badPlace m_fault m_faultPlace (-1) m_will m_forgot 0 m_x vb vr vc vf m_any m_bothSend m_meanCards m_bestSum m_fitMany m_fitFirst m_fitSecond)), ((m_a 23), .inl (cI, 2, .inl fr)), ((m_a 24), .inl (cZ, 2, .inl fm)), ((m_a 25), .inl (cZ, 2, .inl fc)), ((m_a 26), .inl (cI, 2, .inl (upd (upd fs 0 1) 1 1))), ((m_a 27), .inl (cZ, 2, .inl (upd (upd fg 0 0) 1 0))), ((m_a 34), .inl (cZ, 2, .inl (upd fk 0 1)))] H := hP
      have hD : va_D A [(mo, .inr (11, mG m_a m_thrown m_taped m_at m_token m_place m_value m_word m_bad m_badPlace m_fault m_faultPlace (-1) m_will m_forgot 0 m_x vb vr vc vf m_any m_bothSend m_meanCards m_bestSum m_fitMany m_fitFirst m_fitSecond)), ((m_a 23), .inl (cI, 2, .inl fr)), ((m_a 24), .inl (cZ, 2, .inl fm)), ((m_a 25), .inl (cZ, 2, .inl fc)), ((m_a 26), .inl (cI, 2, .inl (upd (upd fs 0 1) 1 1))), ((m_a 27), .inl (cZ, 2, .inl (upd (upd fg 0 0) 1 0))), ((m_a 34), .inl (cZ, 2, .inl (upd fk 0 1)))] := hD
      refine lv_iinc (v := 1) (lv' := [(3, .int 1), (2, .ref (m_a 34)), (0, .ref mo), (1, .int (nI js))]) hx hb dX12_yearOf_125 hl (k := 0) rfl (by decide) (by decide) rfl (fun ls hl => ?_)
      refine lv_goto (tgt := 89) hx hb dX12_yearOf_128 (by decide) ?_
      refine lv_iload_n hx hb dX12_yearOf_89 rfl (lv_at hl 0 rfl) ?_
      refine lv_iconst (v := 2) hx hb dX12_yearOf_90 (by decide) ?_
      refine lv_icmp_ge (tgt := 131) hx hb dX12_yearOf_91 (by decide) (fun c29 => absurd c29 (by decide)) (fun _ => ?_)
      refine lv_aload_n hx hb dX12_yearOf_94 rfl (lv_at hl 1 rfl) ?_
      refine lv_iload_n hx hb dX12_yearOf_95 rfl (lv_at hl 0 rfl) ?_
      refine lv_aload_n hx hb dX12_yearOf_96 rfl (lv_at hl 2 rfl) ?_
      refine va_get (D := g) (ci := 11) (v := .ref (m_a 26)) (C := RX12) (T := TX12) (N := 56) hx hb hts iX12 hown hK hP 0 rfl rfl 26 (by decide) (hts (.fieldLink RX12 62 "CardsAtYuleModel" "sent" "[I") (List.mem_cons_of_mem _ (List.mem_append_left _ (List.mem_of_getElem? (i := 10) rfl)))) (fun _ h9 => h9) rfl dX12_yearOf_97 ?_
      refine lv_iconst (v := 1) hx hb dX12_yearOf_100 (by decide) ?_
      refine lv_iload_n hx hb dX12_yearOf_101 rfl (lv_at hl 0 rfl) ?_
      refine lv_isub hx hb dX12_yearOf_102 ?_
      refine lv_topi (nm_r (e' := 0) (by decide) ?_)
      refine va_iald (D := g) hx hb hK hP 4 0 rfl rfl (vc_in (by decide)) dX12_yearOf_103 ?_
      refine lv_topi (nm_r (e' := 1) rfl ?_)
      refine lv_iconst (v := 1) hx hb dX12_yearOf_104 (by decide) ?_
      refine lv_icmp_ne (tgt := 123) hx hb dX12_yearOf_105 (by decide) (fun c30 => absurd c30 (by decide)) (fun _ => ?_)
      refine lv_aload_n hx hb dX12_yearOf_108 rfl (lv_at hl 2 rfl) ?_
      refine va_get (D := g) (ci := 11) (v := .ref (m_a 25)) (C := RX12) (T := TX12) (N := 56) hx hb hts iX12 hown hK hP 0 rfl rfl 25 (by decide) (hts (.fieldLink RX12 59 "CardsAtYuleModel" "maycome" "[Z") (List.mem_cons_of_mem _ (List.mem_append_left _ (List.mem_of_getElem? (i := 12) rfl)))) (fun _ h9 => h9) rfl dX12_yearOf_109 ?_
      refine lv_iconst (v := 1) hx hb dX12_yearOf_112 (by decide) ?_
      refine lv_iload_n hx hb dX12_yearOf_113 rfl (lv_at hl 0 rfl) ?_
      refine lv_isub hx hb dX12_yearOf_114 ?_
      refine lv_topi (nm_r (e' := 0) (by decide) ?_)
      refine va_zald (D := g) hx hb hK hP 3 3 rfl rfl (vc_in (by decide)) dX12_yearOf_115 ?_
      refine lv_topi (nm_r (e' := 1) hS_c0 ?_)
      refine lv_if_eq (tgt := 123) hx hb dX12_yearOf_116 (by decide) (fun c31 => absurd c31 (by decide)) (fun _ => ?_)
      refine lv_iconst (v := 1) hx hb dX12_yearOf_119 (by decide) ?_
      refine lv_goto (tgt := 124) hx hb dX12_yearOf_120 (by decide) ?_
      refine va_zast (D := g) hx hb hK hP hD hS 6 3 rfl rfl (vc_in (by decide)) dX12_yearOf_124 (fun H locs hP hD hS => ?_)
      have hP : va_P g vwCl [(mo, .inr (11, mG m_a m_thrown m_taped m_at m_token m_place m_value m_word m_bad m_badPlace m_fault m_faultPlace (-1) m_will m_forgot 0 m_x vb vr vc vf m_any m_bothSend m_meanCards m_bestSum m_fitMany m_fitFirst m_fitSecond)), ((m_a 23), .inl (cI, 2, .inl fr)), ((m_a 24), .inl (cZ, 2, .inl fm)), ((m_a 25), .inl (cZ, 2, .inl fc)), ((m_a 26), .inl (cI, 2, .inl (upd (upd fs 0 1) 1 1))), ((m_a 27), .inl (cZ, 2, .inl (upd (upd fg 0 0) 1 0))), ((m_a 34), .inl (cZ, 2, .inl (upd (upd fk 0 1) 1 1)))] H := hP
      have hD : va_D A [(mo, .inr (11, mG m_a m_thrown m_taped m_at m_token m_place m_value m_word m_bad m_badPlace m_fault m_faultPlace (-1) m_will m_forgot 0 m_x vb vr vc vf m_any m_bothSend m_meanCards m_bestSum m_fitMany m_fitFirst m_fitSecond)), ((m_a 23), .inl (cI, 2, .inl fr)), ((m_a 24), .inl (cZ, 2, .inl fm)), ((m_a 25), .inl (cZ, 2, .inl fc)), ((m_a 26), .inl (cI, 2, .inl (upd (upd fs 0 1) 1 1))), ((m_a 27), .inl (cZ, 2, .inl (upd (upd fg 0 0) 1 0))), ((m_a 34), .inl (cZ, 2, .inl (upd (upd fk 0 1) 1 1)))] := hD
      refine lv_iinc (v := 2) (lv' := [(3, .int 2), (2, .ref (m_a 34)), (0, .ref mo), (1, .int (nI js))]) hx hb dX12_yearOf_125 hl (k := 0) rfl (by decide) (by decide) rfl (fun ls hl => ?_)
      refine lv_goto (tgt := 89) hx hb dX12_yearOf_128 (by decide) ?_
      refine lv_iload_n hx hb dX12_yearOf_89 rfl (lv_at hl 0 rfl) ?_
      refine lv_iconst (v := 2) hx hb dX12_yearOf_90 (by decide) ?_
      refine lv_icmp_ge (tgt := 131) hx hb dX12_yearOf_91 (by decide) (fun _ => ?_) (fun c32 => absurd c32 (by decide))
      refine lv_iconst (v := 0) hx hb dX12_yearOf_131 (by decide) ?_
      refine lv_istore_n (lv' := [(3, .int 0), (2, .ref (m_a 34)), (0, .ref mo), (1, .int (nI js))]) hx hb dX12_yearOf_132 rfl hl (by decide) rfl (fun ls hl => ?_)
      refine lv_iload_n hx hb dX12_yearOf_133 rfl (lv_at hl 0 rfl) ?_
      refine lv_iconst (v := 2) hx hb dX12_yearOf_134 (by decide) ?_
      refine lv_icmp_ge (tgt := 202) hx hb dX12_yearOf_135 (by decide) (fun c33 => absurd c33 (by decide)) (fun _ => ?_)
      refine lv_iload_n hx hb dX12_yearOf_138 rfl (lv_at hl 0 rfl) ?_
      refine lv_aload_n hx hb dX12_yearOf_139 rfl (lv_at hl 2 rfl) ?_
      refine va_get (D := g) (ci := 11) (v := .int (-1)) (C := RX12) (T := TX12) (N := 56) hx hb hts iX12 hown hK hP 0 rfl rfl 28 (by decide) (hts (.fieldLink RX12 68 "CardsAtYuleModel" "willing" "I") (List.mem_cons_of_mem _ (List.mem_append_left _ (List.mem_of_getElem? (i := 1) rfl)))) (fun _ h9 => h9) rfl dX12_yearOf_140 ?_
      refine lv_icmp_eq (tgt := 196) hx hb dX12_yearOf_143 (by decide) (fun c34 => absurd c34 (by decide)) (fun _ => ?_)
      refine lv_aload_n hx hb dX12_yearOf_146 rfl (lv_at hl 2 rfl) ?_
      refine va_get (D := g) (ci := 11) (v := .ref (m_a 24)) (C := RX12) (T := TX12) (N := 56) hx hb hts iX12 hown hK hP 0 rfl rfl 24 (by decide) (hts (.fieldLink RX12 56 "CardsAtYuleModel" "maySend" "[Z") (List.mem_cons_of_mem _ (List.mem_append_left _ (List.mem_of_getElem? (i := 2) rfl)))) (fun _ h9 => h9) rfl dX12_yearOf_147 ?_
      refine lv_iload_n hx hb dX12_yearOf_150 rfl (lv_at hl 0 rfl) ?_
      refine va_zald (D := g) hx hb hK hP 2 3 rfl rfl (vc_in (by decide)) dX12_yearOf_151 ?_
      refine lv_topi (nm_r (e' := 1) hS_m0 ?_)
      refine lv_if_eq (tgt := 196) hx hb dX12_yearOf_152 (by decide) (fun c35 => absurd c35 (by decide)) (fun _ => ?_)
      refine lv_aload_n hx hb dX12_yearOf_155 rfl (lv_at hl 2 rfl) ?_
      refine va_get (D := g) (ci := 11) (v := .ref (m_a 26)) (C := RX12) (T := TX12) (N := 56) hx hb hts iX12 hown hK hP 0 rfl rfl 26 (by decide) (hts (.fieldLink RX12 62 "CardsAtYuleModel" "sent" "[I") (List.mem_cons_of_mem _ (List.mem_append_left _ (List.mem_of_getElem? (i := 10) rfl)))) (fun _ h9 => h9) rfl dX12_yearOf_156 ?_
      refine lv_iload_n hx hb dX12_yearOf_159 rfl (lv_at hl 0 rfl) ?_
      refine va_iald (D := g) hx hb hK hP 4 0 rfl rfl (vc_in (by decide)) dX12_yearOf_160 ?_
      refine lv_topi (nm_r (e' := 1) rfl ?_)
      refine lv_if_ne (tgt := 196) hx hb dX12_yearOf_161 (by decide) (fun _ => ?_) (fun c36 => absurd c36 (by decide))
      refine lv_iinc (v := 1) (lv' := [(3, .int 1), (2, .ref (m_a 34)), (0, .ref mo), (1, .int (nI js))]) hx hb dX12_yearOf_196 hl (k := 0) rfl (by decide) (by decide) rfl (fun ls hl => ?_)
      refine lv_goto (tgt := 133) hx hb dX12_yearOf_199 (by decide) ?_
      refine lv_iload_n hx hb dX12_yearOf_133 rfl (lv_at hl 0 rfl) ?_
      refine lv_iconst (v := 2) hx hb dX12_yearOf_134 (by decide) ?_
      refine lv_icmp_ge (tgt := 202) hx hb dX12_yearOf_135 (by decide) (fun c37 => absurd c37 (by decide)) (fun _ => ?_)
      refine lv_iload_n hx hb dX12_yearOf_138 rfl (lv_at hl 0 rfl) ?_
      refine lv_aload_n hx hb dX12_yearOf_139 rfl (lv_at hl 2 rfl) ?_
      refine va_get (D := g) (ci := 11) (v := .int (-1)) (C := RX12) (T := TX12) (N := 56) hx hb hts iX12 hown hK hP 0 rfl rfl 28 (by decide) (hts (.fieldLink RX12 68 "CardsAtYuleModel" "willing" "I") (List.mem_cons_of_mem _ (List.mem_append_left _ (List.mem_of_getElem? (i := 1) rfl)))) (fun _ h9 => h9) rfl dX12_yearOf_140 ?_
      refine lv_icmp_eq (tgt := 196) hx hb dX12_yearOf_143 (by decide) (fun c38 => absurd c38 (by decide)) (fun _ => ?_)
      refine lv_aload_n hx hb dX12_yearOf_146 rfl (lv_at hl 2 rfl) ?_
      refine va_get (D := g) (ci := 11) (v := .ref (m_a 24)) (C := RX12) (T := TX12) (N := 56) hx hb hts iX12 hown hK hP 0 rfl rfl 24 (by decide) (hts (.fieldLink RX12 56 "CardsAtYuleModel" "maySend" "[Z") (List.mem_cons_of_mem _ (List.mem_append_left _ (List.mem_of_getElem? (i := 2) rfl)))) (fun _ h9 => h9) rfl dX12_yearOf_147 ?_
      refine lv_iload_n hx hb dX12_yearOf_150 rfl (lv_at hl 0 rfl) ?_
      refine va_zald (D := g) hx hb hK hP 2 3 rfl rfl (vc_in (by decide)) dX12_yearOf_151 ?_
      refine lv_topi (nm_r (e' := 1) hS_m1 ?_)
      refine lv_if_eq (tgt := 196) hx hb dX12_yearOf_152 (by decide) (fun c39 => absurd c39 (by decide)) (fun _ => ?_)
      refine lv_aload_n hx hb dX12_yearOf_155 rfl (lv_at hl 2 rfl) ?_
      refine va_get (D := g) (ci := 11) (v := .ref (m_a 26)) (C := RX12) (T := TX12) (N := 56) hx hb hts iX12 hown hK hP 0 rfl rfl 26 (by decide) (hts (.fieldLink RX12 62 "CardsAtYuleModel" "sent" "[I") (List.mem_cons_of_mem _ (List.mem_append_left _ (List.mem_of_getElem? (i := 10) rfl)))) (fun _ h9 => h9) rfl dX12_yearOf_156 ?_
      refine lv_iload_n hx hb dX12_yearOf_159 rfl (lv_at hl 0 rfl) ?_
      refine va_iald (D := g) hx hb hK hP 4 0 rfl rfl (vc_in (by decide)) dX12_yearOf_160 ?_
      refine lv_topi (nm_r (e' := 1) rfl ?_)
      refine lv_if_ne (tgt := 196) hx hb dX12_yearOf_161 (by decide) (fun _ => ?_) (fun c40 => absurd c40 (by decide))
      refine lv_iinc (v := 2) (lv' := [(3, .int 2), (2, .ref (m_a 34)), (0, .ref mo), (1, .int (nI js))]) hx hb dX12_yearOf_196 hl (k := 0) rfl (by decide) (by decide) rfl (fun ls hl => ?_)
      refine lv_goto (tgt := 133) hx hb dX12_yearOf_199 (by decide) ?_
      refine lv_iload_n hx hb dX12_yearOf_133 rfl (lv_at hl 0 rfl) ?_
      refine lv_iconst (v := 2) hx hb dX12_yearOf_134 (by decide) ?_
      refine lv_icmp_ge (tgt := 202) hx hb dX12_yearOf_135 (by decide) (fun _ => ?_) (fun c41 => absurd c41 (by decide))
      refine lv_iload_n hx hb dX12_yearOf_202 rfl (lv_at hl 3 rfl) ?_
      refine lv_iconst (v := 5) hx hb dX12_yearOf_203 (by decide) ?_
      refine lv_iand hx hb dX12_yearOf_204 ?_
      refine lv_iconst (v := 1) hx hb dX12_yearOf_205 (by decide) ?_
      refine lv_ishl hx hb dX12_yearOf_206 ?_
      refine lv_istore_n (lv' := [(3, .int (((nI js) &&& 5) <<< (1 &&& (31 : Int32)))), (2, .ref (m_a 34)), (0, .ref mo), (1, .int (nI js))]) hx hb dX12_yearOf_207 rfl hl (by decide) rfl (fun ls hl => ?_)
      refine lv_iconst (v := 0) hx hb dX12_yearOf_208 (by decide) ?_
      refine lv_istore (lv' := [(4, .int 0), (3, .int (((nI js) &&& 5) <<< (1 &&& (31 : Int32)))), (2, .ref (m_a 34)), (0, .ref mo), (1, .int (nI js))]) hx hb dX12_yearOf_209 hl (by decide) rfl (fun ls hl => ?_)
      refine lv_iload hx hb dX12_yearOf_211 (lv_at hl 0 rfl) ?_
      refine lv_iconst (v := 2) hx hb dX12_yearOf_213 (by decide) ?_
      refine lv_icmp_ge (tgt := 282) hx hb dX12_yearOf_214 (by decide) (fun c42 => absurd c42 (by decide)) (fun _ => ?_)
      refine lv_aload_n hx hb dX12_yearOf_217 rfl (lv_at hl 3 rfl) ?_
      refine va_get (D := g) (ci := 11) (v := .ref (m_a 27)) (C := RX12) (T := TX12) (N := 56) hx hb hts iX12 hown hK hP 0 rfl rfl 27 (by decide) (hts (.fieldLink RX12 65 "CardsAtYuleModel" "gets" "[Z") (List.mem_cons_of_mem _ (List.mem_append_left _ (List.mem_of_getElem? (i := 0) rfl)))) (fun _ h9 => h9) rfl dX12_yearOf_218 ?_
      refine lv_iload hx hb dX12_yearOf_221 (lv_at hl 0 rfl) ?_
      refine lv_aload_n hx hb dX12_yearOf_223 rfl (lv_at hl 3 rfl) ?_
      refine va_get (D := g) (ci := 11) (v := .ref (m_a 26)) (C := RX12) (T := TX12) (N := 56) hx hb hts iX12 hown hK hP 0 rfl rfl 26 (by decide) (hts (.fieldLink RX12 62 "CardsAtYuleModel" "sent" "[I") (List.mem_cons_of_mem _ (List.mem_append_left _ (List.mem_of_getElem? (i := 10) rfl)))) (fun _ h9 => h9) rfl dX12_yearOf_224 ?_
      refine lv_iconst (v := 1) hx hb dX12_yearOf_227 (by decide) ?_
      refine lv_iload hx hb dX12_yearOf_228 (lv_at hl 0 rfl) ?_
      refine lv_isub hx hb dX12_yearOf_230 ?_
      refine lv_topi (nm_r (e' := 1) (by decide) ?_)
      refine va_iald (D := g) hx hb hK hP 4 0 rfl rfl (vc_in (by decide)) dX12_yearOf_231 ?_
      refine lv_topi (nm_r (e' := 1) rfl ?_)
      refine lv_if_le (tgt := 251) hx hb dX12_yearOf_232 (by decide) (fun c43 => absurd c43 (by decide)) (fun _ => ?_)
      refine lv_aload_n hx hb dX12_yearOf_235 rfl (lv_at hl 3 rfl) ?_
      refine va_get (D := g) (ci := 11) (v := .ref (m_a 25)) (C := RX12) (T := TX12) (N := 56) hx hb hts iX12 hown hK hP 0 rfl rfl 25 (by decide) (hts (.fieldLink RX12 59 "CardsAtYuleModel" "maycome" "[Z") (List.mem_cons_of_mem _ (List.mem_append_left _ (List.mem_of_getElem? (i := 12) rfl)))) (fun _ h9 => h9) rfl dX12_yearOf_236 ?_
      refine lv_iconst (v := 1) hx hb dX12_yearOf_239 (by decide) ?_
      refine lv_iload hx hb dX12_yearOf_240 (lv_at hl 0 rfl) ?_
      refine lv_isub hx hb dX12_yearOf_242 ?_
      refine lv_topi (nm_r (e' := 1) (by decide) ?_)
      refine va_zald (D := g) hx hb hK hP 3 3 rfl rfl (vc_in (by decide)) dX12_yearOf_243 ?_
      refine lv_topi (nm_r (e' := 1) hS_c1 ?_)
      refine lv_if_eq (tgt := 251) hx hb dX12_yearOf_244 (by decide) (fun c44 => absurd c44 (by decide)) (fun _ => ?_)
      refine lv_iconst (v := 1) hx hb dX12_yearOf_247 (by decide) ?_
      refine lv_goto (tgt := 252) hx hb dX12_yearOf_248 (by decide) ?_
      refine va_zast (D := g) hx hb hK hP hD hS 5 3 rfl rfl (vc_in (by decide)) dX12_yearOf_252 (fun H locs hP hD hS => ?_)
      have hP : va_P g vwCl [(mo, .inr (11, mG m_a m_thrown m_taped m_at m_token m_place m_value m_word m_bad m_badPlace m_fault m_faultPlace (-1) m_will m_forgot 0 m_x vb vr vc vf m_any m_bothSend m_meanCards m_bestSum m_fitMany m_fitFirst m_fitSecond)), ((m_a 23), .inl (cI, 2, .inl fr)), ((m_a 24), .inl (cZ, 2, .inl fm)), ((m_a 25), .inl (cZ, 2, .inl fc)), ((m_a 26), .inl (cI, 2, .inl (upd (upd fs 0 1) 1 1))), ((m_a 27), .inl (cZ, 2, .inl (upd (upd (upd fg 0 0) 1 0) 0 1))), ((m_a 34), .inl (cZ, 2, .inl (upd (upd fk 0 1) 1 1)))] H := hP
      have hD : va_D A [(mo, .inr (11, mG m_a m_thrown m_taped m_at m_token m_place m_value m_word m_bad m_badPlace m_fault m_faultPlace (-1) m_will m_forgot 0 m_x vb vr vc vf m_any m_bothSend m_meanCards m_bestSum m_fitMany m_fitFirst m_fitSecond)), ((m_a 23), .inl (cI, 2, .inl fr)), ((m_a 24), .inl (cZ, 2, .inl fm)), ((m_a 25), .inl (cZ, 2, .inl fc)), ((m_a 26), .inl (cI, 2, .inl (upd (upd fs 0 1) 1 1))), ((m_a 27), .inl (cZ, 2, .inl (upd (upd (upd fg 0 0) 1 0) 0 1))), ((m_a 34), .inl (cZ, 2, .inl (upd (upd fk 0 1) 1 1)))] := hD
      refine lv_iload_n hx hb dX12_yearOf_253 rfl (lv_at hl 1 rfl) ?_
      refine lv_aload_n hx hb dX12_yearOf_254 rfl (lv_at hl 3 rfl) ?_
      refine va_get (D := g) (ci := 11) (v := .ref (m_a 27)) (C := RX12) (T := TX12) (N := 56) hx hb hts iX12 hown hK hP 0 rfl rfl 27 (by decide) (hts (.fieldLink RX12 65 "CardsAtYuleModel" "gets" "[Z") (List.mem_cons_of_mem _ (List.mem_append_left _ (List.mem_of_getElem? (i := 0) rfl)))) (fun _ h9 => h9) rfl dX12_yearOf_255 ?_
      refine lv_iload hx hb dX12_yearOf_258 (lv_at hl 0 rfl) ?_
      refine va_zald (D := g) hx hb hK hP 5 3 rfl rfl (vc_in (by decide)) dX12_yearOf_260 ?_
      refine lv_topi (nm_r (e' := 1) rfl ?_)
      refine lv_if_eq (tgt := 273) hx hb dX12_yearOf_261 (by decide) (fun c45 => absurd c45 (by decide)) (fun _ => ?_)
      refine lv_iconst (v := 1) hx hb dX12_yearOf_264 (by decide) ?_
      refine lv_iconst (v := 2) hx hb dX12_yearOf_265 (by decide) ?_
      refine lv_iload hx hb dX12_yearOf_266 (lv_at hl 0 rfl) ?_
      refine lv_imul hx hb dX12_yearOf_268 ?_
      refine lv_topi (nm_r (e' := 0) (by decide) ?_)
      refine lv_ishl hx hb dX12_yearOf_269 ?_
      refine lv_topi (nm_r (e' := 1) (by decide) ?_)
      refine lv_goto (tgt := 274) hx hb dX12_yearOf_270 (by decide) ?_
      refine lv_ior hx hb dX12_yearOf_274 ?_
      refine lv_istore_n (lv' := [(3, .int ((((nI js) &&& 5) <<< (1 &&& (31 : Int32))) ||| 1)), (4, .int 0), (2, .ref (m_a 34)), (0, .ref mo), (1, .int (nI js))]) hx hb dX12_yearOf_275 rfl hl (by decide) rfl (fun ls hl => ?_)
      refine lv_iinc (v := 1) (lv' := [(4, .int 1), (3, .int ((((nI js) &&& 5) <<< (1 &&& (31 : Int32))) ||| 1)), (2, .ref (m_a 34)), (0, .ref mo), (1, .int (nI js))]) hx hb dX12_yearOf_276 hl (k := 1) rfl (by decide) (by decide) rfl (fun ls hl => ?_)
      refine lv_goto (tgt := 211) hx hb dX12_yearOf_279 (by decide) ?_
      refine lv_iload hx hb dX12_yearOf_211 (lv_at hl 0 rfl) ?_
      refine lv_iconst (v := 2) hx hb dX12_yearOf_213 (by decide) ?_
      refine lv_icmp_ge (tgt := 282) hx hb dX12_yearOf_214 (by decide) (fun c46 => absurd c46 (by decide)) (fun _ => ?_)
      refine lv_aload_n hx hb dX12_yearOf_217 rfl (lv_at hl 3 rfl) ?_
      refine va_get (D := g) (ci := 11) (v := .ref (m_a 27)) (C := RX12) (T := TX12) (N := 56) hx hb hts iX12 hown hK hP 0 rfl rfl 27 (by decide) (hts (.fieldLink RX12 65 "CardsAtYuleModel" "gets" "[Z") (List.mem_cons_of_mem _ (List.mem_append_left _ (List.mem_of_getElem? (i := 0) rfl)))) (fun _ h9 => h9) rfl dX12_yearOf_218 ?_
      refine lv_iload hx hb dX12_yearOf_221 (lv_at hl 0 rfl) ?_
      refine lv_aload_n hx hb dX12_yearOf_223 rfl (lv_at hl 3 rfl) ?_
      refine va_get (D := g) (ci := 11) (v := .ref (m_a 26)) (C := RX12) (T := TX12) (N := 56) hx hb hts iX12 hown hK hP 0 rfl rfl 26 (by decide) (hts (.fieldLink RX12 62 "CardsAtYuleModel" "sent" "[I") (List.mem_cons_of_mem _ (List.mem_append_left _ (List.mem_of_getElem? (i := 10) rfl)))) (fun _ h9 => h9) rfl dX12_yearOf_224 ?_
      refine lv_iconst (v := 1) hx hb dX12_yearOf_227 (by decide) ?_
      refine lv_iload hx hb dX12_yearOf_228 (lv_at hl 0 rfl) ?_
      refine lv_isub hx hb dX12_yearOf_230 ?_
      refine lv_topi (nm_r (e' := 0) (by decide) ?_)
      refine va_iald (D := g) hx hb hK hP 4 0 rfl rfl (vc_in (by decide)) dX12_yearOf_231 ?_
      refine lv_topi (nm_r (e' := 1) rfl ?_)
      refine lv_if_le (tgt := 251) hx hb dX12_yearOf_232 (by decide) (fun c47 => absurd c47 (by decide)) (fun _ => ?_)
      refine lv_aload_n hx hb dX12_yearOf_235 rfl (lv_at hl 3 rfl) ?_
      refine va_get (D := g) (ci := 11) (v := .ref (m_a 25)) (C := RX12) (T := TX12) (N := 56) hx hb hts iX12 hown hK hP 0 rfl rfl 25 (by decide) (hts (.fieldLink RX12 59 "CardsAtYuleModel" "maycome" "[Z") (List.mem_cons_of_mem _ (List.mem_append_left _ (List.mem_of_getElem? (i := 12) rfl)))) (fun _ h9 => h9) rfl dX12_yearOf_236 ?_
      refine lv_iconst (v := 1) hx hb dX12_yearOf_239 (by decide) ?_
      refine lv_iload hx hb dX12_yearOf_240 (lv_at hl 0 rfl) ?_
      refine lv_isub hx hb dX12_yearOf_242 ?_
      refine lv_topi (nm_r (e' := 0) (by decide) ?_)
      refine va_zald (D := g) hx hb hK hP 3 3 rfl rfl (vc_in (by decide)) dX12_yearOf_243 ?_
      refine lv_topi (nm_r (e' := 1) hS_c0 ?_)
      refine lv_if_eq (tgt := 251) hx hb dX12_yearOf_244 (by decide) (fun c48 => absurd c48 (by decide)) (fun _ => ?_)
      refine lv_iconst (v := 1) hx hb dX12_yearOf_247 (by decide) ?_
      refine lv_goto (tgt := 252) hx hb dX12_yearOf_248 (by decide) ?_
      refine va_zast (D := g) hx hb hK hP hD hS 5 3 rfl rfl (vc_in (by decide)) dX12_yearOf_252 (fun H locs hP hD hS => ?_)
      have hP : va_P g vwCl [(mo, .inr (11, mG m_a m_thrown m_taped m_at m_token m_place m_value m_word m_bad m_badPlace m_fault m_faultPlace (-1) m_will m_forgot 0 m_x vb vr vc vf m_any m_bothSend m_meanCards m_bestSum m_fitMany m_fitFirst m_fitSecond)), ((m_a 23), .inl (cI, 2, .inl fr)), ((m_a 24), .inl (cZ, 2, .inl fm)), ((m_a 25), .inl (cZ, 2, .inl fc)), ((m_a 26), .inl (cI, 2, .inl (upd (upd fs 0 1) 1 1))), ((m_a 27), .inl (cZ, 2, .inl (upd (upd (upd (upd fg 0 0) 1 0) 0 1) 1 1))), ((m_a 34), .inl (cZ, 2, .inl (upd (upd fk 0 1) 1 1)))] H := hP
      have hD : va_D A [(mo, .inr (11, mG m_a m_thrown m_taped m_at m_token m_place m_value m_word m_bad m_badPlace m_fault m_faultPlace (-1) m_will m_forgot 0 m_x vb vr vc vf m_any m_bothSend m_meanCards m_bestSum m_fitMany m_fitFirst m_fitSecond)), ((m_a 23), .inl (cI, 2, .inl fr)), ((m_a 24), .inl (cZ, 2, .inl fm)), ((m_a 25), .inl (cZ, 2, .inl fc)), ((m_a 26), .inl (cI, 2, .inl (upd (upd fs 0 1) 1 1))), ((m_a 27), .inl (cZ, 2, .inl (upd (upd (upd (upd fg 0 0) 1 0) 0 1) 1 1))), ((m_a 34), .inl (cZ, 2, .inl (upd (upd fk 0 1) 1 1)))] := hD
      refine lv_iload_n hx hb dX12_yearOf_253 rfl (lv_at hl 1 rfl) ?_
      refine lv_aload_n hx hb dX12_yearOf_254 rfl (lv_at hl 3 rfl) ?_
      refine va_get (D := g) (ci := 11) (v := .ref (m_a 27)) (C := RX12) (T := TX12) (N := 56) hx hb hts iX12 hown hK hP 0 rfl rfl 27 (by decide) (hts (.fieldLink RX12 65 "CardsAtYuleModel" "gets" "[Z") (List.mem_cons_of_mem _ (List.mem_append_left _ (List.mem_of_getElem? (i := 0) rfl)))) (fun _ h9 => h9) rfl dX12_yearOf_255 ?_
      refine lv_iload hx hb dX12_yearOf_258 (lv_at hl 0 rfl) ?_
      refine va_zald (D := g) hx hb hK hP 5 3 rfl rfl (vc_in (by decide)) dX12_yearOf_260 ?_
      refine lv_topi (nm_r (e' := 1) rfl ?_)
      refine lv_if_eq (tgt := 273) hx hb dX12_yearOf_261 (by decide) (fun c49 => absurd c49 (by decide)) (fun _ => ?_)
      refine lv_iconst (v := 1) hx hb dX12_yearOf_264 (by decide) ?_
      refine lv_iconst (v := 2) hx hb dX12_yearOf_265 (by decide) ?_
      refine lv_iload hx hb dX12_yearOf_266 (lv_at hl 0 rfl) ?_
      refine lv_imul hx hb dX12_yearOf_268 ?_
      refine lv_topi (nm_r (e' := 2) (by decide) ?_)
      refine lv_ishl hx hb dX12_yearOf_269 ?_
      refine lv_topi (nm_r (e' := 4) (by decide) ?_)
      refine lv_goto (tgt := 274) hx hb dX12_yearOf_270 (by decide) ?_
      refine lv_ior hx hb dX12_yearOf_274 ?_
      refine lv_istore_n (lv' := [(3, .int (((((nI js) &&& 5) <<< (1 &&& (31 : Int32))) ||| 1) ||| 4)), (4, .int 1), (2, .ref (m_a 34)), (0, .ref mo), (1, .int (nI js))]) hx hb dX12_yearOf_275 rfl hl (by decide) rfl (fun ls hl => ?_)
      refine lv_iinc (v := 2) (lv' := [(4, .int 2), (3, .int (((((nI js) &&& 5) <<< (1 &&& (31 : Int32))) ||| 1) ||| 4)), (2, .ref (m_a 34)), (0, .ref mo), (1, .int (nI js))]) hx hb dX12_yearOf_276 hl (k := 1) rfl (by decide) (by decide) rfl (fun ls hl => ?_)
      refine lv_goto (tgt := 211) hx hb dX12_yearOf_279 (by decide) ?_
      refine lv_iload hx hb dX12_yearOf_211 (lv_at hl 0 rfl) ?_
      refine lv_iconst (v := 2) hx hb dX12_yearOf_213 (by decide) ?_
      refine lv_icmp_ge (tgt := 282) hx hb dX12_yearOf_214 (by decide) (fun _ => ?_) (fun c50 => absurd c50 (by decide))
      refine lv_iload_n hx hb dX12_yearOf_282 rfl (lv_at hl 1 rfl) ?_
      have hA9 : sA ra rb js = 1 := by unfold sA; rw [if_pos (by omega)]
      have hB9 : zB ra rb js = 1 := by unfold zB; rw [if_pos (by omega)]
      have hP9 := hP.sub (ws' := [(mo, .inr (11, mG m_a m_thrown m_taped m_at m_token m_place m_value m_word m_bad m_badPlace m_fault m_faultPlace (-1) m_will m_forgot 0 m_x vb vr vc vf m_any m_bothSend m_meanCards m_bestSum m_fitMany m_fitFirst m_fitSecond)), ((m_a 23), .inl (cI, 2, .inl fr)), ((m_a 24), .inl (cZ, 2, .inl fm)), ((m_a 25), .inl (cZ, 2, .inl fc)), ((m_a 26), .inl (cI, 2, .inl (upd (upd fs 0 1) 1 1))), ((m_a 27), .inl (cZ, 2, .inl (upd (upd (upd (upd fg 0 0) 1 0) 0 1) 1 1))), ((m_a 34), .inl (cZ, 2, .inl (upd (upd fk 0 1) 1 1)))]) [0, 1, 2, 3, 4, 5, 6] rfl
      have hD9 := hD.sub (ws' := [(mo, .inr (11, mG m_a m_thrown m_taped m_at m_token m_place m_value m_word m_bad m_badPlace m_fault m_faultPlace (-1) m_will m_forgot 0 m_x vb vr vc vf m_any m_bothSend m_meanCards m_bestSum m_fitMany m_fitFirst m_fitSecond)), ((m_a 23), .inl (cI, 2, .inl fr)), ((m_a 24), .inl (cZ, 2, .inl fm)), ((m_a 25), .inl (cZ, 2, .inl fc)), ((m_a 26), .inl (cI, 2, .inl (upd (upd fs 0 1) 1 1))), ((m_a 27), .inl (cZ, 2, .inl (upd (upd (upd (upd fg 0 0) 1 0) 0 1) 1 1))), ((m_a 34), .inl (cZ, 2, .inl (upd (upd fk 0 1) 1 1)))]) [0, 1, 2, 3, 4, 5, 6] (by decide) rfl
      exact W.iret (v := (((((nI js) &&& 5) <<< (1 &&& (31 : Int32))) ||| 1) ||| 4)) hx hb hr (fun t ht hW => ⟨⟨(((((nI js) &&& 5) <<< (1 &&& (31 : Int32))) ||| 1) ||| 4), ((upd (upd fs 0 1) 1 1), (upd (upd (upd (upd fg 0 0) 1 0) 0 1) 1 1), (upd (upd fk 0 1) 1 1)), rfl, ⟨th_nx hjs (u := 1) (v := 1) hB9 hA9, 1, 1, rfl, rfl, by decide, by decide, by unfold sc; rw [hA9, hB9]; rfl⟩, by rw [ht]; exact hP9, va_K.moved hW.alike hK, hD9⟩, hS.F ht⟩) hS.2.2 dX12_yearOf_283
    · refine lv_if_eq (tgt := 59) hx hb dX12_yearOf_44 (by decide) (fun _ => ?_) (fun c51 => absurd c51 (by decide))
      refine lv_iconst (v := 0) hx hb dX12_yearOf_59 (by decide) ?_
      refine lv_istore_n (lv' := [(3, .int 0), (2, .int 1), (0, .ref mo), (1, .int (nI js))]) hx hb dX12_yearOf_60 rfl hl (by decide) rfl (fun ls hl => ?_)
      refine lv_aload_n hx hb dX12_yearOf_61 rfl (lv_at hl 2 rfl) ?_
      refine va_get (D := g) (ci := 11) (v := .ref (m_a 26)) (C := RX12) (T := TX12) (N := 56) hx hb hts iX12 hown hK hP 0 rfl rfl 26 (by decide) (hts (.fieldLink RX12 62 "CardsAtYuleModel" "sent" "[I") (List.mem_cons_of_mem _ (List.mem_append_left _ (List.mem_of_getElem? (i := 10) rfl)))) (fun _ h9 => h9) rfl dX12_yearOf_62 ?_
      refine lv_iload_n hx hb dX12_yearOf_65 rfl (lv_at hl 1 rfl) ?_
      refine lv_iload_n hx hb dX12_yearOf_66 rfl (lv_at hl 0 rfl) ?_
      refine lv_if_eq (tgt := 74) hx hb dX12_yearOf_67 (by decide) (fun _ => ?_) (fun c52 => absurd c52 (by decide))
      refine lv_iconst (v := 0) hx hb dX12_yearOf_74 (by decide) ?_
      refine va_iast (D := g) hx hb hK hP hD hS 4 0 rfl rfl (vc_in (by decide)) dX12_yearOf_75 (fun H locs hP hD hS => ?_)
      have hP : va_P g vwCl [(mo, .inr (11, mG m_a m_thrown m_taped m_at m_token m_place m_value m_word m_bad m_badPlace m_fault m_faultPlace (-1) m_will m_forgot 0 m_x vb vr vc vf m_any m_bothSend m_meanCards m_bestSum m_fitMany m_fitFirst m_fitSecond)), ((m_a 23), .inl (cI, 2, .inl fr)), ((m_a 24), .inl (cZ, 2, .inl fm)), ((m_a 25), .inl (cZ, 2, .inl fc)), ((m_a 26), .inl (cI, 2, .inl (upd (upd fs 0 1) 1 0))), ((m_a 27), .inl (cZ, 2, .inl (upd (upd fg 0 0) 1 0))), ((m_a 34), .inl (cZ, 2, .inl fk))] H := hP
      have hD : va_D A [(mo, .inr (11, mG m_a m_thrown m_taped m_at m_token m_place m_value m_word m_bad m_badPlace m_fault m_faultPlace (-1) m_will m_forgot 0 m_x vb vr vc vf m_any m_bothSend m_meanCards m_bestSum m_fitMany m_fitFirst m_fitSecond)), ((m_a 23), .inl (cI, 2, .inl fr)), ((m_a 24), .inl (cZ, 2, .inl fm)), ((m_a 25), .inl (cZ, 2, .inl fc)), ((m_a 26), .inl (cI, 2, .inl (upd (upd fs 0 1) 1 0))), ((m_a 27), .inl (cZ, 2, .inl (upd (upd fg 0 0) 1 0))), ((m_a 34), .inl (cZ, 2, .inl fk))] := hD
      refine lv_iinc (v := 2) (lv' := [(2, .int 2), (3, .int 0), (0, .ref mo), (1, .int (nI js))]) hx hb dX12_yearOf_76 hl (k := 1) rfl (by decide) (by decide) rfl (fun ls hl => ?_)
      refine lv_goto (tgt := 2) hx hb dX12_yearOf_79 (by decide) ?_
      refine lv_iload_n hx hb dX12_yearOf_2 rfl (lv_at hl 0 rfl) ?_
      refine lv_iconst (v := 2) hx hb dX12_yearOf_3 (by decide) ?_
      refine lv_icmp_ge (tgt := 82) hx hb dX12_yearOf_4 (by decide) (fun _ => ?_) (fun c53 => absurd c53 (by decide))
      refine lv_aload_n hx hb dX12_yearOf_82 rfl (lv_at hl 2 rfl) ?_
      refine va_get (D := g) (ci := 11) (v := .ref (m_a 34)) (C := RX12) (T := TX12) (N := 56) hx hb hts iX12 hown hK hP 0 rfl rfl 34 (by decide) (hts (.fieldLink RX12 74 "CardsAtYuleModel" "cameFirst" "[Z") (List.mem_cons_of_mem _ (List.mem_append_left _ (List.mem_of_getElem? (i := 11) rfl)))) (fun _ h9 => h9) rfl dX12_yearOf_83 ?_
      refine lv_astore_n (lv' := [(2, .ref (m_a 34)), (3, .int 0), (0, .ref mo), (1, .int (nI js))]) hx hb dX12_yearOf_86 rfl hl (by decide) rfl (fun ls hl => ?_)
      refine lv_iconst (v := 0) hx hb dX12_yearOf_87 (by decide) ?_
      refine lv_istore_n (lv' := [(3, .int 0), (2, .ref (m_a 34)), (0, .ref mo), (1, .int (nI js))]) hx hb dX12_yearOf_88 rfl hl (by decide) rfl (fun ls hl => ?_)
      refine lv_iload_n hx hb dX12_yearOf_89 rfl (lv_at hl 0 rfl) ?_
      refine lv_iconst (v := 2) hx hb dX12_yearOf_90 (by decide) ?_
      refine lv_icmp_ge (tgt := 131) hx hb dX12_yearOf_91 (by decide) (fun c54 => absurd c54 (by decide)) (fun _ => ?_)
      refine lv_aload_n hx hb dX12_yearOf_94 rfl (lv_at hl 1 rfl) ?_
      refine lv_iload_n hx hb dX12_yearOf_95 rfl (lv_at hl 0 rfl) ?_
      refine lv_aload_n hx hb dX12_yearOf_96 rfl (lv_at hl 2 rfl) ?_
      refine va_get (D := g) (ci := 11) (v := .ref (m_a 26)) (C := RX12) (T := TX12) (N := 56) hx hb hts iX12 hown hK hP 0 rfl rfl 26 (by decide) (hts (.fieldLink RX12 62 "CardsAtYuleModel" "sent" "[I") (List.mem_cons_of_mem _ (List.mem_append_left _ (List.mem_of_getElem? (i := 10) rfl)))) (fun _ h9 => h9) rfl dX12_yearOf_97 ?_
      refine lv_iconst (v := 1) hx hb dX12_yearOf_100 (by decide) ?_
      refine lv_iload_n hx hb dX12_yearOf_101 rfl (lv_at hl 0 rfl) ?_
      refine lv_isub hx hb dX12_yearOf_102 ?_
      refine lv_topi (nm_r (e' := 1) (by decide) ?_)
      refine va_iald (D := g) hx hb hK hP 4 0 rfl rfl (vc_in (by decide)) dX12_yearOf_103 ?_
      refine lv_topi (nm_r (e' := 0) rfl ?_)
      refine lv_iconst (v := 1) hx hb dX12_yearOf_104 (by decide) ?_
      refine lv_icmp_ne (tgt := 123) hx hb dX12_yearOf_105 (by decide) (fun _ => ?_) (fun c55 => absurd c55 (by decide))
      refine lv_iconst (v := 0) hx hb dX12_yearOf_123 (by decide) ?_
      refine va_zast (D := g) hx hb hK hP hD hS 6 3 rfl rfl (vc_in (by decide)) dX12_yearOf_124 (fun H locs hP hD hS => ?_)
      have hP : va_P g vwCl [(mo, .inr (11, mG m_a m_thrown m_taped m_at m_token m_place m_value m_word m_bad m_badPlace m_fault m_faultPlace (-1) m_will m_forgot 0 m_x vb vr vc vf m_any m_bothSend m_meanCards m_bestSum m_fitMany m_fitFirst m_fitSecond)), ((m_a 23), .inl (cI, 2, .inl fr)), ((m_a 24), .inl (cZ, 2, .inl fm)), ((m_a 25), .inl (cZ, 2, .inl fc)), ((m_a 26), .inl (cI, 2, .inl (upd (upd fs 0 1) 1 0))), ((m_a 27), .inl (cZ, 2, .inl (upd (upd fg 0 0) 1 0))), ((m_a 34), .inl (cZ, 2, .inl (upd fk 0 0)))] H := hP
      have hD : va_D A [(mo, .inr (11, mG m_a m_thrown m_taped m_at m_token m_place m_value m_word m_bad m_badPlace m_fault m_faultPlace (-1) m_will m_forgot 0 m_x vb vr vc vf m_any m_bothSend m_meanCards m_bestSum m_fitMany m_fitFirst m_fitSecond)), ((m_a 23), .inl (cI, 2, .inl fr)), ((m_a 24), .inl (cZ, 2, .inl fm)), ((m_a 25), .inl (cZ, 2, .inl fc)), ((m_a 26), .inl (cI, 2, .inl (upd (upd fs 0 1) 1 0))), ((m_a 27), .inl (cZ, 2, .inl (upd (upd fg 0 0) 1 0))), ((m_a 34), .inl (cZ, 2, .inl (upd fk 0 0)))] := hD
      refine lv_iinc (v := 1) (lv' := [(3, .int 1), (2, .ref (m_a 34)), (0, .ref mo), (1, .int (nI js))]) hx hb dX12_yearOf_125 hl (k := 0) rfl (by decide) (by decide) rfl (fun ls hl => ?_)
      refine lv_goto (tgt := 89) hx hb dX12_yearOf_128 (by decide) ?_
      refine lv_iload_n hx hb dX12_yearOf_89 rfl (lv_at hl 0 rfl) ?_
      refine lv_iconst (v := 2) hx hb dX12_yearOf_90 (by decide) ?_
      refine lv_icmp_ge (tgt := 131) hx hb dX12_yearOf_91 (by decide) (fun c56 => absurd c56 (by decide)) (fun _ => ?_)
      refine lv_aload_n hx hb dX12_yearOf_94 rfl (lv_at hl 1 rfl) ?_
      refine lv_iload_n hx hb dX12_yearOf_95 rfl (lv_at hl 0 rfl) ?_
      refine lv_aload_n hx hb dX12_yearOf_96 rfl (lv_at hl 2 rfl) ?_
      refine va_get (D := g) (ci := 11) (v := .ref (m_a 26)) (C := RX12) (T := TX12) (N := 56) hx hb hts iX12 hown hK hP 0 rfl rfl 26 (by decide) (hts (.fieldLink RX12 62 "CardsAtYuleModel" "sent" "[I") (List.mem_cons_of_mem _ (List.mem_append_left _ (List.mem_of_getElem? (i := 10) rfl)))) (fun _ h9 => h9) rfl dX12_yearOf_97 ?_
      refine lv_iconst (v := 1) hx hb dX12_yearOf_100 (by decide) ?_
      refine lv_iload_n hx hb dX12_yearOf_101 rfl (lv_at hl 0 rfl) ?_
      refine lv_isub hx hb dX12_yearOf_102 ?_
      refine lv_topi (nm_r (e' := 0) (by decide) ?_)
      refine va_iald (D := g) hx hb hK hP 4 0 rfl rfl (vc_in (by decide)) dX12_yearOf_103 ?_
      refine lv_topi (nm_r (e' := 1) rfl ?_)
      refine lv_iconst (v := 1) hx hb dX12_yearOf_104 (by decide) ?_
      refine lv_icmp_ne (tgt := 123) hx hb dX12_yearOf_105 (by decide) (fun c57 => absurd c57 (by decide)) (fun _ => ?_)
      refine lv_aload_n hx hb dX12_yearOf_108 rfl (lv_at hl 2 rfl) ?_
      refine va_get (D := g) (ci := 11) (v := .ref (m_a 25)) (C := RX12) (T := TX12) (N := 56) hx hb hts iX12 hown hK hP 0 rfl rfl 25 (by decide) (hts (.fieldLink RX12 59 "CardsAtYuleModel" "maycome" "[Z") (List.mem_cons_of_mem _ (List.mem_append_left _ (List.mem_of_getElem? (i := 12) rfl)))) (fun _ h9 => h9) rfl dX12_yearOf_109 ?_
      refine lv_iconst (v := 1) hx hb dX12_yearOf_112 (by decide) ?_
      refine lv_iload_n hx hb dX12_yearOf_113 rfl (lv_at hl 0 rfl) ?_
      refine lv_isub hx hb dX12_yearOf_114 ?_
      refine lv_topi (nm_r (e' := 0) (by decide) ?_)
      refine va_zald (D := g) hx hb hK hP 3 3 rfl rfl (vc_in (by decide)) dX12_yearOf_115 ?_
      refine lv_topi (nm_r (e' := 1) hS_c0 ?_)
      refine lv_if_eq (tgt := 123) hx hb dX12_yearOf_116 (by decide) (fun c58 => absurd c58 (by decide)) (fun _ => ?_)
      refine lv_iconst (v := 1) hx hb dX12_yearOf_119 (by decide) ?_
      refine lv_goto (tgt := 124) hx hb dX12_yearOf_120 (by decide) ?_
      refine va_zast (D := g) hx hb hK hP hD hS 6 3 rfl rfl (vc_in (by decide)) dX12_yearOf_124 (fun H locs hP hD hS => ?_)
      have hP : va_P g vwCl [(mo, .inr (11, mG m_a m_thrown m_taped m_at m_token m_place m_value m_word m_bad m_badPlace m_fault m_faultPlace (-1) m_will m_forgot 0 m_x vb vr vc vf m_any m_bothSend m_meanCards m_bestSum m_fitMany m_fitFirst m_fitSecond)), ((m_a 23), .inl (cI, 2, .inl fr)), ((m_a 24), .inl (cZ, 2, .inl fm)), ((m_a 25), .inl (cZ, 2, .inl fc)), ((m_a 26), .inl (cI, 2, .inl (upd (upd fs 0 1) 1 0))), ((m_a 27), .inl (cZ, 2, .inl (upd (upd fg 0 0) 1 0))), ((m_a 34), .inl (cZ, 2, .inl (upd (upd fk 0 0) 1 1)))] H := hP
      have hD : va_D A [(mo, .inr (11, mG m_a m_thrown m_taped m_at m_token m_place m_value m_word m_bad m_badPlace m_fault m_faultPlace (-1) m_will m_forgot 0 m_x vb vr vc vf m_any m_bothSend m_meanCards m_bestSum m_fitMany m_fitFirst m_fitSecond)), ((m_a 23), .inl (cI, 2, .inl fr)), ((m_a 24), .inl (cZ, 2, .inl fm)), ((m_a 25), .inl (cZ, 2, .inl fc)), ((m_a 26), .inl (cI, 2, .inl (upd (upd fs 0 1) 1 0))), ((m_a 27), .inl (cZ, 2, .inl (upd (upd fg 0 0) 1 0))), ((m_a 34), .inl (cZ, 2, .inl (upd (upd fk 0 0) 1 1)))] := hD
      refine lv_iinc (v := 2) (lv' := [(3, .int 2), (2, .ref (m_a 34)), (0, .ref mo), (1, .int (nI js))]) hx hb dX12_yearOf_125 hl (k := 0) rfl (by decide) (by decide) rfl (fun ls hl => ?_)
      refine lv_goto (tgt := 89) hx hb dX12_yearOf_128 (by decide) ?_
      refine lv_iload_n hx hb dX12_yearOf_89 rfl (lv_at hl 0 rfl) ?_
      refine lv_iconst (v := 2) hx hb dX12_yearOf_90 (by decide) ?_
      refine lv_icmp_ge (tgt := 131) hx hb dX12_yearOf_91 (by decide) (fun _ => ?_) (fun c59 => absurd c59 (by decide))
      refine lv_iconst (v := 0) hx hb dX12_yearOf_131 (by decide) ?_
      refine lv_istore_n (lv' := [(3, .int 0), (2, .ref (m_a 34)), (0, .ref mo), (1, .int (nI js))]) hx hb dX12_yearOf_132 rfl hl (by decide) rfl (fun ls hl => ?_)
      refine lv_iload_n hx hb dX12_yearOf_133 rfl (lv_at hl 0 rfl) ?_
      refine lv_iconst (v := 2) hx hb dX12_yearOf_134 (by decide) ?_
      refine lv_icmp_ge (tgt := 202) hx hb dX12_yearOf_135 (by decide) (fun c60 => absurd c60 (by decide)) (fun _ => ?_)
      refine lv_iload_n hx hb dX12_yearOf_138 rfl (lv_at hl 0 rfl) ?_
      refine lv_aload_n hx hb dX12_yearOf_139 rfl (lv_at hl 2 rfl) ?_
      refine va_get (D := g) (ci := 11) (v := .int (-1)) (C := RX12) (T := TX12) (N := 56) hx hb hts iX12 hown hK hP 0 rfl rfl 28 (by decide) (hts (.fieldLink RX12 68 "CardsAtYuleModel" "willing" "I") (List.mem_cons_of_mem _ (List.mem_append_left _ (List.mem_of_getElem? (i := 1) rfl)))) (fun _ h9 => h9) rfl dX12_yearOf_140 ?_
      refine lv_icmp_eq (tgt := 196) hx hb dX12_yearOf_143 (by decide) (fun c61 => absurd c61 (by decide)) (fun _ => ?_)
      refine lv_aload_n hx hb dX12_yearOf_146 rfl (lv_at hl 2 rfl) ?_
      refine va_get (D := g) (ci := 11) (v := .ref (m_a 24)) (C := RX12) (T := TX12) (N := 56) hx hb hts iX12 hown hK hP 0 rfl rfl 24 (by decide) (hts (.fieldLink RX12 56 "CardsAtYuleModel" "maySend" "[Z") (List.mem_cons_of_mem _ (List.mem_append_left _ (List.mem_of_getElem? (i := 2) rfl)))) (fun _ h9 => h9) rfl dX12_yearOf_147 ?_
      refine lv_iload_n hx hb dX12_yearOf_150 rfl (lv_at hl 0 rfl) ?_
      refine va_zald (D := g) hx hb hK hP 2 3 rfl rfl (vc_in (by decide)) dX12_yearOf_151 ?_
      refine lv_topi (nm_r (e' := 1) hS_m0 ?_)
      refine lv_if_eq (tgt := 196) hx hb dX12_yearOf_152 (by decide) (fun c62 => absurd c62 (by decide)) (fun _ => ?_)
      refine lv_aload_n hx hb dX12_yearOf_155 rfl (lv_at hl 2 rfl) ?_
      refine va_get (D := g) (ci := 11) (v := .ref (m_a 26)) (C := RX12) (T := TX12) (N := 56) hx hb hts iX12 hown hK hP 0 rfl rfl 26 (by decide) (hts (.fieldLink RX12 62 "CardsAtYuleModel" "sent" "[I") (List.mem_cons_of_mem _ (List.mem_append_left _ (List.mem_of_getElem? (i := 10) rfl)))) (fun _ h9 => h9) rfl dX12_yearOf_156 ?_
      refine lv_iload_n hx hb dX12_yearOf_159 rfl (lv_at hl 0 rfl) ?_
      refine va_iald (D := g) hx hb hK hP 4 0 rfl rfl (vc_in (by decide)) dX12_yearOf_160 ?_
      refine lv_topi (nm_r (e' := 1) rfl ?_)
      refine lv_if_ne (tgt := 196) hx hb dX12_yearOf_161 (by decide) (fun _ => ?_) (fun c63 => absurd c63 (by decide))
      refine lv_iinc (v := 1) (lv' := [(3, .int 1), (2, .ref (m_a 34)), (0, .ref mo), (1, .int (nI js))]) hx hb dX12_yearOf_196 hl (k := 0) rfl (by decide) (by decide) rfl (fun ls hl => ?_)
      refine lv_goto (tgt := 133) hx hb dX12_yearOf_199 (by decide) ?_
      refine lv_iload_n hx hb dX12_yearOf_133 rfl (lv_at hl 0 rfl) ?_
      refine lv_iconst (v := 2) hx hb dX12_yearOf_134 (by decide) ?_
      refine lv_icmp_ge (tgt := 202) hx hb dX12_yearOf_135 (by decide) (fun c64 => absurd c64 (by decide)) (fun _ => ?_)
      refine lv_iload_n hx hb dX12_yearOf_138 rfl (lv_at hl 0 rfl) ?_
      refine lv_aload_n hx hb dX12_yearOf_139 rfl (lv_at hl 2 rfl) ?_
      refine va_get (D := g) (ci := 11) (v := .int (-1)) (C := RX12) (T := TX12) (N := 56) hx hb hts iX12 hown hK hP 0 rfl rfl 28 (by decide) (hts (.fieldLink RX12 68 "CardsAtYuleModel" "willing" "I") (List.mem_cons_of_mem _ (List.mem_append_left _ (List.mem_of_getElem? (i := 1) rfl)))) (fun _ h9 => h9) rfl dX12_yearOf_140 ?_
      refine lv_icmp_eq (tgt := 196) hx hb dX12_yearOf_143 (by decide) (fun c65 => absurd c65 (by decide)) (fun _ => ?_)
      refine lv_aload_n hx hb dX12_yearOf_146 rfl (lv_at hl 2 rfl) ?_
      refine va_get (D := g) (ci := 11) (v := .ref (m_a 24)) (C := RX12) (T := TX12) (N := 56) hx hb hts iX12 hown hK hP 0 rfl rfl 24 (by decide) (hts (.fieldLink RX12 56 "CardsAtYuleModel" "maySend" "[Z") (List.mem_cons_of_mem _ (List.mem_append_left _ (List.mem_of_getElem? (i := 2) rfl)))) (fun _ h9 => h9) rfl dX12_yearOf_147 ?_
      refine lv_iload_n hx hb dX12_yearOf_150 rfl (lv_at hl 0 rfl) ?_
      refine va_zald (D := g) hx hb hK hP 2 3 rfl rfl (vc_in (by decide)) dX12_yearOf_151 ?_
      refine lv_topi (nm_r (e' := 1) hS_m1 ?_)
      refine lv_if_eq (tgt := 196) hx hb dX12_yearOf_152 (by decide) (fun c66 => absurd c66 (by decide)) (fun _ => ?_)
      refine lv_aload_n hx hb dX12_yearOf_155 rfl (lv_at hl 2 rfl) ?_
      refine va_get (D := g) (ci := 11) (v := .ref (m_a 26)) (C := RX12) (T := TX12) (N := 56) hx hb hts iX12 hown hK hP 0 rfl rfl 26 (by decide) (hts (.fieldLink RX12 62 "CardsAtYuleModel" "sent" "[I") (List.mem_cons_of_mem _ (List.mem_append_left _ (List.mem_of_getElem? (i := 10) rfl)))) (fun _ h9 => h9) rfl dX12_yearOf_156 ?_
      refine lv_iload_n hx hb dX12_yearOf_159 rfl (lv_at hl 0 rfl) ?_
      refine va_iald (D := g) hx hb hK hP 4 0 rfl rfl (vc_in (by decide)) dX12_yearOf_160 ?_
      refine lv_topi (nm_r (e' := 0) rfl ?_)
      refine lv_if_ne (tgt := 196) hx hb dX12_yearOf_161 (by decide) (fun c67 => absurd c67 (by decide)) (fun _ => ?_)
      refine lv_aload_n hx hb dX12_yearOf_164 rfl (lv_at hl 2 rfl) ?_
      refine va_get (D := g) (ci := 11) (v := .ref (m_a 23)) (C := RX12) (T := TX12) (N := 56) hx hb hts iX12 hown hK hP 0 rfl rfl 23 (by decide) (hts (.fieldLink RX12 53 "CardsAtYuleModel" "ruleNow" "[I") (List.mem_cons_of_mem _ (List.mem_append_left _ (List.mem_of_getElem? (i := 13) rfl)))) (fun _ h9 => h9) rfl dX12_yearOf_165 ?_
      refine lv_iload_n hx hb dX12_yearOf_168 rfl (lv_at hl 0 rfl) ?_
      refine va_iald (D := g) hx hb hK hP 1 0 rfl rfl (vc_in (by decide)) dX12_yearOf_169 ?_
      refine lv_topi (nm_r (e' := nI rb) hS_r1 ?_)
      refine lv_bipush (v := 16) hx hb dX12_yearOf_170 (by decide) ?_
      refine lv_icmp_lt (tgt := 196) hx hb dX12_yearOf_172 (by decide) (fun c68 => ?_) (fun c68 => ?_)
      · have f69 := (show (rb : Int) < 16 from z_lt (nI_toInt (n := rb) (by omega)) rfl c68)
        refine lv_iinc (v := 2) (lv' := [(3, .int 2), (2, .ref (m_a 34)), (0, .ref mo), (1, .int (nI js))]) hx hb dX12_yearOf_196 hl (k := 0) rfl (by decide) (by decide) rfl (fun ls hl => ?_)
        refine lv_goto (tgt := 133) hx hb dX12_yearOf_199 (by decide) ?_
        refine lv_iload_n hx hb dX12_yearOf_133 rfl (lv_at hl 0 rfl) ?_
        refine lv_iconst (v := 2) hx hb dX12_yearOf_134 (by decide) ?_
        refine lv_icmp_ge (tgt := 202) hx hb dX12_yearOf_135 (by decide) (fun _ => ?_) (fun c70 => absurd c70 (by decide))
        refine lv_iload_n hx hb dX12_yearOf_202 rfl (lv_at hl 3 rfl) ?_
        refine lv_iconst (v := 5) hx hb dX12_yearOf_203 (by decide) ?_
        refine lv_iand hx hb dX12_yearOf_204 ?_
        refine lv_iconst (v := 1) hx hb dX12_yearOf_205 (by decide) ?_
        refine lv_ishl hx hb dX12_yearOf_206 ?_
        refine lv_istore_n (lv' := [(3, .int (((nI js) &&& 5) <<< (1 &&& (31 : Int32)))), (2, .ref (m_a 34)), (0, .ref mo), (1, .int (nI js))]) hx hb dX12_yearOf_207 rfl hl (by decide) rfl (fun ls hl => ?_)
        refine lv_iconst (v := 0) hx hb dX12_yearOf_208 (by decide) ?_
        refine lv_istore (lv' := [(4, .int 0), (3, .int (((nI js) &&& 5) <<< (1 &&& (31 : Int32)))), (2, .ref (m_a 34)), (0, .ref mo), (1, .int (nI js))]) hx hb dX12_yearOf_209 hl (by decide) rfl (fun ls hl => ?_)
        refine lv_iload hx hb dX12_yearOf_211 (lv_at hl 0 rfl) ?_
        refine lv_iconst (v := 2) hx hb dX12_yearOf_213 (by decide) ?_
        refine lv_icmp_ge (tgt := 282) hx hb dX12_yearOf_214 (by decide) (fun c71 => absurd c71 (by decide)) (fun _ => ?_)
        refine lv_aload_n hx hb dX12_yearOf_217 rfl (lv_at hl 3 rfl) ?_
        refine va_get (D := g) (ci := 11) (v := .ref (m_a 27)) (C := RX12) (T := TX12) (N := 56) hx hb hts iX12 hown hK hP 0 rfl rfl 27 (by decide) (hts (.fieldLink RX12 65 "CardsAtYuleModel" "gets" "[Z") (List.mem_cons_of_mem _ (List.mem_append_left _ (List.mem_of_getElem? (i := 0) rfl)))) (fun _ h9 => h9) rfl dX12_yearOf_218 ?_
        refine lv_iload hx hb dX12_yearOf_221 (lv_at hl 0 rfl) ?_
        refine lv_aload_n hx hb dX12_yearOf_223 rfl (lv_at hl 3 rfl) ?_
        refine va_get (D := g) (ci := 11) (v := .ref (m_a 26)) (C := RX12) (T := TX12) (N := 56) hx hb hts iX12 hown hK hP 0 rfl rfl 26 (by decide) (hts (.fieldLink RX12 62 "CardsAtYuleModel" "sent" "[I") (List.mem_cons_of_mem _ (List.mem_append_left _ (List.mem_of_getElem? (i := 10) rfl)))) (fun _ h9 => h9) rfl dX12_yearOf_224 ?_
        refine lv_iconst (v := 1) hx hb dX12_yearOf_227 (by decide) ?_
        refine lv_iload hx hb dX12_yearOf_228 (lv_at hl 0 rfl) ?_
        refine lv_isub hx hb dX12_yearOf_230 ?_
        refine lv_topi (nm_r (e' := 1) (by decide) ?_)
        refine va_iald (D := g) hx hb hK hP 4 0 rfl rfl (vc_in (by decide)) dX12_yearOf_231 ?_
        refine lv_topi (nm_r (e' := 0) rfl ?_)
        refine lv_if_le (tgt := 251) hx hb dX12_yearOf_232 (by decide) (fun _ => ?_) (fun c72 => absurd c72 (by decide))
        refine lv_iconst (v := 0) hx hb dX12_yearOf_251 (by decide) ?_
        refine va_zast (D := g) hx hb hK hP hD hS 5 3 rfl rfl (vc_in (by decide)) dX12_yearOf_252 (fun H locs hP hD hS => ?_)
        have hP : va_P g vwCl [(mo, .inr (11, mG m_a m_thrown m_taped m_at m_token m_place m_value m_word m_bad m_badPlace m_fault m_faultPlace (-1) m_will m_forgot 0 m_x vb vr vc vf m_any m_bothSend m_meanCards m_bestSum m_fitMany m_fitFirst m_fitSecond)), ((m_a 23), .inl (cI, 2, .inl fr)), ((m_a 24), .inl (cZ, 2, .inl fm)), ((m_a 25), .inl (cZ, 2, .inl fc)), ((m_a 26), .inl (cI, 2, .inl (upd (upd fs 0 1) 1 0))), ((m_a 27), .inl (cZ, 2, .inl (upd (upd (upd fg 0 0) 1 0) 0 0))), ((m_a 34), .inl (cZ, 2, .inl (upd (upd fk 0 0) 1 1)))] H := hP
        have hD : va_D A [(mo, .inr (11, mG m_a m_thrown m_taped m_at m_token m_place m_value m_word m_bad m_badPlace m_fault m_faultPlace (-1) m_will m_forgot 0 m_x vb vr vc vf m_any m_bothSend m_meanCards m_bestSum m_fitMany m_fitFirst m_fitSecond)), ((m_a 23), .inl (cI, 2, .inl fr)), ((m_a 24), .inl (cZ, 2, .inl fm)), ((m_a 25), .inl (cZ, 2, .inl fc)), ((m_a 26), .inl (cI, 2, .inl (upd (upd fs 0 1) 1 0))), ((m_a 27), .inl (cZ, 2, .inl (upd (upd (upd fg 0 0) 1 0) 0 0))), ((m_a 34), .inl (cZ, 2, .inl (upd (upd fk 0 0) 1 1)))] := hD
        refine lv_iload_n hx hb dX12_yearOf_253 rfl (lv_at hl 1 rfl) ?_
        refine lv_aload_n hx hb dX12_yearOf_254 rfl (lv_at hl 3 rfl) ?_
        refine va_get (D := g) (ci := 11) (v := .ref (m_a 27)) (C := RX12) (T := TX12) (N := 56) hx hb hts iX12 hown hK hP 0 rfl rfl 27 (by decide) (hts (.fieldLink RX12 65 "CardsAtYuleModel" "gets" "[Z") (List.mem_cons_of_mem _ (List.mem_append_left _ (List.mem_of_getElem? (i := 0) rfl)))) (fun _ h9 => h9) rfl dX12_yearOf_255 ?_
        refine lv_iload hx hb dX12_yearOf_258 (lv_at hl 0 rfl) ?_
        refine va_zald (D := g) hx hb hK hP 5 3 rfl rfl (vc_in (by decide)) dX12_yearOf_260 ?_
        refine lv_topi (nm_r (e' := 0) rfl ?_)
        refine lv_if_eq (tgt := 273) hx hb dX12_yearOf_261 (by decide) (fun _ => ?_) (fun c73 => absurd c73 (by decide))
        refine lv_iconst (v := 0) hx hb dX12_yearOf_273 (by decide) ?_
        refine lv_ior hx hb dX12_yearOf_274 ?_
        refine lv_istore_n (lv' := [(3, .int ((((nI js) &&& 5) <<< (1 &&& (31 : Int32))) ||| 0)), (4, .int 0), (2, .ref (m_a 34)), (0, .ref mo), (1, .int (nI js))]) hx hb dX12_yearOf_275 rfl hl (by decide) rfl (fun ls hl => ?_)
        refine lv_iinc (v := 1) (lv' := [(4, .int 1), (3, .int ((((nI js) &&& 5) <<< (1 &&& (31 : Int32))) ||| 0)), (2, .ref (m_a 34)), (0, .ref mo), (1, .int (nI js))]) hx hb dX12_yearOf_276 hl (k := 1) rfl (by decide) (by decide) rfl (fun ls hl => ?_)
        refine lv_goto (tgt := 211) hx hb dX12_yearOf_279 (by decide) ?_
        refine lv_iload hx hb dX12_yearOf_211 (lv_at hl 0 rfl) ?_
        refine lv_iconst (v := 2) hx hb dX12_yearOf_213 (by decide) ?_
        refine lv_icmp_ge (tgt := 282) hx hb dX12_yearOf_214 (by decide) (fun c74 => absurd c74 (by decide)) (fun _ => ?_)
        refine lv_aload_n hx hb dX12_yearOf_217 rfl (lv_at hl 3 rfl) ?_
        refine va_get (D := g) (ci := 11) (v := .ref (m_a 27)) (C := RX12) (T := TX12) (N := 56) hx hb hts iX12 hown hK hP 0 rfl rfl 27 (by decide) (hts (.fieldLink RX12 65 "CardsAtYuleModel" "gets" "[Z") (List.mem_cons_of_mem _ (List.mem_append_left _ (List.mem_of_getElem? (i := 0) rfl)))) (fun _ h9 => h9) rfl dX12_yearOf_218 ?_
        refine lv_iload hx hb dX12_yearOf_221 (lv_at hl 0 rfl) ?_
        refine lv_aload_n hx hb dX12_yearOf_223 rfl (lv_at hl 3 rfl) ?_
        refine va_get (D := g) (ci := 11) (v := .ref (m_a 26)) (C := RX12) (T := TX12) (N := 56) hx hb hts iX12 hown hK hP 0 rfl rfl 26 (by decide) (hts (.fieldLink RX12 62 "CardsAtYuleModel" "sent" "[I") (List.mem_cons_of_mem _ (List.mem_append_left _ (List.mem_of_getElem? (i := 10) rfl)))) (fun _ h9 => h9) rfl dX12_yearOf_224 ?_
        refine lv_iconst (v := 1) hx hb dX12_yearOf_227 (by decide) ?_
        refine lv_iload hx hb dX12_yearOf_228 (lv_at hl 0 rfl) ?_
        refine lv_isub hx hb dX12_yearOf_230 ?_
        refine lv_topi (nm_r (e' := 0) (by decide) ?_)
        refine va_iald (D := g) hx hb hK hP 4 0 rfl rfl (vc_in (by decide)) dX12_yearOf_231 ?_
        refine lv_topi (nm_r (e' := 1) rfl ?_)
        refine lv_if_le (tgt := 251) hx hb dX12_yearOf_232 (by decide) (fun c75 => absurd c75 (by decide)) (fun _ => ?_)
        refine lv_aload_n hx hb dX12_yearOf_235 rfl (lv_at hl 3 rfl) ?_
        refine va_get (D := g) (ci := 11) (v := .ref (m_a 25)) (C := RX12) (T := TX12) (N := 56) hx hb hts iX12 hown hK hP 0 rfl rfl 25 (by decide) (hts (.fieldLink RX12 59 "CardsAtYuleModel" "maycome" "[Z") (List.mem_cons_of_mem _ (List.mem_append_left _ (List.mem_of_getElem? (i := 12) rfl)))) (fun _ h9 => h9) rfl dX12_yearOf_236 ?_
        refine lv_iconst (v := 1) hx hb dX12_yearOf_239 (by decide) ?_
        refine lv_iload hx hb dX12_yearOf_240 (lv_at hl 0 rfl) ?_
        refine lv_isub hx hb dX12_yearOf_242 ?_
        refine lv_topi (nm_r (e' := 0) (by decide) ?_)
        refine va_zald (D := g) hx hb hK hP 3 3 rfl rfl (vc_in (by decide)) dX12_yearOf_243 ?_
        refine lv_topi (nm_r (e' := 1) hS_c0 ?_)
        refine lv_if_eq (tgt := 251) hx hb dX12_yearOf_244 (by decide) (fun c76 => absurd c76 (by decide)) (fun _ => ?_)
        refine lv_iconst (v := 1) hx hb dX12_yearOf_247 (by decide) ?_
        refine lv_goto (tgt := 252) hx hb dX12_yearOf_248 (by decide) ?_
        refine va_zast (D := g) hx hb hK hP hD hS 5 3 rfl rfl (vc_in (by decide)) dX12_yearOf_252 (fun H locs hP hD hS => ?_)
        have hP : va_P g vwCl [(mo, .inr (11, mG m_a m_thrown m_taped m_at m_token m_place m_value m_word m_bad m_badPlace m_fault m_faultPlace (-1) m_will m_forgot 0 m_x vb vr vc vf m_any m_bothSend m_meanCards m_bestSum m_fitMany m_fitFirst m_fitSecond)), ((m_a 23), .inl (cI, 2, .inl fr)), ((m_a 24), .inl (cZ, 2, .inl fm)), ((m_a 25), .inl (cZ, 2, .inl fc)), ((m_a 26), .inl (cI, 2, .inl (upd (upd fs 0 1) 1 0))), ((m_a 27), .inl (cZ, 2, .inl (upd (upd (upd (upd fg 0 0) 1 0) 0 0) 1 1))), ((m_a 34), .inl (cZ, 2, .inl (upd (upd fk 0 0) 1 1)))] H := hP
        have hD : va_D A [(mo, .inr (11, mG m_a m_thrown m_taped m_at m_token m_place m_value m_word m_bad m_badPlace m_fault m_faultPlace (-1) m_will m_forgot 0 m_x vb vr vc vf m_any m_bothSend m_meanCards m_bestSum m_fitMany m_fitFirst m_fitSecond)), ((m_a 23), .inl (cI, 2, .inl fr)), ((m_a 24), .inl (cZ, 2, .inl fm)), ((m_a 25), .inl (cZ, 2, .inl fc)), ((m_a 26), .inl (cI, 2, .inl (upd (upd fs 0 1) 1 0))), ((m_a 27), .inl (cZ, 2, .inl (upd (upd (upd (upd fg 0 0) 1 0) 0 0) 1 1))), ((m_a 34), .inl (cZ, 2, .inl (upd (upd fk 0 0) 1 1)))] := hD
        refine lv_iload_n hx hb dX12_yearOf_253 rfl (lv_at hl 1 rfl) ?_
        refine lv_aload_n hx hb dX12_yearOf_254 rfl (lv_at hl 3 rfl) ?_
        refine va_get (D := g) (ci := 11) (v := .ref (m_a 27)) (C := RX12) (T := TX12) (N := 56) hx hb hts iX12 hown hK hP 0 rfl rfl 27 (by decide) (hts (.fieldLink RX12 65 "CardsAtYuleModel" "gets" "[Z") (List.mem_cons_of_mem _ (List.mem_append_left _ (List.mem_of_getElem? (i := 0) rfl)))) (fun _ h9 => h9) rfl dX12_yearOf_255 ?_
        refine lv_iload hx hb dX12_yearOf_258 (lv_at hl 0 rfl) ?_
        refine va_zald (D := g) hx hb hK hP 5 3 rfl rfl (vc_in (by decide)) dX12_yearOf_260 ?_
        refine lv_topi (nm_r (e' := 1) rfl ?_)
        refine lv_if_eq (tgt := 273) hx hb dX12_yearOf_261 (by decide) (fun c77 => absurd c77 (by decide)) (fun _ => ?_)
        refine lv_iconst (v := 1) hx hb dX12_yearOf_264 (by decide) ?_
        refine lv_iconst (v := 2) hx hb dX12_yearOf_265 (by decide) ?_
        refine lv_iload hx hb dX12_yearOf_266 (lv_at hl 0 rfl) ?_
        refine lv_imul hx hb dX12_yearOf_268 ?_
        refine lv_topi (nm_r (e' := 2) (by decide) ?_)
        refine lv_ishl hx hb dX12_yearOf_269 ?_
        refine lv_topi (nm_r (e' := 4) (by decide) ?_)
        refine lv_goto (tgt := 274) hx hb dX12_yearOf_270 (by decide) ?_
        refine lv_ior hx hb dX12_yearOf_274 ?_
        refine lv_istore_n (lv' := [(3, .int (((((nI js) &&& 5) <<< (1 &&& (31 : Int32))) ||| 0) ||| 4)), (4, .int 1), (2, .ref (m_a 34)), (0, .ref mo), (1, .int (nI js))]) hx hb dX12_yearOf_275 rfl hl (by decide) rfl (fun ls hl => ?_)
        refine lv_iinc (v := 2) (lv' := [(4, .int 2), (3, .int (((((nI js) &&& 5) <<< (1 &&& (31 : Int32))) ||| 0) ||| 4)), (2, .ref (m_a 34)), (0, .ref mo), (1, .int (nI js))]) hx hb dX12_yearOf_276 hl (k := 1) rfl (by decide) (by decide) rfl (fun ls hl => ?_)
        refine lv_goto (tgt := 211) hx hb dX12_yearOf_279 (by decide) ?_
        refine lv_iload hx hb dX12_yearOf_211 (lv_at hl 0 rfl) ?_
        refine lv_iconst (v := 2) hx hb dX12_yearOf_213 (by decide) ?_
        refine lv_icmp_ge (tgt := 282) hx hb dX12_yearOf_214 (by decide) (fun _ => ?_) (fun c78 => absurd c78 (by decide))
        refine lv_iload_n hx hb dX12_yearOf_282 rfl (lv_at hl 1 rfl) ?_
        have hA9 : sA ra rb js = 1 := by unfold sA; rw [if_pos (by omega)]
        have hB9 : zB ra rb js = 0 := by unfold zB; rw [if_neg (by omega)]
        have hP9 := hP.sub (ws' := [(mo, .inr (11, mG m_a m_thrown m_taped m_at m_token m_place m_value m_word m_bad m_badPlace m_fault m_faultPlace (-1) m_will m_forgot 0 m_x vb vr vc vf m_any m_bothSend m_meanCards m_bestSum m_fitMany m_fitFirst m_fitSecond)), ((m_a 23), .inl (cI, 2, .inl fr)), ((m_a 24), .inl (cZ, 2, .inl fm)), ((m_a 25), .inl (cZ, 2, .inl fc)), ((m_a 26), .inl (cI, 2, .inl (upd (upd fs 0 1) 1 0))), ((m_a 27), .inl (cZ, 2, .inl (upd (upd (upd (upd fg 0 0) 1 0) 0 0) 1 1))), ((m_a 34), .inl (cZ, 2, .inl (upd (upd fk 0 0) 1 1)))]) [0, 1, 2, 3, 4, 5, 6] rfl
        have hD9 := hD.sub (ws' := [(mo, .inr (11, mG m_a m_thrown m_taped m_at m_token m_place m_value m_word m_bad m_badPlace m_fault m_faultPlace (-1) m_will m_forgot 0 m_x vb vr vc vf m_any m_bothSend m_meanCards m_bestSum m_fitMany m_fitFirst m_fitSecond)), ((m_a 23), .inl (cI, 2, .inl fr)), ((m_a 24), .inl (cZ, 2, .inl fm)), ((m_a 25), .inl (cZ, 2, .inl fc)), ((m_a 26), .inl (cI, 2, .inl (upd (upd fs 0 1) 1 0))), ((m_a 27), .inl (cZ, 2, .inl (upd (upd (upd (upd fg 0 0) 1 0) 0 0) 1 1))), ((m_a 34), .inl (cZ, 2, .inl (upd (upd fk 0 0) 1 1)))]) [0, 1, 2, 3, 4, 5, 6] (by decide) rfl
        exact W.iret (v := (((((nI js) &&& 5) <<< (1 &&& (31 : Int32))) ||| 0) ||| 4)) hx hb hr (fun t ht hW => ⟨⟨(((((nI js) &&& 5) <<< (1 &&& (31 : Int32))) ||| 0) ||| 4), ((upd (upd fs 0 1) 1 0), (upd (upd (upd (upd fg 0 0) 1 0) 0 0) 1 1), (upd (upd fk 0 0) 1 1)), rfl, ⟨th_nx hjs (u := 0) (v := 1) hB9 hA9, 1, 0, rfl, rfl, by decide, by decide, by unfold sc; rw [hA9, hB9]; rfl⟩, by rw [ht]; exact hP9, va_K.moved hW.alike hK, hD9⟩, hS.F ht⟩) hS.2.2 dX12_yearOf_283
      · have f69 := (show 16 ≤ (rb : Int) from z_nlt (nI_toInt (n := rb) (by omega)) rfl c68)
        refine lv_aload_n hx hb dX12_yearOf_175 rfl (lv_at hl 1 rfl) ?_
        refine lv_iload_n hx hb dX12_yearOf_176 rfl (lv_at hl 0 rfl) ?_
        refine va_zald (D := g) hx hb hK hP 6 3 rfl rfl (vc_in (by decide)) dX12_yearOf_177 ?_
        refine lv_topi (nm_r (e' := 1) rfl ?_)
        refine lv_if_eq (tgt := 196) hx hb dX12_yearOf_178 (by decide) (fun c79 => absurd c79 (by decide)) (fun _ => ?_)
        refine lv_aload_n hx hb dX12_yearOf_181 rfl (lv_at hl 2 rfl) ?_
        refine lv_iload_n hx hb dX12_yearOf_182 rfl (lv_at hl 0 rfl) ?_
        refine ro_i (va_runV (As := [.int 1]) (rest := []) ⟨hx, hb, hml, hown, hts⟩ (k_fX12_isForgotten l g cI cJ cB cZ cL mo m_a m_thrown m_taped m_at m_token m_place m_value m_word m_bad m_badPlace m_fault m_faultPlace m_will m_forgot m_x m_any m_bothSend m_meanCards m_bestSum m_fitMany m_fitFirst m_fitSecond vb vr vc vf 1 H.size ) (cwV 1 hts (goodIn_app (g_4 (List.mem_cons_of_mem _ (List.mem_append_left _ (List.mem_of_getElem? (i := 7) rfl))) (List.mem_cons_of_mem _ (List.mem_append_left _ (List.mem_of_getElem? (i := 8) rfl))) (List.mem_cons_of_mem _ (List.mem_append_left _ (List.mem_of_getElem? (i := 9) rfl))) (List.mem_cons_of_mem _ (List.mem_append_left _ (List.mem_of_getElem? (i := 6) rfl))) (by decide +kernel)) (goodIn_sub (fun _ h => List.mem_cons_of_mem _ (List.mem_append_right _ (List.mem_append_right _ (List.mem_append_left _ h)))) good_v_fX12_isForgotten)) rfl rfl rfl (by decide +kernel) ⟨Nat.le_of_ble_eq_true rfl, Nat.le_of_ble_eq_true rfl⟩) (pv_RO (q := (RX12, TX12, 56)) (ci := 11) (q0 := 0) (wc := [(mo, .inr (11, mG m_a m_thrown m_taped m_at m_token m_place m_value m_word m_bad m_badPlace m_fault m_faultPlace (-1) m_will m_forgot 0 m_x vb vr vc vf m_any m_bothSend m_meanCards m_bestSum m_fitMany m_fitFirst m_fitSecond))]) hK hP [0] rfl rfl rfl) rfl rfl hl.1 rfl (lv_room (Nat.le_of_ble_eq_true rfl)) dX12_yearOf_183 ⟨Nat.le_of_ble_eq_true rfl, Nat.le_of_ble_eq_true rfl⟩) hS hA hP (fun r80 u81 H locs hw82 hP hS => ?_)
        subst hw82
        refine lv_if_ne (tgt := 196) hx hb dX12_yearOf_186 (by decide) (fun c83 => absurd c83 (by decide)) (fun _ => ?_)
        refine lv_aload_n hx hb dX12_yearOf_189 rfl (lv_at hl 2 rfl) ?_
        refine va_get (D := g) (ci := 11) (v := .ref (m_a 26)) (C := RX12) (T := TX12) (N := 56) hx hb hts iX12 hown hK hP 0 rfl rfl 26 (by decide) (hts (.fieldLink RX12 62 "CardsAtYuleModel" "sent" "[I") (List.mem_cons_of_mem _ (List.mem_append_left _ (List.mem_of_getElem? (i := 10) rfl)))) (fun _ h9 => h9) rfl dX12_yearOf_190 ?_
        refine lv_iload_n hx hb dX12_yearOf_193 rfl (lv_at hl 0 rfl) ?_
        refine lv_iconst (v := 2) hx hb dX12_yearOf_194 (by decide) ?_
        refine va_iast (D := g) hx hb hK hP hD hS 4 0 rfl rfl (vc_in (by decide)) dX12_yearOf_195 (fun H locs hP hD hS => ?_)
        have hP : va_P g vwCl [(mo, .inr (11, mG m_a m_thrown m_taped m_at m_token m_place m_value m_word m_bad m_badPlace m_fault m_faultPlace (-1) m_will m_forgot 0 m_x vb vr vc vf m_any m_bothSend m_meanCards m_bestSum m_fitMany m_fitFirst m_fitSecond)), ((m_a 23), .inl (cI, 2, .inl fr)), ((m_a 24), .inl (cZ, 2, .inl fm)), ((m_a 25), .inl (cZ, 2, .inl fc)), ((m_a 26), .inl (cI, 2, .inl (upd (upd (upd fs 0 1) 1 0) 1 2))), ((m_a 27), .inl (cZ, 2, .inl (upd (upd fg 0 0) 1 0))), ((m_a 34), .inl (cZ, 2, .inl (upd (upd fk 0 0) 1 1)))] H := hP
        have hD : va_D A [(mo, .inr (11, mG m_a m_thrown m_taped m_at m_token m_place m_value m_word m_bad m_badPlace m_fault m_faultPlace (-1) m_will m_forgot 0 m_x vb vr vc vf m_any m_bothSend m_meanCards m_bestSum m_fitMany m_fitFirst m_fitSecond)), ((m_a 23), .inl (cI, 2, .inl fr)), ((m_a 24), .inl (cZ, 2, .inl fm)), ((m_a 25), .inl (cZ, 2, .inl fc)), ((m_a 26), .inl (cI, 2, .inl (upd (upd (upd fs 0 1) 1 0) 1 2))), ((m_a 27), .inl (cZ, 2, .inl (upd (upd fg 0 0) 1 0))), ((m_a 34), .inl (cZ, 2, .inl (upd (upd fk 0 0) 1 1)))] := hD
        refine lv_iinc (v := 2) (lv' := [(3, .int 2), (2, .ref (m_a 34)), (0, .ref mo), (1, .int (nI js))]) hx hb dX12_yearOf_196 hl (k := 0) rfl (by decide) (by decide) rfl (fun ls hl => ?_)
        refine lv_goto (tgt := 133) hx hb dX12_yearOf_199 (by decide) ?_
        refine lv_iload_n hx hb dX12_yearOf_133 rfl (lv_at hl 0 rfl) ?_
        refine lv_iconst (v := 2) hx hb dX12_yearOf_134 (by decide) ?_
        refine lv_icmp_ge (tgt := 202) hx hb dX12_yearOf_135 (by decide) (fun _ => ?_) (fun c84 => absurd c84 (by decide))
        refine lv_iload_n hx hb dX12_yearOf_202 rfl (lv_at hl 3 rfl) ?_
        refine lv_iconst (v := 5) hx hb dX12_yearOf_203 (by decide) ?_
        refine lv_iand hx hb dX12_yearOf_204 ?_
        refine lv_iconst (v := 1) hx hb dX12_yearOf_205 (by decide) ?_
        refine lv_ishl hx hb dX12_yearOf_206 ?_
        refine lv_istore_n (lv' := [(3, .int (((nI js) &&& 5) <<< (1 &&& (31 : Int32)))), (2, .ref (m_a 34)), (0, .ref mo), (1, .int (nI js))]) hx hb dX12_yearOf_207 rfl hl (by decide) rfl (fun ls hl => ?_)
        refine lv_iconst (v := 0) hx hb dX12_yearOf_208 (by decide) ?_
        refine lv_istore (lv' := [(4, .int 0), (3, .int (((nI js) &&& 5) <<< (1 &&& (31 : Int32)))), (2, .ref (m_a 34)), (0, .ref mo), (1, .int (nI js))]) hx hb dX12_yearOf_209 hl (by decide) rfl (fun ls hl => ?_)
        refine lv_iload hx hb dX12_yearOf_211 (lv_at hl 0 rfl) ?_
        refine lv_iconst (v := 2) hx hb dX12_yearOf_213 (by decide) ?_
        refine lv_icmp_ge (tgt := 282) hx hb dX12_yearOf_214 (by decide) (fun c85 => absurd c85 (by decide)) (fun _ => ?_)
        refine lv_aload_n hx hb dX12_yearOf_217 rfl (lv_at hl 3 rfl) ?_
        refine va_get (D := g) (ci := 11) (v := .ref (m_a 27)) (C := RX12) (T := TX12) (N := 56) hx hb hts iX12 hown hK hP 0 rfl rfl 27 (by decide) (hts (.fieldLink RX12 65 "CardsAtYuleModel" "gets" "[Z") (List.mem_cons_of_mem _ (List.mem_append_left _ (List.mem_of_getElem? (i := 0) rfl)))) (fun _ h9 => h9) rfl dX12_yearOf_218 ?_
        refine lv_iload hx hb dX12_yearOf_221 (lv_at hl 0 rfl) ?_
        refine lv_aload_n hx hb dX12_yearOf_223 rfl (lv_at hl 3 rfl) ?_
        refine va_get (D := g) (ci := 11) (v := .ref (m_a 26)) (C := RX12) (T := TX12) (N := 56) hx hb hts iX12 hown hK hP 0 rfl rfl 26 (by decide) (hts (.fieldLink RX12 62 "CardsAtYuleModel" "sent" "[I") (List.mem_cons_of_mem _ (List.mem_append_left _ (List.mem_of_getElem? (i := 10) rfl)))) (fun _ h9 => h9) rfl dX12_yearOf_224 ?_
        refine lv_iconst (v := 1) hx hb dX12_yearOf_227 (by decide) ?_
        refine lv_iload hx hb dX12_yearOf_228 (lv_at hl 0 rfl) ?_
        refine lv_isub hx hb dX12_yearOf_230 ?_
        refine lv_topi (nm_r (e' := 1) (by decide) ?_)
        refine va_iald (D := g) hx hb hK hP 4 0 rfl rfl (vc_in (by decide)) dX12_yearOf_231 ?_
        refine lv_topi (nm_r (e' := 2) rfl ?_)
        refine lv_if_le (tgt := 251) hx hb dX12_yearOf_232 (by decide) (fun c86 => absurd c86 (by decide)) (fun _ => ?_)
        refine lv_aload_n hx hb dX12_yearOf_235 rfl (lv_at hl 3 rfl) ?_
        refine va_get (D := g) (ci := 11) (v := .ref (m_a 25)) (C := RX12) (T := TX12) (N := 56) hx hb hts iX12 hown hK hP 0 rfl rfl 25 (by decide) (hts (.fieldLink RX12 59 "CardsAtYuleModel" "maycome" "[Z") (List.mem_cons_of_mem _ (List.mem_append_left _ (List.mem_of_getElem? (i := 12) rfl)))) (fun _ h9 => h9) rfl dX12_yearOf_236 ?_
        refine lv_iconst (v := 1) hx hb dX12_yearOf_239 (by decide) ?_
        refine lv_iload hx hb dX12_yearOf_240 (lv_at hl 0 rfl) ?_
        refine lv_isub hx hb dX12_yearOf_242 ?_
        refine lv_topi (nm_r (e' := 1) (by decide) ?_)
        refine va_zald (D := g) hx hb hK hP 3 3 rfl rfl (vc_in (by decide)) dX12_yearOf_243 ?_
        refine lv_topi (nm_r (e' := 1) hS_c1 ?_)
        refine lv_if_eq (tgt := 251) hx hb dX12_yearOf_244 (by decide) (fun c87 => absurd c87 (by decide)) (fun _ => ?_)
        refine lv_iconst (v := 1) hx hb dX12_yearOf_247 (by decide) ?_
        refine lv_goto (tgt := 252) hx hb dX12_yearOf_248 (by decide) ?_
        refine va_zast (D := g) hx hb hK hP hD hS 5 3 rfl rfl (vc_in (by decide)) dX12_yearOf_252 (fun H locs hP hD hS => ?_)
        have hP : va_P g vwCl [(mo, .inr (11, mG m_a m_thrown m_taped m_at m_token m_place m_value m_word m_bad m_badPlace m_fault m_faultPlace (-1) m_will m_forgot 0 m_x vb vr vc vf m_any m_bothSend m_meanCards m_bestSum m_fitMany m_fitFirst m_fitSecond)), ((m_a 23), .inl (cI, 2, .inl fr)), ((m_a 24), .inl (cZ, 2, .inl fm)), ((m_a 25), .inl (cZ, 2, .inl fc)), ((m_a 26), .inl (cI, 2, .inl (upd (upd (upd fs 0 1) 1 0) 1 2))), ((m_a 27), .inl (cZ, 2, .inl (upd (upd (upd fg 0 0) 1 0) 0 1))), ((m_a 34), .inl (cZ, 2, .inl (upd (upd fk 0 0) 1 1)))] H := hP
        have hD : va_D A [(mo, .inr (11, mG m_a m_thrown m_taped m_at m_token m_place m_value m_word m_bad m_badPlace m_fault m_faultPlace (-1) m_will m_forgot 0 m_x vb vr vc vf m_any m_bothSend m_meanCards m_bestSum m_fitMany m_fitFirst m_fitSecond)), ((m_a 23), .inl (cI, 2, .inl fr)), ((m_a 24), .inl (cZ, 2, .inl fm)), ((m_a 25), .inl (cZ, 2, .inl fc)), ((m_a 26), .inl (cI, 2, .inl (upd (upd (upd fs 0 1) 1 0) 1 2))), ((m_a 27), .inl (cZ, 2, .inl (upd (upd (upd fg 0 0) 1 0) 0 1))), ((m_a 34), .inl (cZ, 2, .inl (upd (upd fk 0 0) 1 1)))] := hD
        refine lv_iload_n hx hb dX12_yearOf_253 rfl (lv_at hl 1 rfl) ?_
        refine lv_aload_n hx hb dX12_yearOf_254 rfl (lv_at hl 3 rfl) ?_
        refine va_get (D := g) (ci := 11) (v := .ref (m_a 27)) (C := RX12) (T := TX12) (N := 56) hx hb hts iX12 hown hK hP 0 rfl rfl 27 (by decide) (hts (.fieldLink RX12 65 "CardsAtYuleModel" "gets" "[Z") (List.mem_cons_of_mem _ (List.mem_append_left _ (List.mem_of_getElem? (i := 0) rfl)))) (fun _ h9 => h9) rfl dX12_yearOf_255 ?_
        refine lv_iload hx hb dX12_yearOf_258 (lv_at hl 0 rfl) ?_
        refine va_zald (D := g) hx hb hK hP 5 3 rfl rfl (vc_in (by decide)) dX12_yearOf_260 ?_
        refine lv_topi (nm_r (e' := 1) rfl ?_)
        refine lv_if_eq (tgt := 273) hx hb dX12_yearOf_261 (by decide) (fun c88 => absurd c88 (by decide)) (fun _ => ?_)
        refine lv_iconst (v := 1) hx hb dX12_yearOf_264 (by decide) ?_
        refine lv_iconst (v := 2) hx hb dX12_yearOf_265 (by decide) ?_
        refine lv_iload hx hb dX12_yearOf_266 (lv_at hl 0 rfl) ?_
        refine lv_imul hx hb dX12_yearOf_268 ?_
        refine lv_topi (nm_r (e' := 0) (by decide) ?_)
        refine lv_ishl hx hb dX12_yearOf_269 ?_
        refine lv_topi (nm_r (e' := 1) (by decide) ?_)
        refine lv_goto (tgt := 274) hx hb dX12_yearOf_270 (by decide) ?_
        refine lv_ior hx hb dX12_yearOf_274 ?_
        refine lv_istore_n (lv' := [(3, .int ((((nI js) &&& 5) <<< (1 &&& (31 : Int32))) ||| 1)), (4, .int 0), (2, .ref (m_a 34)), (0, .ref mo), (1, .int (nI js))]) hx hb dX12_yearOf_275 rfl hl (by decide) rfl (fun ls hl => ?_)
        refine lv_iinc (v := 1) (lv' := [(4, .int 1), (3, .int ((((nI js) &&& 5) <<< (1 &&& (31 : Int32))) ||| 1)), (2, .ref (m_a 34)), (0, .ref mo), (1, .int (nI js))]) hx hb dX12_yearOf_276 hl (k := 1) rfl (by decide) (by decide) rfl (fun ls hl => ?_)
        refine lv_goto (tgt := 211) hx hb dX12_yearOf_279 (by decide) ?_
        refine lv_iload hx hb dX12_yearOf_211 (lv_at hl 0 rfl) ?_
        refine lv_iconst (v := 2) hx hb dX12_yearOf_213 (by decide) ?_
        refine lv_icmp_ge (tgt := 282) hx hb dX12_yearOf_214 (by decide) (fun c89 => absurd c89 (by decide)) (fun _ => ?_)
        refine lv_aload_n hx hb dX12_yearOf_217 rfl (lv_at hl 3 rfl) ?_
        refine va_get (D := g) (ci := 11) (v := .ref (m_a 27)) (C := RX12) (T := TX12) (N := 56) hx hb hts iX12 hown hK hP 0 rfl rfl 27 (by decide) (hts (.fieldLink RX12 65 "CardsAtYuleModel" "gets" "[Z") (List.mem_cons_of_mem _ (List.mem_append_left _ (List.mem_of_getElem? (i := 0) rfl)))) (fun _ h9 => h9) rfl dX12_yearOf_218 ?_
        refine lv_iload hx hb dX12_yearOf_221 (lv_at hl 0 rfl) ?_
        refine lv_aload_n hx hb dX12_yearOf_223 rfl (lv_at hl 3 rfl) ?_
        refine va_get (D := g) (ci := 11) (v := .ref (m_a 26)) (C := RX12) (T := TX12) (N := 56) hx hb hts iX12 hown hK hP 0 rfl rfl 26 (by decide) (hts (.fieldLink RX12 62 "CardsAtYuleModel" "sent" "[I") (List.mem_cons_of_mem _ (List.mem_append_left _ (List.mem_of_getElem? (i := 10) rfl)))) (fun _ h9 => h9) rfl dX12_yearOf_224 ?_
        refine lv_iconst (v := 1) hx hb dX12_yearOf_227 (by decide) ?_
        refine lv_iload hx hb dX12_yearOf_228 (lv_at hl 0 rfl) ?_
        refine lv_isub hx hb dX12_yearOf_230 ?_
        refine lv_topi (nm_r (e' := 0) (by decide) ?_)
        refine va_iald (D := g) hx hb hK hP 4 0 rfl rfl (vc_in (by decide)) dX12_yearOf_231 ?_
        refine lv_topi (nm_r (e' := 1) rfl ?_)
        refine lv_if_le (tgt := 251) hx hb dX12_yearOf_232 (by decide) (fun c90 => absurd c90 (by decide)) (fun _ => ?_)
        refine lv_aload_n hx hb dX12_yearOf_235 rfl (lv_at hl 3 rfl) ?_
        refine va_get (D := g) (ci := 11) (v := .ref (m_a 25)) (C := RX12) (T := TX12) (N := 56) hx hb hts iX12 hown hK hP 0 rfl rfl 25 (by decide) (hts (.fieldLink RX12 59 "CardsAtYuleModel" "maycome" "[Z") (List.mem_cons_of_mem _ (List.mem_append_left _ (List.mem_of_getElem? (i := 12) rfl)))) (fun _ h9 => h9) rfl dX12_yearOf_236 ?_
        refine lv_iconst (v := 1) hx hb dX12_yearOf_239 (by decide) ?_
        refine lv_iload hx hb dX12_yearOf_240 (lv_at hl 0 rfl) ?_
        refine lv_isub hx hb dX12_yearOf_242 ?_
        refine lv_topi (nm_r (e' := 0) (by decide) ?_)
        refine va_zald (D := g) hx hb hK hP 3 3 rfl rfl (vc_in (by decide)) dX12_yearOf_243 ?_
        refine lv_topi (nm_r (e' := 1) hS_c0 ?_)
        refine lv_if_eq (tgt := 251) hx hb dX12_yearOf_244 (by decide) (fun c91 => absurd c91 (by decide)) (fun _ => ?_)
        refine lv_iconst (v := 1) hx hb dX12_yearOf_247 (by decide) ?_
        refine lv_goto (tgt := 252) hx hb dX12_yearOf_248 (by decide) ?_
        refine va_zast (D := g) hx hb hK hP hD hS 5 3 rfl rfl (vc_in (by decide)) dX12_yearOf_252 (fun H locs hP hD hS => ?_)
        have hP : va_P g vwCl [(mo, .inr (11, mG m_a m_thrown m_taped m_at m_token m_place m_value m_word m_bad m_badPlace m_fault m_faultPlace (-1) m_will m_forgot 0 m_x vb vr vc vf m_any m_bothSend m_meanCards m_bestSum m_fitMany m_fitFirst m_fitSecond)), ((m_a 23), .inl (cI, 2, .inl fr)), ((m_a 24), .inl (cZ, 2, .inl fm)), ((m_a 25), .inl (cZ, 2, .inl fc)), ((m_a 26), .inl (cI, 2, .inl (upd (upd (upd fs 0 1) 1 0) 1 2))), ((m_a 27), .inl (cZ, 2, .inl (upd (upd (upd (upd fg 0 0) 1 0) 0 1) 1 1))), ((m_a 34), .inl (cZ, 2, .inl (upd (upd fk 0 0) 1 1)))] H := hP
        have hD : va_D A [(mo, .inr (11, mG m_a m_thrown m_taped m_at m_token m_place m_value m_word m_bad m_badPlace m_fault m_faultPlace (-1) m_will m_forgot 0 m_x vb vr vc vf m_any m_bothSend m_meanCards m_bestSum m_fitMany m_fitFirst m_fitSecond)), ((m_a 23), .inl (cI, 2, .inl fr)), ((m_a 24), .inl (cZ, 2, .inl fm)), ((m_a 25), .inl (cZ, 2, .inl fc)), ((m_a 26), .inl (cI, 2, .inl (upd (upd (upd fs 0 1) 1 0) 1 2))), ((m_a 27), .inl (cZ, 2, .inl (upd (upd (upd (upd fg 0 0) 1 0) 0 1) 1 1))), ((m_a 34), .inl (cZ, 2, .inl (upd (upd fk 0 0) 1 1)))] := hD
        refine lv_iload_n hx hb dX12_yearOf_253 rfl (lv_at hl 1 rfl) ?_
        refine lv_aload_n hx hb dX12_yearOf_254 rfl (lv_at hl 3 rfl) ?_
        refine va_get (D := g) (ci := 11) (v := .ref (m_a 27)) (C := RX12) (T := TX12) (N := 56) hx hb hts iX12 hown hK hP 0 rfl rfl 27 (by decide) (hts (.fieldLink RX12 65 "CardsAtYuleModel" "gets" "[Z") (List.mem_cons_of_mem _ (List.mem_append_left _ (List.mem_of_getElem? (i := 0) rfl)))) (fun _ h9 => h9) rfl dX12_yearOf_255 ?_
        refine lv_iload hx hb dX12_yearOf_258 (lv_at hl 0 rfl) ?_
        refine va_zald (D := g) hx hb hK hP 5 3 rfl rfl (vc_in (by decide)) dX12_yearOf_260 ?_
        refine lv_topi (nm_r (e' := 1) rfl ?_)
        refine lv_if_eq (tgt := 273) hx hb dX12_yearOf_261 (by decide) (fun c92 => absurd c92 (by decide)) (fun _ => ?_)
        refine lv_iconst (v := 1) hx hb dX12_yearOf_264 (by decide) ?_
        refine lv_iconst (v := 2) hx hb dX12_yearOf_265 (by decide) ?_
        refine lv_iload hx hb dX12_yearOf_266 (lv_at hl 0 rfl) ?_
        refine lv_imul hx hb dX12_yearOf_268 ?_
        refine lv_topi (nm_r (e' := 2) (by decide) ?_)
        refine lv_ishl hx hb dX12_yearOf_269 ?_
        refine lv_topi (nm_r (e' := 4) (by decide) ?_)
        refine lv_goto (tgt := 274) hx hb dX12_yearOf_270 (by decide) ?_
        refine lv_ior hx hb dX12_yearOf_274 ?_
        refine lv_istore_n (lv' := [(3, .int (((((nI js) &&& 5) <<< (1 &&& (31 : Int32))) ||| 1) ||| 4)), (4, .int 1), (2, .ref (m_a 34)), (0, .ref mo), (1, .int (nI js))]) hx hb dX12_yearOf_275 rfl hl (by decide) rfl (fun ls hl => ?_)
        refine lv_iinc (v := 2) (lv' := [(4, .int 2), (3, .int (((((nI js) &&& 5) <<< (1 &&& (31 : Int32))) ||| 1) ||| 4)), (2, .ref (m_a 34)), (0, .ref mo), (1, .int (nI js))]) hx hb dX12_yearOf_276 hl (k := 1) rfl (by decide) (by decide) rfl (fun ls hl => ?_)
        refine lv_goto (tgt := 211) hx hb dX12_yearOf_279 (by decide) ?_
        refine lv_iload hx hb dX12_yearOf_211 (lv_at hl 0 rfl) ?_
        refine lv_iconst (v := 2) hx hb dX12_yearOf_213 (by decide) ?_
        refine lv_icmp_ge (tgt := 282) hx hb dX12_yearOf_214 (by decide) (fun _ => ?_) (fun c93 => absurd c93 (by decide))
        refine lv_iload_n hx hb dX12_yearOf_282 rfl (lv_at hl 1 rfl) ?_
        have hA9 : sA ra rb js = 1 := by unfold sA; rw [if_pos (by omega)]
        have hB9 : zB ra rb js = 1 := by unfold zB; rw [if_pos (by omega)]
        have hP9 := hP.sub (ws' := [(mo, .inr (11, mG m_a m_thrown m_taped m_at m_token m_place m_value m_word m_bad m_badPlace m_fault m_faultPlace (-1) m_will m_forgot 0 m_x vb vr vc vf m_any m_bothSend m_meanCards m_bestSum m_fitMany m_fitFirst m_fitSecond)), ((m_a 23), .inl (cI, 2, .inl fr)), ((m_a 24), .inl (cZ, 2, .inl fm)), ((m_a 25), .inl (cZ, 2, .inl fc)), ((m_a 26), .inl (cI, 2, .inl (upd (upd (upd fs 0 1) 1 0) 1 2))), ((m_a 27), .inl (cZ, 2, .inl (upd (upd (upd (upd fg 0 0) 1 0) 0 1) 1 1))), ((m_a 34), .inl (cZ, 2, .inl (upd (upd fk 0 0) 1 1)))]) [0, 1, 2, 3, 4, 5, 6] rfl
        have hD9 := hD.sub (ws' := [(mo, .inr (11, mG m_a m_thrown m_taped m_at m_token m_place m_value m_word m_bad m_badPlace m_fault m_faultPlace (-1) m_will m_forgot 0 m_x vb vr vc vf m_any m_bothSend m_meanCards m_bestSum m_fitMany m_fitFirst m_fitSecond)), ((m_a 23), .inl (cI, 2, .inl fr)), ((m_a 24), .inl (cZ, 2, .inl fm)), ((m_a 25), .inl (cZ, 2, .inl fc)), ((m_a 26), .inl (cI, 2, .inl (upd (upd (upd fs 0 1) 1 0) 1 2))), ((m_a 27), .inl (cZ, 2, .inl (upd (upd (upd (upd fg 0 0) 1 0) 0 1) 1 1))), ((m_a 34), .inl (cZ, 2, .inl (upd (upd fk 0 0) 1 1)))]) [0, 1, 2, 3, 4, 5, 6] (by decide) rfl
        exact W.iret (v := (((((nI js) &&& 5) <<< (1 &&& (31 : Int32))) ||| 1) ||| 4)) hx hb hr (fun t ht hW => ⟨⟨(((((nI js) &&& 5) <<< (1 &&& (31 : Int32))) ||| 1) ||| 4), ((upd (upd (upd fs 0 1) 1 0) 1 2), (upd (upd (upd (upd fg 0 0) 1 0) 0 1) 1 1), (upd (upd fk 0 0) 1 1)), rfl, ⟨th_nx hjs (u := 1) (v := 1) hB9 hA9, 1, 2, rfl, rfl, by decide, by decide, by unfold sc; rw [hA9, hB9]; rfl⟩, by rw [ht]; exact hP9, va_K.moved hW.alike hK, hD9⟩, hS.F ht⟩) hS.2.2 dX12_yearOf_283
  · refine lv_if_eq (tgt := 59) hx hb dX12_yearOf_44 (by decide) (fun _ => ?_) (fun c94 => absurd c94 (by decide))
    refine lv_iconst (v := 0) hx hb dX12_yearOf_59 (by decide) ?_
    refine lv_istore_n (lv' := [(3, .int 0), (2, .int 0), (0, .ref mo), (1, .int (nI js))]) hx hb dX12_yearOf_60 rfl hl (by decide) rfl (fun ls hl => ?_)
    refine lv_aload_n hx hb dX12_yearOf_61 rfl (lv_at hl 2 rfl) ?_
    refine va_get (D := g) (ci := 11) (v := .ref (m_a 26)) (C := RX12) (T := TX12) (N := 56) hx hb hts iX12 hown hK hP 0 rfl rfl 26 (by decide) (hts (.fieldLink RX12 62 "CardsAtYuleModel" "sent" "[I") (List.mem_cons_of_mem _ (List.mem_append_left _ (List.mem_of_getElem? (i := 10) rfl)))) (fun _ h9 => h9) rfl dX12_yearOf_62 ?_
    refine lv_iload_n hx hb dX12_yearOf_65 rfl (lv_at hl 1 rfl) ?_
    refine lv_iload_n hx hb dX12_yearOf_66 rfl (lv_at hl 0 rfl) ?_
    refine lv_if_eq (tgt := 74) hx hb dX12_yearOf_67 (by decide) (fun _ => ?_) (fun c95 => absurd c95 (by decide))
    refine lv_iconst (v := 0) hx hb dX12_yearOf_74 (by decide) ?_
    refine va_iast (D := g) hx hb hK hP hD hS 4 0 rfl rfl (vc_in (by decide)) dX12_yearOf_75 (fun H locs hP hD hS => ?_)
    have hP : va_P g vwCl [(mo, .inr (11, mG m_a m_thrown m_taped m_at m_token m_place m_value m_word m_bad m_badPlace m_fault m_faultPlace (-1) m_will m_forgot 0 m_x vb vr vc vf m_any m_bothSend m_meanCards m_bestSum m_fitMany m_fitFirst m_fitSecond)), ((m_a 23), .inl (cI, 2, .inl fr)), ((m_a 24), .inl (cZ, 2, .inl fm)), ((m_a 25), .inl (cZ, 2, .inl fc)), ((m_a 26), .inl (cI, 2, .inl (upd fs 0 0))), ((m_a 27), .inl (cZ, 2, .inl (upd fg 0 0))), ((m_a 34), .inl (cZ, 2, .inl fk))] H := hP
    have hD : va_D A [(mo, .inr (11, mG m_a m_thrown m_taped m_at m_token m_place m_value m_word m_bad m_badPlace m_fault m_faultPlace (-1) m_will m_forgot 0 m_x vb vr vc vf m_any m_bothSend m_meanCards m_bestSum m_fitMany m_fitFirst m_fitSecond)), ((m_a 23), .inl (cI, 2, .inl fr)), ((m_a 24), .inl (cZ, 2, .inl fm)), ((m_a 25), .inl (cZ, 2, .inl fc)), ((m_a 26), .inl (cI, 2, .inl (upd fs 0 0))), ((m_a 27), .inl (cZ, 2, .inl (upd fg 0 0))), ((m_a 34), .inl (cZ, 2, .inl fk))] := hD
    refine lv_iinc (v := 1) (lv' := [(2, .int 1), (3, .int 0), (0, .ref mo), (1, .int (nI js))]) hx hb dX12_yearOf_76 hl (k := 1) rfl (by decide) (by decide) rfl (fun ls hl => ?_)
    refine lv_goto (tgt := 2) hx hb dX12_yearOf_79 (by decide) ?_
    refine lv_iload_n hx hb dX12_yearOf_2 rfl (lv_at hl 0 rfl) ?_
    refine lv_iconst (v := 2) hx hb dX12_yearOf_3 (by decide) ?_
    refine lv_icmp_ge (tgt := 82) hx hb dX12_yearOf_4 (by decide) (fun c96 => absurd c96 (by decide)) (fun _ => ?_)
    refine lv_aload_n hx hb dX12_yearOf_7 rfl (lv_at hl 2 rfl) ?_
    refine va_get (D := g) (ci := 11) (v := .ref (m_a 27)) (C := RX12) (T := TX12) (N := 56) hx hb hts iX12 hown hK hP 0 rfl rfl 27 (by decide) (hts (.fieldLink RX12 65 "CardsAtYuleModel" "gets" "[Z") (List.mem_cons_of_mem _ (List.mem_append_left _ (List.mem_of_getElem? (i := 0) rfl)))) (fun _ h9 => h9) rfl dX12_yearOf_8 ?_
    refine lv_iload_n hx hb dX12_yearOf_11 rfl (lv_at hl 0 rfl) ?_
    refine lv_iconst (v := 0) hx hb dX12_yearOf_12 (by decide) ?_
    refine va_zast (D := g) hx hb hK hP hD hS 5 3 rfl rfl (vc_in (by decide)) dX12_yearOf_13 (fun H locs hP hD hS => ?_)
    have hP : va_P g vwCl [(mo, .inr (11, mG m_a m_thrown m_taped m_at m_token m_place m_value m_word m_bad m_badPlace m_fault m_faultPlace (-1) m_will m_forgot 0 m_x vb vr vc vf m_any m_bothSend m_meanCards m_bestSum m_fitMany m_fitFirst m_fitSecond)), ((m_a 23), .inl (cI, 2, .inl fr)), ((m_a 24), .inl (cZ, 2, .inl fm)), ((m_a 25), .inl (cZ, 2, .inl fc)), ((m_a 26), .inl (cI, 2, .inl (upd fs 0 0))), ((m_a 27), .inl (cZ, 2, .inl (upd (upd fg 0 0) 1 0))), ((m_a 34), .inl (cZ, 2, .inl fk))] H := hP
    have hD : va_D A [(mo, .inr (11, mG m_a m_thrown m_taped m_at m_token m_place m_value m_word m_bad m_badPlace m_fault m_faultPlace (-1) m_will m_forgot 0 m_x vb vr vc vf m_any m_bothSend m_meanCards m_bestSum m_fitMany m_fitFirst m_fitSecond)), ((m_a 23), .inl (cI, 2, .inl fr)), ((m_a 24), .inl (cZ, 2, .inl fm)), ((m_a 25), .inl (cZ, 2, .inl fc)), ((m_a 26), .inl (cI, 2, .inl (upd fs 0 0))), ((m_a 27), .inl (cZ, 2, .inl (upd (upd fg 0 0) 1 0))), ((m_a 34), .inl (cZ, 2, .inl fk))] := hD
    refine lv_iload_n hx hb dX12_yearOf_14 rfl (lv_at hl 0 rfl) ?_
    refine lv_aload_n hx hb dX12_yearOf_15 rfl (lv_at hl 2 rfl) ?_
    refine va_get (D := g) (ci := 11) (v := .int (-1)) (C := RX12) (T := TX12) (N := 56) hx hb hts iX12 hown hK hP 0 rfl rfl 28 (by decide) (hts (.fieldLink RX12 68 "CardsAtYuleModel" "willing" "I") (List.mem_cons_of_mem _ (List.mem_append_left _ (List.mem_of_getElem? (i := 1) rfl)))) (fun _ h9 => h9) rfl dX12_yearOf_16 ?_
    refine lv_icmp_ne (tgt := 29) hx hb dX12_yearOf_19 (by decide) (fun _ => ?_) (fun c97 => absurd c97 (by decide))
    refine lv_aload_n hx hb dX12_yearOf_29 rfl (lv_at hl 2 rfl) ?_
    refine va_get (D := g) (ci := 11) (v := .ref (m_a 24)) (C := RX12) (T := TX12) (N := 56) hx hb hts iX12 hown hK hP 0 rfl rfl 24 (by decide) (hts (.fieldLink RX12 56 "CardsAtYuleModel" "maySend" "[Z") (List.mem_cons_of_mem _ (List.mem_append_left _ (List.mem_of_getElem? (i := 2) rfl)))) (fun _ h9 => h9) rfl dX12_yearOf_30 ?_
    refine lv_iload_n hx hb dX12_yearOf_33 rfl (lv_at hl 0 rfl) ?_
    refine va_zald (D := g) hx hb hK hP 2 3 rfl rfl (vc_in (by decide)) dX12_yearOf_34 ?_
    refine lv_topi (nm_r (e' := 1) hS_m1 ?_)
    refine lv_if_eq (tgt := 59) hx hb dX12_yearOf_35 (by decide) (fun c98 => absurd c98 (by decide)) (fun _ => ?_)
    refine lv_aload_n hx hb dX12_yearOf_38 rfl (lv_at hl 2 rfl) ?_
    refine lv_iload_n hx hb dX12_yearOf_39 rfl (lv_at hl 0 rfl) ?_
    refine lv_iload_n hx hb dX12_yearOf_40 rfl (lv_at hl 3 rfl) ?_
    refine ro_i (va_runV (As := [.int 1, .int (nI js)]) (rest := []) ⟨hx, hb, hml, hown, hts⟩ (k_fX12_wouldSend_1 l g cI cJ cB cZ cL mo m_a m_thrown m_taped m_at m_token m_place m_value m_word m_bad m_badPlace m_fault m_faultPlace m_will m_forgot m_x m_any m_bothSend m_meanCards m_bestSum m_fitMany m_fitFirst m_fitSecond vb vr vc vf fr rb js H.size hS_r1 (by omega) (by omega)) (cwV 2 hts (goodIn_app (g_4 (List.mem_cons_of_mem _ (List.mem_append_left _ (List.mem_of_getElem? (i := 3) rfl))) (List.mem_cons_of_mem _ (List.mem_append_left _ (List.mem_of_getElem? (i := 4) rfl))) (List.mem_cons_of_mem _ (List.mem_append_left _ (List.mem_of_getElem? (i := 5) rfl))) (List.mem_cons_of_mem _ (List.mem_append_left _ (List.mem_of_getElem? (i := 6) rfl))) (by decide +kernel)) (goodIn_sub (fun _ h => List.mem_cons_of_mem _ (List.mem_append_right _ (List.mem_append_right _ (List.mem_append_right _ (List.mem_append_left _ h))))) good_v_fX12_wouldSend_1)) rfl rfl rfl (by decide +kernel) ⟨Nat.le_of_ble_eq_true rfl, Nat.le_of_ble_eq_true rfl⟩) (pv_RO (q := (RX12, TX12, 56)) (ci := 11) (q0 := 0) (wc := [(mo, .inr (11, mG m_a m_thrown m_taped m_at m_token m_place m_value m_word m_bad m_badPlace m_fault m_faultPlace (-1) m_will m_forgot 0 m_x vb vr vc vf m_any m_bothSend m_meanCards m_bestSum m_fitMany m_fitFirst m_fitSecond)), ((m_a 23), .inl (cI, 2, .inl fr))]) hK hP [0, 1] rfl rfl rfl) rfl rfl hl.1 rfl (lv_room (Nat.le_of_ble_eq_true rfl)) dX12_yearOf_41 ⟨Nat.le_of_ble_eq_true rfl, Nat.le_of_ble_eq_true rfl⟩) hS hA hP (fun r99 u100 H locs hw101 hP hS => ?_)
    rcases hw101 with ⟨rfl, hw101_0⟩ | ⟨rfl, hw101_0⟩
    · refine lv_if_eq (tgt := 59) hx hb dX12_yearOf_44 (by decide) (fun c102 => absurd c102 (by decide)) (fun _ => ?_)
      refine lv_aload_n hx hb dX12_yearOf_47 rfl (lv_at hl 2 rfl) ?_
      refine lv_iload_n hx hb dX12_yearOf_48 rfl (lv_at hl 0 rfl) ?_
      refine ro_i (va_runV (As := [.int 1]) (rest := []) ⟨hx, hb, hml, hown, hts⟩ (k_fX12_isForgotten l g cI cJ cB cZ cL mo m_a m_thrown m_taped m_at m_token m_place m_value m_word m_bad m_badPlace m_fault m_faultPlace m_will m_forgot m_x m_any m_bothSend m_meanCards m_bestSum m_fitMany m_fitFirst m_fitSecond vb vr vc vf 1 H.size ) (cwV 1 hts (goodIn_app (g_4 (List.mem_cons_of_mem _ (List.mem_append_left _ (List.mem_of_getElem? (i := 7) rfl))) (List.mem_cons_of_mem _ (List.mem_append_left _ (List.mem_of_getElem? (i := 8) rfl))) (List.mem_cons_of_mem _ (List.mem_append_left _ (List.mem_of_getElem? (i := 9) rfl))) (List.mem_cons_of_mem _ (List.mem_append_left _ (List.mem_of_getElem? (i := 6) rfl))) (by decide +kernel)) (goodIn_sub (fun _ h => List.mem_cons_of_mem _ (List.mem_append_right _ (List.mem_append_right _ (List.mem_append_left _ h)))) good_v_fX12_isForgotten)) rfl rfl rfl (by decide +kernel) ⟨Nat.le_of_ble_eq_true rfl, Nat.le_of_ble_eq_true rfl⟩) (pv_RO (q := (RX12, TX12, 56)) (ci := 11) (q0 := 0) (wc := [(mo, .inr (11, mG m_a m_thrown m_taped m_at m_token m_place m_value m_word m_bad m_badPlace m_fault m_faultPlace (-1) m_will m_forgot 0 m_x vb vr vc vf m_any m_bothSend m_meanCards m_bestSum m_fitMany m_fitFirst m_fitSecond))]) hK hP [0] rfl rfl rfl) rfl rfl hl.1 rfl (lv_room (Nat.le_of_ble_eq_true rfl)) dX12_yearOf_49 ⟨Nat.le_of_ble_eq_true rfl, Nat.le_of_ble_eq_true rfl⟩) hS hA hP (fun r103 u104 H locs hw105 hP hS => ?_)
      subst hw105
      refine lv_if_ne (tgt := 59) hx hb dX12_yearOf_52 (by decide) (fun c106 => absurd c106 (by decide)) (fun _ => ?_)
      refine lv_iconst (v := 1) hx hb dX12_yearOf_55 (by decide) ?_
      refine lv_goto (tgt := 60) hx hb dX12_yearOf_56 (by decide) ?_
      refine lv_istore_n (lv' := [(3, .int 1), (2, .int 1), (0, .ref mo), (1, .int (nI js))]) hx hb dX12_yearOf_60 rfl hl (by decide) rfl (fun ls hl => ?_)
      refine lv_aload_n hx hb dX12_yearOf_61 rfl (lv_at hl 2 rfl) ?_
      refine va_get (D := g) (ci := 11) (v := .ref (m_a 26)) (C := RX12) (T := TX12) (N := 56) hx hb hts iX12 hown hK hP 0 rfl rfl 26 (by decide) (hts (.fieldLink RX12 62 "CardsAtYuleModel" "sent" "[I") (List.mem_cons_of_mem _ (List.mem_append_left _ (List.mem_of_getElem? (i := 10) rfl)))) (fun _ h9 => h9) rfl dX12_yearOf_62 ?_
      refine lv_iload_n hx hb dX12_yearOf_65 rfl (lv_at hl 1 rfl) ?_
      refine lv_iload_n hx hb dX12_yearOf_66 rfl (lv_at hl 0 rfl) ?_
      refine lv_if_eq (tgt := 74) hx hb dX12_yearOf_67 (by decide) (fun c107 => absurd c107 (by decide)) (fun _ => ?_)
      refine lv_iconst (v := 1) hx hb dX12_yearOf_70 (by decide) ?_
      refine lv_goto (tgt := 75) hx hb dX12_yearOf_71 (by decide) ?_
      refine va_iast (D := g) hx hb hK hP hD hS 4 0 rfl rfl (vc_in (by decide)) dX12_yearOf_75 (fun H locs hP hD hS => ?_)
      have hP : va_P g vwCl [(mo, .inr (11, mG m_a m_thrown m_taped m_at m_token m_place m_value m_word m_bad m_badPlace m_fault m_faultPlace (-1) m_will m_forgot 0 m_x vb vr vc vf m_any m_bothSend m_meanCards m_bestSum m_fitMany m_fitFirst m_fitSecond)), ((m_a 23), .inl (cI, 2, .inl fr)), ((m_a 24), .inl (cZ, 2, .inl fm)), ((m_a 25), .inl (cZ, 2, .inl fc)), ((m_a 26), .inl (cI, 2, .inl (upd (upd fs 0 0) 1 1))), ((m_a 27), .inl (cZ, 2, .inl (upd (upd fg 0 0) 1 0))), ((m_a 34), .inl (cZ, 2, .inl fk))] H := hP
      have hD : va_D A [(mo, .inr (11, mG m_a m_thrown m_taped m_at m_token m_place m_value m_word m_bad m_badPlace m_fault m_faultPlace (-1) m_will m_forgot 0 m_x vb vr vc vf m_any m_bothSend m_meanCards m_bestSum m_fitMany m_fitFirst m_fitSecond)), ((m_a 23), .inl (cI, 2, .inl fr)), ((m_a 24), .inl (cZ, 2, .inl fm)), ((m_a 25), .inl (cZ, 2, .inl fc)), ((m_a 26), .inl (cI, 2, .inl (upd (upd fs 0 0) 1 1))), ((m_a 27), .inl (cZ, 2, .inl (upd (upd fg 0 0) 1 0))), ((m_a 34), .inl (cZ, 2, .inl fk))] := hD
      refine lv_iinc (v := 2) (lv' := [(2, .int 2), (3, .int 1), (0, .ref mo), (1, .int (nI js))]) hx hb dX12_yearOf_76 hl (k := 1) rfl (by decide) (by decide) rfl (fun ls hl => ?_)
      refine lv_goto (tgt := 2) hx hb dX12_yearOf_79 (by decide) ?_
      refine lv_iload_n hx hb dX12_yearOf_2 rfl (lv_at hl 0 rfl) ?_
      refine lv_iconst (v := 2) hx hb dX12_yearOf_3 (by decide) ?_
      refine lv_icmp_ge (tgt := 82) hx hb dX12_yearOf_4 (by decide) (fun _ => ?_) (fun c108 => absurd c108 (by decide))
      refine lv_aload_n hx hb dX12_yearOf_82 rfl (lv_at hl 2 rfl) ?_
      refine va_get (D := g) (ci := 11) (v := .ref (m_a 34)) (C := RX12) (T := TX12) (N := 56) hx hb hts iX12 hown hK hP 0 rfl rfl 34 (by decide) (hts (.fieldLink RX12 74 "CardsAtYuleModel" "cameFirst" "[Z") (List.mem_cons_of_mem _ (List.mem_append_left _ (List.mem_of_getElem? (i := 11) rfl)))) (fun _ h9 => h9) rfl dX12_yearOf_83 ?_
      refine lv_astore_n (lv' := [(2, .ref (m_a 34)), (3, .int 1), (0, .ref mo), (1, .int (nI js))]) hx hb dX12_yearOf_86 rfl hl (by decide) rfl (fun ls hl => ?_)
      refine lv_iconst (v := 0) hx hb dX12_yearOf_87 (by decide) ?_
      refine lv_istore_n (lv' := [(3, .int 0), (2, .ref (m_a 34)), (0, .ref mo), (1, .int (nI js))]) hx hb dX12_yearOf_88 rfl hl (by decide) rfl (fun ls hl => ?_)
      refine lv_iload_n hx hb dX12_yearOf_89 rfl (lv_at hl 0 rfl) ?_
      refine lv_iconst (v := 2) hx hb dX12_yearOf_90 (by decide) ?_
      refine lv_icmp_ge (tgt := 131) hx hb dX12_yearOf_91 (by decide) (fun c109 => absurd c109 (by decide)) (fun _ => ?_)
      refine lv_aload_n hx hb dX12_yearOf_94 rfl (lv_at hl 1 rfl) ?_
      refine lv_iload_n hx hb dX12_yearOf_95 rfl (lv_at hl 0 rfl) ?_
      refine lv_aload_n hx hb dX12_yearOf_96 rfl (lv_at hl 2 rfl) ?_
      refine va_get (D := g) (ci := 11) (v := .ref (m_a 26)) (C := RX12) (T := TX12) (N := 56) hx hb hts iX12 hown hK hP 0 rfl rfl 26 (by decide) (hts (.fieldLink RX12 62 "CardsAtYuleModel" "sent" "[I") (List.mem_cons_of_mem _ (List.mem_append_left _ (List.mem_of_getElem? (i := 10) rfl)))) (fun _ h9 => h9) rfl dX12_yearOf_97 ?_
      refine lv_iconst (v := 1) hx hb dX12_yearOf_100 (by decide) ?_
      refine lv_iload_n hx hb dX12_yearOf_101 rfl (lv_at hl 0 rfl) ?_
      refine lv_isub hx hb dX12_yearOf_102 ?_
      refine lv_topi (nm_r (e' := 1) (by decide) ?_)
      refine va_iald (D := g) hx hb hK hP 4 0 rfl rfl (vc_in (by decide)) dX12_yearOf_103 ?_
      refine lv_topi (nm_r (e' := 1) rfl ?_)
      refine lv_iconst (v := 1) hx hb dX12_yearOf_104 (by decide) ?_
      refine lv_icmp_ne (tgt := 123) hx hb dX12_yearOf_105 (by decide) (fun c110 => absurd c110 (by decide)) (fun _ => ?_)
      refine lv_aload_n hx hb dX12_yearOf_108 rfl (lv_at hl 2 rfl) ?_
      refine va_get (D := g) (ci := 11) (v := .ref (m_a 25)) (C := RX12) (T := TX12) (N := 56) hx hb hts iX12 hown hK hP 0 rfl rfl 25 (by decide) (hts (.fieldLink RX12 59 "CardsAtYuleModel" "maycome" "[Z") (List.mem_cons_of_mem _ (List.mem_append_left _ (List.mem_of_getElem? (i := 12) rfl)))) (fun _ h9 => h9) rfl dX12_yearOf_109 ?_
      refine lv_iconst (v := 1) hx hb dX12_yearOf_112 (by decide) ?_
      refine lv_iload_n hx hb dX12_yearOf_113 rfl (lv_at hl 0 rfl) ?_
      refine lv_isub hx hb dX12_yearOf_114 ?_
      refine lv_topi (nm_r (e' := 1) (by decide) ?_)
      refine va_zald (D := g) hx hb hK hP 3 3 rfl rfl (vc_in (by decide)) dX12_yearOf_115 ?_
      refine lv_topi (nm_r (e' := 1) hS_c1 ?_)
      refine lv_if_eq (tgt := 123) hx hb dX12_yearOf_116 (by decide) (fun c111 => absurd c111 (by decide)) (fun _ => ?_)
      refine lv_iconst (v := 1) hx hb dX12_yearOf_119 (by decide) ?_
      refine lv_goto (tgt := 124) hx hb dX12_yearOf_120 (by decide) ?_
      refine va_zast (D := g) hx hb hK hP hD hS 6 3 rfl rfl (vc_in (by decide)) dX12_yearOf_124 (fun H locs hP hD hS => ?_)
      have hP : va_P g vwCl [(mo, .inr (11, mG m_a m_thrown m_taped m_at m_token m_place m_value m_word m_bad m_badPlace m_fault m_faultPlace (-1) m_will m_forgot 0 m_x vb vr vc vf m_any m_bothSend m_meanCards m_bestSum m_fitMany m_fitFirst m_fitSecond)), ((m_a 23), .inl (cI, 2, .inl fr)), ((m_a 24), .inl (cZ, 2, .inl fm)), ((m_a 25), .inl (cZ, 2, .inl fc)), ((m_a 26), .inl (cI, 2, .inl (upd (upd fs 0 0) 1 1))), ((m_a 27), .inl (cZ, 2, .inl (upd (upd fg 0 0) 1 0))), ((m_a 34), .inl (cZ, 2, .inl (upd fk 0 1)))] H := hP
      have hD : va_D A [(mo, .inr (11, mG m_a m_thrown m_taped m_at m_token m_place m_value m_word m_bad m_badPlace m_fault m_faultPlace (-1) m_will m_forgot 0 m_x vb vr vc vf m_any m_bothSend m_meanCards m_bestSum m_fitMany m_fitFirst m_fitSecond)), ((m_a 23), .inl (cI, 2, .inl fr)), ((m_a 24), .inl (cZ, 2, .inl fm)), ((m_a 25), .inl (cZ, 2, .inl fc)), ((m_a 26), .inl (cI, 2, .inl (upd (upd fs 0 0) 1 1))), ((m_a 27), .inl (cZ, 2, .inl (upd (upd fg 0 0) 1 0))), ((m_a 34), .inl (cZ, 2, .inl (upd fk 0 1)))] := hD
      refine lv_iinc (v := 1) (lv' := [(3, .int 1), (2, .ref (m_a 34)), (0, .ref mo), (1, .int (nI js))]) hx hb dX12_yearOf_125 hl (k := 0) rfl (by decide) (by decide) rfl (fun ls hl => ?_)
      refine lv_goto (tgt := 89) hx hb dX12_yearOf_128 (by decide) ?_
      refine lv_iload_n hx hb dX12_yearOf_89 rfl (lv_at hl 0 rfl) ?_
      refine lv_iconst (v := 2) hx hb dX12_yearOf_90 (by decide) ?_
      refine lv_icmp_ge (tgt := 131) hx hb dX12_yearOf_91 (by decide) (fun c112 => absurd c112 (by decide)) (fun _ => ?_)
      refine lv_aload_n hx hb dX12_yearOf_94 rfl (lv_at hl 1 rfl) ?_
      refine lv_iload_n hx hb dX12_yearOf_95 rfl (lv_at hl 0 rfl) ?_
      refine lv_aload_n hx hb dX12_yearOf_96 rfl (lv_at hl 2 rfl) ?_
      refine va_get (D := g) (ci := 11) (v := .ref (m_a 26)) (C := RX12) (T := TX12) (N := 56) hx hb hts iX12 hown hK hP 0 rfl rfl 26 (by decide) (hts (.fieldLink RX12 62 "CardsAtYuleModel" "sent" "[I") (List.mem_cons_of_mem _ (List.mem_append_left _ (List.mem_of_getElem? (i := 10) rfl)))) (fun _ h9 => h9) rfl dX12_yearOf_97 ?_
      refine lv_iconst (v := 1) hx hb dX12_yearOf_100 (by decide) ?_
      refine lv_iload_n hx hb dX12_yearOf_101 rfl (lv_at hl 0 rfl) ?_
      refine lv_isub hx hb dX12_yearOf_102 ?_
      refine lv_topi (nm_r (e' := 0) (by decide) ?_)
      refine va_iald (D := g) hx hb hK hP 4 0 rfl rfl (vc_in (by decide)) dX12_yearOf_103 ?_
      refine lv_topi (nm_r (e' := 0) rfl ?_)
      refine lv_iconst (v := 1) hx hb dX12_yearOf_104 (by decide) ?_
      refine lv_icmp_ne (tgt := 123) hx hb dX12_yearOf_105 (by decide) (fun _ => ?_) (fun c113 => absurd c113 (by decide))
      refine lv_iconst (v := 0) hx hb dX12_yearOf_123 (by decide) ?_
      refine va_zast (D := g) hx hb hK hP hD hS 6 3 rfl rfl (vc_in (by decide)) dX12_yearOf_124 (fun H locs hP hD hS => ?_)
      have hP : va_P g vwCl [(mo, .inr (11, mG m_a m_thrown m_taped m_at m_token m_place m_value m_word m_bad m_badPlace m_fault m_faultPlace (-1) m_will m_forgot 0 m_x vb vr vc vf m_any m_bothSend m_meanCards m_bestSum m_fitMany m_fitFirst m_fitSecond)), ((m_a 23), .inl (cI, 2, .inl fr)), ((m_a 24), .inl (cZ, 2, .inl fm)), ((m_a 25), .inl (cZ, 2, .inl fc)), ((m_a 26), .inl (cI, 2, .inl (upd (upd fs 0 0) 1 1))), ((m_a 27), .inl (cZ, 2, .inl (upd (upd fg 0 0) 1 0))), ((m_a 34), .inl (cZ, 2, .inl (upd (upd fk 0 1) 1 0)))] H := hP
      have hD : va_D A [(mo, .inr (11, mG m_a m_thrown m_taped m_at m_token m_place m_value m_word m_bad m_badPlace m_fault m_faultPlace (-1) m_will m_forgot 0 m_x vb vr vc vf m_any m_bothSend m_meanCards m_bestSum m_fitMany m_fitFirst m_fitSecond)), ((m_a 23), .inl (cI, 2, .inl fr)), ((m_a 24), .inl (cZ, 2, .inl fm)), ((m_a 25), .inl (cZ, 2, .inl fc)), ((m_a 26), .inl (cI, 2, .inl (upd (upd fs 0 0) 1 1))), ((m_a 27), .inl (cZ, 2, .inl (upd (upd fg 0 0) 1 0))), ((m_a 34), .inl (cZ, 2, .inl (upd (upd fk 0 1) 1 0)))] := hD
      refine lv_iinc (v := 2) (lv' := [(3, .int 2), (2, .ref (m_a 34)), (0, .ref mo), (1, .int (nI js))]) hx hb dX12_yearOf_125 hl (k := 0) rfl (by decide) (by decide) rfl (fun ls hl => ?_)
      refine lv_goto (tgt := 89) hx hb dX12_yearOf_128 (by decide) ?_
      refine lv_iload_n hx hb dX12_yearOf_89 rfl (lv_at hl 0 rfl) ?_
      refine lv_iconst (v := 2) hx hb dX12_yearOf_90 (by decide) ?_
      refine lv_icmp_ge (tgt := 131) hx hb dX12_yearOf_91 (by decide) (fun _ => ?_) (fun c114 => absurd c114 (by decide))
      refine lv_iconst (v := 0) hx hb dX12_yearOf_131 (by decide) ?_
      refine lv_istore_n (lv' := [(3, .int 0), (2, .ref (m_a 34)), (0, .ref mo), (1, .int (nI js))]) hx hb dX12_yearOf_132 rfl hl (by decide) rfl (fun ls hl => ?_)
      refine lv_iload_n hx hb dX12_yearOf_133 rfl (lv_at hl 0 rfl) ?_
      refine lv_iconst (v := 2) hx hb dX12_yearOf_134 (by decide) ?_
      refine lv_icmp_ge (tgt := 202) hx hb dX12_yearOf_135 (by decide) (fun c115 => absurd c115 (by decide)) (fun _ => ?_)
      refine lv_iload_n hx hb dX12_yearOf_138 rfl (lv_at hl 0 rfl) ?_
      refine lv_aload_n hx hb dX12_yearOf_139 rfl (lv_at hl 2 rfl) ?_
      refine va_get (D := g) (ci := 11) (v := .int (-1)) (C := RX12) (T := TX12) (N := 56) hx hb hts iX12 hown hK hP 0 rfl rfl 28 (by decide) (hts (.fieldLink RX12 68 "CardsAtYuleModel" "willing" "I") (List.mem_cons_of_mem _ (List.mem_append_left _ (List.mem_of_getElem? (i := 1) rfl)))) (fun _ h9 => h9) rfl dX12_yearOf_140 ?_
      refine lv_icmp_eq (tgt := 196) hx hb dX12_yearOf_143 (by decide) (fun c116 => absurd c116 (by decide)) (fun _ => ?_)
      refine lv_aload_n hx hb dX12_yearOf_146 rfl (lv_at hl 2 rfl) ?_
      refine va_get (D := g) (ci := 11) (v := .ref (m_a 24)) (C := RX12) (T := TX12) (N := 56) hx hb hts iX12 hown hK hP 0 rfl rfl 24 (by decide) (hts (.fieldLink RX12 56 "CardsAtYuleModel" "maySend" "[Z") (List.mem_cons_of_mem _ (List.mem_append_left _ (List.mem_of_getElem? (i := 2) rfl)))) (fun _ h9 => h9) rfl dX12_yearOf_147 ?_
      refine lv_iload_n hx hb dX12_yearOf_150 rfl (lv_at hl 0 rfl) ?_
      refine va_zald (D := g) hx hb hK hP 2 3 rfl rfl (vc_in (by decide)) dX12_yearOf_151 ?_
      refine lv_topi (nm_r (e' := 1) hS_m0 ?_)
      refine lv_if_eq (tgt := 196) hx hb dX12_yearOf_152 (by decide) (fun c117 => absurd c117 (by decide)) (fun _ => ?_)
      refine lv_aload_n hx hb dX12_yearOf_155 rfl (lv_at hl 2 rfl) ?_
      refine va_get (D := g) (ci := 11) (v := .ref (m_a 26)) (C := RX12) (T := TX12) (N := 56) hx hb hts iX12 hown hK hP 0 rfl rfl 26 (by decide) (hts (.fieldLink RX12 62 "CardsAtYuleModel" "sent" "[I") (List.mem_cons_of_mem _ (List.mem_append_left _ (List.mem_of_getElem? (i := 10) rfl)))) (fun _ h9 => h9) rfl dX12_yearOf_156 ?_
      refine lv_iload_n hx hb dX12_yearOf_159 rfl (lv_at hl 0 rfl) ?_
      refine va_iald (D := g) hx hb hK hP 4 0 rfl rfl (vc_in (by decide)) dX12_yearOf_160 ?_
      refine lv_topi (nm_r (e' := 0) rfl ?_)
      refine lv_if_ne (tgt := 196) hx hb dX12_yearOf_161 (by decide) (fun c118 => absurd c118 (by decide)) (fun _ => ?_)
      refine lv_aload_n hx hb dX12_yearOf_164 rfl (lv_at hl 2 rfl) ?_
      refine va_get (D := g) (ci := 11) (v := .ref (m_a 23)) (C := RX12) (T := TX12) (N := 56) hx hb hts iX12 hown hK hP 0 rfl rfl 23 (by decide) (hts (.fieldLink RX12 53 "CardsAtYuleModel" "ruleNow" "[I") (List.mem_cons_of_mem _ (List.mem_append_left _ (List.mem_of_getElem? (i := 13) rfl)))) (fun _ h9 => h9) rfl dX12_yearOf_165 ?_
      refine lv_iload_n hx hb dX12_yearOf_168 rfl (lv_at hl 0 rfl) ?_
      refine va_iald (D := g) hx hb hK hP 1 0 rfl rfl (vc_in (by decide)) dX12_yearOf_169 ?_
      refine lv_topi (nm_r (e' := nI ra) hS_r0 ?_)
      refine lv_bipush (v := 16) hx hb dX12_yearOf_170 (by decide) ?_
      refine lv_icmp_lt (tgt := 196) hx hb dX12_yearOf_172 (by decide) (fun c119 => ?_) (fun c119 => ?_)
      · have f120 := (show (ra : Int) < 16 from z_lt (nI_toInt (n := ra) (by omega)) rfl c119)
        refine lv_iinc (v := 1) (lv' := [(3, .int 1), (2, .ref (m_a 34)), (0, .ref mo), (1, .int (nI js))]) hx hb dX12_yearOf_196 hl (k := 0) rfl (by decide) (by decide) rfl (fun ls hl => ?_)
        refine lv_goto (tgt := 133) hx hb dX12_yearOf_199 (by decide) ?_
        refine lv_iload_n hx hb dX12_yearOf_133 rfl (lv_at hl 0 rfl) ?_
        refine lv_iconst (v := 2) hx hb dX12_yearOf_134 (by decide) ?_
        refine lv_icmp_ge (tgt := 202) hx hb dX12_yearOf_135 (by decide) (fun c121 => absurd c121 (by decide)) (fun _ => ?_)
        refine lv_iload_n hx hb dX12_yearOf_138 rfl (lv_at hl 0 rfl) ?_
        refine lv_aload_n hx hb dX12_yearOf_139 rfl (lv_at hl 2 rfl) ?_
        refine va_get (D := g) (ci := 11) (v := .int (-1)) (C := RX12) (T := TX12) (N := 56) hx hb hts iX12 hown hK hP 0 rfl rfl 28 (by decide) (hts (.fieldLink RX12 68 "CardsAtYuleModel" "willing" "I") (List.mem_cons_of_mem _ (List.mem_append_left _ (List.mem_of_getElem? (i := 1) rfl)))) (fun _ h9 => h9) rfl dX12_yearOf_140 ?_
        refine lv_icmp_eq (tgt := 196) hx hb dX12_yearOf_143 (by decide) (fun c122 => absurd c122 (by decide)) (fun _ => ?_)
        refine lv_aload_n hx hb dX12_yearOf_146 rfl (lv_at hl 2 rfl) ?_
        refine va_get (D := g) (ci := 11) (v := .ref (m_a 24)) (C := RX12) (T := TX12) (N := 56) hx hb hts iX12 hown hK hP 0 rfl rfl 24 (by decide) (hts (.fieldLink RX12 56 "CardsAtYuleModel" "maySend" "[Z") (List.mem_cons_of_mem _ (List.mem_append_left _ (List.mem_of_getElem? (i := 2) rfl)))) (fun _ h9 => h9) rfl dX12_yearOf_147 ?_
        refine lv_iload_n hx hb dX12_yearOf_150 rfl (lv_at hl 0 rfl) ?_
        refine va_zald (D := g) hx hb hK hP 2 3 rfl rfl (vc_in (by decide)) dX12_yearOf_151 ?_
        refine lv_topi (nm_r (e' := 1) hS_m1 ?_)
        refine lv_if_eq (tgt := 196) hx hb dX12_yearOf_152 (by decide) (fun c123 => absurd c123 (by decide)) (fun _ => ?_)
        refine lv_aload_n hx hb dX12_yearOf_155 rfl (lv_at hl 2 rfl) ?_
        refine va_get (D := g) (ci := 11) (v := .ref (m_a 26)) (C := RX12) (T := TX12) (N := 56) hx hb hts iX12 hown hK hP 0 rfl rfl 26 (by decide) (hts (.fieldLink RX12 62 "CardsAtYuleModel" "sent" "[I") (List.mem_cons_of_mem _ (List.mem_append_left _ (List.mem_of_getElem? (i := 10) rfl)))) (fun _ h9 => h9) rfl dX12_yearOf_156 ?_
        refine lv_iload_n hx hb dX12_yearOf_159 rfl (lv_at hl 0 rfl) ?_
        refine va_iald (D := g) hx hb hK hP 4 0 rfl rfl (vc_in (by decide)) dX12_yearOf_160 ?_
        refine lv_topi (nm_r (e' := 1) rfl ?_)
        refine lv_if_ne (tgt := 196) hx hb dX12_yearOf_161 (by decide) (fun _ => ?_) (fun c124 => absurd c124 (by decide))
        refine lv_iinc (v := 2) (lv' := [(3, .int 2), (2, .ref (m_a 34)), (0, .ref mo), (1, .int (nI js))]) hx hb dX12_yearOf_196 hl (k := 0) rfl (by decide) (by decide) rfl (fun ls hl => ?_)
        refine lv_goto (tgt := 133) hx hb dX12_yearOf_199 (by decide) ?_
        refine lv_iload_n hx hb dX12_yearOf_133 rfl (lv_at hl 0 rfl) ?_
        refine lv_iconst (v := 2) hx hb dX12_yearOf_134 (by decide) ?_
        refine lv_icmp_ge (tgt := 202) hx hb dX12_yearOf_135 (by decide) (fun _ => ?_) (fun c125 => absurd c125 (by decide))
        refine lv_iload_n hx hb dX12_yearOf_202 rfl (lv_at hl 3 rfl) ?_
        refine lv_iconst (v := 5) hx hb dX12_yearOf_203 (by decide) ?_
        refine lv_iand hx hb dX12_yearOf_204 ?_
        refine lv_iconst (v := 1) hx hb dX12_yearOf_205 (by decide) ?_
        refine lv_ishl hx hb dX12_yearOf_206 ?_
        refine lv_istore_n (lv' := [(3, .int (((nI js) &&& 5) <<< (1 &&& (31 : Int32)))), (2, .ref (m_a 34)), (0, .ref mo), (1, .int (nI js))]) hx hb dX12_yearOf_207 rfl hl (by decide) rfl (fun ls hl => ?_)
        refine lv_iconst (v := 0) hx hb dX12_yearOf_208 (by decide) ?_
        refine lv_istore (lv' := [(4, .int 0), (3, .int (((nI js) &&& 5) <<< (1 &&& (31 : Int32)))), (2, .ref (m_a 34)), (0, .ref mo), (1, .int (nI js))]) hx hb dX12_yearOf_209 hl (by decide) rfl (fun ls hl => ?_)
        refine lv_iload hx hb dX12_yearOf_211 (lv_at hl 0 rfl) ?_
        refine lv_iconst (v := 2) hx hb dX12_yearOf_213 (by decide) ?_
        refine lv_icmp_ge (tgt := 282) hx hb dX12_yearOf_214 (by decide) (fun c126 => absurd c126 (by decide)) (fun _ => ?_)
        refine lv_aload_n hx hb dX12_yearOf_217 rfl (lv_at hl 3 rfl) ?_
        refine va_get (D := g) (ci := 11) (v := .ref (m_a 27)) (C := RX12) (T := TX12) (N := 56) hx hb hts iX12 hown hK hP 0 rfl rfl 27 (by decide) (hts (.fieldLink RX12 65 "CardsAtYuleModel" "gets" "[Z") (List.mem_cons_of_mem _ (List.mem_append_left _ (List.mem_of_getElem? (i := 0) rfl)))) (fun _ h9 => h9) rfl dX12_yearOf_218 ?_
        refine lv_iload hx hb dX12_yearOf_221 (lv_at hl 0 rfl) ?_
        refine lv_aload_n hx hb dX12_yearOf_223 rfl (lv_at hl 3 rfl) ?_
        refine va_get (D := g) (ci := 11) (v := .ref (m_a 26)) (C := RX12) (T := TX12) (N := 56) hx hb hts iX12 hown hK hP 0 rfl rfl 26 (by decide) (hts (.fieldLink RX12 62 "CardsAtYuleModel" "sent" "[I") (List.mem_cons_of_mem _ (List.mem_append_left _ (List.mem_of_getElem? (i := 10) rfl)))) (fun _ h9 => h9) rfl dX12_yearOf_224 ?_
        refine lv_iconst (v := 1) hx hb dX12_yearOf_227 (by decide) ?_
        refine lv_iload hx hb dX12_yearOf_228 (lv_at hl 0 rfl) ?_
        refine lv_isub hx hb dX12_yearOf_230 ?_
        refine lv_topi (nm_r (e' := 1) (by decide) ?_)
        refine va_iald (D := g) hx hb hK hP 4 0 rfl rfl (vc_in (by decide)) dX12_yearOf_231 ?_
        refine lv_topi (nm_r (e' := 1) rfl ?_)
        refine lv_if_le (tgt := 251) hx hb dX12_yearOf_232 (by decide) (fun c127 => absurd c127 (by decide)) (fun _ => ?_)
        refine lv_aload_n hx hb dX12_yearOf_235 rfl (lv_at hl 3 rfl) ?_
        refine va_get (D := g) (ci := 11) (v := .ref (m_a 25)) (C := RX12) (T := TX12) (N := 56) hx hb hts iX12 hown hK hP 0 rfl rfl 25 (by decide) (hts (.fieldLink RX12 59 "CardsAtYuleModel" "maycome" "[Z") (List.mem_cons_of_mem _ (List.mem_append_left _ (List.mem_of_getElem? (i := 12) rfl)))) (fun _ h9 => h9) rfl dX12_yearOf_236 ?_
        refine lv_iconst (v := 1) hx hb dX12_yearOf_239 (by decide) ?_
        refine lv_iload hx hb dX12_yearOf_240 (lv_at hl 0 rfl) ?_
        refine lv_isub hx hb dX12_yearOf_242 ?_
        refine lv_topi (nm_r (e' := 1) (by decide) ?_)
        refine va_zald (D := g) hx hb hK hP 3 3 rfl rfl (vc_in (by decide)) dX12_yearOf_243 ?_
        refine lv_topi (nm_r (e' := 1) hS_c1 ?_)
        refine lv_if_eq (tgt := 251) hx hb dX12_yearOf_244 (by decide) (fun c128 => absurd c128 (by decide)) (fun _ => ?_)
        refine lv_iconst (v := 1) hx hb dX12_yearOf_247 (by decide) ?_
        refine lv_goto (tgt := 252) hx hb dX12_yearOf_248 (by decide) ?_
        refine va_zast (D := g) hx hb hK hP hD hS 5 3 rfl rfl (vc_in (by decide)) dX12_yearOf_252 (fun H locs hP hD hS => ?_)
        have hP : va_P g vwCl [(mo, .inr (11, mG m_a m_thrown m_taped m_at m_token m_place m_value m_word m_bad m_badPlace m_fault m_faultPlace (-1) m_will m_forgot 0 m_x vb vr vc vf m_any m_bothSend m_meanCards m_bestSum m_fitMany m_fitFirst m_fitSecond)), ((m_a 23), .inl (cI, 2, .inl fr)), ((m_a 24), .inl (cZ, 2, .inl fm)), ((m_a 25), .inl (cZ, 2, .inl fc)), ((m_a 26), .inl (cI, 2, .inl (upd (upd fs 0 0) 1 1))), ((m_a 27), .inl (cZ, 2, .inl (upd (upd (upd fg 0 0) 1 0) 0 1))), ((m_a 34), .inl (cZ, 2, .inl (upd (upd fk 0 1) 1 0)))] H := hP
        have hD : va_D A [(mo, .inr (11, mG m_a m_thrown m_taped m_at m_token m_place m_value m_word m_bad m_badPlace m_fault m_faultPlace (-1) m_will m_forgot 0 m_x vb vr vc vf m_any m_bothSend m_meanCards m_bestSum m_fitMany m_fitFirst m_fitSecond)), ((m_a 23), .inl (cI, 2, .inl fr)), ((m_a 24), .inl (cZ, 2, .inl fm)), ((m_a 25), .inl (cZ, 2, .inl fc)), ((m_a 26), .inl (cI, 2, .inl (upd (upd fs 0 0) 1 1))), ((m_a 27), .inl (cZ, 2, .inl (upd (upd (upd fg 0 0) 1 0) 0 1))), ((m_a 34), .inl (cZ, 2, .inl (upd (upd fk 0 1) 1 0)))] := hD
        refine lv_iload_n hx hb dX12_yearOf_253 rfl (lv_at hl 1 rfl) ?_
        refine lv_aload_n hx hb dX12_yearOf_254 rfl (lv_at hl 3 rfl) ?_
        refine va_get (D := g) (ci := 11) (v := .ref (m_a 27)) (C := RX12) (T := TX12) (N := 56) hx hb hts iX12 hown hK hP 0 rfl rfl 27 (by decide) (hts (.fieldLink RX12 65 "CardsAtYuleModel" "gets" "[Z") (List.mem_cons_of_mem _ (List.mem_append_left _ (List.mem_of_getElem? (i := 0) rfl)))) (fun _ h9 => h9) rfl dX12_yearOf_255 ?_
        refine lv_iload hx hb dX12_yearOf_258 (lv_at hl 0 rfl) ?_
        refine va_zald (D := g) hx hb hK hP 5 3 rfl rfl (vc_in (by decide)) dX12_yearOf_260 ?_
        refine lv_topi (nm_r (e' := 1) rfl ?_)
        refine lv_if_eq (tgt := 273) hx hb dX12_yearOf_261 (by decide) (fun c129 => absurd c129 (by decide)) (fun _ => ?_)
        refine lv_iconst (v := 1) hx hb dX12_yearOf_264 (by decide) ?_
        refine lv_iconst (v := 2) hx hb dX12_yearOf_265 (by decide) ?_
        refine lv_iload hx hb dX12_yearOf_266 (lv_at hl 0 rfl) ?_
        refine lv_imul hx hb dX12_yearOf_268 ?_
        refine lv_topi (nm_r (e' := 0) (by decide) ?_)
        refine lv_ishl hx hb dX12_yearOf_269 ?_
        refine lv_topi (nm_r (e' := 1) (by decide) ?_)
        refine lv_goto (tgt := 274) hx hb dX12_yearOf_270 (by decide) ?_
        refine lv_ior hx hb dX12_yearOf_274 ?_
        refine lv_istore_n (lv' := [(3, .int ((((nI js) &&& 5) <<< (1 &&& (31 : Int32))) ||| 1)), (4, .int 0), (2, .ref (m_a 34)), (0, .ref mo), (1, .int (nI js))]) hx hb dX12_yearOf_275 rfl hl (by decide) rfl (fun ls hl => ?_)
        refine lv_iinc (v := 1) (lv' := [(4, .int 1), (3, .int ((((nI js) &&& 5) <<< (1 &&& (31 : Int32))) ||| 1)), (2, .ref (m_a 34)), (0, .ref mo), (1, .int (nI js))]) hx hb dX12_yearOf_276 hl (k := 1) rfl (by decide) (by decide) rfl (fun ls hl => ?_)
        refine lv_goto (tgt := 211) hx hb dX12_yearOf_279 (by decide) ?_
        refine lv_iload hx hb dX12_yearOf_211 (lv_at hl 0 rfl) ?_
        refine lv_iconst (v := 2) hx hb dX12_yearOf_213 (by decide) ?_
        refine lv_icmp_ge (tgt := 282) hx hb dX12_yearOf_214 (by decide) (fun c130 => absurd c130 (by decide)) (fun _ => ?_)
        refine lv_aload_n hx hb dX12_yearOf_217 rfl (lv_at hl 3 rfl) ?_
        refine va_get (D := g) (ci := 11) (v := .ref (m_a 27)) (C := RX12) (T := TX12) (N := 56) hx hb hts iX12 hown hK hP 0 rfl rfl 27 (by decide) (hts (.fieldLink RX12 65 "CardsAtYuleModel" "gets" "[Z") (List.mem_cons_of_mem _ (List.mem_append_left _ (List.mem_of_getElem? (i := 0) rfl)))) (fun _ h9 => h9) rfl dX12_yearOf_218 ?_
        refine lv_iload hx hb dX12_yearOf_221 (lv_at hl 0 rfl) ?_
        refine lv_aload_n hx hb dX12_yearOf_223 rfl (lv_at hl 3 rfl) ?_
        refine va_get (D := g) (ci := 11) (v := .ref (m_a 26)) (C := RX12) (T := TX12) (N := 56) hx hb hts iX12 hown hK hP 0 rfl rfl 26 (by decide) (hts (.fieldLink RX12 62 "CardsAtYuleModel" "sent" "[I") (List.mem_cons_of_mem _ (List.mem_append_left _ (List.mem_of_getElem? (i := 10) rfl)))) (fun _ h9 => h9) rfl dX12_yearOf_224 ?_
        refine lv_iconst (v := 1) hx hb dX12_yearOf_227 (by decide) ?_
        refine lv_iload hx hb dX12_yearOf_228 (lv_at hl 0 rfl) ?_
        refine lv_isub hx hb dX12_yearOf_230 ?_
        refine lv_topi (nm_r (e' := 0) (by decide) ?_)
        refine va_iald (D := g) hx hb hK hP 4 0 rfl rfl (vc_in (by decide)) dX12_yearOf_231 ?_
        refine lv_topi (nm_r (e' := 0) rfl ?_)
        refine lv_if_le (tgt := 251) hx hb dX12_yearOf_232 (by decide) (fun _ => ?_) (fun c131 => absurd c131 (by decide))
        refine lv_iconst (v := 0) hx hb dX12_yearOf_251 (by decide) ?_
        refine va_zast (D := g) hx hb hK hP hD hS 5 3 rfl rfl (vc_in (by decide)) dX12_yearOf_252 (fun H locs hP hD hS => ?_)
        have hP : va_P g vwCl [(mo, .inr (11, mG m_a m_thrown m_taped m_at m_token m_place m_value m_word m_bad m_badPlace m_fault m_faultPlace (-1) m_will m_forgot 0 m_x vb vr vc vf m_any m_bothSend m_meanCards m_bestSum m_fitMany m_fitFirst m_fitSecond)), ((m_a 23), .inl (cI, 2, .inl fr)), ((m_a 24), .inl (cZ, 2, .inl fm)), ((m_a 25), .inl (cZ, 2, .inl fc)), ((m_a 26), .inl (cI, 2, .inl (upd (upd fs 0 0) 1 1))), ((m_a 27), .inl (cZ, 2, .inl (upd (upd (upd (upd fg 0 0) 1 0) 0 1) 1 0))), ((m_a 34), .inl (cZ, 2, .inl (upd (upd fk 0 1) 1 0)))] H := hP
        have hD : va_D A [(mo, .inr (11, mG m_a m_thrown m_taped m_at m_token m_place m_value m_word m_bad m_badPlace m_fault m_faultPlace (-1) m_will m_forgot 0 m_x vb vr vc vf m_any m_bothSend m_meanCards m_bestSum m_fitMany m_fitFirst m_fitSecond)), ((m_a 23), .inl (cI, 2, .inl fr)), ((m_a 24), .inl (cZ, 2, .inl fm)), ((m_a 25), .inl (cZ, 2, .inl fc)), ((m_a 26), .inl (cI, 2, .inl (upd (upd fs 0 0) 1 1))), ((m_a 27), .inl (cZ, 2, .inl (upd (upd (upd (upd fg 0 0) 1 0) 0 1) 1 0))), ((m_a 34), .inl (cZ, 2, .inl (upd (upd fk 0 1) 1 0)))] := hD
        refine lv_iload_n hx hb dX12_yearOf_253 rfl (lv_at hl 1 rfl) ?_
        refine lv_aload_n hx hb dX12_yearOf_254 rfl (lv_at hl 3 rfl) ?_
        refine va_get (D := g) (ci := 11) (v := .ref (m_a 27)) (C := RX12) (T := TX12) (N := 56) hx hb hts iX12 hown hK hP 0 rfl rfl 27 (by decide) (hts (.fieldLink RX12 65 "CardsAtYuleModel" "gets" "[Z") (List.mem_cons_of_mem _ (List.mem_append_left _ (List.mem_of_getElem? (i := 0) rfl)))) (fun _ h9 => h9) rfl dX12_yearOf_255 ?_
        refine lv_iload hx hb dX12_yearOf_258 (lv_at hl 0 rfl) ?_
        refine va_zald (D := g) hx hb hK hP 5 3 rfl rfl (vc_in (by decide)) dX12_yearOf_260 ?_
        refine lv_topi (nm_r (e' := 0) rfl ?_)
        refine lv_if_eq (tgt := 273) hx hb dX12_yearOf_261 (by decide) (fun _ => ?_) (fun c132 => absurd c132 (by decide))
        refine lv_iconst (v := 0) hx hb dX12_yearOf_273 (by decide) ?_
        refine lv_ior hx hb dX12_yearOf_274 ?_
        refine lv_istore_n (lv' := [(3, .int (((((nI js) &&& 5) <<< (1 &&& (31 : Int32))) ||| 1) ||| 0)), (4, .int 1), (2, .ref (m_a 34)), (0, .ref mo), (1, .int (nI js))]) hx hb dX12_yearOf_275 rfl hl (by decide) rfl (fun ls hl => ?_)
        refine lv_iinc (v := 2) (lv' := [(4, .int 2), (3, .int (((((nI js) &&& 5) <<< (1 &&& (31 : Int32))) ||| 1) ||| 0)), (2, .ref (m_a 34)), (0, .ref mo), (1, .int (nI js))]) hx hb dX12_yearOf_276 hl (k := 1) rfl (by decide) (by decide) rfl (fun ls hl => ?_)
        refine lv_goto (tgt := 211) hx hb dX12_yearOf_279 (by decide) ?_
        refine lv_iload hx hb dX12_yearOf_211 (lv_at hl 0 rfl) ?_
        refine lv_iconst (v := 2) hx hb dX12_yearOf_213 (by decide) ?_
        refine lv_icmp_ge (tgt := 282) hx hb dX12_yearOf_214 (by decide) (fun _ => ?_) (fun c133 => absurd c133 (by decide))
        refine lv_iload_n hx hb dX12_yearOf_282 rfl (lv_at hl 1 rfl) ?_
        have hA9 : sA ra rb js = 0 := by unfold sA; rw [if_neg (by omega)]
        have hB9 : zB ra rb js = 1 := by unfold zB; rw [if_pos (by omega)]
        have hP9 := hP.sub (ws' := [(mo, .inr (11, mG m_a m_thrown m_taped m_at m_token m_place m_value m_word m_bad m_badPlace m_fault m_faultPlace (-1) m_will m_forgot 0 m_x vb vr vc vf m_any m_bothSend m_meanCards m_bestSum m_fitMany m_fitFirst m_fitSecond)), ((m_a 23), .inl (cI, 2, .inl fr)), ((m_a 24), .inl (cZ, 2, .inl fm)), ((m_a 25), .inl (cZ, 2, .inl fc)), ((m_a 26), .inl (cI, 2, .inl (upd (upd fs 0 0) 1 1))), ((m_a 27), .inl (cZ, 2, .inl (upd (upd (upd (upd fg 0 0) 1 0) 0 1) 1 0))), ((m_a 34), .inl (cZ, 2, .inl (upd (upd fk 0 1) 1 0)))]) [0, 1, 2, 3, 4, 5, 6] rfl
        have hD9 := hD.sub (ws' := [(mo, .inr (11, mG m_a m_thrown m_taped m_at m_token m_place m_value m_word m_bad m_badPlace m_fault m_faultPlace (-1) m_will m_forgot 0 m_x vb vr vc vf m_any m_bothSend m_meanCards m_bestSum m_fitMany m_fitFirst m_fitSecond)), ((m_a 23), .inl (cI, 2, .inl fr)), ((m_a 24), .inl (cZ, 2, .inl fm)), ((m_a 25), .inl (cZ, 2, .inl fc)), ((m_a 26), .inl (cI, 2, .inl (upd (upd fs 0 0) 1 1))), ((m_a 27), .inl (cZ, 2, .inl (upd (upd (upd (upd fg 0 0) 1 0) 0 1) 1 0))), ((m_a 34), .inl (cZ, 2, .inl (upd (upd fk 0 1) 1 0)))]) [0, 1, 2, 3, 4, 5, 6] (by decide) rfl
        exact W.iret (v := (((((nI js) &&& 5) <<< (1 &&& (31 : Int32))) ||| 1) ||| 0)) hx hb hr (fun t ht hW => ⟨⟨(((((nI js) &&& 5) <<< (1 &&& (31 : Int32))) ||| 1) ||| 0), ((upd (upd fs 0 0) 1 1), (upd (upd (upd (upd fg 0 0) 1 0) 0 1) 1 0), (upd (upd fk 0 1) 1 0)), rfl, ⟨th_nx hjs (u := 1) (v := 0) hB9 hA9, 0, 1, rfl, rfl, by decide, by decide, by unfold sc; rw [hA9, hB9]; rfl⟩, by rw [ht]; exact hP9, va_K.moved hW.alike hK, hD9⟩, hS.F ht⟩) hS.2.2 dX12_yearOf_283
      · have f120 := (show 16 ≤ (ra : Int) from z_nlt (nI_toInt (n := ra) (by omega)) rfl c119)
        refine lv_aload_n hx hb dX12_yearOf_175 rfl (lv_at hl 1 rfl) ?_
        refine lv_iload_n hx hb dX12_yearOf_176 rfl (lv_at hl 0 rfl) ?_
        refine va_zald (D := g) hx hb hK hP 6 3 rfl rfl (vc_in (by decide)) dX12_yearOf_177 ?_
        refine lv_topi (nm_r (e' := 1) rfl ?_)
        refine lv_if_eq (tgt := 196) hx hb dX12_yearOf_178 (by decide) (fun c134 => absurd c134 (by decide)) (fun _ => ?_)
        refine lv_aload_n hx hb dX12_yearOf_181 rfl (lv_at hl 2 rfl) ?_
        refine lv_iload_n hx hb dX12_yearOf_182 rfl (lv_at hl 0 rfl) ?_
        refine ro_i (va_runV (As := [.int 0]) (rest := []) ⟨hx, hb, hml, hown, hts⟩ (k_fX12_isForgotten l g cI cJ cB cZ cL mo m_a m_thrown m_taped m_at m_token m_place m_value m_word m_bad m_badPlace m_fault m_faultPlace m_will m_forgot m_x m_any m_bothSend m_meanCards m_bestSum m_fitMany m_fitFirst m_fitSecond vb vr vc vf 0 H.size ) (cwV 1 hts (goodIn_app (g_4 (List.mem_cons_of_mem _ (List.mem_append_left _ (List.mem_of_getElem? (i := 7) rfl))) (List.mem_cons_of_mem _ (List.mem_append_left _ (List.mem_of_getElem? (i := 8) rfl))) (List.mem_cons_of_mem _ (List.mem_append_left _ (List.mem_of_getElem? (i := 9) rfl))) (List.mem_cons_of_mem _ (List.mem_append_left _ (List.mem_of_getElem? (i := 6) rfl))) (by decide +kernel)) (goodIn_sub (fun _ h => List.mem_cons_of_mem _ (List.mem_append_right _ (List.mem_append_right _ (List.mem_append_left _ h)))) good_v_fX12_isForgotten)) rfl rfl rfl (by decide +kernel) ⟨Nat.le_of_ble_eq_true rfl, Nat.le_of_ble_eq_true rfl⟩) (pv_RO (q := (RX12, TX12, 56)) (ci := 11) (q0 := 0) (wc := [(mo, .inr (11, mG m_a m_thrown m_taped m_at m_token m_place m_value m_word m_bad m_badPlace m_fault m_faultPlace (-1) m_will m_forgot 0 m_x vb vr vc vf m_any m_bothSend m_meanCards m_bestSum m_fitMany m_fitFirst m_fitSecond))]) hK hP [0] rfl rfl rfl) rfl rfl hl.1 rfl (lv_room (Nat.le_of_ble_eq_true rfl)) dX12_yearOf_183 ⟨Nat.le_of_ble_eq_true rfl, Nat.le_of_ble_eq_true rfl⟩) hS hA hP (fun r135 u136 H locs hw137 hP hS => ?_)
        subst hw137
        refine lv_if_ne (tgt := 196) hx hb dX12_yearOf_186 (by decide) (fun c138 => absurd c138 (by decide)) (fun _ => ?_)
        refine lv_aload_n hx hb dX12_yearOf_189 rfl (lv_at hl 2 rfl) ?_
        refine va_get (D := g) (ci := 11) (v := .ref (m_a 26)) (C := RX12) (T := TX12) (N := 56) hx hb hts iX12 hown hK hP 0 rfl rfl 26 (by decide) (hts (.fieldLink RX12 62 "CardsAtYuleModel" "sent" "[I") (List.mem_cons_of_mem _ (List.mem_append_left _ (List.mem_of_getElem? (i := 10) rfl)))) (fun _ h9 => h9) rfl dX12_yearOf_190 ?_
        refine lv_iload_n hx hb dX12_yearOf_193 rfl (lv_at hl 0 rfl) ?_
        refine lv_iconst (v := 2) hx hb dX12_yearOf_194 (by decide) ?_
        refine va_iast (D := g) hx hb hK hP hD hS 4 0 rfl rfl (vc_in (by decide)) dX12_yearOf_195 (fun H locs hP hD hS => ?_)
        have hP : va_P g vwCl [(mo, .inr (11, mG m_a m_thrown m_taped m_at m_token m_place m_value m_word m_bad m_badPlace m_fault m_faultPlace (-1) m_will m_forgot 0 m_x vb vr vc vf m_any m_bothSend m_meanCards m_bestSum m_fitMany m_fitFirst m_fitSecond)), ((m_a 23), .inl (cI, 2, .inl fr)), ((m_a 24), .inl (cZ, 2, .inl fm)), ((m_a 25), .inl (cZ, 2, .inl fc)), ((m_a 26), .inl (cI, 2, .inl (upd (upd (upd fs 0 0) 1 1) 0 2))), ((m_a 27), .inl (cZ, 2, .inl (upd (upd fg 0 0) 1 0))), ((m_a 34), .inl (cZ, 2, .inl (upd (upd fk 0 1) 1 0)))] H := hP
        have hD : va_D A [(mo, .inr (11, mG m_a m_thrown m_taped m_at m_token m_place m_value m_word m_bad m_badPlace m_fault m_faultPlace (-1) m_will m_forgot 0 m_x vb vr vc vf m_any m_bothSend m_meanCards m_bestSum m_fitMany m_fitFirst m_fitSecond)), ((m_a 23), .inl (cI, 2, .inl fr)), ((m_a 24), .inl (cZ, 2, .inl fm)), ((m_a 25), .inl (cZ, 2, .inl fc)), ((m_a 26), .inl (cI, 2, .inl (upd (upd (upd fs 0 0) 1 1) 0 2))), ((m_a 27), .inl (cZ, 2, .inl (upd (upd fg 0 0) 1 0))), ((m_a 34), .inl (cZ, 2, .inl (upd (upd fk 0 1) 1 0)))] := hD
        refine lv_iinc (v := 1) (lv' := [(3, .int 1), (2, .ref (m_a 34)), (0, .ref mo), (1, .int (nI js))]) hx hb dX12_yearOf_196 hl (k := 0) rfl (by decide) (by decide) rfl (fun ls hl => ?_)
        refine lv_goto (tgt := 133) hx hb dX12_yearOf_199 (by decide) ?_
        refine lv_iload_n hx hb dX12_yearOf_133 rfl (lv_at hl 0 rfl) ?_
        refine lv_iconst (v := 2) hx hb dX12_yearOf_134 (by decide) ?_
        refine lv_icmp_ge (tgt := 202) hx hb dX12_yearOf_135 (by decide) (fun c139 => absurd c139 (by decide)) (fun _ => ?_)
        refine lv_iload_n hx hb dX12_yearOf_138 rfl (lv_at hl 0 rfl) ?_
        refine lv_aload_n hx hb dX12_yearOf_139 rfl (lv_at hl 2 rfl) ?_
        refine va_get (D := g) (ci := 11) (v := .int (-1)) (C := RX12) (T := TX12) (N := 56) hx hb hts iX12 hown hK hP 0 rfl rfl 28 (by decide) (hts (.fieldLink RX12 68 "CardsAtYuleModel" "willing" "I") (List.mem_cons_of_mem _ (List.mem_append_left _ (List.mem_of_getElem? (i := 1) rfl)))) (fun _ h9 => h9) rfl dX12_yearOf_140 ?_
        refine lv_icmp_eq (tgt := 196) hx hb dX12_yearOf_143 (by decide) (fun c140 => absurd c140 (by decide)) (fun _ => ?_)
        refine lv_aload_n hx hb dX12_yearOf_146 rfl (lv_at hl 2 rfl) ?_
        refine va_get (D := g) (ci := 11) (v := .ref (m_a 24)) (C := RX12) (T := TX12) (N := 56) hx hb hts iX12 hown hK hP 0 rfl rfl 24 (by decide) (hts (.fieldLink RX12 56 "CardsAtYuleModel" "maySend" "[Z") (List.mem_cons_of_mem _ (List.mem_append_left _ (List.mem_of_getElem? (i := 2) rfl)))) (fun _ h9 => h9) rfl dX12_yearOf_147 ?_
        refine lv_iload_n hx hb dX12_yearOf_150 rfl (lv_at hl 0 rfl) ?_
        refine va_zald (D := g) hx hb hK hP 2 3 rfl rfl (vc_in (by decide)) dX12_yearOf_151 ?_
        refine lv_topi (nm_r (e' := 1) hS_m1 ?_)
        refine lv_if_eq (tgt := 196) hx hb dX12_yearOf_152 (by decide) (fun c141 => absurd c141 (by decide)) (fun _ => ?_)
        refine lv_aload_n hx hb dX12_yearOf_155 rfl (lv_at hl 2 rfl) ?_
        refine va_get (D := g) (ci := 11) (v := .ref (m_a 26)) (C := RX12) (T := TX12) (N := 56) hx hb hts iX12 hown hK hP 0 rfl rfl 26 (by decide) (hts (.fieldLink RX12 62 "CardsAtYuleModel" "sent" "[I") (List.mem_cons_of_mem _ (List.mem_append_left _ (List.mem_of_getElem? (i := 10) rfl)))) (fun _ h9 => h9) rfl dX12_yearOf_156 ?_
        refine lv_iload_n hx hb dX12_yearOf_159 rfl (lv_at hl 0 rfl) ?_
        refine va_iald (D := g) hx hb hK hP 4 0 rfl rfl (vc_in (by decide)) dX12_yearOf_160 ?_
        refine lv_topi (nm_r (e' := 1) rfl ?_)
        refine lv_if_ne (tgt := 196) hx hb dX12_yearOf_161 (by decide) (fun _ => ?_) (fun c142 => absurd c142 (by decide))
        refine lv_iinc (v := 2) (lv' := [(3, .int 2), (2, .ref (m_a 34)), (0, .ref mo), (1, .int (nI js))]) hx hb dX12_yearOf_196 hl (k := 0) rfl (by decide) (by decide) rfl (fun ls hl => ?_)
        refine lv_goto (tgt := 133) hx hb dX12_yearOf_199 (by decide) ?_
        refine lv_iload_n hx hb dX12_yearOf_133 rfl (lv_at hl 0 rfl) ?_
        refine lv_iconst (v := 2) hx hb dX12_yearOf_134 (by decide) ?_
        refine lv_icmp_ge (tgt := 202) hx hb dX12_yearOf_135 (by decide) (fun _ => ?_) (fun c143 => absurd c143 (by decide))
        refine lv_iload_n hx hb dX12_yearOf_202 rfl (lv_at hl 3 rfl) ?_
        refine lv_iconst (v := 5) hx hb dX12_yearOf_203 (by decide) ?_
        refine lv_iand hx hb dX12_yearOf_204 ?_
        refine lv_iconst (v := 1) hx hb dX12_yearOf_205 (by decide) ?_
        refine lv_ishl hx hb dX12_yearOf_206 ?_
        refine lv_istore_n (lv' := [(3, .int (((nI js) &&& 5) <<< (1 &&& (31 : Int32)))), (2, .ref (m_a 34)), (0, .ref mo), (1, .int (nI js))]) hx hb dX12_yearOf_207 rfl hl (by decide) rfl (fun ls hl => ?_)
        refine lv_iconst (v := 0) hx hb dX12_yearOf_208 (by decide) ?_
        refine lv_istore (lv' := [(4, .int 0), (3, .int (((nI js) &&& 5) <<< (1 &&& (31 : Int32)))), (2, .ref (m_a 34)), (0, .ref mo), (1, .int (nI js))]) hx hb dX12_yearOf_209 hl (by decide) rfl (fun ls hl => ?_)
        refine lv_iload hx hb dX12_yearOf_211 (lv_at hl 0 rfl) ?_
        refine lv_iconst (v := 2) hx hb dX12_yearOf_213 (by decide) ?_
        refine lv_icmp_ge (tgt := 282) hx hb dX12_yearOf_214 (by decide) (fun c144 => absurd c144 (by decide)) (fun _ => ?_)
        refine lv_aload_n hx hb dX12_yearOf_217 rfl (lv_at hl 3 rfl) ?_
        refine va_get (D := g) (ci := 11) (v := .ref (m_a 27)) (C := RX12) (T := TX12) (N := 56) hx hb hts iX12 hown hK hP 0 rfl rfl 27 (by decide) (hts (.fieldLink RX12 65 "CardsAtYuleModel" "gets" "[Z") (List.mem_cons_of_mem _ (List.mem_append_left _ (List.mem_of_getElem? (i := 0) rfl)))) (fun _ h9 => h9) rfl dX12_yearOf_218 ?_
        refine lv_iload hx hb dX12_yearOf_221 (lv_at hl 0 rfl) ?_
        refine lv_aload_n hx hb dX12_yearOf_223 rfl (lv_at hl 3 rfl) ?_
        refine va_get (D := g) (ci := 11) (v := .ref (m_a 26)) (C := RX12) (T := TX12) (N := 56) hx hb hts iX12 hown hK hP 0 rfl rfl 26 (by decide) (hts (.fieldLink RX12 62 "CardsAtYuleModel" "sent" "[I") (List.mem_cons_of_mem _ (List.mem_append_left _ (List.mem_of_getElem? (i := 10) rfl)))) (fun _ h9 => h9) rfl dX12_yearOf_224 ?_
        refine lv_iconst (v := 1) hx hb dX12_yearOf_227 (by decide) ?_
        refine lv_iload hx hb dX12_yearOf_228 (lv_at hl 0 rfl) ?_
        refine lv_isub hx hb dX12_yearOf_230 ?_
        refine lv_topi (nm_r (e' := 1) (by decide) ?_)
        refine va_iald (D := g) hx hb hK hP 4 0 rfl rfl (vc_in (by decide)) dX12_yearOf_231 ?_
        refine lv_topi (nm_r (e' := 1) rfl ?_)
        refine lv_if_le (tgt := 251) hx hb dX12_yearOf_232 (by decide) (fun c145 => absurd c145 (by decide)) (fun _ => ?_)
        refine lv_aload_n hx hb dX12_yearOf_235 rfl (lv_at hl 3 rfl) ?_
        refine va_get (D := g) (ci := 11) (v := .ref (m_a 25)) (C := RX12) (T := TX12) (N := 56) hx hb hts iX12 hown hK hP 0 rfl rfl 25 (by decide) (hts (.fieldLink RX12 59 "CardsAtYuleModel" "maycome" "[Z") (List.mem_cons_of_mem _ (List.mem_append_left _ (List.mem_of_getElem? (i := 12) rfl)))) (fun _ h9 => h9) rfl dX12_yearOf_236 ?_
        refine lv_iconst (v := 1) hx hb dX12_yearOf_239 (by decide) ?_
        refine lv_iload hx hb dX12_yearOf_240 (lv_at hl 0 rfl) ?_
        refine lv_isub hx hb dX12_yearOf_242 ?_
        refine lv_topi (nm_r (e' := 1) (by decide) ?_)
        refine va_zald (D := g) hx hb hK hP 3 3 rfl rfl (vc_in (by decide)) dX12_yearOf_243 ?_
        refine lv_topi (nm_r (e' := 1) hS_c1 ?_)
        refine lv_if_eq (tgt := 251) hx hb dX12_yearOf_244 (by decide) (fun c146 => absurd c146 (by decide)) (fun _ => ?_)
        refine lv_iconst (v := 1) hx hb dX12_yearOf_247 (by decide) ?_
        refine lv_goto (tgt := 252) hx hb dX12_yearOf_248 (by decide) ?_
        refine va_zast (D := g) hx hb hK hP hD hS 5 3 rfl rfl (vc_in (by decide)) dX12_yearOf_252 (fun H locs hP hD hS => ?_)
        have hP : va_P g vwCl [(mo, .inr (11, mG m_a m_thrown m_taped m_at m_token m_place m_value m_word m_bad m_badPlace m_fault m_faultPlace (-1) m_will m_forgot 0 m_x vb vr vc vf m_any m_bothSend m_meanCards m_bestSum m_fitMany m_fitFirst m_fitSecond)), ((m_a 23), .inl (cI, 2, .inl fr)), ((m_a 24), .inl (cZ, 2, .inl fm)), ((m_a 25), .inl (cZ, 2, .inl fc)), ((m_a 26), .inl (cI, 2, .inl (upd (upd (upd fs 0 0) 1 1) 0 2))), ((m_a 27), .inl (cZ, 2, .inl (upd (upd (upd fg 0 0) 1 0) 0 1))), ((m_a 34), .inl (cZ, 2, .inl (upd (upd fk 0 1) 1 0)))] H := hP
        have hD : va_D A [(mo, .inr (11, mG m_a m_thrown m_taped m_at m_token m_place m_value m_word m_bad m_badPlace m_fault m_faultPlace (-1) m_will m_forgot 0 m_x vb vr vc vf m_any m_bothSend m_meanCards m_bestSum m_fitMany m_fitFirst m_fitSecond)), ((m_a 23), .inl (cI, 2, .inl fr)), ((m_a 24), .inl (cZ, 2, .inl fm)), ((m_a 25), .inl (cZ, 2, .inl fc)), ((m_a 26), .inl (cI, 2, .inl (upd (upd (upd fs 0 0) 1 1) 0 2))), ((m_a 27), .inl (cZ, 2, .inl (upd (upd (upd fg 0 0) 1 0) 0 1))), ((m_a 34), .inl (cZ, 2, .inl (upd (upd fk 0 1) 1 0)))] := hD
        refine lv_iload_n hx hb dX12_yearOf_253 rfl (lv_at hl 1 rfl) ?_
        refine lv_aload_n hx hb dX12_yearOf_254 rfl (lv_at hl 3 rfl) ?_
        refine va_get (D := g) (ci := 11) (v := .ref (m_a 27)) (C := RX12) (T := TX12) (N := 56) hx hb hts iX12 hown hK hP 0 rfl rfl 27 (by decide) (hts (.fieldLink RX12 65 "CardsAtYuleModel" "gets" "[Z") (List.mem_cons_of_mem _ (List.mem_append_left _ (List.mem_of_getElem? (i := 0) rfl)))) (fun _ h9 => h9) rfl dX12_yearOf_255 ?_
        refine lv_iload hx hb dX12_yearOf_258 (lv_at hl 0 rfl) ?_
        refine va_zald (D := g) hx hb hK hP 5 3 rfl rfl (vc_in (by decide)) dX12_yearOf_260 ?_
        refine lv_topi (nm_r (e' := 1) rfl ?_)
        refine lv_if_eq (tgt := 273) hx hb dX12_yearOf_261 (by decide) (fun c147 => absurd c147 (by decide)) (fun _ => ?_)
        refine lv_iconst (v := 1) hx hb dX12_yearOf_264 (by decide) ?_
        refine lv_iconst (v := 2) hx hb dX12_yearOf_265 (by decide) ?_
        refine lv_iload hx hb dX12_yearOf_266 (lv_at hl 0 rfl) ?_
        refine lv_imul hx hb dX12_yearOf_268 ?_
        refine lv_topi (nm_r (e' := 0) (by decide) ?_)
        refine lv_ishl hx hb dX12_yearOf_269 ?_
        refine lv_topi (nm_r (e' := 1) (by decide) ?_)
        refine lv_goto (tgt := 274) hx hb dX12_yearOf_270 (by decide) ?_
        refine lv_ior hx hb dX12_yearOf_274 ?_
        refine lv_istore_n (lv' := [(3, .int ((((nI js) &&& 5) <<< (1 &&& (31 : Int32))) ||| 1)), (4, .int 0), (2, .ref (m_a 34)), (0, .ref mo), (1, .int (nI js))]) hx hb dX12_yearOf_275 rfl hl (by decide) rfl (fun ls hl => ?_)
        refine lv_iinc (v := 1) (lv' := [(4, .int 1), (3, .int ((((nI js) &&& 5) <<< (1 &&& (31 : Int32))) ||| 1)), (2, .ref (m_a 34)), (0, .ref mo), (1, .int (nI js))]) hx hb dX12_yearOf_276 hl (k := 1) rfl (by decide) (by decide) rfl (fun ls hl => ?_)
        refine lv_goto (tgt := 211) hx hb dX12_yearOf_279 (by decide) ?_
        refine lv_iload hx hb dX12_yearOf_211 (lv_at hl 0 rfl) ?_
        refine lv_iconst (v := 2) hx hb dX12_yearOf_213 (by decide) ?_
        refine lv_icmp_ge (tgt := 282) hx hb dX12_yearOf_214 (by decide) (fun c148 => absurd c148 (by decide)) (fun _ => ?_)
        refine lv_aload_n hx hb dX12_yearOf_217 rfl (lv_at hl 3 rfl) ?_
        refine va_get (D := g) (ci := 11) (v := .ref (m_a 27)) (C := RX12) (T := TX12) (N := 56) hx hb hts iX12 hown hK hP 0 rfl rfl 27 (by decide) (hts (.fieldLink RX12 65 "CardsAtYuleModel" "gets" "[Z") (List.mem_cons_of_mem _ (List.mem_append_left _ (List.mem_of_getElem? (i := 0) rfl)))) (fun _ h9 => h9) rfl dX12_yearOf_218 ?_
        refine lv_iload hx hb dX12_yearOf_221 (lv_at hl 0 rfl) ?_
        refine lv_aload_n hx hb dX12_yearOf_223 rfl (lv_at hl 3 rfl) ?_
        refine va_get (D := g) (ci := 11) (v := .ref (m_a 26)) (C := RX12) (T := TX12) (N := 56) hx hb hts iX12 hown hK hP 0 rfl rfl 26 (by decide) (hts (.fieldLink RX12 62 "CardsAtYuleModel" "sent" "[I") (List.mem_cons_of_mem _ (List.mem_append_left _ (List.mem_of_getElem? (i := 10) rfl)))) (fun _ h9 => h9) rfl dX12_yearOf_224 ?_
        refine lv_iconst (v := 1) hx hb dX12_yearOf_227 (by decide) ?_
        refine lv_iload hx hb dX12_yearOf_228 (lv_at hl 0 rfl) ?_
        refine lv_isub hx hb dX12_yearOf_230 ?_
        refine lv_topi (nm_r (e' := 0) (by decide) ?_)
        refine va_iald (D := g) hx hb hK hP 4 0 rfl rfl (vc_in (by decide)) dX12_yearOf_231 ?_
        refine lv_topi (nm_r (e' := 2) rfl ?_)
        refine lv_if_le (tgt := 251) hx hb dX12_yearOf_232 (by decide) (fun c149 => absurd c149 (by decide)) (fun _ => ?_)
        refine lv_aload_n hx hb dX12_yearOf_235 rfl (lv_at hl 3 rfl) ?_
        refine va_get (D := g) (ci := 11) (v := .ref (m_a 25)) (C := RX12) (T := TX12) (N := 56) hx hb hts iX12 hown hK hP 0 rfl rfl 25 (by decide) (hts (.fieldLink RX12 59 "CardsAtYuleModel" "maycome" "[Z") (List.mem_cons_of_mem _ (List.mem_append_left _ (List.mem_of_getElem? (i := 12) rfl)))) (fun _ h9 => h9) rfl dX12_yearOf_236 ?_
        refine lv_iconst (v := 1) hx hb dX12_yearOf_239 (by decide) ?_
        refine lv_iload hx hb dX12_yearOf_240 (lv_at hl 0 rfl) ?_
        refine lv_isub hx hb dX12_yearOf_242 ?_
        refine lv_topi (nm_r (e' := 0) (by decide) ?_)
        refine va_zald (D := g) hx hb hK hP 3 3 rfl rfl (vc_in (by decide)) dX12_yearOf_243 ?_
        refine lv_topi (nm_r (e' := 1) hS_c0 ?_)
        refine lv_if_eq (tgt := 251) hx hb dX12_yearOf_244 (by decide) (fun c150 => absurd c150 (by decide)) (fun _ => ?_)
        refine lv_iconst (v := 1) hx hb dX12_yearOf_247 (by decide) ?_
        refine lv_goto (tgt := 252) hx hb dX12_yearOf_248 (by decide) ?_
        refine va_zast (D := g) hx hb hK hP hD hS 5 3 rfl rfl (vc_in (by decide)) dX12_yearOf_252 (fun H locs hP hD hS => ?_)
        have hP : va_P g vwCl [(mo, .inr (11, mG m_a m_thrown m_taped m_at m_token m_place m_value m_word m_bad m_badPlace m_fault m_faultPlace (-1) m_will m_forgot 0 m_x vb vr vc vf m_any m_bothSend m_meanCards m_bestSum m_fitMany m_fitFirst m_fitSecond)), ((m_a 23), .inl (cI, 2, .inl fr)), ((m_a 24), .inl (cZ, 2, .inl fm)), ((m_a 25), .inl (cZ, 2, .inl fc)), ((m_a 26), .inl (cI, 2, .inl (upd (upd (upd fs 0 0) 1 1) 0 2))), ((m_a 27), .inl (cZ, 2, .inl (upd (upd (upd (upd fg 0 0) 1 0) 0 1) 1 1))), ((m_a 34), .inl (cZ, 2, .inl (upd (upd fk 0 1) 1 0)))] H := hP
        have hD : va_D A [(mo, .inr (11, mG m_a m_thrown m_taped m_at m_token m_place m_value m_word m_bad m_badPlace m_fault m_faultPlace (-1) m_will m_forgot 0 m_x vb vr vc vf m_any m_bothSend m_meanCards m_bestSum m_fitMany m_fitFirst m_fitSecond)), ((m_a 23), .inl (cI, 2, .inl fr)), ((m_a 24), .inl (cZ, 2, .inl fm)), ((m_a 25), .inl (cZ, 2, .inl fc)), ((m_a 26), .inl (cI, 2, .inl (upd (upd (upd fs 0 0) 1 1) 0 2))), ((m_a 27), .inl (cZ, 2, .inl (upd (upd (upd (upd fg 0 0) 1 0) 0 1) 1 1))), ((m_a 34), .inl (cZ, 2, .inl (upd (upd fk 0 1) 1 0)))] := hD
        refine lv_iload_n hx hb dX12_yearOf_253 rfl (lv_at hl 1 rfl) ?_
        refine lv_aload_n hx hb dX12_yearOf_254 rfl (lv_at hl 3 rfl) ?_
        refine va_get (D := g) (ci := 11) (v := .ref (m_a 27)) (C := RX12) (T := TX12) (N := 56) hx hb hts iX12 hown hK hP 0 rfl rfl 27 (by decide) (hts (.fieldLink RX12 65 "CardsAtYuleModel" "gets" "[Z") (List.mem_cons_of_mem _ (List.mem_append_left _ (List.mem_of_getElem? (i := 0) rfl)))) (fun _ h9 => h9) rfl dX12_yearOf_255 ?_
        refine lv_iload hx hb dX12_yearOf_258 (lv_at hl 0 rfl) ?_
        refine va_zald (D := g) hx hb hK hP 5 3 rfl rfl (vc_in (by decide)) dX12_yearOf_260 ?_
        refine lv_topi (nm_r (e' := 1) rfl ?_)
        refine lv_if_eq (tgt := 273) hx hb dX12_yearOf_261 (by decide) (fun c151 => absurd c151 (by decide)) (fun _ => ?_)
        refine lv_iconst (v := 1) hx hb dX12_yearOf_264 (by decide) ?_
        refine lv_iconst (v := 2) hx hb dX12_yearOf_265 (by decide) ?_
        refine lv_iload hx hb dX12_yearOf_266 (lv_at hl 0 rfl) ?_
        refine lv_imul hx hb dX12_yearOf_268 ?_
        refine lv_topi (nm_r (e' := 2) (by decide) ?_)
        refine lv_ishl hx hb dX12_yearOf_269 ?_
        refine lv_topi (nm_r (e' := 4) (by decide) ?_)
        refine lv_goto (tgt := 274) hx hb dX12_yearOf_270 (by decide) ?_
        refine lv_ior hx hb dX12_yearOf_274 ?_
        refine lv_istore_n (lv' := [(3, .int (((((nI js) &&& 5) <<< (1 &&& (31 : Int32))) ||| 1) ||| 4)), (4, .int 1), (2, .ref (m_a 34)), (0, .ref mo), (1, .int (nI js))]) hx hb dX12_yearOf_275 rfl hl (by decide) rfl (fun ls hl => ?_)
        refine lv_iinc (v := 2) (lv' := [(4, .int 2), (3, .int (((((nI js) &&& 5) <<< (1 &&& (31 : Int32))) ||| 1) ||| 4)), (2, .ref (m_a 34)), (0, .ref mo), (1, .int (nI js))]) hx hb dX12_yearOf_276 hl (k := 1) rfl (by decide) (by decide) rfl (fun ls hl => ?_)
        refine lv_goto (tgt := 211) hx hb dX12_yearOf_279 (by decide) ?_
        refine lv_iload hx hb dX12_yearOf_211 (lv_at hl 0 rfl) ?_
        refine lv_iconst (v := 2) hx hb dX12_yearOf_213 (by decide) ?_
        refine lv_icmp_ge (tgt := 282) hx hb dX12_yearOf_214 (by decide) (fun _ => ?_) (fun c152 => absurd c152 (by decide))
        refine lv_iload_n hx hb dX12_yearOf_282 rfl (lv_at hl 1 rfl) ?_
        have hA9 : sA ra rb js = 1 := by unfold sA; rw [if_pos (by omega)]
        have hB9 : zB ra rb js = 1 := by unfold zB; rw [if_pos (by omega)]
        have hP9 := hP.sub (ws' := [(mo, .inr (11, mG m_a m_thrown m_taped m_at m_token m_place m_value m_word m_bad m_badPlace m_fault m_faultPlace (-1) m_will m_forgot 0 m_x vb vr vc vf m_any m_bothSend m_meanCards m_bestSum m_fitMany m_fitFirst m_fitSecond)), ((m_a 23), .inl (cI, 2, .inl fr)), ((m_a 24), .inl (cZ, 2, .inl fm)), ((m_a 25), .inl (cZ, 2, .inl fc)), ((m_a 26), .inl (cI, 2, .inl (upd (upd (upd fs 0 0) 1 1) 0 2))), ((m_a 27), .inl (cZ, 2, .inl (upd (upd (upd (upd fg 0 0) 1 0) 0 1) 1 1))), ((m_a 34), .inl (cZ, 2, .inl (upd (upd fk 0 1) 1 0)))]) [0, 1, 2, 3, 4, 5, 6] rfl
        have hD9 := hD.sub (ws' := [(mo, .inr (11, mG m_a m_thrown m_taped m_at m_token m_place m_value m_word m_bad m_badPlace m_fault m_faultPlace (-1) m_will m_forgot 0 m_x vb vr vc vf m_any m_bothSend m_meanCards m_bestSum m_fitMany m_fitFirst m_fitSecond)), ((m_a 23), .inl (cI, 2, .inl fr)), ((m_a 24), .inl (cZ, 2, .inl fm)), ((m_a 25), .inl (cZ, 2, .inl fc)), ((m_a 26), .inl (cI, 2, .inl (upd (upd (upd fs 0 0) 1 1) 0 2))), ((m_a 27), .inl (cZ, 2, .inl (upd (upd (upd (upd fg 0 0) 1 0) 0 1) 1 1))), ((m_a 34), .inl (cZ, 2, .inl (upd (upd fk 0 1) 1 0)))]) [0, 1, 2, 3, 4, 5, 6] (by decide) rfl
        exact W.iret (v := (((((nI js) &&& 5) <<< (1 &&& (31 : Int32))) ||| 1) ||| 4)) hx hb hr (fun t ht hW => ⟨⟨(((((nI js) &&& 5) <<< (1 &&& (31 : Int32))) ||| 1) ||| 4), ((upd (upd (upd fs 0 0) 1 1) 0 2), (upd (upd (upd (upd fg 0 0) 1 0) 0 1) 1 1), (upd (upd fk 0 1) 1 0)), rfl, ⟨th_nx hjs (u := 1) (v := 1) hB9 hA9, 2, 1, rfl, rfl, by decide, by decide, by unfold sc; rw [hA9, hB9]; rfl⟩, by rw [ht]; exact hP9, va_K.moved hW.alike hK, hD9⟩, hS.F ht⟩) hS.2.2 dX12_yearOf_283
    · refine lv_if_eq (tgt := 59) hx hb dX12_yearOf_44 (by decide) (fun _ => ?_) (fun c153 => absurd c153 (by decide))
      refine lv_iconst (v := 0) hx hb dX12_yearOf_59 (by decide) ?_
      refine lv_istore_n (lv' := [(3, .int 0), (2, .int 1), (0, .ref mo), (1, .int (nI js))]) hx hb dX12_yearOf_60 rfl hl (by decide) rfl (fun ls hl => ?_)
      refine lv_aload_n hx hb dX12_yearOf_61 rfl (lv_at hl 2 rfl) ?_
      refine va_get (D := g) (ci := 11) (v := .ref (m_a 26)) (C := RX12) (T := TX12) (N := 56) hx hb hts iX12 hown hK hP 0 rfl rfl 26 (by decide) (hts (.fieldLink RX12 62 "CardsAtYuleModel" "sent" "[I") (List.mem_cons_of_mem _ (List.mem_append_left _ (List.mem_of_getElem? (i := 10) rfl)))) (fun _ h9 => h9) rfl dX12_yearOf_62 ?_
      refine lv_iload_n hx hb dX12_yearOf_65 rfl (lv_at hl 1 rfl) ?_
      refine lv_iload_n hx hb dX12_yearOf_66 rfl (lv_at hl 0 rfl) ?_
      refine lv_if_eq (tgt := 74) hx hb dX12_yearOf_67 (by decide) (fun _ => ?_) (fun c154 => absurd c154 (by decide))
      refine lv_iconst (v := 0) hx hb dX12_yearOf_74 (by decide) ?_
      refine va_iast (D := g) hx hb hK hP hD hS 4 0 rfl rfl (vc_in (by decide)) dX12_yearOf_75 (fun H locs hP hD hS => ?_)
      have hP : va_P g vwCl [(mo, .inr (11, mG m_a m_thrown m_taped m_at m_token m_place m_value m_word m_bad m_badPlace m_fault m_faultPlace (-1) m_will m_forgot 0 m_x vb vr vc vf m_any m_bothSend m_meanCards m_bestSum m_fitMany m_fitFirst m_fitSecond)), ((m_a 23), .inl (cI, 2, .inl fr)), ((m_a 24), .inl (cZ, 2, .inl fm)), ((m_a 25), .inl (cZ, 2, .inl fc)), ((m_a 26), .inl (cI, 2, .inl (upd (upd fs 0 0) 1 0))), ((m_a 27), .inl (cZ, 2, .inl (upd (upd fg 0 0) 1 0))), ((m_a 34), .inl (cZ, 2, .inl fk))] H := hP
      have hD : va_D A [(mo, .inr (11, mG m_a m_thrown m_taped m_at m_token m_place m_value m_word m_bad m_badPlace m_fault m_faultPlace (-1) m_will m_forgot 0 m_x vb vr vc vf m_any m_bothSend m_meanCards m_bestSum m_fitMany m_fitFirst m_fitSecond)), ((m_a 23), .inl (cI, 2, .inl fr)), ((m_a 24), .inl (cZ, 2, .inl fm)), ((m_a 25), .inl (cZ, 2, .inl fc)), ((m_a 26), .inl (cI, 2, .inl (upd (upd fs 0 0) 1 0))), ((m_a 27), .inl (cZ, 2, .inl (upd (upd fg 0 0) 1 0))), ((m_a 34), .inl (cZ, 2, .inl fk))] := hD
      refine lv_iinc (v := 2) (lv' := [(2, .int 2), (3, .int 0), (0, .ref mo), (1, .int (nI js))]) hx hb dX12_yearOf_76 hl (k := 1) rfl (by decide) (by decide) rfl (fun ls hl => ?_)
      refine lv_goto (tgt := 2) hx hb dX12_yearOf_79 (by decide) ?_
      refine lv_iload_n hx hb dX12_yearOf_2 rfl (lv_at hl 0 rfl) ?_
      refine lv_iconst (v := 2) hx hb dX12_yearOf_3 (by decide) ?_
      refine lv_icmp_ge (tgt := 82) hx hb dX12_yearOf_4 (by decide) (fun _ => ?_) (fun c155 => absurd c155 (by decide))
      refine lv_aload_n hx hb dX12_yearOf_82 rfl (lv_at hl 2 rfl) ?_
      refine va_get (D := g) (ci := 11) (v := .ref (m_a 34)) (C := RX12) (T := TX12) (N := 56) hx hb hts iX12 hown hK hP 0 rfl rfl 34 (by decide) (hts (.fieldLink RX12 74 "CardsAtYuleModel" "cameFirst" "[Z") (List.mem_cons_of_mem _ (List.mem_append_left _ (List.mem_of_getElem? (i := 11) rfl)))) (fun _ h9 => h9) rfl dX12_yearOf_83 ?_
      refine lv_astore_n (lv' := [(2, .ref (m_a 34)), (3, .int 0), (0, .ref mo), (1, .int (nI js))]) hx hb dX12_yearOf_86 rfl hl (by decide) rfl (fun ls hl => ?_)
      refine lv_iconst (v := 0) hx hb dX12_yearOf_87 (by decide) ?_
      refine lv_istore_n (lv' := [(3, .int 0), (2, .ref (m_a 34)), (0, .ref mo), (1, .int (nI js))]) hx hb dX12_yearOf_88 rfl hl (by decide) rfl (fun ls hl => ?_)
      refine lv_iload_n hx hb dX12_yearOf_89 rfl (lv_at hl 0 rfl) ?_
      refine lv_iconst (v := 2) hx hb dX12_yearOf_90 (by decide) ?_
      refine lv_icmp_ge (tgt := 131) hx hb dX12_yearOf_91 (by decide) (fun c156 => absurd c156 (by decide)) (fun _ => ?_)
      refine lv_aload_n hx hb dX12_yearOf_94 rfl (lv_at hl 1 rfl) ?_
      refine lv_iload_n hx hb dX12_yearOf_95 rfl (lv_at hl 0 rfl) ?_
      refine lv_aload_n hx hb dX12_yearOf_96 rfl (lv_at hl 2 rfl) ?_
      refine va_get (D := g) (ci := 11) (v := .ref (m_a 26)) (C := RX12) (T := TX12) (N := 56) hx hb hts iX12 hown hK hP 0 rfl rfl 26 (by decide) (hts (.fieldLink RX12 62 "CardsAtYuleModel" "sent" "[I") (List.mem_cons_of_mem _ (List.mem_append_left _ (List.mem_of_getElem? (i := 10) rfl)))) (fun _ h9 => h9) rfl dX12_yearOf_97 ?_
      refine lv_iconst (v := 1) hx hb dX12_yearOf_100 (by decide) ?_
      refine lv_iload_n hx hb dX12_yearOf_101 rfl (lv_at hl 0 rfl) ?_
      refine lv_isub hx hb dX12_yearOf_102 ?_
      refine lv_topi (nm_r (e' := 1) (by decide) ?_)
      refine va_iald (D := g) hx hb hK hP 4 0 rfl rfl (vc_in (by decide)) dX12_yearOf_103 ?_
      refine lv_topi (nm_r (e' := 0) rfl ?_)
      refine lv_iconst (v := 1) hx hb dX12_yearOf_104 (by decide) ?_
      refine lv_icmp_ne (tgt := 123) hx hb dX12_yearOf_105 (by decide) (fun _ => ?_) (fun c157 => absurd c157 (by decide))
      refine lv_iconst (v := 0) hx hb dX12_yearOf_123 (by decide) ?_
      refine va_zast (D := g) hx hb hK hP hD hS 6 3 rfl rfl (vc_in (by decide)) dX12_yearOf_124 (fun H locs hP hD hS => ?_)
      have hP : va_P g vwCl [(mo, .inr (11, mG m_a m_thrown m_taped m_at m_token m_place m_value m_word m_bad m_badPlace m_fault m_faultPlace (-1) m_will m_forgot 0 m_x vb vr vc vf m_any m_bothSend m_meanCards m_bestSum m_fitMany m_fitFirst m_fitSecond)), ((m_a 23), .inl (cI, 2, .inl fr)), ((m_a 24), .inl (cZ, 2, .inl fm)), ((m_a 25), .inl (cZ, 2, .inl fc)), ((m_a 26), .inl (cI, 2, .inl (upd (upd fs 0 0) 1 0))), ((m_a 27), .inl (cZ, 2, .inl (upd (upd fg 0 0) 1 0))), ((m_a 34), .inl (cZ, 2, .inl (upd fk 0 0)))] H := hP
      have hD : va_D A [(mo, .inr (11, mG m_a m_thrown m_taped m_at m_token m_place m_value m_word m_bad m_badPlace m_fault m_faultPlace (-1) m_will m_forgot 0 m_x vb vr vc vf m_any m_bothSend m_meanCards m_bestSum m_fitMany m_fitFirst m_fitSecond)), ((m_a 23), .inl (cI, 2, .inl fr)), ((m_a 24), .inl (cZ, 2, .inl fm)), ((m_a 25), .inl (cZ, 2, .inl fc)), ((m_a 26), .inl (cI, 2, .inl (upd (upd fs 0 0) 1 0))), ((m_a 27), .inl (cZ, 2, .inl (upd (upd fg 0 0) 1 0))), ((m_a 34), .inl (cZ, 2, .inl (upd fk 0 0)))] := hD
      refine lv_iinc (v := 1) (lv' := [(3, .int 1), (2, .ref (m_a 34)), (0, .ref mo), (1, .int (nI js))]) hx hb dX12_yearOf_125 hl (k := 0) rfl (by decide) (by decide) rfl (fun ls hl => ?_)
      refine lv_goto (tgt := 89) hx hb dX12_yearOf_128 (by decide) ?_
      refine lv_iload_n hx hb dX12_yearOf_89 rfl (lv_at hl 0 rfl) ?_
      refine lv_iconst (v := 2) hx hb dX12_yearOf_90 (by decide) ?_
      refine lv_icmp_ge (tgt := 131) hx hb dX12_yearOf_91 (by decide) (fun c158 => absurd c158 (by decide)) (fun _ => ?_)
      refine lv_aload_n hx hb dX12_yearOf_94 rfl (lv_at hl 1 rfl) ?_
      refine lv_iload_n hx hb dX12_yearOf_95 rfl (lv_at hl 0 rfl) ?_
      refine lv_aload_n hx hb dX12_yearOf_96 rfl (lv_at hl 2 rfl) ?_
      refine va_get (D := g) (ci := 11) (v := .ref (m_a 26)) (C := RX12) (T := TX12) (N := 56) hx hb hts iX12 hown hK hP 0 rfl rfl 26 (by decide) (hts (.fieldLink RX12 62 "CardsAtYuleModel" "sent" "[I") (List.mem_cons_of_mem _ (List.mem_append_left _ (List.mem_of_getElem? (i := 10) rfl)))) (fun _ h9 => h9) rfl dX12_yearOf_97 ?_
      refine lv_iconst (v := 1) hx hb dX12_yearOf_100 (by decide) ?_
      refine lv_iload_n hx hb dX12_yearOf_101 rfl (lv_at hl 0 rfl) ?_
      refine lv_isub hx hb dX12_yearOf_102 ?_
      refine lv_topi (nm_r (e' := 0) (by decide) ?_)
      refine va_iald (D := g) hx hb hK hP 4 0 rfl rfl (vc_in (by decide)) dX12_yearOf_103 ?_
      refine lv_topi (nm_r (e' := 0) rfl ?_)
      refine lv_iconst (v := 1) hx hb dX12_yearOf_104 (by decide) ?_
      refine lv_icmp_ne (tgt := 123) hx hb dX12_yearOf_105 (by decide) (fun _ => ?_) (fun c159 => absurd c159 (by decide))
      refine lv_iconst (v := 0) hx hb dX12_yearOf_123 (by decide) ?_
      refine va_zast (D := g) hx hb hK hP hD hS 6 3 rfl rfl (vc_in (by decide)) dX12_yearOf_124 (fun H locs hP hD hS => ?_)
      have hP : va_P g vwCl [(mo, .inr (11, mG m_a m_thrown m_taped m_at m_token m_place m_value m_word m_bad m_badPlace m_fault m_faultPlace (-1) m_will m_forgot 0 m_x vb vr vc vf m_any m_bothSend m_meanCards m_bestSum m_fitMany m_fitFirst m_fitSecond)), ((m_a 23), .inl (cI, 2, .inl fr)), ((m_a 24), .inl (cZ, 2, .inl fm)), ((m_a 25), .inl (cZ, 2, .inl fc)), ((m_a 26), .inl (cI, 2, .inl (upd (upd fs 0 0) 1 0))), ((m_a 27), .inl (cZ, 2, .inl (upd (upd fg 0 0) 1 0))), ((m_a 34), .inl (cZ, 2, .inl (upd (upd fk 0 0) 1 0)))] H := hP
      have hD : va_D A [(mo, .inr (11, mG m_a m_thrown m_taped m_at m_token m_place m_value m_word m_bad m_badPlace m_fault m_faultPlace (-1) m_will m_forgot 0 m_x vb vr vc vf m_any m_bothSend m_meanCards m_bestSum m_fitMany m_fitFirst m_fitSecond)), ((m_a 23), .inl (cI, 2, .inl fr)), ((m_a 24), .inl (cZ, 2, .inl fm)), ((m_a 25), .inl (cZ, 2, .inl fc)), ((m_a 26), .inl (cI, 2, .inl (upd (upd fs 0 0) 1 0))), ((m_a 27), .inl (cZ, 2, .inl (upd (upd fg 0 0) 1 0))), ((m_a 34), .inl (cZ, 2, .inl (upd (upd fk 0 0) 1 0)))] := hD
      refine lv_iinc (v := 2) (lv' := [(3, .int 2), (2, .ref (m_a 34)), (0, .ref mo), (1, .int (nI js))]) hx hb dX12_yearOf_125 hl (k := 0) rfl (by decide) (by decide) rfl (fun ls hl => ?_)
      refine lv_goto (tgt := 89) hx hb dX12_yearOf_128 (by decide) ?_
      refine lv_iload_n hx hb dX12_yearOf_89 rfl (lv_at hl 0 rfl) ?_
      refine lv_iconst (v := 2) hx hb dX12_yearOf_90 (by decide) ?_
      refine lv_icmp_ge (tgt := 131) hx hb dX12_yearOf_91 (by decide) (fun _ => ?_) (fun c160 => absurd c160 (by decide))
      refine lv_iconst (v := 0) hx hb dX12_yearOf_131 (by decide) ?_
      refine lv_istore_n (lv' := [(3, .int 0), (2, .ref (m_a 34)), (0, .ref mo), (1, .int (nI js))]) hx hb dX12_yearOf_132 rfl hl (by decide) rfl (fun ls hl => ?_)
      refine lv_iload_n hx hb dX12_yearOf_133 rfl (lv_at hl 0 rfl) ?_
      refine lv_iconst (v := 2) hx hb dX12_yearOf_134 (by decide) ?_
      refine lv_icmp_ge (tgt := 202) hx hb dX12_yearOf_135 (by decide) (fun c161 => absurd c161 (by decide)) (fun _ => ?_)
      refine lv_iload_n hx hb dX12_yearOf_138 rfl (lv_at hl 0 rfl) ?_
      refine lv_aload_n hx hb dX12_yearOf_139 rfl (lv_at hl 2 rfl) ?_
      refine va_get (D := g) (ci := 11) (v := .int (-1)) (C := RX12) (T := TX12) (N := 56) hx hb hts iX12 hown hK hP 0 rfl rfl 28 (by decide) (hts (.fieldLink RX12 68 "CardsAtYuleModel" "willing" "I") (List.mem_cons_of_mem _ (List.mem_append_left _ (List.mem_of_getElem? (i := 1) rfl)))) (fun _ h9 => h9) rfl dX12_yearOf_140 ?_
      refine lv_icmp_eq (tgt := 196) hx hb dX12_yearOf_143 (by decide) (fun c162 => absurd c162 (by decide)) (fun _ => ?_)
      refine lv_aload_n hx hb dX12_yearOf_146 rfl (lv_at hl 2 rfl) ?_
      refine va_get (D := g) (ci := 11) (v := .ref (m_a 24)) (C := RX12) (T := TX12) (N := 56) hx hb hts iX12 hown hK hP 0 rfl rfl 24 (by decide) (hts (.fieldLink RX12 56 "CardsAtYuleModel" "maySend" "[Z") (List.mem_cons_of_mem _ (List.mem_append_left _ (List.mem_of_getElem? (i := 2) rfl)))) (fun _ h9 => h9) rfl dX12_yearOf_147 ?_
      refine lv_iload_n hx hb dX12_yearOf_150 rfl (lv_at hl 0 rfl) ?_
      refine va_zald (D := g) hx hb hK hP 2 3 rfl rfl (vc_in (by decide)) dX12_yearOf_151 ?_
      refine lv_topi (nm_r (e' := 1) hS_m0 ?_)
      refine lv_if_eq (tgt := 196) hx hb dX12_yearOf_152 (by decide) (fun c163 => absurd c163 (by decide)) (fun _ => ?_)
      refine lv_aload_n hx hb dX12_yearOf_155 rfl (lv_at hl 2 rfl) ?_
      refine va_get (D := g) (ci := 11) (v := .ref (m_a 26)) (C := RX12) (T := TX12) (N := 56) hx hb hts iX12 hown hK hP 0 rfl rfl 26 (by decide) (hts (.fieldLink RX12 62 "CardsAtYuleModel" "sent" "[I") (List.mem_cons_of_mem _ (List.mem_append_left _ (List.mem_of_getElem? (i := 10) rfl)))) (fun _ h9 => h9) rfl dX12_yearOf_156 ?_
      refine lv_iload_n hx hb dX12_yearOf_159 rfl (lv_at hl 0 rfl) ?_
      refine va_iald (D := g) hx hb hK hP 4 0 rfl rfl (vc_in (by decide)) dX12_yearOf_160 ?_
      refine lv_topi (nm_r (e' := 0) rfl ?_)
      refine lv_if_ne (tgt := 196) hx hb dX12_yearOf_161 (by decide) (fun c164 => absurd c164 (by decide)) (fun _ => ?_)
      refine lv_aload_n hx hb dX12_yearOf_164 rfl (lv_at hl 2 rfl) ?_
      refine va_get (D := g) (ci := 11) (v := .ref (m_a 23)) (C := RX12) (T := TX12) (N := 56) hx hb hts iX12 hown hK hP 0 rfl rfl 23 (by decide) (hts (.fieldLink RX12 53 "CardsAtYuleModel" "ruleNow" "[I") (List.mem_cons_of_mem _ (List.mem_append_left _ (List.mem_of_getElem? (i := 13) rfl)))) (fun _ h9 => h9) rfl dX12_yearOf_165 ?_
      refine lv_iload_n hx hb dX12_yearOf_168 rfl (lv_at hl 0 rfl) ?_
      refine va_iald (D := g) hx hb hK hP 1 0 rfl rfl (vc_in (by decide)) dX12_yearOf_169 ?_
      refine lv_topi (nm_r (e' := nI ra) hS_r0 ?_)
      refine lv_bipush (v := 16) hx hb dX12_yearOf_170 (by decide) ?_
      refine lv_icmp_lt (tgt := 196) hx hb dX12_yearOf_172 (by decide) (fun c165 => ?_) (fun c165 => ?_)
      · have f166 := (show (ra : Int) < 16 from z_lt (nI_toInt (n := ra) (by omega)) rfl c165)
        refine lv_iinc (v := 1) (lv' := [(3, .int 1), (2, .ref (m_a 34)), (0, .ref mo), (1, .int (nI js))]) hx hb dX12_yearOf_196 hl (k := 0) rfl (by decide) (by decide) rfl (fun ls hl => ?_)
        refine lv_goto (tgt := 133) hx hb dX12_yearOf_199 (by decide) ?_
        refine lv_iload_n hx hb dX12_yearOf_133 rfl (lv_at hl 0 rfl) ?_
        refine lv_iconst (v := 2) hx hb dX12_yearOf_134 (by decide) ?_
        refine lv_icmp_ge (tgt := 202) hx hb dX12_yearOf_135 (by decide) (fun c167 => absurd c167 (by decide)) (fun _ => ?_)
        refine lv_iload_n hx hb dX12_yearOf_138 rfl (lv_at hl 0 rfl) ?_
        refine lv_aload_n hx hb dX12_yearOf_139 rfl (lv_at hl 2 rfl) ?_
        refine va_get (D := g) (ci := 11) (v := .int (-1)) (C := RX12) (T := TX12) (N := 56) hx hb hts iX12 hown hK hP 0 rfl rfl 28 (by decide) (hts (.fieldLink RX12 68 "CardsAtYuleModel" "willing" "I") (List.mem_cons_of_mem _ (List.mem_append_left _ (List.mem_of_getElem? (i := 1) rfl)))) (fun _ h9 => h9) rfl dX12_yearOf_140 ?_
        refine lv_icmp_eq (tgt := 196) hx hb dX12_yearOf_143 (by decide) (fun c168 => absurd c168 (by decide)) (fun _ => ?_)
        refine lv_aload_n hx hb dX12_yearOf_146 rfl (lv_at hl 2 rfl) ?_
        refine va_get (D := g) (ci := 11) (v := .ref (m_a 24)) (C := RX12) (T := TX12) (N := 56) hx hb hts iX12 hown hK hP 0 rfl rfl 24 (by decide) (hts (.fieldLink RX12 56 "CardsAtYuleModel" "maySend" "[Z") (List.mem_cons_of_mem _ (List.mem_append_left _ (List.mem_of_getElem? (i := 2) rfl)))) (fun _ h9 => h9) rfl dX12_yearOf_147 ?_
        refine lv_iload_n hx hb dX12_yearOf_150 rfl (lv_at hl 0 rfl) ?_
        refine va_zald (D := g) hx hb hK hP 2 3 rfl rfl (vc_in (by decide)) dX12_yearOf_151 ?_
        refine lv_topi (nm_r (e' := 1) hS_m1 ?_)
        refine lv_if_eq (tgt := 196) hx hb dX12_yearOf_152 (by decide) (fun c169 => absurd c169 (by decide)) (fun _ => ?_)
        refine lv_aload_n hx hb dX12_yearOf_155 rfl (lv_at hl 2 rfl) ?_
        refine va_get (D := g) (ci := 11) (v := .ref (m_a 26)) (C := RX12) (T := TX12) (N := 56) hx hb hts iX12 hown hK hP 0 rfl rfl 26 (by decide) (hts (.fieldLink RX12 62 "CardsAtYuleModel" "sent" "[I") (List.mem_cons_of_mem _ (List.mem_append_left _ (List.mem_of_getElem? (i := 10) rfl)))) (fun _ h9 => h9) rfl dX12_yearOf_156 ?_
        refine lv_iload_n hx hb dX12_yearOf_159 rfl (lv_at hl 0 rfl) ?_
        refine va_iald (D := g) hx hb hK hP 4 0 rfl rfl (vc_in (by decide)) dX12_yearOf_160 ?_
        refine lv_topi (nm_r (e' := 0) rfl ?_)
        refine lv_if_ne (tgt := 196) hx hb dX12_yearOf_161 (by decide) (fun c170 => absurd c170 (by decide)) (fun _ => ?_)
        refine lv_aload_n hx hb dX12_yearOf_164 rfl (lv_at hl 2 rfl) ?_
        refine va_get (D := g) (ci := 11) (v := .ref (m_a 23)) (C := RX12) (T := TX12) (N := 56) hx hb hts iX12 hown hK hP 0 rfl rfl 23 (by decide) (hts (.fieldLink RX12 53 "CardsAtYuleModel" "ruleNow" "[I") (List.mem_cons_of_mem _ (List.mem_append_left _ (List.mem_of_getElem? (i := 13) rfl)))) (fun _ h9 => h9) rfl dX12_yearOf_165 ?_
        refine lv_iload_n hx hb dX12_yearOf_168 rfl (lv_at hl 0 rfl) ?_
        refine va_iald (D := g) hx hb hK hP 1 0 rfl rfl (vc_in (by decide)) dX12_yearOf_169 ?_
        refine lv_topi (nm_r (e' := nI rb) hS_r1 ?_)
        refine lv_bipush (v := 16) hx hb dX12_yearOf_170 (by decide) ?_
        refine lv_icmp_lt (tgt := 196) hx hb dX12_yearOf_172 (by decide) (fun c171 => ?_) (fun c171 => ?_)
        · have f172 := (show (rb : Int) < 16 from z_lt (nI_toInt (n := rb) (by omega)) rfl c171)
          refine lv_iinc (v := 2) (lv' := [(3, .int 2), (2, .ref (m_a 34)), (0, .ref mo), (1, .int (nI js))]) hx hb dX12_yearOf_196 hl (k := 0) rfl (by decide) (by decide) rfl (fun ls hl => ?_)
          refine lv_goto (tgt := 133) hx hb dX12_yearOf_199 (by decide) ?_
          refine lv_iload_n hx hb dX12_yearOf_133 rfl (lv_at hl 0 rfl) ?_
          refine lv_iconst (v := 2) hx hb dX12_yearOf_134 (by decide) ?_
          refine lv_icmp_ge (tgt := 202) hx hb dX12_yearOf_135 (by decide) (fun _ => ?_) (fun c173 => absurd c173 (by decide))
          refine lv_iload_n hx hb dX12_yearOf_202 rfl (lv_at hl 3 rfl) ?_
          refine lv_iconst (v := 5) hx hb dX12_yearOf_203 (by decide) ?_
          refine lv_iand hx hb dX12_yearOf_204 ?_
          refine lv_iconst (v := 1) hx hb dX12_yearOf_205 (by decide) ?_
          refine lv_ishl hx hb dX12_yearOf_206 ?_
          refine lv_istore_n (lv' := [(3, .int (((nI js) &&& 5) <<< (1 &&& (31 : Int32)))), (2, .ref (m_a 34)), (0, .ref mo), (1, .int (nI js))]) hx hb dX12_yearOf_207 rfl hl (by decide) rfl (fun ls hl => ?_)
          refine lv_iconst (v := 0) hx hb dX12_yearOf_208 (by decide) ?_
          refine lv_istore (lv' := [(4, .int 0), (3, .int (((nI js) &&& 5) <<< (1 &&& (31 : Int32)))), (2, .ref (m_a 34)), (0, .ref mo), (1, .int (nI js))]) hx hb dX12_yearOf_209 hl (by decide) rfl (fun ls hl => ?_)
          refine lv_iload hx hb dX12_yearOf_211 (lv_at hl 0 rfl) ?_
          refine lv_iconst (v := 2) hx hb dX12_yearOf_213 (by decide) ?_
          refine lv_icmp_ge (tgt := 282) hx hb dX12_yearOf_214 (by decide) (fun c174 => absurd c174 (by decide)) (fun _ => ?_)
          refine lv_aload_n hx hb dX12_yearOf_217 rfl (lv_at hl 3 rfl) ?_
          refine va_get (D := g) (ci := 11) (v := .ref (m_a 27)) (C := RX12) (T := TX12) (N := 56) hx hb hts iX12 hown hK hP 0 rfl rfl 27 (by decide) (hts (.fieldLink RX12 65 "CardsAtYuleModel" "gets" "[Z") (List.mem_cons_of_mem _ (List.mem_append_left _ (List.mem_of_getElem? (i := 0) rfl)))) (fun _ h9 => h9) rfl dX12_yearOf_218 ?_
          refine lv_iload hx hb dX12_yearOf_221 (lv_at hl 0 rfl) ?_
          refine lv_aload_n hx hb dX12_yearOf_223 rfl (lv_at hl 3 rfl) ?_
          refine va_get (D := g) (ci := 11) (v := .ref (m_a 26)) (C := RX12) (T := TX12) (N := 56) hx hb hts iX12 hown hK hP 0 rfl rfl 26 (by decide) (hts (.fieldLink RX12 62 "CardsAtYuleModel" "sent" "[I") (List.mem_cons_of_mem _ (List.mem_append_left _ (List.mem_of_getElem? (i := 10) rfl)))) (fun _ h9 => h9) rfl dX12_yearOf_224 ?_
          refine lv_iconst (v := 1) hx hb dX12_yearOf_227 (by decide) ?_
          refine lv_iload hx hb dX12_yearOf_228 (lv_at hl 0 rfl) ?_
          refine lv_isub hx hb dX12_yearOf_230 ?_
          refine lv_topi (nm_r (e' := 1) (by decide) ?_)
          refine va_iald (D := g) hx hb hK hP 4 0 rfl rfl (vc_in (by decide)) dX12_yearOf_231 ?_
          refine lv_topi (nm_r (e' := 0) rfl ?_)
          refine lv_if_le (tgt := 251) hx hb dX12_yearOf_232 (by decide) (fun _ => ?_) (fun c175 => absurd c175 (by decide))
          refine lv_iconst (v := 0) hx hb dX12_yearOf_251 (by decide) ?_
          refine va_zast (D := g) hx hb hK hP hD hS 5 3 rfl rfl (vc_in (by decide)) dX12_yearOf_252 (fun H locs hP hD hS => ?_)
          have hP : va_P g vwCl [(mo, .inr (11, mG m_a m_thrown m_taped m_at m_token m_place m_value m_word m_bad m_badPlace m_fault m_faultPlace (-1) m_will m_forgot 0 m_x vb vr vc vf m_any m_bothSend m_meanCards m_bestSum m_fitMany m_fitFirst m_fitSecond)), ((m_a 23), .inl (cI, 2, .inl fr)), ((m_a 24), .inl (cZ, 2, .inl fm)), ((m_a 25), .inl (cZ, 2, .inl fc)), ((m_a 26), .inl (cI, 2, .inl (upd (upd fs 0 0) 1 0))), ((m_a 27), .inl (cZ, 2, .inl (upd (upd (upd fg 0 0) 1 0) 0 0))), ((m_a 34), .inl (cZ, 2, .inl (upd (upd fk 0 0) 1 0)))] H := hP
          have hD : va_D A [(mo, .inr (11, mG m_a m_thrown m_taped m_at m_token m_place m_value m_word m_bad m_badPlace m_fault m_faultPlace (-1) m_will m_forgot 0 m_x vb vr vc vf m_any m_bothSend m_meanCards m_bestSum m_fitMany m_fitFirst m_fitSecond)), ((m_a 23), .inl (cI, 2, .inl fr)), ((m_a 24), .inl (cZ, 2, .inl fm)), ((m_a 25), .inl (cZ, 2, .inl fc)), ((m_a 26), .inl (cI, 2, .inl (upd (upd fs 0 0) 1 0))), ((m_a 27), .inl (cZ, 2, .inl (upd (upd (upd fg 0 0) 1 0) 0 0))), ((m_a 34), .inl (cZ, 2, .inl (upd (upd fk 0 0) 1 0)))] := hD
          refine lv_iload_n hx hb dX12_yearOf_253 rfl (lv_at hl 1 rfl) ?_
          refine lv_aload_n hx hb dX12_yearOf_254 rfl (lv_at hl 3 rfl) ?_
          refine va_get (D := g) (ci := 11) (v := .ref (m_a 27)) (C := RX12) (T := TX12) (N := 56) hx hb hts iX12 hown hK hP 0 rfl rfl 27 (by decide) (hts (.fieldLink RX12 65 "CardsAtYuleModel" "gets" "[Z") (List.mem_cons_of_mem _ (List.mem_append_left _ (List.mem_of_getElem? (i := 0) rfl)))) (fun _ h9 => h9) rfl dX12_yearOf_255 ?_
          refine lv_iload hx hb dX12_yearOf_258 (lv_at hl 0 rfl) ?_
          refine va_zald (D := g) hx hb hK hP 5 3 rfl rfl (vc_in (by decide)) dX12_yearOf_260 ?_
          refine lv_topi (nm_r (e' := 0) rfl ?_)
          refine lv_if_eq (tgt := 273) hx hb dX12_yearOf_261 (by decide) (fun _ => ?_) (fun c176 => absurd c176 (by decide))
          refine lv_iconst (v := 0) hx hb dX12_yearOf_273 (by decide) ?_
          refine lv_ior hx hb dX12_yearOf_274 ?_
          refine lv_istore_n (lv' := [(3, .int ((((nI js) &&& 5) <<< (1 &&& (31 : Int32))) ||| 0)), (4, .int 0), (2, .ref (m_a 34)), (0, .ref mo), (1, .int (nI js))]) hx hb dX12_yearOf_275 rfl hl (by decide) rfl (fun ls hl => ?_)
          refine lv_iinc (v := 1) (lv' := [(4, .int 1), (3, .int ((((nI js) &&& 5) <<< (1 &&& (31 : Int32))) ||| 0)), (2, .ref (m_a 34)), (0, .ref mo), (1, .int (nI js))]) hx hb dX12_yearOf_276 hl (k := 1) rfl (by decide) (by decide) rfl (fun ls hl => ?_)
          refine lv_goto (tgt := 211) hx hb dX12_yearOf_279 (by decide) ?_
          refine lv_iload hx hb dX12_yearOf_211 (lv_at hl 0 rfl) ?_
          refine lv_iconst (v := 2) hx hb dX12_yearOf_213 (by decide) ?_
          refine lv_icmp_ge (tgt := 282) hx hb dX12_yearOf_214 (by decide) (fun c177 => absurd c177 (by decide)) (fun _ => ?_)
          refine lv_aload_n hx hb dX12_yearOf_217 rfl (lv_at hl 3 rfl) ?_
          refine va_get (D := g) (ci := 11) (v := .ref (m_a 27)) (C := RX12) (T := TX12) (N := 56) hx hb hts iX12 hown hK hP 0 rfl rfl 27 (by decide) (hts (.fieldLink RX12 65 "CardsAtYuleModel" "gets" "[Z") (List.mem_cons_of_mem _ (List.mem_append_left _ (List.mem_of_getElem? (i := 0) rfl)))) (fun _ h9 => h9) rfl dX12_yearOf_218 ?_
          refine lv_iload hx hb dX12_yearOf_221 (lv_at hl 0 rfl) ?_
          refine lv_aload_n hx hb dX12_yearOf_223 rfl (lv_at hl 3 rfl) ?_
          refine va_get (D := g) (ci := 11) (v := .ref (m_a 26)) (C := RX12) (T := TX12) (N := 56) hx hb hts iX12 hown hK hP 0 rfl rfl 26 (by decide) (hts (.fieldLink RX12 62 "CardsAtYuleModel" "sent" "[I") (List.mem_cons_of_mem _ (List.mem_append_left _ (List.mem_of_getElem? (i := 10) rfl)))) (fun _ h9 => h9) rfl dX12_yearOf_224 ?_
          refine lv_iconst (v := 1) hx hb dX12_yearOf_227 (by decide) ?_
          refine lv_iload hx hb dX12_yearOf_228 (lv_at hl 0 rfl) ?_
          refine lv_isub hx hb dX12_yearOf_230 ?_
          refine lv_topi (nm_r (e' := 0) (by decide) ?_)
          refine va_iald (D := g) hx hb hK hP 4 0 rfl rfl (vc_in (by decide)) dX12_yearOf_231 ?_
          refine lv_topi (nm_r (e' := 0) rfl ?_)
          refine lv_if_le (tgt := 251) hx hb dX12_yearOf_232 (by decide) (fun _ => ?_) (fun c178 => absurd c178 (by decide))
          refine lv_iconst (v := 0) hx hb dX12_yearOf_251 (by decide) ?_
          refine va_zast (D := g) hx hb hK hP hD hS 5 3 rfl rfl (vc_in (by decide)) dX12_yearOf_252 (fun H locs hP hD hS => ?_)
          have hP : va_P g vwCl [(mo, .inr (11, mG m_a m_thrown m_taped m_at m_token m_place m_value m_word m_bad m_badPlace m_fault m_faultPlace (-1) m_will m_forgot 0 m_x vb vr vc vf m_any m_bothSend m_meanCards m_bestSum m_fitMany m_fitFirst m_fitSecond)), ((m_a 23), .inl (cI, 2, .inl fr)), ((m_a 24), .inl (cZ, 2, .inl fm)), ((m_a 25), .inl (cZ, 2, .inl fc)), ((m_a 26), .inl (cI, 2, .inl (upd (upd fs 0 0) 1 0))), ((m_a 27), .inl (cZ, 2, .inl (upd (upd (upd (upd fg 0 0) 1 0) 0 0) 1 0))), ((m_a 34), .inl (cZ, 2, .inl (upd (upd fk 0 0) 1 0)))] H := hP
          have hD : va_D A [(mo, .inr (11, mG m_a m_thrown m_taped m_at m_token m_place m_value m_word m_bad m_badPlace m_fault m_faultPlace (-1) m_will m_forgot 0 m_x vb vr vc vf m_any m_bothSend m_meanCards m_bestSum m_fitMany m_fitFirst m_fitSecond)), ((m_a 23), .inl (cI, 2, .inl fr)), ((m_a 24), .inl (cZ, 2, .inl fm)), ((m_a 25), .inl (cZ, 2, .inl fc)), ((m_a 26), .inl (cI, 2, .inl (upd (upd fs 0 0) 1 0))), ((m_a 27), .inl (cZ, 2, .inl (upd (upd (upd (upd fg 0 0) 1 0) 0 0) 1 0))), ((m_a 34), .inl (cZ, 2, .inl (upd (upd fk 0 0) 1 0)))] := hD
          refine lv_iload_n hx hb dX12_yearOf_253 rfl (lv_at hl 1 rfl) ?_
          refine lv_aload_n hx hb dX12_yearOf_254 rfl (lv_at hl 3 rfl) ?_
          refine va_get (D := g) (ci := 11) (v := .ref (m_a 27)) (C := RX12) (T := TX12) (N := 56) hx hb hts iX12 hown hK hP 0 rfl rfl 27 (by decide) (hts (.fieldLink RX12 65 "CardsAtYuleModel" "gets" "[Z") (List.mem_cons_of_mem _ (List.mem_append_left _ (List.mem_of_getElem? (i := 0) rfl)))) (fun _ h9 => h9) rfl dX12_yearOf_255 ?_
          refine lv_iload hx hb dX12_yearOf_258 (lv_at hl 0 rfl) ?_
          refine va_zald (D := g) hx hb hK hP 5 3 rfl rfl (vc_in (by decide)) dX12_yearOf_260 ?_
          refine lv_topi (nm_r (e' := 0) rfl ?_)
          refine lv_if_eq (tgt := 273) hx hb dX12_yearOf_261 (by decide) (fun _ => ?_) (fun c179 => absurd c179 (by decide))
          refine lv_iconst (v := 0) hx hb dX12_yearOf_273 (by decide) ?_
          refine lv_ior hx hb dX12_yearOf_274 ?_
          refine lv_istore_n (lv' := [(3, .int (((((nI js) &&& 5) <<< (1 &&& (31 : Int32))) ||| 0) ||| 0)), (4, .int 1), (2, .ref (m_a 34)), (0, .ref mo), (1, .int (nI js))]) hx hb dX12_yearOf_275 rfl hl (by decide) rfl (fun ls hl => ?_)
          refine lv_iinc (v := 2) (lv' := [(4, .int 2), (3, .int (((((nI js) &&& 5) <<< (1 &&& (31 : Int32))) ||| 0) ||| 0)), (2, .ref (m_a 34)), (0, .ref mo), (1, .int (nI js))]) hx hb dX12_yearOf_276 hl (k := 1) rfl (by decide) (by decide) rfl (fun ls hl => ?_)
          refine lv_goto (tgt := 211) hx hb dX12_yearOf_279 (by decide) ?_
          refine lv_iload hx hb dX12_yearOf_211 (lv_at hl 0 rfl) ?_
          refine lv_iconst (v := 2) hx hb dX12_yearOf_213 (by decide) ?_
          refine lv_icmp_ge (tgt := 282) hx hb dX12_yearOf_214 (by decide) (fun _ => ?_) (fun c180 => absurd c180 (by decide))
          refine lv_iload_n hx hb dX12_yearOf_282 rfl (lv_at hl 1 rfl) ?_
          have hA9 : sA ra rb js = 0 := by unfold sA; rw [if_neg (by omega)]
          have hB9 : zB ra rb js = 0 := by unfold zB; rw [if_neg (by omega)]
          have hP9 := hP.sub (ws' := [(mo, .inr (11, mG m_a m_thrown m_taped m_at m_token m_place m_value m_word m_bad m_badPlace m_fault m_faultPlace (-1) m_will m_forgot 0 m_x vb vr vc vf m_any m_bothSend m_meanCards m_bestSum m_fitMany m_fitFirst m_fitSecond)), ((m_a 23), .inl (cI, 2, .inl fr)), ((m_a 24), .inl (cZ, 2, .inl fm)), ((m_a 25), .inl (cZ, 2, .inl fc)), ((m_a 26), .inl (cI, 2, .inl (upd (upd fs 0 0) 1 0))), ((m_a 27), .inl (cZ, 2, .inl (upd (upd (upd (upd fg 0 0) 1 0) 0 0) 1 0))), ((m_a 34), .inl (cZ, 2, .inl (upd (upd fk 0 0) 1 0)))]) [0, 1, 2, 3, 4, 5, 6] rfl
          have hD9 := hD.sub (ws' := [(mo, .inr (11, mG m_a m_thrown m_taped m_at m_token m_place m_value m_word m_bad m_badPlace m_fault m_faultPlace (-1) m_will m_forgot 0 m_x vb vr vc vf m_any m_bothSend m_meanCards m_bestSum m_fitMany m_fitFirst m_fitSecond)), ((m_a 23), .inl (cI, 2, .inl fr)), ((m_a 24), .inl (cZ, 2, .inl fm)), ((m_a 25), .inl (cZ, 2, .inl fc)), ((m_a 26), .inl (cI, 2, .inl (upd (upd fs 0 0) 1 0))), ((m_a 27), .inl (cZ, 2, .inl (upd (upd (upd (upd fg 0 0) 1 0) 0 0) 1 0))), ((m_a 34), .inl (cZ, 2, .inl (upd (upd fk 0 0) 1 0)))]) [0, 1, 2, 3, 4, 5, 6] (by decide) rfl
          exact W.iret (v := (((((nI js) &&& 5) <<< (1 &&& (31 : Int32))) ||| 0) ||| 0)) hx hb hr (fun t ht hW => ⟨⟨(((((nI js) &&& 5) <<< (1 &&& (31 : Int32))) ||| 0) ||| 0), ((upd (upd fs 0 0) 1 0), (upd (upd (upd (upd fg 0 0) 1 0) 0 0) 1 0), (upd (upd fk 0 0) 1 0)), rfl, ⟨th_nx hjs (u := 0) (v := 0) hB9 hA9, 0, 0, rfl, rfl, by decide, by decide, by unfold sc; rw [hA9, hB9]; rfl⟩, by rw [ht]; exact hP9, va_K.moved hW.alike hK, hD9⟩, hS.F ht⟩) hS.2.2 dX12_yearOf_283
        · have f172 := (show 16 ≤ (rb : Int) from z_nlt (nI_toInt (n := rb) (by omega)) rfl c171)
          refine lv_aload_n hx hb dX12_yearOf_175 rfl (lv_at hl 1 rfl) ?_
          refine lv_iload_n hx hb dX12_yearOf_176 rfl (lv_at hl 0 rfl) ?_
          refine va_zald (D := g) hx hb hK hP 6 3 rfl rfl (vc_in (by decide)) dX12_yearOf_177 ?_
          refine lv_topi (nm_r (e' := 0) rfl ?_)
          refine lv_if_eq (tgt := 196) hx hb dX12_yearOf_178 (by decide) (fun _ => ?_) (fun c181 => absurd c181 (by decide))
          refine lv_iinc (v := 2) (lv' := [(3, .int 2), (2, .ref (m_a 34)), (0, .ref mo), (1, .int (nI js))]) hx hb dX12_yearOf_196 hl (k := 0) rfl (by decide) (by decide) rfl (fun ls hl => ?_)
          refine lv_goto (tgt := 133) hx hb dX12_yearOf_199 (by decide) ?_
          refine lv_iload_n hx hb dX12_yearOf_133 rfl (lv_at hl 0 rfl) ?_
          refine lv_iconst (v := 2) hx hb dX12_yearOf_134 (by decide) ?_
          refine lv_icmp_ge (tgt := 202) hx hb dX12_yearOf_135 (by decide) (fun _ => ?_) (fun c182 => absurd c182 (by decide))
          refine lv_iload_n hx hb dX12_yearOf_202 rfl (lv_at hl 3 rfl) ?_
          refine lv_iconst (v := 5) hx hb dX12_yearOf_203 (by decide) ?_
          refine lv_iand hx hb dX12_yearOf_204 ?_
          refine lv_iconst (v := 1) hx hb dX12_yearOf_205 (by decide) ?_
          refine lv_ishl hx hb dX12_yearOf_206 ?_
          refine lv_istore_n (lv' := [(3, .int (((nI js) &&& 5) <<< (1 &&& (31 : Int32)))), (2, .ref (m_a 34)), (0, .ref mo), (1, .int (nI js))]) hx hb dX12_yearOf_207 rfl hl (by decide) rfl (fun ls hl => ?_)
          refine lv_iconst (v := 0) hx hb dX12_yearOf_208 (by decide) ?_
          refine lv_istore (lv' := [(4, .int 0), (3, .int (((nI js) &&& 5) <<< (1 &&& (31 : Int32)))), (2, .ref (m_a 34)), (0, .ref mo), (1, .int (nI js))]) hx hb dX12_yearOf_209 hl (by decide) rfl (fun ls hl => ?_)
          refine lv_iload hx hb dX12_yearOf_211 (lv_at hl 0 rfl) ?_
          refine lv_iconst (v := 2) hx hb dX12_yearOf_213 (by decide) ?_
          refine lv_icmp_ge (tgt := 282) hx hb dX12_yearOf_214 (by decide) (fun c183 => absurd c183 (by decide)) (fun _ => ?_)
          refine lv_aload_n hx hb dX12_yearOf_217 rfl (lv_at hl 3 rfl) ?_
          refine va_get (D := g) (ci := 11) (v := .ref (m_a 27)) (C := RX12) (T := TX12) (N := 56) hx hb hts iX12 hown hK hP 0 rfl rfl 27 (by decide) (hts (.fieldLink RX12 65 "CardsAtYuleModel" "gets" "[Z") (List.mem_cons_of_mem _ (List.mem_append_left _ (List.mem_of_getElem? (i := 0) rfl)))) (fun _ h9 => h9) rfl dX12_yearOf_218 ?_
          refine lv_iload hx hb dX12_yearOf_221 (lv_at hl 0 rfl) ?_
          refine lv_aload_n hx hb dX12_yearOf_223 rfl (lv_at hl 3 rfl) ?_
          refine va_get (D := g) (ci := 11) (v := .ref (m_a 26)) (C := RX12) (T := TX12) (N := 56) hx hb hts iX12 hown hK hP 0 rfl rfl 26 (by decide) (hts (.fieldLink RX12 62 "CardsAtYuleModel" "sent" "[I") (List.mem_cons_of_mem _ (List.mem_append_left _ (List.mem_of_getElem? (i := 10) rfl)))) (fun _ h9 => h9) rfl dX12_yearOf_224 ?_
          refine lv_iconst (v := 1) hx hb dX12_yearOf_227 (by decide) ?_
          refine lv_iload hx hb dX12_yearOf_228 (lv_at hl 0 rfl) ?_
          refine lv_isub hx hb dX12_yearOf_230 ?_
          refine lv_topi (nm_r (e' := 1) (by decide) ?_)
          refine va_iald (D := g) hx hb hK hP 4 0 rfl rfl (vc_in (by decide)) dX12_yearOf_231 ?_
          refine lv_topi (nm_r (e' := 0) rfl ?_)
          refine lv_if_le (tgt := 251) hx hb dX12_yearOf_232 (by decide) (fun _ => ?_) (fun c184 => absurd c184 (by decide))
          refine lv_iconst (v := 0) hx hb dX12_yearOf_251 (by decide) ?_
          refine va_zast (D := g) hx hb hK hP hD hS 5 3 rfl rfl (vc_in (by decide)) dX12_yearOf_252 (fun H locs hP hD hS => ?_)
          have hP : va_P g vwCl [(mo, .inr (11, mG m_a m_thrown m_taped m_at m_token m_place m_value m_word m_bad m_badPlace m_fault m_faultPlace (-1) m_will m_forgot 0 m_x vb vr vc vf m_any m_bothSend m_meanCards m_bestSum m_fitMany m_fitFirst m_fitSecond)), ((m_a 23), .inl (cI, 2, .inl fr)), ((m_a 24), .inl (cZ, 2, .inl fm)), ((m_a 25), .inl (cZ, 2, .inl fc)), ((m_a 26), .inl (cI, 2, .inl (upd (upd fs 0 0) 1 0))), ((m_a 27), .inl (cZ, 2, .inl (upd (upd (upd fg 0 0) 1 0) 0 0))), ((m_a 34), .inl (cZ, 2, .inl (upd (upd fk 0 0) 1 0)))] H := hP
          have hD : va_D A [(mo, .inr (11, mG m_a m_thrown m_taped m_at m_token m_place m_value m_word m_bad m_badPlace m_fault m_faultPlace (-1) m_will m_forgot 0 m_x vb vr vc vf m_any m_bothSend m_meanCards m_bestSum m_fitMany m_fitFirst m_fitSecond)), ((m_a 23), .inl (cI, 2, .inl fr)), ((m_a 24), .inl (cZ, 2, .inl fm)), ((m_a 25), .inl (cZ, 2, .inl fc)), ((m_a 26), .inl (cI, 2, .inl (upd (upd fs 0 0) 1 0))), ((m_a 27), .inl (cZ, 2, .inl (upd (upd (upd fg 0 0) 1 0) 0 0))), ((m_a 34), .inl (cZ, 2, .inl (upd (upd fk 0 0) 1 0)))] := hD
          refine lv_iload_n hx hb dX12_yearOf_253 rfl (lv_at hl 1 rfl) ?_
          refine lv_aload_n hx hb dX12_yearOf_254 rfl (lv_at hl 3 rfl) ?_
          refine va_get (D := g) (ci := 11) (v := .ref (m_a 27)) (C := RX12) (T := TX12) (N := 56) hx hb hts iX12 hown hK hP 0 rfl rfl 27 (by decide) (hts (.fieldLink RX12 65 "CardsAtYuleModel" "gets" "[Z") (List.mem_cons_of_mem _ (List.mem_append_left _ (List.mem_of_getElem? (i := 0) rfl)))) (fun _ h9 => h9) rfl dX12_yearOf_255 ?_
          refine lv_iload hx hb dX12_yearOf_258 (lv_at hl 0 rfl) ?_
          refine va_zald (D := g) hx hb hK hP 5 3 rfl rfl (vc_in (by decide)) dX12_yearOf_260 ?_
          refine lv_topi (nm_r (e' := 0) rfl ?_)
          refine lv_if_eq (tgt := 273) hx hb dX12_yearOf_261 (by decide) (fun _ => ?_) (fun c185 => absurd c185 (by decide))
          refine lv_iconst (v := 0) hx hb dX12_yearOf_273 (by decide) ?_
          refine lv_ior hx hb dX12_yearOf_274 ?_
          refine lv_istore_n (lv' := [(3, .int ((((nI js) &&& 5) <<< (1 &&& (31 : Int32))) ||| 0)), (4, .int 0), (2, .ref (m_a 34)), (0, .ref mo), (1, .int (nI js))]) hx hb dX12_yearOf_275 rfl hl (by decide) rfl (fun ls hl => ?_)
          refine lv_iinc (v := 1) (lv' := [(4, .int 1), (3, .int ((((nI js) &&& 5) <<< (1 &&& (31 : Int32))) ||| 0)), (2, .ref (m_a 34)), (0, .ref mo), (1, .int (nI js))]) hx hb dX12_yearOf_276 hl (k := 1) rfl (by decide) (by decide) rfl (fun ls hl => ?_)
          refine lv_goto (tgt := 211) hx hb dX12_yearOf_279 (by decide) ?_
          refine lv_iload hx hb dX12_yearOf_211 (lv_at hl 0 rfl) ?_
          refine lv_iconst (v := 2) hx hb dX12_yearOf_213 (by decide) ?_
          refine lv_icmp_ge (tgt := 282) hx hb dX12_yearOf_214 (by decide) (fun c186 => absurd c186 (by decide)) (fun _ => ?_)
          refine lv_aload_n hx hb dX12_yearOf_217 rfl (lv_at hl 3 rfl) ?_
          refine va_get (D := g) (ci := 11) (v := .ref (m_a 27)) (C := RX12) (T := TX12) (N := 56) hx hb hts iX12 hown hK hP 0 rfl rfl 27 (by decide) (hts (.fieldLink RX12 65 "CardsAtYuleModel" "gets" "[Z") (List.mem_cons_of_mem _ (List.mem_append_left _ (List.mem_of_getElem? (i := 0) rfl)))) (fun _ h9 => h9) rfl dX12_yearOf_218 ?_
          refine lv_iload hx hb dX12_yearOf_221 (lv_at hl 0 rfl) ?_
          refine lv_aload_n hx hb dX12_yearOf_223 rfl (lv_at hl 3 rfl) ?_
          refine va_get (D := g) (ci := 11) (v := .ref (m_a 26)) (C := RX12) (T := TX12) (N := 56) hx hb hts iX12 hown hK hP 0 rfl rfl 26 (by decide) (hts (.fieldLink RX12 62 "CardsAtYuleModel" "sent" "[I") (List.mem_cons_of_mem _ (List.mem_append_left _ (List.mem_of_getElem? (i := 10) rfl)))) (fun _ h9 => h9) rfl dX12_yearOf_224 ?_
          refine lv_iconst (v := 1) hx hb dX12_yearOf_227 (by decide) ?_
          refine lv_iload hx hb dX12_yearOf_228 (lv_at hl 0 rfl) ?_
          refine lv_isub hx hb dX12_yearOf_230 ?_
          refine lv_topi (nm_r (e' := 0) (by decide) ?_)
          refine va_iald (D := g) hx hb hK hP 4 0 rfl rfl (vc_in (by decide)) dX12_yearOf_231 ?_
          refine lv_topi (nm_r (e' := 0) rfl ?_)
          refine lv_if_le (tgt := 251) hx hb dX12_yearOf_232 (by decide) (fun _ => ?_) (fun c187 => absurd c187 (by decide))
          refine lv_iconst (v := 0) hx hb dX12_yearOf_251 (by decide) ?_
          refine va_zast (D := g) hx hb hK hP hD hS 5 3 rfl rfl (vc_in (by decide)) dX12_yearOf_252 (fun H locs hP hD hS => ?_)
          have hP : va_P g vwCl [(mo, .inr (11, mG m_a m_thrown m_taped m_at m_token m_place m_value m_word m_bad m_badPlace m_fault m_faultPlace (-1) m_will m_forgot 0 m_x vb vr vc vf m_any m_bothSend m_meanCards m_bestSum m_fitMany m_fitFirst m_fitSecond)), ((m_a 23), .inl (cI, 2, .inl fr)), ((m_a 24), .inl (cZ, 2, .inl fm)), ((m_a 25), .inl (cZ, 2, .inl fc)), ((m_a 26), .inl (cI, 2, .inl (upd (upd fs 0 0) 1 0))), ((m_a 27), .inl (cZ, 2, .inl (upd (upd (upd (upd fg 0 0) 1 0) 0 0) 1 0))), ((m_a 34), .inl (cZ, 2, .inl (upd (upd fk 0 0) 1 0)))] H := hP
          have hD : va_D A [(mo, .inr (11, mG m_a m_thrown m_taped m_at m_token m_place m_value m_word m_bad m_badPlace m_fault m_faultPlace (-1) m_will m_forgot 0 m_x vb vr vc vf m_any m_bothSend m_meanCards m_bestSum m_fitMany m_fitFirst m_fitSecond)), ((m_a 23), .inl (cI, 2, .inl fr)), ((m_a 24), .inl (cZ, 2, .inl fm)), ((m_a 25), .inl (cZ, 2, .inl fc)), ((m_a 26), .inl (cI, 2, .inl (upd (upd fs 0 0) 1 0))), ((m_a 27), .inl (cZ, 2, .inl (upd (upd (upd (upd fg 0 0) 1 0) 0 0) 1 0))), ((m_a 34), .inl (cZ, 2, .inl (upd (upd fk 0 0) 1 0)))] := hD
          refine lv_iload_n hx hb dX12_yearOf_253 rfl (lv_at hl 1 rfl) ?_
          refine lv_aload_n hx hb dX12_yearOf_254 rfl (lv_at hl 3 rfl) ?_
          refine va_get (D := g) (ci := 11) (v := .ref (m_a 27)) (C := RX12) (T := TX12) (N := 56) hx hb hts iX12 hown hK hP 0 rfl rfl 27 (by decide) (hts (.fieldLink RX12 65 "CardsAtYuleModel" "gets" "[Z") (List.mem_cons_of_mem _ (List.mem_append_left _ (List.mem_of_getElem? (i := 0) rfl)))) (fun _ h9 => h9) rfl dX12_yearOf_255 ?_
          refine lv_iload hx hb dX12_yearOf_258 (lv_at hl 0 rfl) ?_
          refine va_zald (D := g) hx hb hK hP 5 3 rfl rfl (vc_in (by decide)) dX12_yearOf_260 ?_
          refine lv_topi (nm_r (e' := 0) rfl ?_)
          refine lv_if_eq (tgt := 273) hx hb dX12_yearOf_261 (by decide) (fun _ => ?_) (fun c188 => absurd c188 (by decide))
          refine lv_iconst (v := 0) hx hb dX12_yearOf_273 (by decide) ?_
          refine lv_ior hx hb dX12_yearOf_274 ?_
          refine lv_istore_n (lv' := [(3, .int (((((nI js) &&& 5) <<< (1 &&& (31 : Int32))) ||| 0) ||| 0)), (4, .int 1), (2, .ref (m_a 34)), (0, .ref mo), (1, .int (nI js))]) hx hb dX12_yearOf_275 rfl hl (by decide) rfl (fun ls hl => ?_)
          refine lv_iinc (v := 2) (lv' := [(4, .int 2), (3, .int (((((nI js) &&& 5) <<< (1 &&& (31 : Int32))) ||| 0) ||| 0)), (2, .ref (m_a 34)), (0, .ref mo), (1, .int (nI js))]) hx hb dX12_yearOf_276 hl (k := 1) rfl (by decide) (by decide) rfl (fun ls hl => ?_)
          refine lv_goto (tgt := 211) hx hb dX12_yearOf_279 (by decide) ?_
          refine lv_iload hx hb dX12_yearOf_211 (lv_at hl 0 rfl) ?_
          refine lv_iconst (v := 2) hx hb dX12_yearOf_213 (by decide) ?_
          refine lv_icmp_ge (tgt := 282) hx hb dX12_yearOf_214 (by decide) (fun _ => ?_) (fun c189 => absurd c189 (by decide))
          refine lv_iload_n hx hb dX12_yearOf_282 rfl (lv_at hl 1 rfl) ?_
          have hA9 : sA ra rb js = 0 := by unfold sA; rw [if_neg (by omega)]
          have hB9 : zB ra rb js = 0 := by unfold zB; rw [if_neg (by omega)]
          have hP9 := hP.sub (ws' := [(mo, .inr (11, mG m_a m_thrown m_taped m_at m_token m_place m_value m_word m_bad m_badPlace m_fault m_faultPlace (-1) m_will m_forgot 0 m_x vb vr vc vf m_any m_bothSend m_meanCards m_bestSum m_fitMany m_fitFirst m_fitSecond)), ((m_a 23), .inl (cI, 2, .inl fr)), ((m_a 24), .inl (cZ, 2, .inl fm)), ((m_a 25), .inl (cZ, 2, .inl fc)), ((m_a 26), .inl (cI, 2, .inl (upd (upd fs 0 0) 1 0))), ((m_a 27), .inl (cZ, 2, .inl (upd (upd (upd (upd fg 0 0) 1 0) 0 0) 1 0))), ((m_a 34), .inl (cZ, 2, .inl (upd (upd fk 0 0) 1 0)))]) [0, 1, 2, 3, 4, 5, 6] rfl
          have hD9 := hD.sub (ws' := [(mo, .inr (11, mG m_a m_thrown m_taped m_at m_token m_place m_value m_word m_bad m_badPlace m_fault m_faultPlace (-1) m_will m_forgot 0 m_x vb vr vc vf m_any m_bothSend m_meanCards m_bestSum m_fitMany m_fitFirst m_fitSecond)), ((m_a 23), .inl (cI, 2, .inl fr)), ((m_a 24), .inl (cZ, 2, .inl fm)), ((m_a 25), .inl (cZ, 2, .inl fc)), ((m_a 26), .inl (cI, 2, .inl (upd (upd fs 0 0) 1 0))), ((m_a 27), .inl (cZ, 2, .inl (upd (upd (upd (upd fg 0 0) 1 0) 0 0) 1 0))), ((m_a 34), .inl (cZ, 2, .inl (upd (upd fk 0 0) 1 0)))]) [0, 1, 2, 3, 4, 5, 6] (by decide) rfl
          exact W.iret (v := (((((nI js) &&& 5) <<< (1 &&& (31 : Int32))) ||| 0) ||| 0)) hx hb hr (fun t ht hW => ⟨⟨(((((nI js) &&& 5) <<< (1 &&& (31 : Int32))) ||| 0) ||| 0), ((upd (upd fs 0 0) 1 0), (upd (upd (upd (upd fg 0 0) 1 0) 0 0) 1 0), (upd (upd fk 0 0) 1 0)), rfl, ⟨th_nx hjs (u := 0) (v := 0) hB9 hA9, 0, 0, rfl, rfl, by decide, by decide, by unfold sc; rw [hA9, hB9]; rfl⟩, by rw [ht]; exact hP9, va_K.moved hW.alike hK, hD9⟩, hS.F ht⟩) hS.2.2 dX12_yearOf_283
      · have f166 := (show 16 ≤ (ra : Int) from z_nlt (nI_toInt (n := ra) (by omega)) rfl c165)
        refine lv_aload_n hx hb dX12_yearOf_175 rfl (lv_at hl 1 rfl) ?_
        refine lv_iload_n hx hb dX12_yearOf_176 rfl (lv_at hl 0 rfl) ?_
        refine va_zald (D := g) hx hb hK hP 6 3 rfl rfl (vc_in (by decide)) dX12_yearOf_177 ?_
        refine lv_topi (nm_r (e' := 0) rfl ?_)
        refine lv_if_eq (tgt := 196) hx hb dX12_yearOf_178 (by decide) (fun _ => ?_) (fun c190 => absurd c190 (by decide))
        refine lv_iinc (v := 1) (lv' := [(3, .int 1), (2, .ref (m_a 34)), (0, .ref mo), (1, .int (nI js))]) hx hb dX12_yearOf_196 hl (k := 0) rfl (by decide) (by decide) rfl (fun ls hl => ?_)
        refine lv_goto (tgt := 133) hx hb dX12_yearOf_199 (by decide) ?_
        refine lv_iload_n hx hb dX12_yearOf_133 rfl (lv_at hl 0 rfl) ?_
        refine lv_iconst (v := 2) hx hb dX12_yearOf_134 (by decide) ?_
        refine lv_icmp_ge (tgt := 202) hx hb dX12_yearOf_135 (by decide) (fun c191 => absurd c191 (by decide)) (fun _ => ?_)
        refine lv_iload_n hx hb dX12_yearOf_138 rfl (lv_at hl 0 rfl) ?_
        refine lv_aload_n hx hb dX12_yearOf_139 rfl (lv_at hl 2 rfl) ?_
        refine va_get (D := g) (ci := 11) (v := .int (-1)) (C := RX12) (T := TX12) (N := 56) hx hb hts iX12 hown hK hP 0 rfl rfl 28 (by decide) (hts (.fieldLink RX12 68 "CardsAtYuleModel" "willing" "I") (List.mem_cons_of_mem _ (List.mem_append_left _ (List.mem_of_getElem? (i := 1) rfl)))) (fun _ h9 => h9) rfl dX12_yearOf_140 ?_
        refine lv_icmp_eq (tgt := 196) hx hb dX12_yearOf_143 (by decide) (fun c192 => absurd c192 (by decide)) (fun _ => ?_)
        refine lv_aload_n hx hb dX12_yearOf_146 rfl (lv_at hl 2 rfl) ?_
        refine va_get (D := g) (ci := 11) (v := .ref (m_a 24)) (C := RX12) (T := TX12) (N := 56) hx hb hts iX12 hown hK hP 0 rfl rfl 24 (by decide) (hts (.fieldLink RX12 56 "CardsAtYuleModel" "maySend" "[Z") (List.mem_cons_of_mem _ (List.mem_append_left _ (List.mem_of_getElem? (i := 2) rfl)))) (fun _ h9 => h9) rfl dX12_yearOf_147 ?_
        refine lv_iload_n hx hb dX12_yearOf_150 rfl (lv_at hl 0 rfl) ?_
        refine va_zald (D := g) hx hb hK hP 2 3 rfl rfl (vc_in (by decide)) dX12_yearOf_151 ?_
        refine lv_topi (nm_r (e' := 1) hS_m1 ?_)
        refine lv_if_eq (tgt := 196) hx hb dX12_yearOf_152 (by decide) (fun c193 => absurd c193 (by decide)) (fun _ => ?_)
        refine lv_aload_n hx hb dX12_yearOf_155 rfl (lv_at hl 2 rfl) ?_
        refine va_get (D := g) (ci := 11) (v := .ref (m_a 26)) (C := RX12) (T := TX12) (N := 56) hx hb hts iX12 hown hK hP 0 rfl rfl 26 (by decide) (hts (.fieldLink RX12 62 "CardsAtYuleModel" "sent" "[I") (List.mem_cons_of_mem _ (List.mem_append_left _ (List.mem_of_getElem? (i := 10) rfl)))) (fun _ h9 => h9) rfl dX12_yearOf_156 ?_
        refine lv_iload_n hx hb dX12_yearOf_159 rfl (lv_at hl 0 rfl) ?_
        refine va_iald (D := g) hx hb hK hP 4 0 rfl rfl (vc_in (by decide)) dX12_yearOf_160 ?_
        refine lv_topi (nm_r (e' := 0) rfl ?_)
        refine lv_if_ne (tgt := 196) hx hb dX12_yearOf_161 (by decide) (fun c194 => absurd c194 (by decide)) (fun _ => ?_)
        refine lv_aload_n hx hb dX12_yearOf_164 rfl (lv_at hl 2 rfl) ?_
        refine va_get (D := g) (ci := 11) (v := .ref (m_a 23)) (C := RX12) (T := TX12) (N := 56) hx hb hts iX12 hown hK hP 0 rfl rfl 23 (by decide) (hts (.fieldLink RX12 53 "CardsAtYuleModel" "ruleNow" "[I") (List.mem_cons_of_mem _ (List.mem_append_left _ (List.mem_of_getElem? (i := 13) rfl)))) (fun _ h9 => h9) rfl dX12_yearOf_165 ?_
        refine lv_iload_n hx hb dX12_yearOf_168 rfl (lv_at hl 0 rfl) ?_
        refine va_iald (D := g) hx hb hK hP 1 0 rfl rfl (vc_in (by decide)) dX12_yearOf_169 ?_
        refine lv_topi (nm_r (e' := nI rb) hS_r1 ?_)
        refine lv_bipush (v := 16) hx hb dX12_yearOf_170 (by decide) ?_
        refine lv_icmp_lt (tgt := 196) hx hb dX12_yearOf_172 (by decide) (fun c195 => ?_) (fun c195 => ?_)
        · have f196 := (show (rb : Int) < 16 from z_lt (nI_toInt (n := rb) (by omega)) rfl c195)
          refine lv_iinc (v := 2) (lv' := [(3, .int 2), (2, .ref (m_a 34)), (0, .ref mo), (1, .int (nI js))]) hx hb dX12_yearOf_196 hl (k := 0) rfl (by decide) (by decide) rfl (fun ls hl => ?_)
          refine lv_goto (tgt := 133) hx hb dX12_yearOf_199 (by decide) ?_
          refine lv_iload_n hx hb dX12_yearOf_133 rfl (lv_at hl 0 rfl) ?_
          refine lv_iconst (v := 2) hx hb dX12_yearOf_134 (by decide) ?_
          refine lv_icmp_ge (tgt := 202) hx hb dX12_yearOf_135 (by decide) (fun _ => ?_) (fun c197 => absurd c197 (by decide))
          refine lv_iload_n hx hb dX12_yearOf_202 rfl (lv_at hl 3 rfl) ?_
          refine lv_iconst (v := 5) hx hb dX12_yearOf_203 (by decide) ?_
          refine lv_iand hx hb dX12_yearOf_204 ?_
          refine lv_iconst (v := 1) hx hb dX12_yearOf_205 (by decide) ?_
          refine lv_ishl hx hb dX12_yearOf_206 ?_
          refine lv_istore_n (lv' := [(3, .int (((nI js) &&& 5) <<< (1 &&& (31 : Int32)))), (2, .ref (m_a 34)), (0, .ref mo), (1, .int (nI js))]) hx hb dX12_yearOf_207 rfl hl (by decide) rfl (fun ls hl => ?_)
          refine lv_iconst (v := 0) hx hb dX12_yearOf_208 (by decide) ?_
          refine lv_istore (lv' := [(4, .int 0), (3, .int (((nI js) &&& 5) <<< (1 &&& (31 : Int32)))), (2, .ref (m_a 34)), (0, .ref mo), (1, .int (nI js))]) hx hb dX12_yearOf_209 hl (by decide) rfl (fun ls hl => ?_)
          refine lv_iload hx hb dX12_yearOf_211 (lv_at hl 0 rfl) ?_
          refine lv_iconst (v := 2) hx hb dX12_yearOf_213 (by decide) ?_
          refine lv_icmp_ge (tgt := 282) hx hb dX12_yearOf_214 (by decide) (fun c198 => absurd c198 (by decide)) (fun _ => ?_)
          refine lv_aload_n hx hb dX12_yearOf_217 rfl (lv_at hl 3 rfl) ?_
          refine va_get (D := g) (ci := 11) (v := .ref (m_a 27)) (C := RX12) (T := TX12) (N := 56) hx hb hts iX12 hown hK hP 0 rfl rfl 27 (by decide) (hts (.fieldLink RX12 65 "CardsAtYuleModel" "gets" "[Z") (List.mem_cons_of_mem _ (List.mem_append_left _ (List.mem_of_getElem? (i := 0) rfl)))) (fun _ h9 => h9) rfl dX12_yearOf_218 ?_
          refine lv_iload hx hb dX12_yearOf_221 (lv_at hl 0 rfl) ?_
          refine lv_aload_n hx hb dX12_yearOf_223 rfl (lv_at hl 3 rfl) ?_
          refine va_get (D := g) (ci := 11) (v := .ref (m_a 26)) (C := RX12) (T := TX12) (N := 56) hx hb hts iX12 hown hK hP 0 rfl rfl 26 (by decide) (hts (.fieldLink RX12 62 "CardsAtYuleModel" "sent" "[I") (List.mem_cons_of_mem _ (List.mem_append_left _ (List.mem_of_getElem? (i := 10) rfl)))) (fun _ h9 => h9) rfl dX12_yearOf_224 ?_
          refine lv_iconst (v := 1) hx hb dX12_yearOf_227 (by decide) ?_
          refine lv_iload hx hb dX12_yearOf_228 (lv_at hl 0 rfl) ?_
          refine lv_isub hx hb dX12_yearOf_230 ?_
          refine lv_topi (nm_r (e' := 1) (by decide) ?_)
          refine va_iald (D := g) hx hb hK hP 4 0 rfl rfl (vc_in (by decide)) dX12_yearOf_231 ?_
          refine lv_topi (nm_r (e' := 0) rfl ?_)
          refine lv_if_le (tgt := 251) hx hb dX12_yearOf_232 (by decide) (fun _ => ?_) (fun c199 => absurd c199 (by decide))
          refine lv_iconst (v := 0) hx hb dX12_yearOf_251 (by decide) ?_
          refine va_zast (D := g) hx hb hK hP hD hS 5 3 rfl rfl (vc_in (by decide)) dX12_yearOf_252 (fun H locs hP hD hS => ?_)
          have hP : va_P g vwCl [(mo, .inr (11, mG m_a m_thrown m_taped m_at m_token m_place m_value m_word m_bad m_badPlace m_fault m_faultPlace (-1) m_will m_forgot 0 m_x vb vr vc vf m_any m_bothSend m_meanCards m_bestSum m_fitMany m_fitFirst m_fitSecond)), ((m_a 23), .inl (cI, 2, .inl fr)), ((m_a 24), .inl (cZ, 2, .inl fm)), ((m_a 25), .inl (cZ, 2, .inl fc)), ((m_a 26), .inl (cI, 2, .inl (upd (upd fs 0 0) 1 0))), ((m_a 27), .inl (cZ, 2, .inl (upd (upd (upd fg 0 0) 1 0) 0 0))), ((m_a 34), .inl (cZ, 2, .inl (upd (upd fk 0 0) 1 0)))] H := hP
          have hD : va_D A [(mo, .inr (11, mG m_a m_thrown m_taped m_at m_token m_place m_value m_word m_bad m_badPlace m_fault m_faultPlace (-1) m_will m_forgot 0 m_x vb vr vc vf m_any m_bothSend m_meanCards m_bestSum m_fitMany m_fitFirst m_fitSecond)), ((m_a 23), .inl (cI, 2, .inl fr)), ((m_a 24), .inl (cZ, 2, .inl fm)), ((m_a 25), .inl (cZ, 2, .inl fc)), ((m_a 26), .inl (cI, 2, .inl (upd (upd fs 0 0) 1 0))), ((m_a 27), .inl (cZ, 2, .inl (upd (upd (upd fg 0 0) 1 0) 0 0))), ((m_a 34), .inl (cZ, 2, .inl (upd (upd fk 0 0) 1 0)))] := hD
          refine lv_iload_n hx hb dX12_yearOf_253 rfl (lv_at hl 1 rfl) ?_
          refine lv_aload_n hx hb dX12_yearOf_254 rfl (lv_at hl 3 rfl) ?_
          refine va_get (D := g) (ci := 11) (v := .ref (m_a 27)) (C := RX12) (T := TX12) (N := 56) hx hb hts iX12 hown hK hP 0 rfl rfl 27 (by decide) (hts (.fieldLink RX12 65 "CardsAtYuleModel" "gets" "[Z") (List.mem_cons_of_mem _ (List.mem_append_left _ (List.mem_of_getElem? (i := 0) rfl)))) (fun _ h9 => h9) rfl dX12_yearOf_255 ?_
          refine lv_iload hx hb dX12_yearOf_258 (lv_at hl 0 rfl) ?_
          refine va_zald (D := g) hx hb hK hP 5 3 rfl rfl (vc_in (by decide)) dX12_yearOf_260 ?_
          refine lv_topi (nm_r (e' := 0) rfl ?_)
          refine lv_if_eq (tgt := 273) hx hb dX12_yearOf_261 (by decide) (fun _ => ?_) (fun c200 => absurd c200 (by decide))
          refine lv_iconst (v := 0) hx hb dX12_yearOf_273 (by decide) ?_
          refine lv_ior hx hb dX12_yearOf_274 ?_
          refine lv_istore_n (lv' := [(3, .int ((((nI js) &&& 5) <<< (1 &&& (31 : Int32))) ||| 0)), (4, .int 0), (2, .ref (m_a 34)), (0, .ref mo), (1, .int (nI js))]) hx hb dX12_yearOf_275 rfl hl (by decide) rfl (fun ls hl => ?_)
          refine lv_iinc (v := 1) (lv' := [(4, .int 1), (3, .int ((((nI js) &&& 5) <<< (1 &&& (31 : Int32))) ||| 0)), (2, .ref (m_a 34)), (0, .ref mo), (1, .int (nI js))]) hx hb dX12_yearOf_276 hl (k := 1) rfl (by decide) (by decide) rfl (fun ls hl => ?_)
          refine lv_goto (tgt := 211) hx hb dX12_yearOf_279 (by decide) ?_
          refine lv_iload hx hb dX12_yearOf_211 (lv_at hl 0 rfl) ?_
          refine lv_iconst (v := 2) hx hb dX12_yearOf_213 (by decide) ?_
          refine lv_icmp_ge (tgt := 282) hx hb dX12_yearOf_214 (by decide) (fun c201 => absurd c201 (by decide)) (fun _ => ?_)
          refine lv_aload_n hx hb dX12_yearOf_217 rfl (lv_at hl 3 rfl) ?_
          refine va_get (D := g) (ci := 11) (v := .ref (m_a 27)) (C := RX12) (T := TX12) (N := 56) hx hb hts iX12 hown hK hP 0 rfl rfl 27 (by decide) (hts (.fieldLink RX12 65 "CardsAtYuleModel" "gets" "[Z") (List.mem_cons_of_mem _ (List.mem_append_left _ (List.mem_of_getElem? (i := 0) rfl)))) (fun _ h9 => h9) rfl dX12_yearOf_218 ?_
          refine lv_iload hx hb dX12_yearOf_221 (lv_at hl 0 rfl) ?_
          refine lv_aload_n hx hb dX12_yearOf_223 rfl (lv_at hl 3 rfl) ?_
          refine va_get (D := g) (ci := 11) (v := .ref (m_a 26)) (C := RX12) (T := TX12) (N := 56) hx hb hts iX12 hown hK hP 0 rfl rfl 26 (by decide) (hts (.fieldLink RX12 62 "CardsAtYuleModel" "sent" "[I") (List.mem_cons_of_mem _ (List.mem_append_left _ (List.mem_of_getElem? (i := 10) rfl)))) (fun _ h9 => h9) rfl dX12_yearOf_224 ?_
          refine lv_iconst (v := 1) hx hb dX12_yearOf_227 (by decide) ?_
          refine lv_iload hx hb dX12_yearOf_228 (lv_at hl 0 rfl) ?_
          refine lv_isub hx hb dX12_yearOf_230 ?_
          refine lv_topi (nm_r (e' := 0) (by decide) ?_)
          refine va_iald (D := g) hx hb hK hP 4 0 rfl rfl (vc_in (by decide)) dX12_yearOf_231 ?_
          refine lv_topi (nm_r (e' := 0) rfl ?_)
          refine lv_if_le (tgt := 251) hx hb dX12_yearOf_232 (by decide) (fun _ => ?_) (fun c202 => absurd c202 (by decide))
          refine lv_iconst (v := 0) hx hb dX12_yearOf_251 (by decide) ?_
          refine va_zast (D := g) hx hb hK hP hD hS 5 3 rfl rfl (vc_in (by decide)) dX12_yearOf_252 (fun H locs hP hD hS => ?_)
          have hP : va_P g vwCl [(mo, .inr (11, mG m_a m_thrown m_taped m_at m_token m_place m_value m_word m_bad m_badPlace m_fault m_faultPlace (-1) m_will m_forgot 0 m_x vb vr vc vf m_any m_bothSend m_meanCards m_bestSum m_fitMany m_fitFirst m_fitSecond)), ((m_a 23), .inl (cI, 2, .inl fr)), ((m_a 24), .inl (cZ, 2, .inl fm)), ((m_a 25), .inl (cZ, 2, .inl fc)), ((m_a 26), .inl (cI, 2, .inl (upd (upd fs 0 0) 1 0))), ((m_a 27), .inl (cZ, 2, .inl (upd (upd (upd (upd fg 0 0) 1 0) 0 0) 1 0))), ((m_a 34), .inl (cZ, 2, .inl (upd (upd fk 0 0) 1 0)))] H := hP
          have hD : va_D A [(mo, .inr (11, mG m_a m_thrown m_taped m_at m_token m_place m_value m_word m_bad m_badPlace m_fault m_faultPlace (-1) m_will m_forgot 0 m_x vb vr vc vf m_any m_bothSend m_meanCards m_bestSum m_fitMany m_fitFirst m_fitSecond)), ((m_a 23), .inl (cI, 2, .inl fr)), ((m_a 24), .inl (cZ, 2, .inl fm)), ((m_a 25), .inl (cZ, 2, .inl fc)), ((m_a 26), .inl (cI, 2, .inl (upd (upd fs 0 0) 1 0))), ((m_a 27), .inl (cZ, 2, .inl (upd (upd (upd (upd fg 0 0) 1 0) 0 0) 1 0))), ((m_a 34), .inl (cZ, 2, .inl (upd (upd fk 0 0) 1 0)))] := hD
          refine lv_iload_n hx hb dX12_yearOf_253 rfl (lv_at hl 1 rfl) ?_
          refine lv_aload_n hx hb dX12_yearOf_254 rfl (lv_at hl 3 rfl) ?_
          refine va_get (D := g) (ci := 11) (v := .ref (m_a 27)) (C := RX12) (T := TX12) (N := 56) hx hb hts iX12 hown hK hP 0 rfl rfl 27 (by decide) (hts (.fieldLink RX12 65 "CardsAtYuleModel" "gets" "[Z") (List.mem_cons_of_mem _ (List.mem_append_left _ (List.mem_of_getElem? (i := 0) rfl)))) (fun _ h9 => h9) rfl dX12_yearOf_255 ?_
          refine lv_iload hx hb dX12_yearOf_258 (lv_at hl 0 rfl) ?_
          refine va_zald (D := g) hx hb hK hP 5 3 rfl rfl (vc_in (by decide)) dX12_yearOf_260 ?_
          refine lv_topi (nm_r (e' := 0) rfl ?_)
          refine lv_if_eq (tgt := 273) hx hb dX12_yearOf_261 (by decide) (fun _ => ?_) (fun c203 => absurd c203 (by decide))
          refine lv_iconst (v := 0) hx hb dX12_yearOf_273 (by decide) ?_
          refine lv_ior hx hb dX12_yearOf_274 ?_
          refine lv_istore_n (lv' := [(3, .int (((((nI js) &&& 5) <<< (1 &&& (31 : Int32))) ||| 0) ||| 0)), (4, .int 1), (2, .ref (m_a 34)), (0, .ref mo), (1, .int (nI js))]) hx hb dX12_yearOf_275 rfl hl (by decide) rfl (fun ls hl => ?_)
          refine lv_iinc (v := 2) (lv' := [(4, .int 2), (3, .int (((((nI js) &&& 5) <<< (1 &&& (31 : Int32))) ||| 0) ||| 0)), (2, .ref (m_a 34)), (0, .ref mo), (1, .int (nI js))]) hx hb dX12_yearOf_276 hl (k := 1) rfl (by decide) (by decide) rfl (fun ls hl => ?_)
          refine lv_goto (tgt := 211) hx hb dX12_yearOf_279 (by decide) ?_
          refine lv_iload hx hb dX12_yearOf_211 (lv_at hl 0 rfl) ?_
          refine lv_iconst (v := 2) hx hb dX12_yearOf_213 (by decide) ?_
          refine lv_icmp_ge (tgt := 282) hx hb dX12_yearOf_214 (by decide) (fun _ => ?_) (fun c204 => absurd c204 (by decide))
          refine lv_iload_n hx hb dX12_yearOf_282 rfl (lv_at hl 1 rfl) ?_
          have hA9 : sA ra rb js = 0 := by unfold sA; rw [if_neg (by omega)]
          have hB9 : zB ra rb js = 0 := by unfold zB; rw [if_neg (by omega)]
          have hP9 := hP.sub (ws' := [(mo, .inr (11, mG m_a m_thrown m_taped m_at m_token m_place m_value m_word m_bad m_badPlace m_fault m_faultPlace (-1) m_will m_forgot 0 m_x vb vr vc vf m_any m_bothSend m_meanCards m_bestSum m_fitMany m_fitFirst m_fitSecond)), ((m_a 23), .inl (cI, 2, .inl fr)), ((m_a 24), .inl (cZ, 2, .inl fm)), ((m_a 25), .inl (cZ, 2, .inl fc)), ((m_a 26), .inl (cI, 2, .inl (upd (upd fs 0 0) 1 0))), ((m_a 27), .inl (cZ, 2, .inl (upd (upd (upd (upd fg 0 0) 1 0) 0 0) 1 0))), ((m_a 34), .inl (cZ, 2, .inl (upd (upd fk 0 0) 1 0)))]) [0, 1, 2, 3, 4, 5, 6] rfl
          have hD9 := hD.sub (ws' := [(mo, .inr (11, mG m_a m_thrown m_taped m_at m_token m_place m_value m_word m_bad m_badPlace m_fault m_faultPlace (-1) m_will m_forgot 0 m_x vb vr vc vf m_any m_bothSend m_meanCards m_bestSum m_fitMany m_fitFirst m_fitSecond)), ((m_a 23), .inl (cI, 2, .inl fr)), ((m_a 24), .inl (cZ, 2, .inl fm)), ((m_a 25), .inl (cZ, 2, .inl fc)), ((m_a 26), .inl (cI, 2, .inl (upd (upd fs 0 0) 1 0))), ((m_a 27), .inl (cZ, 2, .inl (upd (upd (upd (upd fg 0 0) 1 0) 0 0) 1 0))), ((m_a 34), .inl (cZ, 2, .inl (upd (upd fk 0 0) 1 0)))]) [0, 1, 2, 3, 4, 5, 6] (by decide) rfl
          exact W.iret (v := (((((nI js) &&& 5) <<< (1 &&& (31 : Int32))) ||| 0) ||| 0)) hx hb hr (fun t ht hW => ⟨⟨(((((nI js) &&& 5) <<< (1 &&& (31 : Int32))) ||| 0) ||| 0), ((upd (upd fs 0 0) 1 0), (upd (upd (upd (upd fg 0 0) 1 0) 0 0) 1 0), (upd (upd fk 0 0) 1 0)), rfl, ⟨th_nx hjs (u := 0) (v := 0) hB9 hA9, 0, 0, rfl, rfl, by decide, by decide, by unfold sc; rw [hA9, hB9]; rfl⟩, by rw [ht]; exact hP9, va_K.moved hW.alike hK, hD9⟩, hS.F ht⟩) hS.2.2 dX12_yearOf_283
        · have f196 := (show 16 ≤ (rb : Int) from z_nlt (nI_toInt (n := rb) (by omega)) rfl c195)
          refine lv_aload_n hx hb dX12_yearOf_175 rfl (lv_at hl 1 rfl) ?_
          refine lv_iload_n hx hb dX12_yearOf_176 rfl (lv_at hl 0 rfl) ?_
          refine va_zald (D := g) hx hb hK hP 6 3 rfl rfl (vc_in (by decide)) dX12_yearOf_177 ?_
          refine lv_topi (nm_r (e' := 0) rfl ?_)
          refine lv_if_eq (tgt := 196) hx hb dX12_yearOf_178 (by decide) (fun _ => ?_) (fun c205 => absurd c205 (by decide))
          refine lv_iinc (v := 2) (lv' := [(3, .int 2), (2, .ref (m_a 34)), (0, .ref mo), (1, .int (nI js))]) hx hb dX12_yearOf_196 hl (k := 0) rfl (by decide) (by decide) rfl (fun ls hl => ?_)
          refine lv_goto (tgt := 133) hx hb dX12_yearOf_199 (by decide) ?_
          refine lv_iload_n hx hb dX12_yearOf_133 rfl (lv_at hl 0 rfl) ?_
          refine lv_iconst (v := 2) hx hb dX12_yearOf_134 (by decide) ?_
          refine lv_icmp_ge (tgt := 202) hx hb dX12_yearOf_135 (by decide) (fun _ => ?_) (fun c206 => absurd c206 (by decide))
          refine lv_iload_n hx hb dX12_yearOf_202 rfl (lv_at hl 3 rfl) ?_
          refine lv_iconst (v := 5) hx hb dX12_yearOf_203 (by decide) ?_
          refine lv_iand hx hb dX12_yearOf_204 ?_
          refine lv_iconst (v := 1) hx hb dX12_yearOf_205 (by decide) ?_
          refine lv_ishl hx hb dX12_yearOf_206 ?_
          refine lv_istore_n (lv' := [(3, .int (((nI js) &&& 5) <<< (1 &&& (31 : Int32)))), (2, .ref (m_a 34)), (0, .ref mo), (1, .int (nI js))]) hx hb dX12_yearOf_207 rfl hl (by decide) rfl (fun ls hl => ?_)
          refine lv_iconst (v := 0) hx hb dX12_yearOf_208 (by decide) ?_
          refine lv_istore (lv' := [(4, .int 0), (3, .int (((nI js) &&& 5) <<< (1 &&& (31 : Int32)))), (2, .ref (m_a 34)), (0, .ref mo), (1, .int (nI js))]) hx hb dX12_yearOf_209 hl (by decide) rfl (fun ls hl => ?_)
          refine lv_iload hx hb dX12_yearOf_211 (lv_at hl 0 rfl) ?_
          refine lv_iconst (v := 2) hx hb dX12_yearOf_213 (by decide) ?_
          refine lv_icmp_ge (tgt := 282) hx hb dX12_yearOf_214 (by decide) (fun c207 => absurd c207 (by decide)) (fun _ => ?_)
          refine lv_aload_n hx hb dX12_yearOf_217 rfl (lv_at hl 3 rfl) ?_
          refine va_get (D := g) (ci := 11) (v := .ref (m_a 27)) (C := RX12) (T := TX12) (N := 56) hx hb hts iX12 hown hK hP 0 rfl rfl 27 (by decide) (hts (.fieldLink RX12 65 "CardsAtYuleModel" "gets" "[Z") (List.mem_cons_of_mem _ (List.mem_append_left _ (List.mem_of_getElem? (i := 0) rfl)))) (fun _ h9 => h9) rfl dX12_yearOf_218 ?_
          refine lv_iload hx hb dX12_yearOf_221 (lv_at hl 0 rfl) ?_
          refine lv_aload_n hx hb dX12_yearOf_223 rfl (lv_at hl 3 rfl) ?_
          refine va_get (D := g) (ci := 11) (v := .ref (m_a 26)) (C := RX12) (T := TX12) (N := 56) hx hb hts iX12 hown hK hP 0 rfl rfl 26 (by decide) (hts (.fieldLink RX12 62 "CardsAtYuleModel" "sent" "[I") (List.mem_cons_of_mem _ (List.mem_append_left _ (List.mem_of_getElem? (i := 10) rfl)))) (fun _ h9 => h9) rfl dX12_yearOf_224 ?_
          refine lv_iconst (v := 1) hx hb dX12_yearOf_227 (by decide) ?_
          refine lv_iload hx hb dX12_yearOf_228 (lv_at hl 0 rfl) ?_
          refine lv_isub hx hb dX12_yearOf_230 ?_
          refine lv_topi (nm_r (e' := 1) (by decide) ?_)
          refine va_iald (D := g) hx hb hK hP 4 0 rfl rfl (vc_in (by decide)) dX12_yearOf_231 ?_
          refine lv_topi (nm_r (e' := 0) rfl ?_)
          refine lv_if_le (tgt := 251) hx hb dX12_yearOf_232 (by decide) (fun _ => ?_) (fun c208 => absurd c208 (by decide))
          refine lv_iconst (v := 0) hx hb dX12_yearOf_251 (by decide) ?_
          refine va_zast (D := g) hx hb hK hP hD hS 5 3 rfl rfl (vc_in (by decide)) dX12_yearOf_252 (fun H locs hP hD hS => ?_)
          have hP : va_P g vwCl [(mo, .inr (11, mG m_a m_thrown m_taped m_at m_token m_place m_value m_word m_bad m_badPlace m_fault m_faultPlace (-1) m_will m_forgot 0 m_x vb vr vc vf m_any m_bothSend m_meanCards m_bestSum m_fitMany m_fitFirst m_fitSecond)), ((m_a 23), .inl (cI, 2, .inl fr)), ((m_a 24), .inl (cZ, 2, .inl fm)), ((m_a 25), .inl (cZ, 2, .inl fc)), ((m_a 26), .inl (cI, 2, .inl (upd (upd fs 0 0) 1 0))), ((m_a 27), .inl (cZ, 2, .inl (upd (upd (upd fg 0 0) 1 0) 0 0))), ((m_a 34), .inl (cZ, 2, .inl (upd (upd fk 0 0) 1 0)))] H := hP
          have hD : va_D A [(mo, .inr (11, mG m_a m_thrown m_taped m_at m_token m_place m_value m_word m_bad m_badPlace m_fault m_faultPlace (-1) m_will m_forgot 0 m_x vb vr vc vf m_any m_bothSend m_meanCards m_bestSum m_fitMany m_fitFirst m_fitSecond)), ((m_a 23), .inl (cI, 2, .inl fr)), ((m_a 24), .inl (cZ, 2, .inl fm)), ((m_a 25), .inl (cZ, 2, .inl fc)), ((m_a 26), .inl (cI, 2, .inl (upd (upd fs 0 0) 1 0))), ((m_a 27), .inl (cZ, 2, .inl (upd (upd (upd fg 0 0) 1 0) 0 0))), ((m_a 34), .inl (cZ, 2, .inl (upd (upd fk 0 0) 1 0)))] := hD
          refine lv_iload_n hx hb dX12_yearOf_253 rfl (lv_at hl 1 rfl) ?_
          refine lv_aload_n hx hb dX12_yearOf_254 rfl (lv_at hl 3 rfl) ?_
          refine va_get (D := g) (ci := 11) (v := .ref (m_a 27)) (C := RX12) (T := TX12) (N := 56) hx hb hts iX12 hown hK hP 0 rfl rfl 27 (by decide) (hts (.fieldLink RX12 65 "CardsAtYuleModel" "gets" "[Z") (List.mem_cons_of_mem _ (List.mem_append_left _ (List.mem_of_getElem? (i := 0) rfl)))) (fun _ h9 => h9) rfl dX12_yearOf_255 ?_
          refine lv_iload hx hb dX12_yearOf_258 (lv_at hl 0 rfl) ?_
          refine va_zald (D := g) hx hb hK hP 5 3 rfl rfl (vc_in (by decide)) dX12_yearOf_260 ?_
          refine lv_topi (nm_r (e' := 0) rfl ?_)
          refine lv_if_eq (tgt := 273) hx hb dX12_yearOf_261 (by decide) (fun _ => ?_) (fun c209 => absurd c209 (by decide))
          refine lv_iconst (v := 0) hx hb dX12_yearOf_273 (by decide) ?_
          refine lv_ior hx hb dX12_yearOf_274 ?_
          refine lv_istore_n (lv' := [(3, .int ((((nI js) &&& 5) <<< (1 &&& (31 : Int32))) ||| 0)), (4, .int 0), (2, .ref (m_a 34)), (0, .ref mo), (1, .int (nI js))]) hx hb dX12_yearOf_275 rfl hl (by decide) rfl (fun ls hl => ?_)
          refine lv_iinc (v := 1) (lv' := [(4, .int 1), (3, .int ((((nI js) &&& 5) <<< (1 &&& (31 : Int32))) ||| 0)), (2, .ref (m_a 34)), (0, .ref mo), (1, .int (nI js))]) hx hb dX12_yearOf_276 hl (k := 1) rfl (by decide) (by decide) rfl (fun ls hl => ?_)
          refine lv_goto (tgt := 211) hx hb dX12_yearOf_279 (by decide) ?_
          refine lv_iload hx hb dX12_yearOf_211 (lv_at hl 0 rfl) ?_
          refine lv_iconst (v := 2) hx hb dX12_yearOf_213 (by decide) ?_
          refine lv_icmp_ge (tgt := 282) hx hb dX12_yearOf_214 (by decide) (fun c210 => absurd c210 (by decide)) (fun _ => ?_)
          refine lv_aload_n hx hb dX12_yearOf_217 rfl (lv_at hl 3 rfl) ?_
          refine va_get (D := g) (ci := 11) (v := .ref (m_a 27)) (C := RX12) (T := TX12) (N := 56) hx hb hts iX12 hown hK hP 0 rfl rfl 27 (by decide) (hts (.fieldLink RX12 65 "CardsAtYuleModel" "gets" "[Z") (List.mem_cons_of_mem _ (List.mem_append_left _ (List.mem_of_getElem? (i := 0) rfl)))) (fun _ h9 => h9) rfl dX12_yearOf_218 ?_
          refine lv_iload hx hb dX12_yearOf_221 (lv_at hl 0 rfl) ?_
          refine lv_aload_n hx hb dX12_yearOf_223 rfl (lv_at hl 3 rfl) ?_
          refine va_get (D := g) (ci := 11) (v := .ref (m_a 26)) (C := RX12) (T := TX12) (N := 56) hx hb hts iX12 hown hK hP 0 rfl rfl 26 (by decide) (hts (.fieldLink RX12 62 "CardsAtYuleModel" "sent" "[I") (List.mem_cons_of_mem _ (List.mem_append_left _ (List.mem_of_getElem? (i := 10) rfl)))) (fun _ h9 => h9) rfl dX12_yearOf_224 ?_
          refine lv_iconst (v := 1) hx hb dX12_yearOf_227 (by decide) ?_
          refine lv_iload hx hb dX12_yearOf_228 (lv_at hl 0 rfl) ?_
          refine lv_isub hx hb dX12_yearOf_230 ?_
          refine lv_topi (nm_r (e' := 0) (by decide) ?_)
          refine va_iald (D := g) hx hb hK hP 4 0 rfl rfl (vc_in (by decide)) dX12_yearOf_231 ?_
          refine lv_topi (nm_r (e' := 0) rfl ?_)
          refine lv_if_le (tgt := 251) hx hb dX12_yearOf_232 (by decide) (fun _ => ?_) (fun c211 => absurd c211 (by decide))
          refine lv_iconst (v := 0) hx hb dX12_yearOf_251 (by decide) ?_
          refine va_zast (D := g) hx hb hK hP hD hS 5 3 rfl rfl (vc_in (by decide)) dX12_yearOf_252 (fun H locs hP hD hS => ?_)
          have hP : va_P g vwCl [(mo, .inr (11, mG m_a m_thrown m_taped m_at m_token m_place m_value m_word m_bad m_badPlace m_fault m_faultPlace (-1) m_will m_forgot 0 m_x vb vr vc vf m_any m_bothSend m_meanCards m_bestSum m_fitMany m_fitFirst m_fitSecond)), ((m_a 23), .inl (cI, 2, .inl fr)), ((m_a 24), .inl (cZ, 2, .inl fm)), ((m_a 25), .inl (cZ, 2, .inl fc)), ((m_a 26), .inl (cI, 2, .inl (upd (upd fs 0 0) 1 0))), ((m_a 27), .inl (cZ, 2, .inl (upd (upd (upd (upd fg 0 0) 1 0) 0 0) 1 0))), ((m_a 34), .inl (cZ, 2, .inl (upd (upd fk 0 0) 1 0)))] H := hP
          have hD : va_D A [(mo, .inr (11, mG m_a m_thrown m_taped m_at m_token m_place m_value m_word m_bad m_badPlace m_fault m_faultPlace (-1) m_will m_forgot 0 m_x vb vr vc vf m_any m_bothSend m_meanCards m_bestSum m_fitMany m_fitFirst m_fitSecond)), ((m_a 23), .inl (cI, 2, .inl fr)), ((m_a 24), .inl (cZ, 2, .inl fm)), ((m_a 25), .inl (cZ, 2, .inl fc)), ((m_a 26), .inl (cI, 2, .inl (upd (upd fs 0 0) 1 0))), ((m_a 27), .inl (cZ, 2, .inl (upd (upd (upd (upd fg 0 0) 1 0) 0 0) 1 0))), ((m_a 34), .inl (cZ, 2, .inl (upd (upd fk 0 0) 1 0)))] := hD
          refine lv_iload_n hx hb dX12_yearOf_253 rfl (lv_at hl 1 rfl) ?_
          refine lv_aload_n hx hb dX12_yearOf_254 rfl (lv_at hl 3 rfl) ?_
          refine va_get (D := g) (ci := 11) (v := .ref (m_a 27)) (C := RX12) (T := TX12) (N := 56) hx hb hts iX12 hown hK hP 0 rfl rfl 27 (by decide) (hts (.fieldLink RX12 65 "CardsAtYuleModel" "gets" "[Z") (List.mem_cons_of_mem _ (List.mem_append_left _ (List.mem_of_getElem? (i := 0) rfl)))) (fun _ h9 => h9) rfl dX12_yearOf_255 ?_
          refine lv_iload hx hb dX12_yearOf_258 (lv_at hl 0 rfl) ?_
          refine va_zald (D := g) hx hb hK hP 5 3 rfl rfl (vc_in (by decide)) dX12_yearOf_260 ?_
          refine lv_topi (nm_r (e' := 0) rfl ?_)
          refine lv_if_eq (tgt := 273) hx hb dX12_yearOf_261 (by decide) (fun _ => ?_) (fun c212 => absurd c212 (by decide))
          refine lv_iconst (v := 0) hx hb dX12_yearOf_273 (by decide) ?_
          refine lv_ior hx hb dX12_yearOf_274 ?_
          refine lv_istore_n (lv' := [(3, .int (((((nI js) &&& 5) <<< (1 &&& (31 : Int32))) ||| 0) ||| 0)), (4, .int 1), (2, .ref (m_a 34)), (0, .ref mo), (1, .int (nI js))]) hx hb dX12_yearOf_275 rfl hl (by decide) rfl (fun ls hl => ?_)
          refine lv_iinc (v := 2) (lv' := [(4, .int 2), (3, .int (((((nI js) &&& 5) <<< (1 &&& (31 : Int32))) ||| 0) ||| 0)), (2, .ref (m_a 34)), (0, .ref mo), (1, .int (nI js))]) hx hb dX12_yearOf_276 hl (k := 1) rfl (by decide) (by decide) rfl (fun ls hl => ?_)
          refine lv_goto (tgt := 211) hx hb dX12_yearOf_279 (by decide) ?_
          refine lv_iload hx hb dX12_yearOf_211 (lv_at hl 0 rfl) ?_
          refine lv_iconst (v := 2) hx hb dX12_yearOf_213 (by decide) ?_
          refine lv_icmp_ge (tgt := 282) hx hb dX12_yearOf_214 (by decide) (fun _ => ?_) (fun c213 => absurd c213 (by decide))
          refine lv_iload_n hx hb dX12_yearOf_282 rfl (lv_at hl 1 rfl) ?_
          have hA9 : sA ra rb js = 0 := by unfold sA; rw [if_neg (by omega)]
          have hB9 : zB ra rb js = 0 := by unfold zB; rw [if_neg (by omega)]
          have hP9 := hP.sub (ws' := [(mo, .inr (11, mG m_a m_thrown m_taped m_at m_token m_place m_value m_word m_bad m_badPlace m_fault m_faultPlace (-1) m_will m_forgot 0 m_x vb vr vc vf m_any m_bothSend m_meanCards m_bestSum m_fitMany m_fitFirst m_fitSecond)), ((m_a 23), .inl (cI, 2, .inl fr)), ((m_a 24), .inl (cZ, 2, .inl fm)), ((m_a 25), .inl (cZ, 2, .inl fc)), ((m_a 26), .inl (cI, 2, .inl (upd (upd fs 0 0) 1 0))), ((m_a 27), .inl (cZ, 2, .inl (upd (upd (upd (upd fg 0 0) 1 0) 0 0) 1 0))), ((m_a 34), .inl (cZ, 2, .inl (upd (upd fk 0 0) 1 0)))]) [0, 1, 2, 3, 4, 5, 6] rfl
          have hD9 := hD.sub (ws' := [(mo, .inr (11, mG m_a m_thrown m_taped m_at m_token m_place m_value m_word m_bad m_badPlace m_fault m_faultPlace (-1) m_will m_forgot 0 m_x vb vr vc vf m_any m_bothSend m_meanCards m_bestSum m_fitMany m_fitFirst m_fitSecond)), ((m_a 23), .inl (cI, 2, .inl fr)), ((m_a 24), .inl (cZ, 2, .inl fm)), ((m_a 25), .inl (cZ, 2, .inl fc)), ((m_a 26), .inl (cI, 2, .inl (upd (upd fs 0 0) 1 0))), ((m_a 27), .inl (cZ, 2, .inl (upd (upd (upd (upd fg 0 0) 1 0) 0 0) 1 0))), ((m_a 34), .inl (cZ, 2, .inl (upd (upd fk 0 0) 1 0)))]) [0, 1, 2, 3, 4, 5, 6] (by decide) rfl
          exact W.iret (v := (((((nI js) &&& 5) <<< (1 &&& (31 : Int32))) ||| 0) ||| 0)) hx hb hr (fun t ht hW => ⟨⟨(((((nI js) &&& 5) <<< (1 &&& (31 : Int32))) ||| 0) ||| 0), ((upd (upd fs 0 0) 1 0), (upd (upd (upd (upd fg 0 0) 1 0) 0 0) 1 0), (upd (upd fk 0 0) 1 0)), rfl, ⟨th_nx hjs (u := 0) (v := 0) hB9 hA9, 0, 0, rfl, rfl, by decide, by decide, by unfold sc; rw [hA9, hB9]; rfl⟩, by rw [ht]; exact hP9, va_K.moved hW.alike hK, hD9⟩, hS.F ht⟩) hS.2.2 dX12_yearOf_283
