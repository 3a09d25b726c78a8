def v_fX12_yearOf : List Cond := .code yX12_yearOf cX12_yearOf 5 (some .int) :: (([.fieldLink RX12 65 "CardsAtYuleModel" "gets" "[Z", .fieldLink RX12 68 "CardsAtYuleModel" "willing" "I", .fieldLink RX12 56 "CardsAtYuleModel" "maySend" "[Z", .methodLink RX12 315 yX12_wouldSend, .instanceMethod yX12_wouldSend, .selects RX12 yX12_wouldSend yX12_wouldSend, .initialized RX12, .methodLink RX12 318 yX12_isForgotten, .instanceMethod yX12_isForgotten, .selects RX12 yX12_isForgotten yX12_isForgotten, .fieldLink RX12 62 "CardsAtYuleModel" "sent" "[I", .fieldLink RX12 74 "CardsAtYuleModel" "cameFirst" "[Z", .fieldLink RX12 59 "CardsAtYuleModel" "maycome" "[Z", .fieldLink RX12 53 "CardsAtYuleModel" "ruleNow" "[I"] : List Cond) ++ (v_fX12_wouldSend_0 ++ (v_fX12_isForgotten ++ (v_fX12_wouldSend_1 ++ (wsX120 ++ ([] : List Cond))))))
theorem good_v_fX12_yearOf : v_fX12_yearOf.all goodWord = true := ga_c (by decide +kernel) (ga_a (by decide +kernel) (ga_a good_v_fX12_wouldSend_0 (ga_a good_v_fX12_isForgotten (ga_a good_v_fX12_wouldSend_1 (ga_a good_wsX120 rfl)))))
set_option maxHeartbeats 4000000 in
set_option maxRecDepth 100000 in
theorem k_fX12_yearOf (l : Launch) (g : va_G) (cI cJ cB cZ cL : ClassId) (mo : Nat) (m_a : Nat → Nat) (m_thrown : Int32) (m_taped : Int32) (m_at : Int32) (m_token : Int32) (m_place : Int32) (m_value : Int32) (m_word : Int64) (m_bad : Int32) (m_badPlace : Int32) (m_fault : Int32) (m_faultPlace : Int32) (m_will : Int32) (m_forgot : Int32) (m_x : Int64) (m_any : Int64) (m_bothSend : Int64) (m_meanCards : Int64) (m_bestSum : Int32) (m_fitMany : Int32) (m_fitFirst : Int64) (m_fitSecond : Int64) (vb : Int32) (vr : Int32) (vc : Int32) (vf : Int32) (fr : Nat → Int32) (fm : Nat → Int32) (fc : Nat → Int32) (fs : Nat → Int32) (fg : Nat → Int32) (fk : Nat → Int32) (ra : Nat) (rb : Nat) (js : Nat) (sz : Nat) (hS_r0 : fr 0 = nI ra) (hS_r1 : fr 1 = nI rb) (hS_m0 : fm 0 = 1) (hS_m1 : fm 1 = 1) (hS_c0 : fc 0 = 1) (hS_c1 : fc 1 = 1) (hra : ra < 32) (hrb : rb < 32) (hjs : js < 16) : Met l yX12_yearOf v_fX12_yearOf ({ frames := 2, cells := 0, slots := 0, locals := 44 }) (va_Pc [.ref mo, .int (nI js)] (pRW g (tyT cI cJ cB cZ cL) [(mo, .inr (11, mG m_a m_thrown m_taped m_at m_token m_place m_value m_word m_bad m_badPlace m_fault m_faultPlace (-1) m_will m_forgot 0 m_x vb vr vc vf m_any m_bothSend m_meanCards m_bestSum m_fitMany m_fitFirst m_fitSecond)), ((m_a 23), .inl (cI, 2, .inl fr)), ((m_a 24), .inl (cZ, 2, .inl fm)), ((m_a 25), .inl (cZ, 2, .inl fc)), ((m_a 26), .inl (cI, 2, .inl fs)), ((m_a 27), .inl (cZ, 2, .inl fg)), ((m_a 34), .inl (cZ, 2, .inl fk))] sz)) (va_Qi (fun (r : Int32) (u : (Nat → Int32) × (Nat → Int32) × (Nat → Int32)) => match u with | (h1, h2, h3) => r = nI (nx ra rb js) ∧ ∃ v0 v1 : Nat, h1 0 = nI v0 ∧ h1 1 = nI v1 ∧ v0 ≤ 2 ∧ v1 ≤ 2 ∧ b1 v0 + b1 v1 = sc ra rb js) (fun (u : (Nat → Int32) × (Nat → Int32) × (Nat → Int32)) (t : State) => bRW g (tyT cI cJ cB cZ cL) (va_A [(mo, .inr (11, mG m_a m_thrown m_taped m_at m_token m_place m_value m_word m_bad m_badPlace m_fault m_faultPlace (-1) m_will m_forgot 0 m_x vb vr vc vf m_any m_bothSend m_meanCards m_bestSum m_fitMany m_fitFirst m_fitSecond)), ((m_a 23), .inl (cI, 2, .inl fr)), ((m_a 24), .inl (cZ, 2, .inl fm)), ((m_a 25), .inl (cZ, 2, .inl fc)), ((m_a 26), .inl (cI, 2, .inl fs)), ((m_a 27), .inl (cZ, 2, .inl fg)), ((m_a 34), .inl (cZ, 2, .inl fk))] sz) (match u with | (h1, h2, h3) => [(mo, .inr (11, mG m_a m_thrown m_taped m_at m_token m_place m_value m_word m_bad m_badPlace m_fault m_faultPlace (-1) m_will m_forgot 0 m_x vb vr vc vf m_any m_bothSend m_meanCards m_bestSum m_fitMany m_fitFirst m_fitSecond)), ((m_a 23), .inl (cI, 2, .inl fr)), ((m_a 24), .inl (cZ, 2, .inl fm)), ((m_a 25), .inl (cZ, 2, .inl fc)), ((m_a 26), .inl (cI, 2, .inl h1)), ((m_a 27), .inl (cZ, 2, .inl h2)), ((m_a 34), .inl (cZ, 2, .inl h3))]) t) (va_A [(mo, .inr (11, mG m_a m_thrown m_taped m_at m_token m_place m_value m_word m_bad m_badPlace m_fault m_faultPlace (-1) m_will m_forgot 0 m_x vb vr vc vf m_any m_bothSend m_meanCards m_bestSum m_fitMany m_fitFirst m_fitSecond)), ((m_a 23), .inl (cI, 2, .inl fr)), ((m_a 24), .inl (cZ, 2, .inl fm)), ((m_a 25), .inl (cZ, 2, .inl fc)), ((m_a 26), .inl (cI, 2, .inl fs)), ((m_a 27), .inl (cZ, 2, .inl fg)), ((m_a 34), .inl (cZ, 2, .inl fk))] sz)) 0 0 (va_A [(mo, .inr (11, mG m_a m_thrown m_taped m_at m_token m_place m_value m_word m_bad m_badPlace m_fault m_faultPlace (-1) m_will m_forgot 0 m_x vb vr vc vf m_any m_bothSend m_meanCards m_bestSum m_fitMany m_fitFirst m_fitSecond)), ((m_a 23), .inl (cI, 2, .inl fr)), ((m_a 24), .inl (cZ, 2, .inl fm)), ((m_a 25), .inl (cZ, 2, .inl fc)), ((m_a 26), .inl (cI, 2, .inl fs)), ((m_a 27), .inl (cZ, 2, .inl fg)), ((m_a 34), .inl (cZ, 2, .inl fk))] sz) := by
  refine Met.ofW (cc := cX12_yearOf) (maxL := 5) (ret := (some .int)) (by decide) rfl ?_
  intro p e s m args below meth c s₁ B hml hv
  obtain ⟨rfl, hsz, hP, hK, hD0⟩ := hv
  have hx := B.exec
  have hb := B.bytes
  have hr := B.returns
  have hts := atoms_spec (ws := v_fX12_yearOf) B.pre
  have hown : s.vm.findClass RX12 = some m.cls := findClass_of_methodNamed B.named
  have hlocks := B.notSynchronized
  subst hsz
  have iX12 : ∀ w ∈ wsX120, w ∈ v_fX12_yearOf := (fun _ h => List.mem_cons_of_mem _ (List.mem_append_right _ (List.mem_append_right _ (List.mem_append_right _ (List.mem_append_right _ (List.mem_append_left _ h))))))
  have hD := hD0.self (sz := s.heap.size)
  generalize hAe : (va_A [(mo, .inr (11, mG m_a m_thrown m_taped m_at m_token m_place m_value m_word m_bad m_badPlace m_fault m_faultPlace (-1) m_will m_forgot 0 m_x vb vr vc vf m_any m_bothSend m_meanCards m_bestSum m_fitMany m_fitFirst m_fitSecond)), ((m_a 23), .inl (cI, 2, .inl fr)), ((m_a 24), .inl (cZ, 2, .inl fm)), ((m_a 25), .inl (cZ, 2, .inl fc)), ((m_a 26), .inl (cI, 2, .inl fs)), ((m_a 27), .inl (cZ, 2, .inl fg)), ((m_a 34), .inl (cZ, 2, .inl fk))] s.heap.size) = A at hD ⊢
  have hA : ∀ q : Nat, s.heap.size ≤ q → A q := fun q h => by rw [← hAe]; exact Or.inr h
  have hS : va_S A s.heap s.heap [] := va_S.rf
  have hl := lv_entry ([.ref mo, .int (nI js)]) (n := 5) (Nat.le_of_ble_eq_true rfl)
  rw [lg_entry_eq]
  generalize (lg_sl ([.ref mo, .int (nI js)]) ++ List.replicate (5 - (lg_sl ([.ref mo, .int (nI js)])).length) Slot.unset).toArray = ls at hl ⊢
  have hl : lv_has ls 5 [(0, .ref mo), (1, .int (nI js))] := hl
  have hP : va_P g vwCl [(mo, .inr (11, mG m_a m_thrown m_taped m_at m_token m_place m_value m_word m_bad m_badPlace m_fault m_faultPlace (-1) m_will m_forgot 0 m_x vb vr vc vf m_any m_bothSend m_meanCards m_bestSum m_fitMany m_fitFirst m_fitSecond)), ((m_a 23), .inl (cI, 2, .inl fr)), ((m_a 24), .inl (cZ, 2, .inl fm)), ((m_a 25), .inl (cZ, 2, .inl fc)), ((m_a 26), .inl (cI, 2, .inl fs)), ((m_a 27), .inl (cZ, 2, .inl fg)), ((m_a 34), .inl (cZ, 2, .inl fk))] s.heap := hP
  refine lv_iconst (v := 0) hx hb dX12_yearOf_0 (by decide) ?_
  refine lv_istore_n (lv' := [(2, .int 0), (0, .ref mo), (1, .int (nI js))]) hx hb dX12_yearOf_1 rfl hl (by decide) rfl (fun ls hl => ?_)
  refine lv_iload_n hx hb dX12_yearOf_2 rfl (lv_at hl 0 rfl) ?_
  refine lv_iconst (v := 2) hx hb dX12_yearOf_3 (by decide) ?_
  refine lv_icmp_ge (tgt := 82) hx hb dX12_yearOf_4 (by decide) (fun c1 => absurd c1 (by decide)) (fun _ => ?_)
  refine lv_aload_n hx hb dX12_yearOf_7 rfl (lv_at hl 1 rfl) ?_
  refine va_get (D := g) (ci := 11) (v := .ref (m_a 27)) (C := RX12) (T := TX12) (N := 56) hx hb hts iX12 hown hK hP 0 rfl rfl 27 (by decide) (hts (.fieldLink RX12 65 "CardsAtYuleModel" "gets" "[Z") (List.mem_cons_of_mem _ (List.mem_append_left _ (List.mem_of_getElem? (i := 0) rfl)))) (fun _ h9 => h9) rfl dX12_yearOf_8 ?_
  refine lv_iload_n hx hb dX12_yearOf_11 rfl (lv_at hl 0 rfl) ?_
  refine lv_iconst (v := 0) hx hb dX12_yearOf_12 (by decide) ?_
  refine va_zast (D := g) hx hb hK hP hD hS 5 3 rfl rfl (vc_in (by decide)) dX12_yearOf_13 (fun H locs hP hD hS => ?_)
  have hP : va_P g vwCl [(mo, .inr (11, mG m_a m_thrown m_taped m_at m_token m_place m_value m_word m_bad m_badPlace m_fault m_faultPlace (-1) m_will m_forgot 0 m_x vb vr vc vf m_any m_bothSend m_meanCards m_bestSum m_fitMany m_fitFirst m_fitSecond)), ((m_a 23), .inl (cI, 2, .inl fr)), ((m_a 24), .inl (cZ, 2, .inl fm)), ((m_a 25), .inl (cZ, 2, .inl fc)), ((m_a 26), .inl (cI, 2, .inl fs)), ((m_a 27), .inl (cZ, 2, .inl (upd fg 0 0))), ((m_a 34), .inl (cZ, 2, .inl fk))] H := hP
  have hD : va_D A [(mo, .inr (11, mG m_a m_thrown m_taped m_at m_token m_place m_value m_word m_bad m_badPlace m_fault m_faultPlace (-1) m_will m_forgot 0 m_x vb vr vc vf m_any m_bothSend m_meanCards m_bestSum m_fitMany m_fitFirst m_fitSecond)), ((m_a 23), .inl (cI, 2, .inl fr)), ((m_a 24), .inl (cZ, 2, .inl fm)), ((m_a 25), .inl (cZ, 2, .inl fc)), ((m_a 26), .inl (cI, 2, .inl fs)), ((m_a 27), .inl (cZ, 2, .inl (upd fg 0 0))), ((m_a 34), .inl (cZ, 2, .inl fk))] := hD
  refine lv_iload_n hx hb dX12_yearOf_14 rfl (lv_at hl 0 rfl) ?_
  refine lv_aload_n hx hb dX12_yearOf_15 rfl (lv_at hl 1 rfl) ?_
  refine va_get (D := g) (ci := 11) (v := .int (-1)) (C := RX12) (T := TX12) (N := 56) hx hb hts iX12 hown hK hP 0 rfl rfl 28 (by decide) (hts (.fieldLink RX12 68 "CardsAtYuleModel" "willing" "I") (List.mem_cons_of_mem _ (List.mem_append_left _ (List.mem_of_getElem? (i := 1) rfl)))) (fun _ h9 => h9) rfl dX12_yearOf_16 ?_
  refine lv_icmp_ne (tgt := 29) hx hb dX12_yearOf_19 (by decide) (fun _ => ?_) (fun c2 => absurd c2 (by decide))
  refine lv_aload_n hx hb dX12_yearOf_29 rfl (lv_at hl 1 rfl) ?_
  refine va_get (D := g) (ci := 11) (v := .ref (m_a 24)) (C := RX12) (T := TX12) (N := 56) hx hb hts iX12 hown hK hP 0 rfl rfl 24 (by decide) (hts (.fieldLink RX12 56 "CardsAtYuleModel" "maySend" "[Z") (List.mem_cons_of_mem _ (List.mem_append_left _ (List.mem_of_getElem? (i := 2) rfl)))) (fun _ h9 => h9) rfl dX12_yearOf_30 ?_
  refine lv_iload_n hx hb dX12_yearOf_33 rfl (lv_at hl 0 rfl) ?_
  refine va_zald (D := g) hx hb hK hP 2 3 rfl rfl (vc_in (by decide)) dX12_yearOf_34 ?_
  refine lv_topi (nm_r (e' := 1) hS_m0 ?_)
  refine lv_if_eq (tgt := 59) hx hb dX12_yearOf_35 (by decide) (fun c3 => absurd c3 (by decide)) (fun _ => ?_)
  refine lv_aload_n hx hb dX12_yearOf_38 rfl (lv_at hl 1 rfl) ?_
  refine lv_iload_n hx hb dX12_yearOf_39 rfl (lv_at hl 0 rfl) ?_
  refine lv_iload_n hx hb dX12_yearOf_40 rfl (lv_at hl 2 rfl) ?_
  refine ro_i (va_runV (As := [.int 0, .int (nI js)]) (rest := []) ⟨hx, hb, hml, hown, hts⟩ (k_fX12_wouldSend_0 l g cI cJ cB cZ cL mo m_a m_thrown m_taped m_at m_token m_place m_value m_word m_bad m_badPlace m_fault m_faultPlace m_will m_forgot m_x m_any m_bothSend m_meanCards m_bestSum m_fitMany m_fitFirst m_fitSecond vb vr vc vf fr ra js H.size hS_r0 (by omega) (by omega)) (cwV 2 hts (goodIn_app (g_4 (List.mem_cons_of_mem _ (List.mem_append_left _ (List.mem_of_getElem? (i := 3) rfl))) (List.mem_cons_of_mem _ (List.mem_append_left _ (List.mem_of_getElem? (i := 4) rfl))) (List.mem_cons_of_mem _ (List.mem_append_left _ (List.mem_of_getElem? (i := 5) rfl))) (List.mem_cons_of_mem _ (List.mem_append_left _ (List.mem_of_getElem? (i := 6) rfl))) (by decide +kernel)) (goodIn_sub (fun _ h => List.mem_cons_of_mem _ (List.mem_append_right _ (List.mem_append_left _ h))) good_v_fX12_wouldSend_0)) rfl rfl rfl (by decide +kernel) ⟨Nat.le_of_ble_eq_true rfl, Nat.le_of_ble_eq_true rfl⟩) (pv_RO (q := (RX12, TX12, 56)) (ci := 11) (q0 := 0) (wc := [(mo, .inr (11, mG m_a m_thrown m_taped m_at m_token m_place m_value m_word m_bad m_badPlace m_fault m_faultPlace (-1) m_will m_forgot 0 m_x vb vr vc vf m_any m_bothSend m_meanCards m_bestSum m_fitMany m_fitFirst m_fitSecond)), ((m_a 23), .inl (cI, 2, .inl fr))]) hK hP [0, 1] rfl rfl rfl) rfl rfl hl.1 rfl (lv_room (Nat.le_of_ble_eq_true rfl)) dX12_yearOf_41 ⟨Nat.le_of_ble_eq_true rfl, Nat.le_of_ble_eq_true rfl⟩) hS hA hP (fun r4 u5 H locs hw6 hP hS => ?_)
  rcases hw6 with ⟨rfl, hw6_0⟩ | ⟨rfl, hw6_0⟩
  · refine lv_if_eq (tgt := 59) hx hb dX12_yearOf_44 (by decide) (fun c7 => absurd c7 (by decide)) (fun _ => ?_)
    refine lv_aload_n hx hb dX12_yearOf_47 rfl (lv_at hl 1 rfl) ?_
    refine lv_iload_n hx hb dX12_yearOf_48 rfl (lv_at hl 0 rfl) ?_
    refine ro_i (va_runV (As := [.int 0]) (rest := []) ⟨hx, hb, hml, hown, hts⟩ (k_fX12_isForgotten l g cI cJ cB cZ cL mo m_a m_thrown m_taped m_at m_token m_place m_value m_word m_bad m_badPlace m_fault m_faultPlace m_will m_forgot m_x m_any m_bothSend m_meanCards m_bestSum m_fitMany m_fitFirst m_fitSecond vb vr vc vf 0 H.size ) (cwV 1 hts (goodIn_app (g_4 (List.mem_cons_of_mem _ (List.mem_append_left _ (List.mem_of_getElem? (i := 7) rfl))) (List.mem_cons_of_mem _ (List.mem_append_left _ (List.mem_of_getElem? (i := 8) rfl))) (List.mem_cons_of_mem _ (List.mem_append_left _ (List.mem_of_getElem? (i := 9) rfl))) (List.mem_cons_of_mem _ (List.mem_append_left _ (List.mem_of_getElem? (i := 6) rfl))) (by decide +kernel)) (goodIn_sub (fun _ h => List.mem_cons_of_mem _ (List.mem_append_right _ (List.mem_append_right _ (List.mem_append_left _ h)))) good_v_fX12_isForgotten)) rfl rfl rfl (by decide +kernel) ⟨Nat.le_of_ble_eq_true rfl, Nat.le_of_ble_eq_true rfl⟩) (pv_RO (q := (RX12, TX12, 56)) (ci := 11) (q0 := 0) (wc := [(mo, .inr (11, mG m_a m_thrown m_taped m_at m_token m_place m_value m_word m_bad m_badPlace m_fault m_faultPlace (-1) m_will m_forgot 0 m_x vb vr vc vf m_any m_bothSend m_meanCards m_bestSum m_fitMany m_fitFirst m_fitSecond))]) hK hP [0] rfl rfl rfl) rfl rfl hl.1 rfl (lv_room (Nat.le_of_ble_eq_true rfl)) dX12_yearOf_49 ⟨Nat.le_of_ble_eq_true rfl, Nat.le_of_ble_eq_true rfl⟩) hS hA hP (fun r8 u9 H locs hw10 hP hS => ?_)
    subst hw10
    refine lv_if_ne (tgt := 59) hx hb dX12_yearOf_52 (by decide) (fun c11 => absurd c11 (by decide)) (fun _ => ?_)
    refine lv_iconst (v := 1) hx hb dX12_yearOf_55 (by decide) ?_
    refine lv_goto (tgt := 60) hx hb dX12_yearOf_56 (by decide) ?_
    refine lv_istore_n (lv' := [(3, .int 1), (2, .int 0), (0, .ref mo), (1, .int (nI js))]) hx hb dX12_yearOf_60 rfl hl (by decide) rfl (fun ls hl => ?_)
    refine lv_aload_n hx hb dX12_yearOf_61 rfl (lv_at hl 2 rfl) ?_
    refine va_get (D := g) (ci := 11) (v := .ref (m_a 26)) (C := RX12) (T := TX12) (N := 56) hx hb hts iX12 hown hK hP 0 rfl rfl 26 (by decide) (hts (.fieldLink RX12 62 "CardsAtYuleModel" "sent" "[I") (List.mem_cons_of_mem _ (List.mem_append_left _ (List.mem_of_getElem? (i := 10) rfl)))) (fun _ h9 => h9) rfl dX12_yearOf_62 ?_
    refine lv_iload_n hx hb dX12_yearOf_65 rfl (lv_at hl 1 rfl) ?_
    refine lv_iload_n hx hb dX12_yearOf_66 rfl (lv_at hl 0 rfl) ?_
    refine lv_if_eq (tgt := 74) hx hb dX12_yearOf_67 (by decide) (fun c12 => absurd c12 (by decide)) (fun _ => ?_)
    refine lv_iconst (v := 1) hx hb dX12_yearOf_70 (by decide) ?_
    refine lv_goto (tgt := 75) hx hb dX12_yearOf_71 (by decide) ?_
    refine va_iast (D := g) hx hb hK hP hD hS 4 0 rfl rfl (vc_in (by decide)) dX12_yearOf_75 (fun H locs hP hD hS => ?_)
    have hP : va_P g vwCl [(mo, .inr (11, mG m_a m_thrown m_taped m_at m_token m_place m_value m_word m_bad m_badPlace m_fault m_faultPlace (-1) m_will m_forgot 0 m_x vb vr vc vf m_any m_bothSend m_meanCards m_bestSum m_fitMany m_fitFirst m_fitSecond)), ((m_a 23), .inl (cI, 2, .inl fr)), ((m_a 24), .inl (cZ, 2, .inl fm)), ((m_a 25), .inl (cZ, 2, .inl fc)), ((m_a 26), .inl (cI, 2, .inl (upd fs 0 1))), ((m_a 27), .inl (cZ, 2, .inl (upd fg 0 0))), ((m_a 34), .inl (cZ, 2, .inl fk))] H := hP
    have hD : va_D A [(mo, .inr (11, mG m_a m_thrown m_taped m_at m_token m_place m_value m_word m_bad m_badPlace m_fault m_faultPlace (-1) m_will m_forgot 0 m_x vb vr vc vf m_any m_bothSend m_meanCards m_bestSum m_fitMany m_fitFirst m_fitSecond)), ((m_a 23), .inl (cI, 2, .inl fr)), ((m_a 24), .inl (cZ, 2, .inl fm)), ((m_a 25), .inl (cZ, 2, .inl fc)), ((m_a 26), .inl (cI, 2, .inl (upd fs 0 1))), ((m_a 27), .inl (cZ, 2, .inl (upd fg 0 0))), ((m_a 34), .inl (cZ, 2, .inl fk))] := hD
    refine lv_iinc (v := 1) (lv' := [(2, .int 1), (3, .int 1), (0, .ref mo), (1, .int (nI js))]) hx hb dX12_yearOf_76 hl (k := 1) rfl (by decide) (by decide) rfl (fun ls hl => ?_)
    refine lv_goto (tgt := 2) hx hb dX12_yearOf_79 (by decide) ?_
    refine lv_iload_n hx hb dX12_yearOf_2 rfl (lv_at hl 0 rfl) ?_
    refine lv_iconst (v := 2) hx hb dX12_yearOf_3 (by decide) ?_
    refine lv_icmp_ge (tgt := 82) hx hb dX12_yearOf_4 (by decide) (fun c13 => absurd c13 (by decide)) (fun _ => ?_)
    refine lv_aload_n hx hb dX12_yearOf_7 rfl (lv_at hl 2 rfl) ?_
    refine va_get (D := g) (ci := 11) (v := .ref (m_a 27)) (C := RX12) (T := TX12) (N := 56) hx hb hts iX12 hown hK hP 0 rfl rfl 27 (by decide) (hts (.fieldLink RX12 65 "CardsAtYuleModel" "gets" "[Z") (List.mem_cons_of_mem _ (List.mem_append_left _ (List.mem_of_getElem? (i := 0) rfl)))) (fun _ h9 => h9) rfl dX12_yearOf_8 ?_
    refine lv_iload_n hx hb dX12_yearOf_11 rfl (lv_at hl 0 rfl) ?_
    refine lv_iconst (v := 0) hx hb dX12_yearOf_12 (by decide) ?_
    refine va_zast (D := g) hx hb hK hP hD hS 5 3 rfl rfl (vc_in (by decide)) dX12_yearOf_13 (fun H locs hP hD hS => ?_)
    have hP : va_P g vwCl [(mo, .inr (11, mG m_a m_thrown m_taped m_at m_token m_place m_value m_word m_bad m_badPlace m_fault m_faultPlace (-1) m_will m_forgot 0 m_x vb vr vc vf m_any m_bothSend m_meanCards m_bestSum m_fitMany m_fitFirst m_fitSecond)), ((m_a 23), .inl (cI, 2, .inl fr)), ((m_a 24), .inl (cZ, 2, .inl fm)), ((m_a 25), .inl (cZ, 2, .inl fc)), ((m_a 26), .inl (cI, 2, .inl (upd fs 0 1))), ((m_a 27), .inl (cZ, 2, .inl (upd (upd fg 0 0) 1 0))), ((m_a 34), .inl (cZ, 2, .inl fk))] H := hP
    have hD : va_D A [(mo, .inr (11, mG m_a m_thrown m_taped m_at m_token m_place m_value m_word m_bad m_badPlace m_fault m_faultPlace (-1) m_will m_forgot 0 m_x vb vr vc vf m_any m_bothSend m_meanCards m_bestSum m_fitMany m_fitFirst m_fitSecond)), ((m_a 23), .inl (cI, 2, .inl fr)), ((m_a 24), .inl (cZ, 2, .inl fm)), ((m_a 25), .inl (cZ, 2, .inl fc)), ((m_a 26), .inl (cI, 2, .inl (upd fs 0 1))), ((m_a 27), .inl (cZ, 2, .inl (upd (upd fg 0 0) 1 0))), ((m_a 34), .inl (cZ, 2, .inl fk))] := hD
    refine lv_iload_n hx hb dX12_yearOf_14 rfl (lv_at hl 0 rfl) ?_
    refine lv_aload_n hx hb dX12_yearOf_15 rfl (lv_at hl 2 rfl) ?_
    refine va_get (D := g) (ci := 11) (v := .int (-1)) (C := RX12) (T := TX12) (N := 56) hx hb hts iX12 hown hK hP 0 rfl rfl 28 (by decide) (hts (.fieldLink RX12 68 "CardsAtYuleModel" "willing" "I") (List.mem_cons_of_mem _ (List.mem_append_left _ (List.mem_of_getElem? (i := 1) rfl)))) (fun _ h9 => h9) rfl dX12_yearOf_16 ?_
    refine lv_icmp_ne (tgt := 29) hx hb dX12_yearOf_19 (by decide) (fun _ => ?_) (fun c14 => absurd c14 (by decide))
    refine lv_aload_n hx hb dX12_yearOf_29 rfl (lv_at hl 2 rfl) ?_
    refine va_get (D := g) (ci := 11) (v := .ref (m_a 24)) (C := RX12) (T := TX12) (N := 56) hx hb hts iX12 hown hK hP 0 rfl rfl 24 (by decide) (hts (.fieldLink RX12 56 "CardsAtYuleModel" "maySend" "[Z") (List.mem_cons_of_mem _ (List.mem_append_left _ (List.mem_of_getElem? (i := 2) rfl)))) (fun _ h9 => h9) rfl dX12_yearOf_30 ?_
    refine lv_iload_n hx hb dX12_yearOf_33 rfl (lv_at hl 0 rfl) ?_
    refine va_zald (D := g) hx hb hK hP 2 3 rfl rfl (vc_in (by decide)) dX12_yearOf_34 ?_
    refine lv_topi (nm_r (e' := 1) hS_m1 ?_)
    refine lv_if_eq (tgt := 59) hx hb dX12_yearOf_35 (by decide) (fun c15 => absurd c15 (by decide)) (fun _ => ?_)
    refine lv_aload_n hx hb dX12_yearOf_38 rfl (lv_at hl 2 rfl) ?_
    refine lv_iload_n hx hb dX12_yearOf_39 rfl (lv_at hl 0 rfl) ?_
    refine lv_iload_n hx hb dX12_yearOf_40 rfl (lv_at hl 3 rfl) ?_
    refine ro_i (va_runV (As := [.int 1, .int (nI js)]) (rest := []) ⟨hx, hb, hml, hown, hts⟩ (k_fX12_wouldSend_1 l g cI cJ cB cZ cL mo m_a m_thrown m_taped m_at m_token m_place m_value m_word m_bad m_badPlace m_fault m_faultPlace m_will m_forgot m_x m_any m_bothSend m_meanCards m_bestSum m_fitMany m_fitFirst m_fitSecond vb vr vc vf fr rb js H.size hS_r1 (by omega) (by omega)) (cwV 2 hts (goodIn_app (g_4 (List.mem_cons_of_mem _ (List.mem_append_left _ (List.mem_of_getElem? (i := 3) rfl))) (List.mem_cons_of_mem _ (List.mem_append_left _ (List.mem_of_getElem? (i := 4) rfl))) (List.mem_cons_of_mem _ (List.mem_append_left _ (List.mem_of_getElem? (i := 5) rfl))) (List.mem_cons_of_mem _ (List.mem_append_left _ (List.mem_of_getElem? (i := 6) rfl))) (by decide +kernel)) (goodIn_sub (fun _ h => List.mem_cons_of_mem _ (List.mem_append_right _ (List.mem_append_right _ (List.mem_append_right _ (List.mem_append_left _ h))))) good_v_fX12_wouldSend_1)) rfl rfl rfl (by decide +kernel) ⟨Nat.le_of_ble_eq_true rfl, Nat.le_of_ble_eq_true rfl⟩) (pv_RO (q := (RX12, TX12, 56)) (ci := 11) (q0 := 0) (wc := [(mo, .inr (11, mG m_a m_thrown m_taped m_at m_token m_place m_value m_word m_bad m_badPlace m_fault m_faultPlace (-1) m_will m_forgot 0 m_x vb vr vc vf m_any m_bothSend m_meanCards m_bestSum m_fitMany m_fitFirst m_fitSecond)), ((m_a 23), .inl (cI, 2, .inl fr))]) hK hP [0, 1] rfl rfl rfl) rfl rfl hl.1 rfl (lv_room (Nat.le_of_ble_eq_true rfl)) dX12_yearOf_41 ⟨Nat.le_of_ble_eq_true rfl, Nat.le_of_ble_eq_true rfl⟩) hS hA hP (fun r16 u17 H locs hw18 hP hS => ?_)
    rcases hw18 with ⟨rfl, hw18_0⟩ | ⟨rfl, hw18_0⟩
    · refine lv_if_eq (tgt := 59) hx hb dX12_yearOf_44 (by decide) (fun c19 => absurd c19 (by decide)) (fun _ => ?_)
      refine lv_aload_n hx hb dX12_yearOf_47 rfl (lv_at hl 2 rfl) ?_
      refine lv_iload_n hx hb dX12_yearOf_48 rfl (lv_at hl 0 rfl) ?_
      refine ro_i (va_runV (As := [.int 1]) (rest := []) ⟨hx, hb, hml, hown, hts⟩ (k_fX12_isForgotten l g cI cJ cB cZ cL mo m_a m_thrown m_taped m_at m_token m_place m_value m_word m_bad m_badPlace m_fault m_faultPlace m_will m_forgot m_x m_any m_bothSend m_meanCards m_bestSum m_fitMany m_fitFirst m_fitSecond vb vr vc vf 1 H.size ) (cwV 1 hts (goodIn_app (g_4 (List.mem_cons_of_mem _ (List.mem_append_left _ (List.mem_of_getElem? (i := 7) rfl))) (List.mem_cons_of_mem _ (List.mem_append_left _ (List.mem_of_getElem? (i := 8) rfl))) (List.mem_cons_of_mem _ (List.mem_append_left _ (List.mem_of_getElem? (i := 9) rfl))) (List.mem_cons_of_mem _ (List.mem_append_left _ (List.mem_of_getElem? (i := 6) rfl))) (by decide +kernel)) (goodIn_sub (fun _ h => List.mem_cons_of_mem _ (List.mem_append_right _ (List.mem_append_right _ (List.mem_append_left _ h)))) good_v_fX12_isForgotten)) rfl rfl rfl (by decide +kernel) ⟨Nat.le_of_ble_eq_true rfl, Nat.le_of_ble_eq_true rfl⟩) (pv_RO (q := (RX12, TX12, 56)) (ci := 11) (q0 := 0) (wc := [(mo, .inr (11, mG m_a m_thrown m_taped m_at m_token m_place m_value m_word m_bad m_badPlace m_fault m_faultPlace (-1) m_will m_forgot 0 m_x vb vr vc vf m_any m_bothSend m_meanCards m_bestSum m_fitMany m_fitFirst m_fitSecond))]) hK hP [0] rfl rfl rfl) rfl rfl hl.1 rfl (lv_room (Nat.le_of_ble_eq_true rfl)) dX12_yearOf_49 ⟨Nat.le_of_ble_eq_true rfl, Nat.le_of_ble_eq_true rfl⟩) hS hA hP (fun r20 u21 H locs hw22 hP hS => ?_)
      subst hw22
      refine lv_if_ne (tgt := 59) hx hb dX12_yearOf_52 (by decide) (fun c23 => absurd c23 (by decide)) (fun _ => ?_)
      refine lv_iconst (v := 1) hx hb dX12_yearOf_55 (by decide) ?_
      refine lv_goto (tgt := 60) hx hb dX12_yearOf_56 (by decide) ?_
      refine lv_istore_n (lv' := [(3, .int 1), (2, .int 1), (0, .ref mo), (1, .int (nI js))]) hx hb dX12_yearOf_60 rfl hl (by decide) rfl (fun ls hl => ?_)
      refine lv_aload_n hx hb dX12_yearOf_61 rfl (lv_at hl 2 rfl) ?_
      refine va_get (D := g) (ci := 11) (v := .ref (m_a 26)) (C := RX12) (T := TX12) (N := 56) hx hb hts iX12 hown hK hP 0 rfl rfl 26 (by decide) (hts (.fieldLink RX12 62 "CardsAtYuleModel" "sent" "[I") (List.mem_cons_of_mem _ (List.mem_append_left _ (List.mem_of_getElem? (i := 10) rfl)))) (fun _ h9 => h9) rfl dX12_yearOf_62 ?_
      refine lv_iload_n hx hb dX12_yearOf_65 rfl (lv_at hl 1 rfl) ?_
      refine lv_iload_n hx hb dX12_yearOf_66 rfl (lv_at hl 0 rfl) ?_
      refine lv_if_eq (tgt := 74) hx hb dX12_yearOf_67 (by decide) (fun c24 => absurd c24 (by decide)) (fun _ => ?_)
      refine lv_iconst (v := 1) hx hb dX12_yearOf_70 (by decide) ?_
      refine lv_goto (tgt := 75) hx hb dX12_yearOf_71 (by decide) ?_
      refine va_iast (D := g) hx hb hK hP hD hS 4 0 rfl rfl (vc_in (by decide)) dX12_yearOf_75 (fun H locs hP hD hS => ?_)
      have hP : va_P g vwCl [(mo, .inr (11, mG m_a m_thrown m_taped m_at m_token m_place m_value m_word m_bad m_badPlace m_fault m_faultPlace (-1) m_will m_forgot 0 m_x vb vr vc vf m_any m_bothSend m_meanCards m_bestSum m_fitMany m_fitFirst m_fitSecond)), ((m_a 23), .inl (cI, 2, .inl fr)), ((m_a 24), .inl (cZ, 2, .inl fm)), ((m_a 25), .inl (cZ, 2, .inl fc)), ((m_a 26), .inl (cI, 2, .inl (upd (upd fs 0 1) 1 1))), ((m_a 27), .inl (cZ, 2, .inl (upd (upd fg 0 0) 1 0))), ((m_a 34), .inl (cZ, 2, .inl fk))] H := hP
      have hD : va_D A [(mo, .inr (11, mG m_a m_thrown m_taped m_at m_token m_place m_value m_word m_bad m_badPlace m_fault m_faultPlace (-1) m_will m_forgot 0 m_x vb vr vc vf m_any m_bothSend m_meanCards m_bestSum m_fitMany m_fitFirst m_fitSecond)), ((m_a 23), .inl (cI, 2, .inl fr)), ((m_a 24), .inl (cZ, 2, .inl fm)), ((m_a 25), .inl (cZ, 2, .inl fc)), ((m_a 26), .inl (cI, 2, .inl (upd (upd fs 0 1) 1 1))), ((m_a 27), .inl (cZ, 2, .inl (upd (upd fg 0 0) 1 0))), ((m_a 34), .inl (cZ, 2, .inl fk))] := hD
      refine lv_iinc (v := 2) (lv' := [(2, .int 2), (3, .int 1), (0, .ref mo), (1, .int (nI js))]) hx hb dX12_yearOf_76 hl (k := 1) rfl (by decide) (by decide) rfl (fun ls hl => ?_)
      refine lv_goto (tgt := 2) hx hb dX12_yearOf_79 (by decide) ?_
      refine lv_iload_n hx hb dX12_yearOf_2 rfl (lv_at hl 0 rfl) ?_
      refine lv_iconst (v := 2) hx hb dX12_yearOf_3 (by decide) ?_
      refine lv_icmp_ge (tgt := 82) hx hb dX12_yearOf_4 (by decide) (fun _ => ?_) (fun c25 => absurd c25 (by decide))
      refine lv_aload_n hx hb dX12_yearOf_82 rfl (lv_at hl 2 rfl) ?_
      refine va_get (D := g) (ci := 11) (v := .ref (m_a 34)) (C := RX12) (T := TX12) (N := 56) hx hb hts iX12 hown hK hP 0 rfl rfl 34 (by decide) (hts (.fieldLink RX12 74 "CardsAtYuleModel" "cameFirst" "[Z") (List.mem_cons_of_mem _ (List.mem_append_left _ (List.mem_of_getElem? (i := 11) rfl)))) (fun _ h9 => h9) rfl dX12_yearOf_83 ?_
      refine lv_astore_n (lv' := [(2, .ref (m_a 34)), (3, .int 1), (0, .ref mo), (1, .int (nI js))]) hx hb dX12_yearOf_86 rfl hl (by decide) rfl (fun ls hl => ?_)
      refine lv_iconst (v := 0) hx hb dX12_yearOf_87 (by decide) ?_
      refine lv_istore_n (lv' := [(3, .int 0), (2, .ref (m_a 34)), (0, .ref mo), (1, .int (nI js))]) hx hb dX12_yearOf_88 rfl hl (by decide) rfl (fun ls hl => ?_)
      refine lv_iload_n hx hb dX12_yearOf_89 rfl (lv_at hl 0 rfl) ?_
      refine lv_iconst (v := 2) hx hb dX12_yearOf_90 (by decide) ?_
      refine lv_icmp_ge (tgt := 131) hx hb dX12_yearOf_91 (by decide) (fun c26 => absurd c26 (by decide)) (fun _ => ?_)
      refine lv_aload_n hx hb dX12_yearOf_94 rfl (lv_at hl 1 rfl) ?_
      refine lv_iload_n hx hb dX12_yearOf_95 rfl (lv_at hl 0 rfl) ?_
      refine lv_aload_n hx hb dX12_yearOf_96 rfl (lv_at hl 2 rfl) ?_
      refine va_get (D := g) (ci := 11) (v := .ref (m_a 26)) (C := RX12) (T := TX12) (N := 56) hx hb hts iX12 hown hK hP 0 rfl rfl 26 (by decide) (hts (.fieldLink RX12 62 "CardsAtYuleModel" "sent" "[I") (List.mem_cons_of_mem _ (List.mem_append_left _ (List.mem_of_getElem? (i := 10) rfl)))) (fun _ h9 => h9) rfl dX12_yearOf_97 ?_
      refine lv_iconst (v := 1) hx hb dX12_yearOf_100 (by decide) ?_
      refine lv_iload_n hx hb dX12_yearOf_101 rfl (lv_at hl 0 rfl) ?_
      refine lv_isub hx hb dX12_yearOf_102 ?_
      refine lv_topi (nm_r (e' := 1) (by decide) ?_)
      refine va_iald (D := g) hx hb hK hP 4 0 rfl rfl (vc_in (by decide)) dX12_yearOf_103 ?_
      refine lv_topi (nm_r (e' := 1) rfl ?_)
      refine lv_iconst (v := 1) hx hb dX12_yearOf_104 (by decide) ?_
      refine lv_icmp_ne (tgt := 123) hx hb dX12_yearOf_105 (by decide) (fun c27 => absurd c27 (by decide)) (fun _ => ?_)
      refine lv_aload_n hx hb dX12_yearOf_108 rfl (lv_at hl 2 rfl) ?_
      refine va_get (D := g) (ci := 11) (v := .ref (m_a 25)) (C := RX12) (T := TX12) (N := 56) hx hb hts iX12 hown hK hP 0 rfl rfl 25 (by decide) (hts (.fieldLink RX12 59 "CardsAtYuleModel" "maycome" "[Z") (List.mem_cons_of_mem _ (List.mem_append_left _ (List.mem_of_getElem? (i := 12) rfl)))) (fun _ h9 => h9) rfl dX12_yearOf_109 ?_
      refine lv_iconst (v := 1) hx hb dX12_yearOf_112 (by decide) ?_
      refine lv_iload_n hx hb dX12_yearOf_113 rfl (lv_at hl 0 rfl) ?_
      refine lv_isub hx hb dX12_yearOf_114 ?_
      refine lv_topi (nm_r (e' := 1) (by decide) ?_)
      refine va_zald (D := g) hx hb hK hP 3 3 rfl rfl (vc_in (by decide)) dX12_yearOf_115 ?_
      refine lv_topi (nm_r (e' := 1) hS_c1 ?_)
      refine lv_if_eq (tgt := 123) hx hb dX12_yearOf_116 (by decide) (fun c28 => absurd c28 (by decide)) (fun _ => ?_)
      refine lv_iconst (v := 1) hx hb dX12_yearOf_119 (by decide) ?_
      refine lv_goto (tgt := 124) hx hb dX12_yearOf_120 (by decide) ?_
      refine va_zast (D := g) hx hb hK hP hD hS 6 3 rfl rfl (vc_in (by decide)) dX12_yearOf_124 (fun H locs hP hD hS => ?_)
      have hP : va_P g vwCl [(mo, .inr (11, mG m_a m_thrown m_taped m_at m_token m_place m_value m_word m_bad m_badPlace m_fault m_faultPlace (-1) m_will m_forgot 0 m_x vb vr vc vf m_any m_bothSend m_meanCards m_bestSum m_fitMany m_fitFirst m_fitSecond)), ((m_a 23), .inl (cI, 2, .inl fr)), ((m_a 24), .inl (cZ, 2, .inl fm)), ((m_a 25), .inl (cZ, 2, .inl fc)), ((m_a 26), .inl (cI, 2, .inl (upd (upd fs 0 1) 1 1))), ((m_a 27), .inl (cZ, 2, .inl (upd (upd fg 0 0) 1 0))), ((m_a 34), .inl (cZ, 2, .inl (upd fk 0 1)))] H := hP
      have hD : va_D A [(mo, .inr (11, mG m_a m_thrown m_taped m_at m_token m_place m_value m_word m_bad m_badPlace m_fault m_faultPlace (-1) m_will m_forgot 0 m_x vb vr vc vf m_any m_bothSend m_meanCards m_bestSum m_fitMany m_fitFirst m_fitSecond)), ((m_a 23), .inl (cI, 2, .inl fr)), ((m_a 24), .inl (cZ, 2, .inl fm)), ((m_a 25), .inl (cZ, 2, .inl fc)), ((m_a 26), .inl (cI, 2, .inl (upd (upd fs 0 1) 1 1))), ((m_a 27), .inl (cZ, 2, .inl (upd (upd fg 0 0) 1 0))), ((m_a 34), .inl (cZ, 2, .inl (upd fk 0 1)))] := hD
      refine lv_iinc (v := 1) (lv' := [(3, .int 1), (2, .ref (m_a 34)), (0, .ref mo), (1, .int (nI js))]) hx hb dX12_yearOf_125 hl (k := 0) rfl (by decide) (by decide) rfl (fun ls hl => ?_)
      refine lv_goto (tgt := 89) hx hb dX12_yearOf_128 (by decide) ?_
      refine lv_iload_n hx hb dX12_yearOf_89 rfl (lv_at hl 0 rfl) ?_
      refine lv_iconst (v := 2) hx hb dX12_yearOf_90 (by decide) ?_
      refine lv_icmp_ge (tgt := 131) hx hb dX12_yearOf_91 (by decide) (fun c29 => absurd c29 (by decide)) (fun _ => ?_)
      refine lv_aload_n hx hb dX12_yearOf_94 rfl (lv_at hl 1 rfl) ?_
      refine lv_iload_n hx hb dX12_yearOf_95 rfl (lv_at hl 0 rfl) ?_
      refine lv_aload_n hx hb dX12_yearOf_96 rfl (lv_at hl 2 rfl) ?_
      refine va_get (D := g) (ci := 11) (v := .ref (m_a 26)) (C := RX12) (T := TX12) (N := 56) hx hb hts iX12 hown hK hP 0 rfl rfl 26 (by decide) (hts (.fieldLink RX12 62 "CardsAtYuleModel" "sent" "[I") (List.mem_cons_of_mem _ (List.mem_append_left _ (List.mem_of_getElem? (i := 10) rfl)))) (fun _ h9 => h9) rfl dX12_yearOf_97 ?_
      refine lv_iconst (v := 1) hx hb dX12_yearOf_100 (by decide) ?_
      refine lv_iload_n hx hb dX12_yearOf_101 rfl (lv_at hl 0 rfl) ?_
      refine lv_isub hx hb dX12_yearOf_102 ?_
      refine lv_topi (nm_r (e' := 0) (by decide) ?_)
      refine va_iald (D := g) hx hb hK hP 4 0 rfl rfl (vc_in (by decide)) dX12_yearOf_103 ?_
      refine lv_topi (nm_r (e' := 1) rfl ?_)
      refine lv_iconst (v := 1) hx hb dX12_yearOf_104 (by decide) ?_
      refine lv_icmp_ne (tgt := 123) hx hb dX12_yearOf_105 (by decide) (fun c30 => absurd c30 (by decide)) (fun _ => ?_)
      refine lv_aload_n hx hb dX12_yearOf_108 rfl (lv_at hl 2 rfl) ?_
      refine va_get (D := g) (ci := 11) (v := .ref (m_a 25)) (C := RX12) (T := TX12) (N := 56) hx hb hts iX12 hown hK hP 0 rfl rfl 25 (by decide) (hts (.fieldLink RX12 59 "CardsAtYuleModel" "maycome" "[Z") (List.mem_cons_of_mem _ (List.mem_append_left _ (List.mem_of_getElem? (i := 12) rfl)))) (fun _ h9 => h9) rfl dX12_yearOf_109 ?_
      refine lv_iconst (v := 1) hx hb dX12_yearOf_112 (by decide) ?_
      refine lv_iload_n hx hb dX12_yearOf_113 rfl (lv_at hl 0 rfl) ?_
      refine lv_isub hx hb dX12_yearOf_114 ?_
      refine lv_topi (nm_r (e' := 0) (by decide) ?_)
      refine va_zald (D := g) hx hb hK hP 3 3 rfl rfl (vc_in (by decide)) dX12_yearOf_115 ?_
      refine lv_topi (nm_r (e' := 1) hS_c0 ?_)
      refine lv_if_eq (tgt := 123) hx hb dX12_yearOf_116 (by decide) (fun c31 => absurd c31 (by decide)) (fun _ => ?_)
      refine lv_iconst (v := 1) hx hb dX12_yearOf_119 (by decide) ?_
      refine lv_goto (tgt := 124) hx hb dX12_yearOf_120 (by decide) ?_
      refine va_zast (D := g) hx hb hK hP hD hS 6 3 rfl rfl (vc_in (by decide)) dX12_yearOf_124 (fun H locs hP hD hS => ?_)
      have hP : va_P g vwCl [(mo, .inr (11, mG m_a m_thrown m_taped m_at m_token m_place m_value m_word m_bad m_badPlace m_fault m_faultPlace (-1) m_will m_forgot 0 m_x vb vr vc vf m_any m_bothSend m_meanCards m_bestSum m_fitMany m_fitFirst m_fitSecond)), ((m_a 23), .inl (cI, 2, .inl fr)), ((m_a 24), .inl (cZ, 2, .inl fm)), ((m_a 25), .inl (cZ, 2, .inl fc)), ((m_a 26), .inl (cI, 2, .inl (upd (upd fs 0 1) 1 1))), ((m_a 27), .inl (cZ, 2, .inl (upd (upd fg 0 0) 1 0))), ((m_a 34), .inl (cZ, 2, .inl (upd (upd fk 0 1) 1 1)))] H := hP
      have hD : va_D A [(mo, .inr (11, mG m_a m_thrown m_taped m_at m_token m_place m_value m_word m_bad m_badPlace m_fault m_faultPlace (-1) m_will m_forgot 0 m_x vb vr vc vf m_any m_bothSend m_meanCards m_bestSum m_fitMany m_fitFirst m_fitSecond)), ((m_a 23), .inl (cI, 2, .inl fr)), ((m_a 24), .inl (cZ, 2, .inl fm)), ((m_a 25), .inl (cZ, 2, .inl fc)), ((m_a 26), .inl (cI, 2, .inl (upd (upd fs 0 1) 1 1))), ((m_a 27), .inl (cZ, 2, .inl (upd (upd fg 0 0) 1 0))), ((m_a 34), .inl (cZ, 2, .inl (upd (upd fk 0 1) 1 1)))] := hD
      refine lv_iinc (v := 2) (lv' := [(3, .int 2), (2, .ref (m_a 34)), (0, .ref mo), (1, .int (nI js))]) hx hb dX12_yearOf_125 hl (k := 0) rfl (by decide) (by decide) rfl (fun ls hl => ?_)
      refine lv_goto (tgt := 89) hx hb dX12_yearOf_128 (by decide) ?_
      refine lv_iload_n hx hb dX12_yearOf_89 rfl (lv_at hl 0 rfl) ?_
      refine lv_iconst (v := 2) hx hb dX12_yearOf_90 (by decide) ?_
      refine lv_icmp_ge (tgt := 131) hx hb dX12_yearOf_91 (by decide) (fun _ => ?_) (fun c32 => absurd c32 (by decide))
      refine lv_iconst (v := 0) hx hb dX12_yearOf_131 (by decide) ?_
      refine lv_istore_n (lv' := [(3, .int 0), (2, .ref (m_a 34)), (0, .ref mo), (1, .int (nI js))]) hx hb dX12_yearOf_132 rfl hl (by decide) rfl (fun ls hl => ?_)
      refine lv_iload_n hx hb dX12_yearOf_133 rfl (lv_at hl 0 rfl) ?_
      refine lv_iconst (v := 2) hx hb dX12_yearOf_134 (by decide) ?_
      refine lv_icmp_ge (tgt := 202) hx hb dX12_yearOf_135 (by decide) (fun c33 => absurd c33 (by decide)) (fun _ => ?_)
      refine lv_iload_n hx hb dX12_yearOf_138 rfl (lv_at hl 0 rfl) ?_
      refine lv_aload_n hx hb dX12_yearOf_139 rfl (lv_at hl 2 rfl) ?_
      refine va_get (D := g) (ci := 11) (v := .int (-1)) (C := RX12) (T := TX12) (N := 56) hx hb hts iX12 hown hK hP 0 rfl rfl 28 (by decide) (hts (.fieldLink RX12 68 "CardsAtYuleModel" "willing" "I") (List.mem_cons_of_mem _ (List.mem_append_left _ (List.mem_of_getElem? (i := 1) rfl)))) (fun _ h9 => h9) rfl dX12_yearOf_140 ?_
      refine lv_icmp_eq (tgt := 196) hx hb dX12_yearOf_143 (by decide) (fun c34 => absurd c34 (by decide)) (fun _ => ?_)
      refine lv_aload_n hx hb dX12_yearOf_146 rfl (lv_at hl 2 rfl) ?_
      refine va_get (D := g) (ci := 11) (v := .ref (m_a 24)) (C := RX12) (T := TX12) (N := 56) hx hb hts iX12 hown hK hP 0 rfl rfl 24 (by decide) (hts (.fieldLink RX12 56 "CardsAtYuleModel" "maySend" "[Z") (List.mem_cons_of_mem _ (List.mem_append_left _ (List.mem_of_getElem? (i := 2) rfl)))) (fun _ h9 => h9) rfl dX12_yearOf_147 ?_
      refine lv_iload_n hx hb dX12_yearOf_150 rfl (lv_at hl 0 rfl) ?_
      refine va_zald (D := g) hx hb hK hP 2 3 rfl rfl (vc_in (by decide)) dX12_yearOf_151 ?_
      refine lv_topi (nm_r (e' := 1) hS_m0 ?_)
      refine lv_if_eq (tgt := 196) hx hb dX12_yearOf_152 (by decide) (fun c35 => absurd c35 (by decide)) (fun _ => ?_)
      refine lv_aload_n hx hb dX12_yearOf_155 rfl (lv_at hl 2 rfl) ?_
      refine va_get (D := g) (ci := 11) (v := .ref (m_a 26)) (C := RX12) (T := TX12) (N := 56) hx hb hts iX12 hown hK hP 0 rfl rfl 26 (by decide) (hts (.fieldLink RX12 62 "CardsAtYuleModel" "sent" "[I") (List.mem_cons_of_mem _ (List.mem_append_left _ (List.mem_of_getElem? (i := 10) rfl)))) (fun _ h9 => h9) rfl dX12_yearOf_156 ?_
      refine lv_iload_n hx hb dX12_yearOf_159 rfl (lv_at hl 0 rfl) ?_
      refine va_iald (D := g) hx hb hK hP 4 0 rfl rfl (vc_in (by decide)) dX12_yearOf_160 ?_
      refine lv_topi (nm_r (e' := 1) rfl ?_)
      refine lv_if_ne (tgt := 196) hx hb dX12_yearOf_161 (by decide) (fun _ => ?_) (fun c36 => absurd c36 (by decide))
      refine lv_iinc (v := 1) (lv' := [(3, .int 1), (2, .ref (m_a 34)), (0, .ref mo), (1, .int (nI js))]) hx hb dX12_yearOf_196 hl (k := 0) rfl (by decide) (by decide) rfl (fun ls hl => ?_)
      refine lv_goto (tgt := 133) hx hb dX12_yearOf_199 (by decide) ?_
      refine lv_iload_n hx hb dX12_yearOf_133 rfl (lv_at hl 0 rfl) ?_
      refine lv_iconst (v := 2) hx hb dX12_yearOf_134 (by decide) ?_
      refine lv_icmp_ge (tgt := 202) hx hb dX12_yearOf_135 (by decide) (fun c37 => absurd c37 (by decide)) (fun _ => ?_)
      refine lv_iload_n hx hb dX12_yearOf_138 rfl (lv_at hl 0 rfl) ?_
      refine lv_aload_n hx hb dX12_yearOf_139 rfl (lv_at hl 2 rfl) ?_
      refine va_get (D := g) (ci := 11) (v := .int (-1)) (C := RX12) (T := TX12) (N := 56) hx hb hts iX12 hown hK hP 0 rfl rfl 28 (by decide) (hts (.fieldLink RX12 68 "CardsAtYuleModel" "willing" "I") (List.mem_cons_of_mem _ (List.mem_append_left _ (List.mem_of_getElem? (i := 1) rfl)))) (fun _ h9 => h9) rfl dX12_yearOf_140 ?_
      refine lv_icmp_eq (tgt := 196) hx hb dX12_yearOf_143 (by decide) (fun c38 => absurd c38 (by decide)) (fun _ => ?_)
      refine lv_aload_n hx hb dX12_yearOf_146 rfl (lv_at hl 2 rfl) ?_
      refine va_get (D := g) (ci := 11) (v := .ref (m_a 24)) (C := RX12) (T := TX12) (N := 56) hx hb hts iX12 hown hK hP 0 rfl rfl 24 (by decide) (hts (.fieldLink RX12 56 "CardsAtYuleModel" "maySend" "[Z") (List.mem_cons_of_mem _ (List.mem_append_left _ (List.mem_of_getElem? (i := 2) rfl)))) (fun _ h9 => h9) rfl dX12_yearOf_147 ?_
      refine lv_iload_n hx hb dX12_yearOf_150 rfl (lv_at hl 0 rfl) ?_
      refine va_zald (D := g) hx hb hK hP 2 3 rfl rfl (vc_in (by decide)) dX12_yearOf_151 ?_
      refine lv_topi (nm_r (e' := 1) hS_m1 ?_)
      refine lv_if_eq (tgt := 196) hx hb dX12_yearOf_152 (by decide) (fun c39 => absurd c39 (by decide)) (fun _ => ?_)
      refine lv_aload_n hx hb dX12_yearOf_155 rfl (lv_at hl 2 rfl) ?_
      refine va_get (D := g) (ci := 11) (v := .ref (m_a 26)) (C := RX12) (T := TX12) (N := 56) hx hb hts iX12 hown hK hP 0 rfl rfl 26 (by decide) (hts (.fieldLink RX12 62 "CardsAtYuleModel" "sent" "[I") (List.mem_cons_of_mem _ (List.mem_append_left _ (List.mem_of_getElem? (i := 10) rfl)))) (fun _ h9 => h9) rfl dX12_yearOf_156 ?_
      refine lv_iload_n hx hb dX12_yearOf_159 rfl (lv_at hl 0 rfl) ?_
      refine va_iald (D := g) hx hb hK hP 4 0 rfl rfl (vc_in (by decide)) dX12_yearOf_160 ?_
      refine lv_topi (nm_r (e' := 1) rfl ?_)
      refine lv_if_ne (tgt := 196) hx hb dX12_yearOf_161 (by decide) (fun _ => ?_) (fun c40 => absurd c40 (by decide))
      refine lv_iinc (v := 2) (lv' := [(3, .int 2), (2, .ref (m_a 34)), (0, .ref mo), (1, .int (nI js))]) hx hb dX12_yearOf_196 hl (k := 0) rfl (by decide) (by decide) rfl (fun ls hl => ?_)
      refine lv_goto (tgt := 133) hx hb dX12_yearOf_199 (by decide) ?_
      refine lv_iload_n hx hb dX12_yearOf_133 rfl (lv_at hl 0 rfl) ?_
      refine lv_iconst (v := 2) hx hb dX12_yearOf_134 (by decide) ?_
      refine lv_icmp_ge (tgt := 202) hx hb dX12_yearOf_135 (by decide) (fun _ => ?_) (fun c41 => absurd c41 (by decide))
      refine lv_iload_n hx hb dX12_yearOf_202 rfl (lv_at hl 3 rfl) ?_
      refine lv_iconst (v := 5) hx hb dX12_yearOf_203 (by decide) ?_
      refine lv_iand hx hb dX12_yearOf_204 ?_
      refine lv_iconst (v := 1) hx hb dX12_yearOf_205 (by decide) ?_
      refine lv_ishl hx hb dX12_yearOf_206 ?_
      refine lv_istore_n (lv' := [(3, .int (((nI js) &&& 5) <<< (1 &&& (31 : Int32)))), (2, .ref (m_a 34)), (0, .ref mo), (1, .int (nI js))]) hx hb dX12_yearOf_207 rfl hl (by decide) rfl (fun ls hl => ?_)
      refine lv_iconst (v := 0) hx hb dX12_yearOf_208 (by decide) ?_
      refine lv_istore (lv' := [(4, .int 0), (3, .int (((nI js) &&& 5) <<< (1 &&& (31 : Int32)))), (2, .ref (m_a 34)), (0, .ref mo), (1, .int (nI js))]) hx hb dX12_yearOf_209 hl (by decide) rfl (fun ls hl => ?_)
      refine lv_iload hx hb dX12_yearOf_211 (lv_at hl 0 rfl) ?_
      refine lv_iconst (v := 2) hx hb dX12_yearOf_213 (by decide) ?_
      refine lv_icmp_ge (tgt := 282) hx hb dX12_yearOf_214 (by decide) (fun c42 => absurd c42 (by decide)) (fun _ => ?_)
      refine lv_aload_n hx hb dX12_yearOf_217 rfl (lv_at hl 3 rfl) ?_
      refine va_get (D := g) (ci := 11) (v := .ref (m_a 27)) (C := RX12) (T := TX12) (N := 56) hx hb hts iX12 hown hK hP 0 rfl rfl 27 (by decide) (hts (.fieldLink RX12 65 "CardsAtYuleModel" "gets" "[Z") (List.mem_cons_of_mem _ (List.mem_append_left _ (List.mem_of_getElem? (i := 0) rfl)))) (fun _ h9 => h9) rfl dX12_yearOf_218 ?_
      refine lv_iload hx hb dX12_yearOf_221 (lv_at hl 0 rfl) ?_
      refine lv_aload_n hx hb dX12_yearOf_223 rfl (lv_at hl 3 rfl) ?_
      refine va_get (D := g) (ci := 11) (v := .ref (m_a 26)) (C := RX12) (T := TX12) (N := 56) hx hb hts iX12 hown hK hP 0 rfl rfl 26 (by decide) (hts (.fieldLink RX12 62 "CardsAtYuleModel" "sent" "[I") (List.mem_cons_of_mem _ (List.mem_append_left _ (List.mem_of_getElem? (i := 10) rfl)))) (fun _ h9 => h9) rfl dX12_yearOf_224 ?_
      refine lv_iconst (v := 1) hx hb dX12_yearOf_227 (by decide) ?_
      refine lv_iload hx hb dX12_yearOf_228 (lv_at hl 0 rfl) ?_
      refine lv_isub hx hb dX12_yearOf_230 ?_
      refine lv_topi (nm_r (e' := 1) (by decide) ?_)
      refine va_iald (D := g) hx hb hK hP 4 0 rfl rfl (vc_in (by decide)) dX12_yearOf_231 ?_
      refine lv_topi (nm_r (e' := 1) rfl ?_)
      refine lv_if_le (tgt := 251) hx hb dX12_yearOf_232 (by decide) (fun c43 => absurd c43 (by decide)) (fun _ => ?_)
      refine lv_aload_n hx hb dX12_yearOf_235 rfl (lv_at hl 3 rfl) ?_
      refine va_get (D := g) (ci := 11) (v := .ref (m_a 25)) (C := RX12) (T := TX12) (N := 56) hx hb hts iX12 hown hK hP 0 rfl rfl 25 (by decide) (hts (.fieldLink RX12 59 "CardsAtYuleModel" "maycome" "[Z") (List.mem_cons_of_mem _ (List.mem_append_left _ (List.mem_of_getElem? (i := 12) rfl)))) (fun _ h9 => h9) rfl dX12_yearOf_236 ?_
      refine lv_iconst (v := 1) hx hb dX12_yearOf_239 (by decide) ?_
      refine lv_iload hx hb dX12_yearOf_240 (lv_at hl 0 rfl) ?_
      refine lv_isub hx hb dX12_yearOf_242 ?_
      refine lv_topi (nm_r (e' := 1) (by decide) ?_)
      refine va_zald (D := g) hx hb hK hP 3 3 rfl rfl (vc_in (by decide)) dX12_yearOf_243 ?_
      refine lv_topi (nm_r (e' := 1) hS_c1 ?_)
      refine lv_if_eq (tgt := 251) hx hb dX12_yearOf_244 (by decide) (fun c44 => absurd c44 (by decide)) (fun _ => ?_)
      refine lv_iconst (v := 1) hx hb dX12_yearOf_247 (by decide) ?_
      refine lv_goto (tgt := 252) hx hb dX12_yearOf_248 (by decide) ?_
      refine va_zast (D := g) hx hb hK hP hD hS 5 3 rfl rfl (vc_in (by decide)) dX12_yearOf_252 (fun H locs hP hD hS => ?_)
      have hP : va_P g vwCl [(mo, .inr (11, mG m_a m_thrown m_taped m_at m_token m_place m_value m_word m_bad m_badPlace m_fault m_faultPlace (-1) m_will m_forgot 0 m_x vb vr vc vf m_any m_bothSend m_meanCards m_bestSum m_fitMany m_fitFirst m_fitSecond)), ((m_a 23), .inl (cI, 2, .inl fr)), ((m_a 24), .inl (cZ, 2, .inl fm)), ((m_a 25), .inl (cZ, 2, .inl fc)), ((m_a 26), .inl (cI, 2, .inl (upd (upd fs 0 1) 1 1))), ((m_a 27), .inl (cZ, 2, .inl (upd (upd (upd fg 0 0) 1 0) 0 1))), ((m_a 34), .inl (cZ, 2, .inl (upd (upd fk 0 1) 1 1)))] H := hP
      have hD : va_D A [(mo, .inr (11, mG m_a m_thrown m_taped m_at m_token m_place m_value m_word m_bad m_badPlace m_fault m_faultPlace (-1) m_will m_forgot 0 m_x vb vr vc vf m_any m_bothSend m_meanCards m_bestSum m_fitMany m_fitFirst m_fitSecond)), ((m_a 23), .inl (cI, 2, .inl fr)), ((m_a 24), .inl (cZ, 2, .inl fm)), ((m_a 25), .inl (cZ, 2, .inl fc)), ((m_a 26), .inl (cI, 2, .inl (upd (upd fs 0 1) 1 1))), ((m_a 27), .inl (cZ, 2, .inl (upd (upd (upd fg 0 0) 1 0) 0 1))), ((m_a 34), .inl (cZ, 2, .inl (upd (upd fk 0 1) 1 1)))] := hD
      refine lv_iload_n hx hb dX12_yearOf_253 rfl (lv_at hl 1 rfl) ?_
      refine lv_aload_n hx hb dX12_yearOf_254 rfl (lv_at hl 3 rfl) ?_
      refine va_get (D := g) (ci := 11) (v := .ref (m_a 27)) (C := RX12) (T := TX12) (N := 56) hx hb hts iX12 hown hK hP 0 rfl rfl 27 (by decide) (hts (.fieldLink RX12 65 "CardsAtYuleModel" "gets" "[Z") (List.mem_cons_of_mem _ (List.mem_append_left _ (List.mem_of_getElem? (i := 0) rfl)))) (fun _ h9 => h9) rfl dX12_yearOf_255 ?_
      refine lv_iload hx hb dX12_yearOf_258 (lv_at hl 0 rfl) ?_
      refine va_zald (D := g) hx hb hK hP 5 3 rfl rfl (vc_in (by decide)) dX12_yearOf_260 ?_
      refine lv_topi (nm_r (e' := 1) rfl ?_)
      refine lv_if_eq (tgt := 273) hx hb dX12_yearOf_261 (by decide) (fun c45 => absurd c45 (by decide)) (fun _ => ?_)
      refine lv_iconst (v := 1) hx hb dX12_yearOf_264 (by decide) ?_
      refine lv_iconst (v := 2) hx hb dX12_yearOf_265 (by decide) ?_
      refine lv_iload hx hb dX12_yearOf_266 (lv_at hl 0 rfl) ?_
      refine lv_imul hx hb dX12_yearOf_268 ?_
      refine lv_topi (nm_r (e' := 0) (by decide) ?_)
      refine lv_ishl hx hb dX12_yearOf_269 ?_
      refine lv_topi (nm_r (e' := 1) (by decide) ?_)
      refine lv_goto (tgt := 274) hx hb dX12_yearOf_270 (by decide) ?_
      refine lv_ior hx hb dX12_yearOf_274 ?_
      refine lv_istore_n (lv' := [(3, .int ((((nI js) &&& 5) <<< (1 &&& (31 : Int32))) ||| 1)), (4, .int 0), (2, .ref (m_a 34)), (0, .ref mo), (1, .int (nI js))]) hx hb dX12_yearOf_275 rfl hl (by decide) rfl (fun ls hl => ?_)
      refine lv_iinc (v := 1) (lv' := [(4, .int 1), (3, .int ((((nI js) &&& 5) <<< (1 &&& (31 : Int32))) ||| 1)), (2, .ref (m_a 34)), (0, .ref mo), (1, .int (nI js))]) hx hb dX12_yearOf_276 hl (k := 1) rfl (by decide) (by decide) rfl (fun ls hl => ?_)
      refine lv_goto (tgt := 211) hx hb dX12_yearOf_279 (by decide) ?_
      refine lv_iload hx hb dX12_yearOf_211 (lv_at hl 0 rfl) ?_
      refine lv_iconst (v := 2) hx hb dX12_yearOf_213 (by decide) ?_
      refine lv_icmp_ge (tgt := 282) hx hb dX12_yearOf_214 (by decide) (fun c46 => absurd c46 (by decide)) (fun _ => ?_)
      refine lv_aload_n hx hb dX12_yearOf_217 rfl (lv_at hl 3 rfl) ?_
      refine va_get (D := g) (ci := 11) (v := .ref (m_a 27)) (C := RX12) (T := TX12) (N := 56) hx hb hts iX12 hown hK hP 0 rfl rfl 27 (by decide) (hts (.fieldLink RX12 65 "CardsAtYuleModel" "gets" "[Z") (List.mem_cons_of_mem _ (List.mem_append_left _ (List.mem_of_getElem? (i := 0) rfl)))) (fun _ h9 => h9) rfl dX12_yearOf_218 ?_
      refine lv_iload hx hb dX12_yearOf_221 (lv_at hl 0 rfl) ?_
      refine lv_aload_n hx hb dX12_yearOf_223 rfl (lv_at hl 3 rfl) ?_
      refine va_get (D := g) (ci := 11) (v := .ref (m_a 26)) (C := RX12) (T := TX12) (N := 56) hx hb hts iX12 hown hK hP 0 rfl rfl 26 (by decide) (hts (.fieldLink RX12 62 "CardsAtYuleModel" "sent" "[I") (List.mem_cons_of_mem _ (List.mem_append_left _ (List.mem_of_getElem? (i := 10) rfl)))) (fun _ h9 => h9) rfl dX12_yearOf_224 ?_
      refine lv_iconst (v := 1) hx hb dX12_yearOf_227 (by decide) ?_
      refine lv_iload hx hb dX12_yearOf_228 (lv_at hl 0 rfl) ?_
      refine lv_isub hx hb dX12_yearOf_230 ?_
      refine lv_topi (nm_r (e' := 0) (by decide) ?_)
      refine va_iald (D := g) hx hb hK hP 4 0 rfl rfl (vc_in (by decide)) dX12_yearOf_231 ?_
      refine lv_topi (nm_r (e' := 1) rfl ?_)
      refine lv_if_le (tgt := 251) hx hb dX12_yearOf_232 (by decide) (fun c47 => absurd c47 (by decide)) (fun _ => ?_)
      refine lv_aload_n hx hb dX12_yearOf_235 rfl (lv_at hl 3 rfl) ?_
      refine va_get (D := g) (ci := 11) (v := .ref (m_a 25)) (C := RX12) (T := TX12) (N := 56) hx hb hts iX12 hown hK hP 0 rfl rfl 25 (by decide) (hts (.fieldLink RX12 59 "CardsAtYuleModel" "maycome" "[Z") (List.mem_cons_of_mem _ (List.mem_append_left _ (List.mem_of_getElem? (i := 12) rfl)))) (fun _ h9 => h9) rfl dX12_yearOf_236 ?_
      refine lv_iconst (v := 1) hx hb dX12_yearOf_239 (by decide) ?_
      refine lv_iload hx hb dX12_yearOf_240 (lv_at hl 0 rfl) ?_
      refine lv_isub hx hb dX12_yearOf_242 ?_
      refine lv_topi (nm_r (e' := 0) (by decide) ?_)
      refine va_zald (D := g) hx hb hK hP 3 3 rfl rfl (vc_in (by decide)) dX12_yearOf_243 ?_
      refine lv_topi (nm_r (e' := 1) hS_c0 ?_)
      refine lv_if_eq (tgt := 251) hx hb dX12_yearOf_244 (by decide) (fun c48 => absurd c48 (by decide)) (fun _ => ?_)
      refine lv_iconst (v := 1) hx hb dX12_yearOf_247 (by decide) ?_
      refine lv_goto (tgt := 252) hx hb dX12_yearOf_248 (by decide) ?_
      refine va_zast (D := g) hx hb hK hP hD hS 5 3 rfl rfl (vc_in (by decide)) dX12_yearOf_252 (fun H locs hP hD hS => ?_)
      have hP : va_P g vwCl [(mo, .inr (11, mG m_a m_thrown m_taped m_at m_token m_place m_value m_word m_bad m_badPlace m_fault m_faultPlace (-1) m_will m_forgot 0 m_x vb vr vc vf m_any m_bothSend m_meanCards m_bestSum m_fitMany m_fitFirst m_fitSecond)), ((m_a 23), .inl (cI, 2, .inl fr)), ((m_a 24), .inl (cZ, 2, .inl fm)), ((m_a 25), .inl (cZ, 2, .inl fc)), ((m_a 26), .inl (cI, 2, .inl (upd (upd fs 0 1) 1 1))), ((m_a 27), .inl (cZ, 2, .inl (upd (upd (upd (upd fg 0 0) 1 0) 0 1) 1 1))), ((m_a 34), .inl (cZ, 2, .inl (upd (upd fk 0 1) 1 1)))] H := hP
      have hD : va_D A [(mo, .inr (11, mG m_a m_thrown m_taped m_at m_token m_place m_value m_word m_bad m_badPlace m_fault m_faultPlace (-1) m_will m_forgot 0 m_x vb vr vc vf m_any m_bothSend m_meanCards m_bestSum m_fitMany m_fitFirst m_fitSecond)), ((m_a 23), .inl (cI, 2, .inl fr)), ((m_a 24), .inl (cZ, 2, .inl fm)), ((m_a 25), .inl (cZ, 2, .inl fc)), ((m_a 26), .inl (cI, 2, .inl (upd (upd fs 0 1) 1 1))), ((m_a 27), .inl (cZ, 2, .inl (upd (upd (upd (upd fg 0 0) 1 0) 0 1) 1 1))), ((m_a 34), .inl (cZ, 2, .inl (upd (upd fk 0 1) 1 1)))] := hD
      refine lv_iload_n hx hb dX12_yearOf_253 rfl (lv_at hl 1 rfl) ?_
      refine lv_aload_n hx hb dX12_yearOf_254 rfl (lv_at hl 3 rfl) ?_
      refine va_get (D := g) (ci := 11) (v := .ref (m_a 27)) (C := RX12) (T := TX12) (N := 56) hx hb hts iX12 hown hK hP 0 rfl rfl 27 (by decide) (hts (.fieldLink RX12 65 "CardsAtYuleModel" "gets" "[Z") (List.mem_cons_of_mem _ (List.mem_append_left _ (List.mem_of_getElem? (i := 0) rfl)))) (fun _ h9 => h9) rfl dX12_yearOf_255 ?_
      refine lv_iload hx hb dX12_yearOf_258 (lv_at hl 0 rfl) ?_
      refine va_zald (D := g) hx hb hK hP 5 3 rfl rfl (vc_in (by decide)) dX12_yearOf_260 ?_
      refine lv_topi (nm_r (e' := 1) rfl ?_)
      refine lv_if_eq (tgt := 273) hx hb dX12_yearOf_261 (by decide) (fun c49 => absurd c49 (by decide)) (fun _ => ?_)
      refine lv_iconst (v := 1) hx hb dX12_yearOf_264 (by decide) ?_
      refine lv_iconst (v := 2) hx hb dX12_yearOf_265 (by decide) ?_
      refine lv_iload hx hb dX12_yearOf_266 (lv_at hl 0 rfl) ?_
      refine lv_imul hx hb dX12_yearOf_268 ?_
      refine lv_topi (nm_r (e' := 2) (by decide) ?_)
      refine lv_ishl hx hb dX12_yearOf_269 ?_
      refine lv_topi (nm_r (e' := 4) (by decide) ?_)
      refine lv_goto (tgt := 274) hx hb dX12_yearOf_270 (by decide) ?_
      refine lv_ior hx hb dX12_yearOf_274 ?_
      refine lv_istore_n (lv' := [(3, .int (((((nI js) &&& 5) <<< (1 &&& (31 : Int32))) ||| 1) ||| 4)), (4, .int 1), (2, .ref (m_a 34)), (0, .ref mo), (1, .int (nI js))]) hx hb dX12_yearOf_275 rfl hl (by decide) rfl (fun ls hl => ?_)
      refine lv_iinc (v := 2) (lv' := [(4, .int 2), (3, .int (((((nI js) &&& 5) <<< (1 &&& (31 : Int32))) ||| 1) ||| 4)), (2, .ref (m_a 34)), (0, .ref mo), (1, .int (nI js))]) hx hb dX12_yearOf_276 hl (k := 1) rfl (by decide) (by decide) rfl (fun ls hl => ?_)
      refine lv_goto (tgt := 211) hx hb dX12_yearOf_279 (by decide) ?_
      refine lv_iload hx hb dX12_yearOf_211 (lv_at hl 0 rfl) ?_
      refine lv_iconst (v := 2) hx hb dX12_yearOf_213 (by decide) ?_
      refine lv_icmp_ge (tgt := 282) hx hb dX12_yearOf_214 (by decide) (fun _ => ?_) (fun c50 => absurd c50 (by decide))
      refine lv_iload_n hx hb dX12_yearOf_282 rfl (lv_at hl 1 rfl) ?_
      have hA9 : sA ra rb js = 1 := by unfold sA; rw [if_pos (by omega)]
      have hB9 : zB ra rb js = 1 := by unfold zB; rw [if_pos (by omega)]
      have hP9 := hP.sub (ws' := [(mo, .inr (11, mG m_a m_thrown m_taped m_at m_token m_place m_value m_word m_bad m_badPlace m_fault m_faultPlace (-1) m_will m_forgot 0 m_x vb vr vc vf m_any m_bothSend m_meanCards m_bestSum m_fitMany m_fitFirst m_fitSecond)), ((m_a 23), .inl (cI, 2, .inl fr)), ((m_a 24), .inl (cZ, 2, .inl fm)), ((m_a 25), .inl (cZ, 2, .inl fc)), ((m_a 26), .inl (cI, 2, .inl (upd (upd fs 0 1) 1 1))), ((m_a 27), .inl (cZ, 2, .inl (upd (upd (upd (upd fg 0 0) 1 0) 0 1) 1 1))), ((m_a 34), .inl (cZ, 2, .inl (upd (upd fk 0 1) 1 1)))]) [0, 1, 2, 3, 4, 5, 6] rfl
      have hD9 := hD.sub (ws' := [(mo, .inr (11, mG m_a m_thrown m_taped m_at m_token m_place m_value m_word m_bad m_badPlace m_fault m_faultPlace (-1) m_will m_forgot 0 m_x vb vr vc vf m_any m_bothSend m_meanCards m_bestSum m_fitMany m_fitFirst m_fitSecond)), ((m_a 23), .inl (cI, 2, .inl fr)), ((m_a 24), .inl (cZ, 2, .inl fm)), ((m_a 25), .inl (cZ, 2, .inl fc)), ((m_a 26), .inl (cI, 2, .inl (upd (upd fs 0 1) 1 1))), ((m_a 27), .inl (cZ, 2, .inl (upd (upd (upd (upd fg 0 0) 1 0) 0 1) 1 1))), ((m_a 34), .inl (cZ, 2, .inl (upd (upd fk 0 1) 1 1)))]) [0, 1, 2, 3, 4, 5, 6] (by decide) rfl
      exact W.iret (v := (((((nI js) &&& 5) <<< (1 &&& (31 : Int32))) ||| 1) ||| 4)) hx hb hr (fun t ht hW => ⟨⟨(((((nI js) &&& 5) <<< (1 &&& (31 : Int32))) ||| 1) ||| 4), ((upd (upd fs 0 1) 1 1), (upd (upd (upd (upd fg 0 0) 1 0) 0 1) 1 1), (upd (upd fk 0 1) 1 1)), rfl, ⟨th_nx hjs (u := 1) (v := 1) hB9 hA9, 1, 1, rfl, rfl, by decide, by decide, by unfold sc; rw [hA9, hB9]; rfl⟩, by rw [ht]; exact hP9, va_K.moved hW.alike hK, hD9⟩, hS.F ht⟩) hS.2.2 dX12_yearOf_283
    · refine lv_if_eq (tgt := 59) hx hb dX12_yearOf_44 (by decide) (fun _ => ?_) (fun c51 => absurd c51 (by decide))
      refine lv_iconst (v := 0) hx hb dX12_yearOf_59 (by decide) ?_
      refine lv_istore_n (lv' := [(3, .int 0), (2, .int 1), (0, .ref mo), (1, .int (nI js))]) hx hb dX12_yearOf_60 rfl hl (by decide) rfl (fun ls hl => ?_)
      refine lv_aload_n hx hb dX12_yearOf_61 rfl (lv_at hl 2 rfl) ?_
      refine va_get (D := g) (ci := 11) (v := .ref (m_a 26)) (C := RX12) (T := TX12) (N := 56) hx hb hts iX12 hown hK hP 0 rfl rfl 26 (by decide) (hts (.fieldLink RX12 62 "CardsAtYuleModel" "sent" "[I") (List.mem_cons_of_mem _ (List.mem_append_left _ (List.mem_of_getElem? (i := 10) rfl)))) (fun _ h9 => h9) rfl dX12_yearOf_62 ?_
      refine lv_iload_n hx hb dX12_yearOf_65 rfl (lv_at hl 1 rfl) ?_
      refine lv_iload_n hx hb dX12_yearOf_66 rfl (lv_at hl 0 rfl) ?_
      refine lv_if_eq (tgt := 74) hx hb dX12_yearOf_67 (by decide) (fun _ => ?_) (fun c52 => absurd c52 (by decide))
      refine lv_iconst (v := 0) hx hb dX12_yearOf_74 (by decide) ?_
      refine va_iast (D := g) hx hb hK hP hD hS 4 0 rfl rfl (vc_in (by decide)) dX12_yearOf_75 (fun H locs hP hD hS => ?_)
      have hP : va_P g vwCl [(mo, .inr (11, mG m_a m_thrown m_taped m_at m_token m_place m_value m_word m_bad m_badPlace m_fault m_faultPlace (-1) m_will m_forgot 0 m_x vb vr vc vf m_any m_bothSend m_meanCards m_bestSum m_fitMany m_fitFirst m_fitSecond)), ((m_a 23), .inl (cI, 2, .inl fr)), ((m_a 24), .inl (cZ, 2, .inl fm)), ((m_a 25), .inl (cZ, 2, .inl fc)), ((m_a 26), .inl (cI, 2, .inl (upd (upd fs 0 1) 1 0))), ((m_a 27), .inl (cZ, 2, .inl (upd (upd fg 0 0) 1 0))), ((m_a 34), .inl (cZ, 2, .inl fk))] H := hP
      have hD : va_D A [(mo, .inr (11, mG m_a m_thrown m_taped m_at m_token m_place m_value m_word m_bad m_badPlace m_fault m_faultPlace (-1) m_will m_forgot 0 m_x vb vr vc vf m_any m_bothSend m_meanCards m_bestSum m_fitMany m_fitFirst m_fitSecond)), ((m_a 23), .inl (cI, 2, .inl fr)), ((m_a 24), .inl (cZ, 2, .inl fm)), ((m_a 25), .inl (cZ, 2, .inl fc)), ((m_a 26), .inl (cI, 2, .inl (upd (upd fs 0 1) 1 0))), ((m_a 27), .inl (cZ, 2, .inl (upd (upd fg 0 0) 1 0))), ((m_a 34), .inl (cZ, 2, .inl fk))] := hD
      refine lv_iinc (v := 2) (lv' := [(2, .int 2), (3, .int 0), (0, .ref mo), (1, .int (nI js))]) hx hb dX12_yearOf_76 hl (k := 1) rfl (by decide) (by decide) rfl (fun ls hl => ?_)
      refine lv_goto (tgt := 2) hx hb dX12_yearOf_79 (by decide) ?_
      refine lv_iload_n hx hb dX12_yearOf_2 rfl (lv_at hl 0 rfl) ?_
      refine lv_iconst (v := 2) hx hb dX12_yearOf_3 (by decide) ?_
      refine lv_icmp_ge (tgt := 82) hx hb dX12_yearOf_4 (by decide) (fun _ => ?_) (fun c53 => absurd c53 (by decide))
      refine lv_aload_n hx hb dX12_yearOf_82 rfl (lv_at hl 2 rfl) ?_
      refine va_get (D := g) (ci := 11) (v := .ref (m_a 34)) (C := RX12) (T := TX12) (N := 56) hx hb hts iX12 hown hK hP 0 rfl rfl 34 (by decide) (hts (.fieldLink RX12 74 "CardsAtYuleModel" "cameFirst" "[Z") (List.mem_cons_of_mem _ (List.mem_append_left _ (List.mem_of_getElem? (i := 11) rfl)))) (fun _ h9 => h9) rfl dX12_yearOf_83 ?_
      refine lv_astore_n (lv' := [(2, .ref (m_a 34)), (3, .int 0), (0, .ref mo), (1, .int (nI js))]) hx hb dX12_yearOf_86 rfl hl (by decide) rfl (fun ls hl => ?_)
      refine lv_iconst (v := 0) hx hb dX12_yearOf_87 (by decide) ?_
      refine lv_istore_n (lv' := [(3, .int 0), (2, .ref (m_a 34)), (0, .ref mo), (1, .int (nI js))]) hx hb dX12_yearOf_88 rfl hl (by decide) rfl (fun ls hl => ?_)
      refine lv_iload_n hx hb dX12_yearOf_89 rfl (lv_at hl 0 rfl) ?_
      refine lv_iconst (v := 2) hx hb dX12_yearOf_90 (by decide) ?_
      refine lv_icmp_ge (tgt := 131) hx hb dX12_yearOf_91 (by decide) (fun c54 => absurd c54 (by decide)) (fun _ => ?_)
      refine lv_aload_n hx hb dX12_yearOf_94 rfl (lv_at hl 1 rfl) ?_
      refine lv_iload_n hx hb dX12_yearOf_95 rfl (lv_at hl 0 rfl) ?_
      refine lv_aload_n hx hb dX12_yearOf_96 rfl (lv_at hl 2 rfl) ?_
      refine va_get (D := g) (ci := 11) (v := .ref (m_a 26)) (C := RX12) (T := TX12) (N := 56) hx hb hts iX12 hown hK hP 0 rfl rfl 26 (by decide) (hts (.fieldLink RX12 62 "CardsAtYuleModel" "sent" "[I") (List.mem_cons_of_mem _ (List.mem_append_left _ (List.mem_of_getElem? (i := 10) rfl)))) (fun _ h9 => h9) rfl dX12_yearOf_97 ?_
      refine lv_iconst (v := 1) hx hb dX12_yearOf_100 (by decide) ?_
      refine lv_iload_n hx hb dX12_yearOf_101 rfl (lv_at hl 0 rfl) ?_
      refine lv_isub hx hb dX12_yearOf_102 ?_
      refine lv_topi (nm_r (e' := 1) (by decide) ?_)
      refine va_iald (D := g) hx hb hK hP 4 0 rfl rfl (vc_in (by decide)) dX12_yearOf_103 ?_
      refine lv_topi (nm_r (e' := 0) rfl ?_)
      refine lv_iconst (v := 1) hx hb dX12_yearOf_104 (by decide) ?_
      refine lv_icmp_ne (tgt := 123) hx hb dX12_yearOf_105 (by decide) (fun _ => ?_) (fun c55 => absurd c55 (by decide))
      refine lv_iconst (v := 0) hx hb dX12_yearOf_123 (by decide) ?_
      refine va_zast (D := g) hx hb hK hP hD hS 6 3 rfl rfl (vc_in (by decide)) dX12_yearOf_124 (fun H locs hP hD hS => ?_)
      have hP : va_P g vwCl [(mo, .inr (11, mG m_a m_thrown m_taped m_at m_token m_place m_value m_word m_bad m_badPlace m_fault m_faultPlace (-1) m_will m_forgot 0 m_x vb vr vc vf m_any m_bothSend m_meanCards m_bestSum m_fitMany m_fitFirst m_fitSecond)), ((m_a 23), .inl (cI, 2, .inl fr)), ((m_a 24), .inl (cZ, 2, .inl fm)), ((m_a 25), .inl (cZ, 2, .inl fc)), ((m_a 26), .inl (cI, 2, .inl (upd (upd fs 0 1) 1 0))), ((m_a 27), .inl (cZ, 2, .inl (upd (upd fg 0 0) 1 0))), ((m_a 34), .inl (cZ, 2, .inl (upd fk 0 0)))] H := hP
      have hD : va_D A [(mo, .inr (11, mG m_a m_thrown m_taped m_at m_token m_place m_value m_word m_bad m_badPlace m_fault m_faultPlace (-1) m_will m_forgot 0 m_x vb vr vc vf m_any m_bothSend m_meanCards m_bestSum m_fitMany m_fitFirst m_fitSecond)), ((m_a 23), .inl (cI, 2, .inl fr)), ((m_a 24), .inl (cZ, 2, .inl fm)), ((m_a 25), .inl (cZ, 2, .inl fc)), ((m_a 26), .inl (cI, 2, .inl (upd (upd fs 0 1) 1 0))), ((m_a 27), .inl (cZ, 2, .inl (upd (upd fg 0 0) 1 0))), ((m_a 34), .inl (cZ, 2, .inl (upd fk 0 0)))] := hD
      refine lv_iinc (v := 1) (lv' := [(3, .int 1), (2, .ref (m_a 34)), (0, .ref mo), (1, .int (nI js))]) hx hb dX12_yearOf_125 hl (k := 0) rfl (by decide) (by decide) rfl (fun ls hl => ?_)
      refine lv_goto (tgt := 89) hx hb dX12_yearOf_128 (by decide) ?_
      refine lv_iload_n hx hb dX12_yearOf_89 rfl (lv_at hl 0 rfl) ?_
      refine lv_iconst (v := 2) hx hb dX12_yearOf_90 (by decide) ?_
      refine lv_icmp_ge (tgt := 131) hx hb dX12_yearOf_91 (by decide) (fun c56 => absurd c56 (by decide)) (fun _ => ?_)
      refine lv_aload_n hx hb dX12_yearOf_94 rfl (lv_at hl 1 rfl) ?_
      refine lv_iload_n hx hb dX12_yearOf_95 rfl (lv_at hl 0 rfl) ?_
      refine lv_aload_n hx hb dX12_yearOf_96 rfl (lv_at hl 2 rfl) ?_
      refine va_get (D := g) (ci := 11) (v := .ref (m_a 26)) (C := RX12) (T := TX12) (N := 56) hx hb hts iX12 hown hK hP 0 rfl rfl 26 (by decide) (hts (.fieldLink RX12 62 "CardsAtYuleModel" "sent" "[I") (List.mem_cons_of_mem _ (List.mem_append_left _ (List.mem_of_getElem? (i := 10) rfl)))) (fun _ h9 => h9) rfl dX12_yearOf_97 ?_
      refine lv_iconst (v := 1) hx hb dX12_yearOf_100 (by decide) ?_
      refine lv_iload_n hx hb dX12_yearOf_101 rfl (lv_at hl 0 rfl) ?_
      refine lv_isub hx hb dX12_yearOf_102 ?_
      refine lv_topi (nm_r (e' := 0) (by decide) ?_)
      refine va_iald (D := g) hx hb hK hP 4 0 rfl rfl (vc_in (by decide)) dX12_yearOf_103 ?_
      refine lv_topi (nm_r (e' := 1) rfl ?_)
      refine lv_iconst (v := 1) hx hb dX12_yearOf_104 (by decide) ?_
      refine lv_icmp_ne (tgt := 123) hx hb dX12_yearOf_105 (by decide) (fun c57 => absurd c57 (by decide)) (fun _ => ?_)
      refine lv_aload_n hx hb dX12_yearOf_108 rfl (lv_at hl 2 rfl) ?_
      refine va_get (D := g) (ci := 11) (v := .ref (m_a 25)) (C := RX12) (T := TX12) (N := 56) hx hb hts iX12 hown hK hP 0 rfl rfl 25 (by decide) (hts (.fieldLink RX12 59 "CardsAtYuleModel" "maycome" "[Z") (List.mem_cons_of_mem _ (List.mem_append_left _ (List.mem_of_getElem? (i := 12) rfl)))) (fun _ h9 => h9) rfl dX12_yearOf_109 ?_
      refine lv_iconst (v := 1) hx hb dX12_yearOf_112 (by decide) ?_
      refine lv_iload_n hx hb dX12_yearOf_113 rfl (lv_at hl 0 rfl) ?_
      refine lv_isub hx hb dX12_yearOf_114 ?_
      refine lv_topi (nm_r (e' := 0) (by decide) ?_)
      refine va_zald (D := g) hx hb hK hP 3 3 rfl rfl (vc_in (by decide)) dX12_yearOf_115 ?_
      refine lv_topi (nm_r (e' := 1) hS_c0 ?_)
      refine lv_if_eq (tgt := 123) hx hb dX12_yearOf_116 (by decide) (fun c58 => absurd c58 (by decide)) (fun _ => ?_)
      refine lv_iconst (v := 1) hx hb dX12_yearOf_119 (by decide) ?_
      refine lv_goto (tgt := 124) hx hb dX12_yearOf_120 (by decide) ?_
      refine va_zast (D := g) hx hb hK hP hD hS 6 3 rfl rfl (vc_in (by decide)) dX12_yearOf_124 (fun H locs hP hD hS => ?_)
      have hP : va_P g vwCl [(mo, .inr (11, mG m_a m_thrown m_taped m_at m_token m_place m_value m_word m_bad m_badPlace m_fault m_faultPlace (-1) m_will m_forgot 0 m_x vb vr vc vf m_any m_bothSend m_meanCards m_bestSum m_fitMany m_fitFirst m_fitSecond)), ((m_a 23), .inl (cI, 2, .inl fr)), ((m_a 24), .inl (cZ, 2, .inl fm)), ((m_a 25), .inl (cZ, 2, .inl fc)), ((m_a 26), .inl (cI, 2, .inl (upd (upd fs 0 1) 1 0))), ((m_a 27), .inl (cZ, 2, .inl (upd (upd fg 0 0) 1 0))), ((m_a 34), .inl (cZ, 2, .inl (upd (upd fk 0 0) 1 1)))] H := hP
      have hD : va_D A [(mo, .inr (11, mG m_a m_thrown m_taped m_at m_token m_place m_value m_word m_bad m_badPlace m_fault m_faultPlace (-1) m_will m_forgot 0 m_x vb vr vc vf m_any m_bothSend m_meanCards m_bestSum m_fitMany m_fitFirst m_fitSecond)), ((m_a 23), .inl (cI, 2, .inl fr)), ((m_a 24), .inl (cZ, 2, .inl fm)), ((m_a 25), .inl (cZ, 2, .inl fc)), ((m_a 26), .inl (cI, 2, .inl (upd (upd fs 0 1) 1 0))), ((m_a 27), .inl (cZ, 2, .inl (upd (upd fg 0 0) 1 0))), ((m_a 34), .inl (cZ, 2, .inl (upd (upd fk 0 0) 1 1)))] := hD
      refine lv_iinc (v := 2) (lv' := [(3, .int 2), (2, .ref (m_a 34)), (0, .ref mo), (1, .int (nI js))]) hx hb dX12_yearOf_125 hl (k := 0) rfl (by decide) (by decide) rfl (fun ls hl => ?_)
      refine lv_goto (tgt := 89) hx hb dX12_yearOf_128 (by decide) ?_
      refine lv_iload_n hx hb dX12_yearOf_89 rfl (lv_at hl 0 rfl) ?_
      refine lv_iconst (v := 2) hx hb dX12_yearOf_90 (by decide) ?_
      refine lv_icmp_ge (tgt := 131) hx hb dX12_yearOf_91 (by decide) (fun _ => ?_) (fun c59 => absurd c59 (by decide))
      refine lv_iconst (v := 0) hx hb dX12_yearOf_131 (by decide) ?_
      refine lv_istore_n (lv' := [(3, .int 0), (2, .ref (m_a 34)), (0, .ref mo), (1, .int (nI js))]) hx hb dX12_yearOf_132 rfl hl (by decide) rfl (fun ls hl => ?_)
      refine lv_iload_n hx hb dX12_yearOf_133 rfl (lv_at hl 0 rfl) ?_
      refine lv_iconst (v := 2) hx hb dX12_yearOf_134 (by decide) ?_
      refine lv_icmp_ge (tgt := 202) hx hb dX12_yearOf_135 (by decide) (fun c60 => absurd c60 (by decide)) (fun _ => ?_)
      refine lv_iload_n hx hb dX12_yearOf_138 rfl (lv_at hl 0 rfl) ?_
      refine lv_aload_n hx hb dX12_yearOf_139 rfl (lv_at hl 2 rfl) ?_
      refine va_get (D := g) (ci := 11) (v := .int (-1)) (C := RX12) (T := TX12) (N := 56) hx hb hts iX12 hown hK hP 0 rfl rfl 28 (by decide) (hts (.fieldLink RX12 68 "CardsAtYuleModel" "willing" "I") (List.mem_cons_of_mem _ (List.mem_append_left _ (List.mem_of_getElem? (i := 1) rfl)))) (fun _ h9 => h9) rfl dX12_yearOf_140 ?_
      refine lv_icmp_eq (tgt := 196) hx hb dX12_yearOf_143 (by decide) (fun c61 => absurd c61 (by decide)) (fun _ => ?_)
      refine lv_aload_n hx hb dX12_yearOf_146 rfl (lv_at hl 2 rfl) ?_
      refine va_get (D := g) (ci := 11) (v := .ref (m_a 24)) (C := RX12) (T := TX12) (N := 56) hx hb hts iX12 hown hK hP 0 rfl rfl 24 (by decide) (hts (.fieldLink RX12 56 "CardsAtYuleModel" "maySend" "[Z") (List.mem_cons_of_mem _ (List.mem_append_left _ (List.mem_of_getElem? (i := 2) rfl)))) (fun _ h9 => h9) rfl dX12_yearOf_147 ?_
      refine lv_iload_n hx hb dX12_yearOf_150 rfl (lv_at hl 0 rfl) ?_
      refine va_zald (D := g) hx hb hK hP 2 3 rfl rfl (vc_in (by decide)) dX12_yearOf_151 ?_
      refine lv_topi (nm_r (e' := 1) hS_m0 ?_)
      refine lv_if_eq (tgt := 196) hx hb dX12_yearOf_152 (by decide) (fun c62 => absurd c62 (by decide)) (fun _ => ?_)
      refine lv_aload_n hx hb dX12_yearOf_155 rfl (lv_at hl 2 rfl) ?_
      refine va_get (D := g) (ci := 11) (v := .ref (m_a 26)) (C := RX12) (T := TX12) (N := 56) hx hb hts iX12 hown hK hP 0 rfl rfl 26 (by decide) (hts (.fieldLink RX12 62 "CardsAtYuleModel" "sent" "[I") (List.mem_cons_of_mem _ (List.mem_append_left _ (List.mem_of_getElem? (i := 10) rfl)))) (fun _ h9 => h9) rfl dX12_yearOf_156 ?_
      refine lv_iload_n hx hb dX12_yearOf_159 rfl (lv_at hl 0 rfl) ?_
      refine va_iald (D := g) hx hb hK hP 4 0 rfl rfl (vc_in (by decide)) dX12_yearOf_160 ?_
      refine lv_topi (nm_r (e' := 1) rfl ?_)
      refine lv_if_ne (tgt := 196) hx hb dX12_yearOf_161 (by decide) (fun _ => ?_) (fun c63 => absurd c63 (by decide))
      refine lv_iinc (v := 1) (lv' := [(3, .int 1), (2, .ref (m_a 34)), (0, .ref mo), (1, .int (nI js))]) hx hb dX12_yearOf_196 hl (k := 0) rfl (by decide) (by decide) rfl (fun ls hl => ?_)
      refine lv_goto (tgt := 133) hx hb dX12_yearOf_199 (by decide) ?_
      refine lv_iload_n hx hb dX12_yearOf_133 rfl (lv_at hl 0 rfl) ?_
      refine lv_iconst (v := 2) hx hb dX12_yearOf_134 (by decide) ?_
      refine lv_icmp_ge (tgt := 202) hx hb dX12_yearOf_135 (by decide) (fun c64 => absurd c64 (by decide)) (fun _ => ?_)
      refine lv_iload_n hx hb dX12_yearOf_138 rfl (lv_at hl 0 rfl) ?_
      refine lv_aload_n hx hb dX12_yearOf_139 rfl (lv_at hl 2 rfl) ?_
      refine va_get (D := g) (ci := 11) (v := .int (-1)) (C := RX12) (T := TX12) (N := 56) hx hb hts iX12 hown hK hP 0 rfl rfl 28 (by decide) (hts (.fieldLink RX12 68 "CardsAtYuleModel" "willing" "I") (List.mem_cons_of_mem _ (List.mem_append_left _ (List.mem_of_getElem? (i := 1) rfl)))) (fun _ h9 => h9) rfl dX12_yearOf_140 ?_
      refine lv_icmp_eq (tgt := 196) hx hb dX12_yearOf_143 (by decide) (fun c65 => absurd c65 (by decide)) (fun _ => ?_)
      refine lv_aload_n hx hb dX12_yearOf_146 rfl (lv_at hl 2 rfl) ?_
      refine va_get (D := g) (ci := 11) (v := .ref (m_a 24)) (C := RX12) (T := TX12) (N := 56) hx hb hts iX12 hown hK hP 0 rfl rfl 24 (by decide) (hts (.fieldLink RX12 56 "CardsAtYuleModel" "maySend" "[Z") (List.mem_cons_of_mem _ (List.mem_append_left _ (List.mem_of_getElem? (i := 2) rfl)))) (fun _ h9 => h9) rfl dX12_yearOf_147 ?_
      refine lv_iload_n hx hb dX12_yearOf_150 rfl (lv_at hl 0 rfl) ?_
      refine va_zald (D := g) hx hb hK hP 2 3 rfl rfl (vc_in (by decide)) dX12_yearOf_151 ?_
      refine lv_topi (nm_r (e' := 1) hS_m1 ?_)
      refine lv_if_eq (tgt := 196) hx hb dX12_yearOf_152 (by decide) (fun c66 => absurd c66 (by decide)) (fun _ => ?_)
      refine lv_aload_n hx hb dX12_yearOf_155 rfl (lv_at hl 2 rfl) ?_
      refine va_get (D := g) (ci := 11) (v := .ref (m_a 26)) (C := RX12) (T := TX12) (N := 56) hx hb hts iX12 hown hK hP 0 rfl rfl 26 (by decide) (hts (.fieldLink RX12 62 "CardsAtYuleModel" "sent" "[I") (List.mem_cons_of_mem _ (List.mem_append_left _ (List.mem_of_getElem? (i := 10) rfl)))) (fun _ h9 => h9) rfl dX12_yearOf_156 ?_
      refine lv_iload_n hx hb dX12_yearOf_159 rfl (lv_at hl 0 rfl) ?_
      refine va_iald (D := g) hx hb hK hP 4 0 rfl rfl (vc_in (by decide)) dX12_yearOf_160 ?_
      refine lv_topi (nm_r (e' := 0) rfl ?_)
      refine lv_if_ne (tgt := 196) hx hb dX12_yearOf_161 (by decide) (fun c67 => absurd c67 (by decide)) (fun _ => ?_)
      refine lv_aload_n hx hb dX12_yearOf_164 rfl (lv_at hl 2 rfl) ?_
      refine va_get (D := g) (ci := 11) (v := .ref (m_a 23)) (C := RX12) (T := TX12) (N := 56) hx hb hts iX12 hown hK hP 0 rfl rfl 23 (by decide) (hts (.fieldLink RX12 53 "CardsAtYuleModel" "ruleNow" "[I") (List.mem_cons_of_mem _ (List.mem_append_left _ (List.mem_of_getElem? (i := 13) rfl)))) (fun _ h9 => h9) rfl dX12_yearOf_165 ?_
      refine lv_iload_n hx hb dX12_yearOf_168 rfl (lv_at hl 0 rfl) ?_
      refine va_iald (D := g) hx hb hK hP 1 0 rfl rfl (vc_in (by decide)) dX12_yearOf_169 ?_
      refine lv_topi (nm_r (e' := nI rb) hS_r1 ?_)
      refine lv_bipush (v := 16) hx hb dX12_yearOf_170 (by decide) ?_
      refine lv_icmp_lt (tgt := 196) hx hb dX12_yearOf_172 (by decide) (fun c68 => ?_) (fun c68 => ?_)
      · have f69 := (show (rb : Int) < 16 from z_lt (nI_toInt (n := rb) (by omega)) rfl c68)
        refine lv_iinc (v := 2) (lv' := [(3, .int 2), (2, .ref (m_a 34)), (0, .ref mo), (1, .int (nI js))]) hx hb dX12_yearOf_196 hl (k := 0) rfl (by decide) (by decide) rfl (fun ls hl => ?_)
        refine lv_goto (tgt := 133) hx hb dX12_yearOf_199 (by decide) ?_
        refine lv_iload_n hx hb dX12_yearOf_133 rfl (lv_at hl 0 rfl) ?_
        refine lv_iconst (v := 2) hx hb dX12_yearOf_134 (by decide) ?_
        refine lv_icmp_ge (tgt := 202) hx hb dX12_yearOf_135 (by decide) (fun _ => ?_) (fun c70 => absurd c70 (by decide))
        refine lv_iload_n hx hb dX12_yearOf_202 rfl (lv_at hl 3 rfl) ?_
        refine lv_iconst (v := 5) hx hb dX12_yearOf_203 (by decide) ?_
        refine lv_iand hx hb dX12_yearOf_204 ?_
        refine lv_iconst (v := 1) hx hb dX12_yearOf_205 (by decide) ?_
        refine lv_ishl hx hb dX12_yearOf_206 ?_
        refine lv_istore_n (lv' := [(3, .int (((nI js) &&& 5) <<< (1 &&& (31 : Int32)))), (2, .ref (m_a 34)), (0, .ref mo), (1, .int (nI js))]) hx hb dX12_yearOf_207 rfl hl (by decide) rfl (fun ls hl => ?_)
        refine lv_iconst (v := 0) hx hb dX12_yearOf_208 (by decide) ?_
        refine lv_istore (lv' := [(4, .int 0), (3, .int (((nI js) &&& 5) <<< (1 &&& (31 : Int32)))), (2, .ref (m_a 34)), (0, .ref mo), (1, .int (nI js))]) hx hb dX12_yearOf_209 hl (by decide) rfl (fun ls hl => ?_)
        refine lv_iload hx hb dX12_yearOf_211 (lv_at hl 0 rfl) ?_
        refine lv_iconst (v := 2) hx hb dX12_yearOf_213 (by decide) ?_
        refine lv_icmp_ge (tgt := 282) hx hb dX12_yearOf_214 (by decide) (fun c71 => absurd c71 (by decide)) (fun _ => ?_)
        refine lv_aload_n hx hb dX12_yearOf_217 rfl (lv_at hl 3 rfl) ?_
        refine va_get (D := g) (ci := 11) (v := .ref (m_a 27)) (C := RX12) (T := TX12) (N := 56) hx hb hts iX12 hown hK hP 0 rfl rfl 27 (by decide) (hts (.fieldLink RX12 65 "CardsAtYuleModel" "gets" "[Z") (List.mem_cons_of_mem _ (List.mem_append_left _ (List.mem_of_getElem? (i := 0) rfl)))) (fun _ h9 => h9) rfl dX12_yearOf_218 ?_
        refine lv_iload hx hb dX12_yearOf_221 (lv_at hl 0 rfl) ?_
        refine lv_aload_n hx hb dX12_yearOf_223 rfl (lv_at hl 3 rfl) ?_
        refine va_get (D := g) (ci := 11) (v := .ref (m_a 26)) (C := RX12) (T := TX12) (N := 56) hx hb hts iX12 hown hK hP 0 rfl rfl 26 (by decide) (hts (.fieldLink RX12 62 "CardsAtYuleModel" "sent" "[I") (List.mem_cons_of_mem _ (List.mem_append_left _ (List.mem_of_getElem? (i := 10) rfl)))) (fun _ h9 => h9) rfl dX12_yearOf_224 ?_
        refine lv_iconst (v := 1) hx hb dX12_yearOf_227 (by decide) ?_
        refine lv_iload hx hb dX12_yearOf_228 (lv_at hl 0 rfl) ?_
        refine lv_isub hx hb dX12_yearOf_230 ?_
        refine lv_topi (nm_r (e' := 1) (by decide) ?_)
        refine va_iald (D := g) hx hb hK hP 4 0 rfl rfl (vc_in (by decide)) dX12_yearOf_231 ?_
        refine lv_topi (nm_r (e' := 0) rfl ?_)
        refine lv_if_le (tgt := 251) hx hb dX12_yearOf_232 (by decide) (fun _ => ?_) (fun c72 => absurd c72 (by decide))
        refine lv_iconst (v := 0) hx hb dX12_yearOf_251 (by decide) ?_
        refine va_zast (D := g) hx hb hK hP hD hS 5 3 rfl rfl (vc_in (by decide)) dX12_yearOf_252 (fun H locs hP hD hS => ?_)
        have hP : va_P g vwCl [(mo, .inr (11, mG m_a m_thrown m_taped m_at m_token m_place m_value m_word m_bad m_badPlace m_fault m_faultPlace (-1) m_will m_forgot 0 m_x vb vr vc vf m_any m_bothSend m_meanCards m_bestSum m_fitMany m_fitFirst m_fitSecond)), ((m_a 23), .inl (cI, 2, .inl fr)), ((m_a 24), .inl (cZ, 2, .inl fm)), ((m_a 25), .inl (cZ, 2, .inl fc)), ((m_a 26), .inl (cI, 2, .inl (upd (upd fs 0 1) 1 0))), ((m_a 27), .inl (cZ, 2, .inl (upd (upd (upd fg 0 0) 1 0) 0 0))), ((m_a 34), .inl (cZ, 2, .inl (upd (upd fk 0 0) 1 1)))] H := hP
        have hD : va_D A [(mo, .inr (11, mG m_a m_thrown m_taped m_at m_token m_place m_value m_word m_bad m_badPlace m_fault m_faultPlace (-1) m_will m_forgot 0 m_x vb vr vc vf m_any m_bothSend m_meanCards m_bestSum m_fitMany m_fitFirst m_fitSecond)), ((m_a 23), .inl (cI, 2, .inl fr)), ((m_a 24), .inl (cZ, 2, .inl fm)), ((m_a 25), .inl (cZ, 2, .inl fc)), ((m_a 26), .inl (cI, 2, .inl (upd (upd fs 0 1) 1 0))), ((m_a 27), .inl (cZ, 2, .inl (upd (upd (upd fg 0 0) 1 0) 0 0))), ((m_a 34), .inl (cZ, 2, .inl (upd (upd fk 0 0) 1 1)))] := hD
        refine lv_iload_n hx hb dX12_yearOf_253 rfl (lv_at hl 1 rfl) ?_
        refine lv_aload_n hx hb dX12_yearOf_254 rfl (lv_at hl 3 rfl) ?_
        refine va_get (D := g) (ci := 11) (v := .ref (m_a 27)) (C := RX12) (T := TX12) (N := 56) hx hb hts iX12 hown hK hP 0 rfl rfl 27 (by decide) (hts (.fieldLink RX12 65 "CardsAtYuleModel" "gets" "[Z") (List.mem_cons_of_mem _ (List.mem_append_left _ (List.mem_of_getElem? (i := 0) rfl)))) (fun _ h9 => h9) rfl dX12_yearOf_255 ?_
        refine lv_iload hx hb dX12_yearOf_258 (lv_at hl 0 rfl) ?_
        refine va_zald (D := g) hx hb hK hP 5 3 rfl rfl (vc_in (by decide)) dX12_yearOf_260 ?_
        refine lv_topi (nm_r (e' := 0) rfl ?_)
        refine lv_if_eq (tgt := 273) hx hb dX12_yearOf_261 (by decide) (fun _ => ?_) (fun c73 => absurd c73 (by decide))
        refine lv_iconst (v := 0) hx hb dX12_yearOf_273 (by decide) ?_
        refine lv_ior hx hb dX12_yearOf_274 ?_
        refine lv_istore_n (lv' := [(3, .int ((((nI js) &&& 5) <<< (1 &&& (31 : Int32))) ||| 0)), (4, .int 0), (2, .ref (m_a 34)), (0, .ref mo), (1, .int (nI js))]) hx hb dX12_yearOf_275 rfl hl (by decide) rfl (fun ls hl => ?_)
        refine lv_iinc (v := 1) (lv' := [(4, .int 1), (3, .int ((((nI js) &&& 5) <<< (1 &&& (31 : Int32))) ||| 0)), (2, .ref (m_a 34)), (0, .ref mo), (1, .int (nI js))]) hx hb dX12_yearOf_276 hl (k := 1) rfl (by decide) (by decide) rfl (fun ls hl => ?_)
        refine lv_goto (tgt := 211) hx hb dX12_yearOf_279 (by decide) ?_
        refine lv_iload hx hb dX12_yearOf_211 (lv_at hl 0 rfl) ?_
        refine lv_iconst (v := 2) hx hb dX12_yearOf_213 (by decide) ?_
        refine lv_icmp_ge (tgt := 282) hx hb dX12_yearOf_214 (by decide) (fun c74 => absurd c74 (by decide)) (fun _ => ?_)
        refine lv_aload_n hx hb dX12_yearOf_217 rfl (lv_at hl 3 rfl) ?_
        refine va_get (D := g) (ci := 11) (v := .ref (m_a 27)) (C := RX12) (T := TX12) (N := 56) hx hb hts iX12 hown hK hP 0 rfl rfl 27 (by decide) (hts (.fieldLink RX12 65 "CardsAtYuleModel" "gets" "[Z") (List.mem_cons_of_mem _ (List.mem_append_left _ (List.mem_of_getElem? (i := 0) rfl)))) (fun _ h9 => h9) rfl dX12_yearOf_218 ?_
        refine lv_iload hx hb dX12_yearOf_221 (lv_at hl 0 rfl) ?_
        refine lv_aload_n hx hb dX12_yearOf_223 rfl (lv_at hl 3 rfl) ?_
        refine va_get (D := g) (ci := 11) (v := .ref (m_a 26)) (C := RX12) (T := TX12) (N := 56) hx hb hts iX12 hown hK hP 0 rfl rfl 26 (by decide) (hts (.fieldLink RX12 62 "CardsAtYuleModel" "sent" "[I") (List.mem_cons_of_mem _ (List.mem_append_left _ (List.mem_of_getElem? (i := 10) rfl)))) (fun _ h9 => h9) rfl dX12_yearOf_224 ?_
        refine lv_iconst (v := 1) hx hb dX12_yearOf_227 (by decide) ?_
        refine lv_iload hx hb dX12_yearOf_228 (lv_at hl 0 rfl) ?_
        refine lv_isub hx hb dX12_yearOf_230 ?_
        refine lv_topi (nm_r (e' := 0) (by decide) ?_)
        refine va_iald (D := g) hx hb hK hP 4 0 rfl rfl (vc_in (by decide)) dX12_yearOf_231 ?_
        refine lv_topi (nm_r (e' := 1) rfl ?_)
        refine lv_if_le (tgt := 251) hx hb dX12_yearOf_232 (by decide) (fun c75 => absurd c75 (by decide)) (fun _ => ?_)
        refine lv_aload_n hx hb dX12_yearOf_235 rfl (lv_at hl 3 rfl) ?_
        refine va_get (D := g) (ci := 11) (v := .ref (m_a 25)) (C := RX12) (T := TX12) (N := 56) hx hb hts iX12 hown hK hP 0 rfl rfl 25 (by decide) (hts (.fieldLink RX12 59 "CardsAtYuleModel" "maycome" "[Z") (List.mem_cons_of_mem _ (List.mem_append_left _ (List.mem_of_getElem? (i := 12) rfl)))) (fun _ h9 => h9) rfl dX12_yearOf_236 ?_
        refine lv_iconst (v := 1) hx hb dX12_yearOf_239 (by decide) ?_
        refine lv_iload hx hb dX12_yearOf_240 (lv_at hl 0 rfl) ?_
        refine lv_isub hx hb dX12_yearOf_242 ?_
        refine lv_topi (nm_r (e' := 0) (by decide) ?_)
        refine va_zald (D := g) hx hb hK hP 3 3 rfl rfl (vc_in (by decide)) dX12_yearOf_243 ?_
        refine lv_topi (nm_r (e' := 1) hS_c0 ?_)
        refine lv_if_eq (tgt := 251) hx hb dX12_yearOf_244 (by decide) (fun c76 => absurd c76 (by decide)) (fun _ => ?_)
        refine lv_iconst (v := 1) hx hb dX12_yearOf_247 (by decide) ?_
        refine lv_goto (tgt := 252) hx hb dX12_yearOf_248 (by decide) ?_
        refine va_zast (D := g) hx hb hK hP hD hS 5 3 rfl rfl (vc_in (by decide)) dX12_yearOf_252 (fun H locs hP hD hS => ?_)
        have hP : va_P g vwCl [(mo, .inr (11, mG m_a m_thrown m_taped m_at m_token m_place m_value m_word m_bad m_badPlace m_fault m_faultPlace (-1) m_will m_forgot 0 m_x vb vr vc vf m_any m_bothSend m_meanCards m_bestSum m_fitMany m_fitFirst m_fitSecond)), ((m_a 23), .inl (cI, 2, .inl fr)), ((m_a 24), .inl (cZ, 2, .inl fm)), ((m_a 25), .inl (cZ, 2, .inl fc)), ((m_a 26), .inl (cI, 2, .inl (upd (upd fs 0 1) 1 0))), ((m_a 27), .inl (cZ, 2, .inl (upd (upd (upd (upd fg 0 0) 1 0) 0 0) 1 1))), ((m_a 34), .inl (cZ, 2, .inl (upd (upd fk 0 0) 1 1)))] H := hP
        have hD : va_D A [(mo, .inr (11, mG m_a m_thrown m_taped m_at m_token m_place m_value m_word m_bad m_badPlace m_fault m_faultPlace (-1) m_will m_forgot 0 m_x vb vr vc vf m_any m_bothSend m_meanCards m_bestSum m_fitMany m_fitFirst m_fitSecond)), ((m_a 23), .inl (cI, 2, .inl fr)), ((m_a 24), .inl (cZ, 2, .inl fm)), ((m_a 25), .inl (cZ, 2, .inl fc)), ((m_a 26), .inl (cI, 2, .inl (upd (upd fs 0 1) 1 0))), ((m_a 27), .inl (cZ, 2, .inl (upd (upd (upd (upd fg 0 0) 1 0) 0 0) 1 1))), ((m_a 34), .inl (cZ, 2, .inl (upd (upd fk 0 0) 1 1)))] := hD
        refine lv_iload_n hx hb dX12_yearOf_253 rfl (lv_at hl 1 rfl) ?_
        refine lv_aload_n hx hb dX12_yearOf_254 rfl (lv_at hl 3 rfl) ?_
        refine va_get (D := g) (ci := 11) (v := .ref (m_a 27)) (C := RX12) (T := TX12) (N := 56) hx hb hts iX12 hown hK hP 0 rfl rfl 27 (by decide) (hts (.fieldLink RX12 65 "CardsAtYuleModel" "gets" "[Z") (List.mem_cons_of_mem _ (List.mem_append_left _ (List.mem_of_getElem? (i := 0) rfl)))) (fun _ h9 => h9) rfl dX12_yearOf_255 ?_
        refine lv_iload hx hb dX12_yearOf_258 (lv_at hl 0 rfl) ?_
        refine va_zald (D := g) hx hb hK hP 5 3 rfl rfl (vc_in (by decide)) dX12_yearOf_260 ?_
        refine lv_topi (nm_r (e' := 1) rfl ?_)
        refine lv_if_eq (tgt := 273) hx hb dX12_yearOf_261 (by decide) (fun c77 => absurd c77 (by decide)) (fun _ => ?_)
        refine lv_iconst (v := 1) hx hb dX12_yearOf_264 (by decide) ?_
        refine lv_iconst (v := 2) hx hb dX12_yearOf_265 (by decide) ?_
        refine lv_iload hx hb dX12_yearOf_266 (lv_at hl 0 rfl) ?_
        refine lv_imul hx hb dX12_yearOf_268 ?_
        refine lv_topi (nm_r (e' := 2) (by decide) ?_)
        refine lv_ishl hx hb dX12_yearOf_269 ?_
        refine lv_topi (nm_r (e' := 4) (by decide) ?_)
        refine lv_goto (tgt := 274) hx hb dX12_yearOf_270 (by decide) ?_
        refine lv_ior hx hb dX12_yearOf_274 ?_
        refine lv_istore_n (lv' := [(3, .int (((((nI js) &&& 5) <<< (1 &&& (31 : Int32))) ||| 0) ||| 4)), (4, .int 1), (2, .ref (m_a 34)), (0, .ref mo), (1, .int (nI js))]) hx hb dX12_yearOf_275 rfl hl (by decide) rfl (fun ls hl => ?_)
        refine lv_iinc (v := 2) (lv' := [(4, .int 2), (3, .int (((((nI js) &&& 5) <<< (1 &&& (31 : Int32))) ||| 0) ||| 4)), (2, .ref (m_a 34)), (0, .ref mo), (1, .int (nI js))]) hx hb dX12_yearOf_276 hl (k := 1) rfl (by decide) (by decide) rfl (fun ls hl => ?_)
        refine lv_goto (tgt := 211) hx hb dX12_yearOf_279 (by decide) ?_
        refine lv_iload hx hb dX12_yearOf_211 (lv_at hl 0 rfl) ?_
        refine lv_iconst (v := 2) hx hb dX12_yearOf_213 (by decide) ?_
        refine lv_icmp_ge (tgt := 282) hx hb dX12_yearOf_214 (by decide) (fun _ => ?_) (fun c78 => absurd c78 (by decide))
        refine lv_iload_n hx hb dX12_yearOf_282 rfl (lv_at hl 1 rfl) ?_
        have hA9 : sA ra rb js = 1 := by unfold sA; rw [if_pos (by omega)]
        have hB9 : zB ra rb js = 0 := by unfold zB; rw [if_neg (by omega)]
        have hP9 := hP.sub (ws' := [(mo, .inr (11, mG m_a m_thrown m_taped m_at m_token m_place m_value m_word m_bad m_badPlace m_fault m_faultPlace (-1) m_will m_forgot 0 m_x vb vr vc vf m_any m_bothSend m_meanCards m_bestSum m_fitMany m_fitFirst m_fitSecond)), ((m_a 23), .inl (cI, 2, .inl fr)), ((m_a 24), .inl (cZ, 2, .inl fm)), ((m_a 25), .inl (cZ, 2, .inl fc)), ((m_a 26), .inl (cI, 2, .inl (upd (upd fs 0 1) 1 0))), ((m_a 27), .inl (cZ, 2, .inl (upd (upd (upd (upd fg 0 0) 1 0) 0 0) 1 1))), ((m_a 34), .inl (cZ, 2, .inl (upd (upd fk 0 0) 1 1)))]) [0, 1, 2, 3, 4, 5, 6] rfl
        have hD9 := hD.sub (ws' := [(mo, .inr (11, mG m_a m_thrown m_taped m_at m_token m_place m_value m_word m_bad m_badPlace m_fault m_faultPlace (-1) m_will m_forgot 0 m_x vb vr vc vf m_any m_bothSend m_meanCards m_bestSum m_fitMany m_fitFirst m_fitSecond)), ((m_a 23), .inl (cI, 2, .inl fr)), ((m_a 24), .inl (cZ, 2, .inl fm)), ((m_a 25), .inl (cZ, 2, .inl fc)), ((m_a 26), .inl (cI, 2, .inl (upd (upd fs 0 1) 1 0))), ((m_a 27), .inl (cZ, 2, .inl (upd (upd (upd (upd fg 0 0) 1 0) 0 0) 1 1))), ((m_a 34), .inl (cZ, 2, .inl (upd (upd fk 0 0) 1 1)))]) [0, 1, 2, 3, 4, 5, 6] (by decide) rfl
        exact W.iret (v := (((((nI js) &&& 5) <<< (1 &&& (31 : Int32))) ||| 0) ||| 4)) hx hb hr (fun t ht hW => ⟨⟨(((((nI js) &&& 5) <<< (1 &&& (31 : Int32))) ||| 0) ||| 4), ((upd (upd fs 0 1) 1 0), (upd (upd (upd (upd fg 0 0) 1 0) 0 0) 1 1), (upd (upd fk 0 0) 1 1)), rfl, ⟨th_nx hjs (u := 0) (v := 1) hB9 hA9, 1, 0, rfl, rfl, by decide, by decide, by unfold sc; rw [hA9, hB9]; rfl⟩, by rw [ht]; exact hP9, va_K.moved hW.alike hK, hD9⟩, hS.F ht⟩) hS.2.2 dX12_yearOf_283
      · have f69 := (show 16 ≤ (rb : Int) from z_nlt (nI_toInt (n := rb) (by omega)) rfl c68)
        refine lv_aload_n hx hb dX12_yearOf_175 rfl (lv_at hl 1 rfl) ?_
        refine lv_iload_n hx hb dX12_yearOf_176 rfl (lv_at hl 0 rfl) ?_
        refine va_zald (D := g) hx hb hK hP 6 3 rfl rfl (vc_in (by decide)) dX12_yearOf_177 ?_
        refine lv_topi (nm_r (e' := 1) rfl ?_)
        refine lv_if_eq (tgt := 196) hx hb dX12_yearOf_178 (by decide) (fun c79 => absurd c79 (by decide)) (fun _ => ?_)
        refine lv_aload_n hx hb dX12_yearOf_181 rfl (lv_at hl 2 rfl) ?_
        refine lv_iload_n hx hb dX12_yearOf_182 rfl (lv_at hl 0 rfl) ?_
        refine ro_i (va_runV (As := [.int 1]) (rest := []) ⟨hx, hb, hml, hown, hts⟩ (k_fX12_isForgotten l g cI cJ cB cZ cL mo m_a m_thrown m_taped m_at m_token m_place m_value m_word m_bad m_badPlace m_fault m_faultPlace m_will m_forgot m_x m_any m_bothSend m_meanCards m_bestSum m_fitMany m_fitFirst m_fitSecond vb vr vc vf 1 H.size ) (cwV 1 hts (goodIn_app (g_4 (List.mem_cons_of_mem _ (List.mem_append_left _ (List.mem_of_getElem? (i := 7) rfl))) (List.mem_cons_of_mem _ (List.mem_append_left _ (List.mem_of_getElem? (i := 8) rfl))) (List.mem_cons_of_mem _ (List.mem_append_left _ (List.mem_of_getElem? (i := 9) rfl))) (List.mem_cons_of_mem _ (List.mem_append_left _ (List.mem_of_getElem? (i := 6) rfl))) (by decide +kernel)) (goodIn_sub (fun _ h => List.mem_cons_of_mem _ (List.mem_append_right _ (List.mem_append_right _ (List.mem_append_left _ h)))) good_v_fX12_isForgotten)) rfl rfl rfl (by decide +kernel) ⟨Nat.le_of_ble_eq_true rfl, Nat.le_of_ble_eq_true rfl⟩) (pv_RO (q := (RX12, TX12, 56)) (ci := 11) (q0 := 0) (wc := [(mo, .inr (11, mG m_a m_thrown m_taped m_at m_token m_place m_value m_word m_bad m_badPlace m_fault m_faultPlace (-1) m_will m_forgot 0 m_x vb vr vc vf m_any m_bothSend m_meanCards m_bestSum m_fitMany m_fitFirst m_fitSecond))]) hK hP [0] rfl rfl rfl) rfl rfl hl.1 rfl (lv_room (Nat.le_of_ble_eq_true rfl)) dX12_yearOf_183 ⟨Nat.le_of_ble_eq_true rfl, Nat.le_of_ble_eq_true rfl⟩) hS hA hP (fun r80 u81 H locs hw82 hP hS => ?_)
        subst hw82
        refine lv_if_ne (tgt := 196) hx hb dX12_yearOf_186 (by decide) (fun c83 => absurd c83 (by decide)) (fun _ => ?_)
        refine lv_aload_n hx hb dX12_yearOf_189 rfl (lv_at hl 2 rfl) ?_
        refine va_get (D := g) (ci := 11) (v := .ref (m_a 26)) (C := RX12) (T := TX12) (N := 56) hx hb hts iX12 hown hK hP 0 rfl rfl 26 (by decide) (hts (.fieldLink RX12 62 "CardsAtYuleModel" "sent" "[I") (List.mem_cons_of_mem _ (List.mem_append_left _ (List.mem_of_getElem? (i := 10) rfl)))) (fun _ h9 => h9) rfl dX12_yearOf_190 ?_
        refine lv_iload_n hx hb dX12_yearOf_193 rfl (lv_at hl 0 rfl) ?_
        refine lv_iconst (v := 2) hx hb dX12_yearOf_194 (by decide) ?_
        refine va_iast (D := g) hx hb hK hP hD hS 4 0 rfl rfl (vc_in (by decide)) dX12_yearOf_195 (fun H locs hP hD hS => ?_)
        have hP : va_P g vwCl [(mo, .inr (11, mG m_a m_thrown m_taped m_at m_token m_place m_value m_word m_bad m_badPlace m_fault m_faultPlace (-1) m_will m_forgot 0 m_x vb vr vc vf m_any m_bothSend m_meanCards m_bestSum m_fitMany m_fitFirst m_fitSecond)), ((m_a 23), .inl (cI, 2, .inl fr)), ((m_a 24), .inl (cZ, 2, .inl fm)), ((m_a 25), .inl (cZ, 2, .inl fc)), ((m_a 26), .inl (cI, 2, .inl (upd (upd (upd fs 0 1) 1 0) 1 2))), ((m_a 27), .inl (cZ, 2, .inl (upd (upd fg 0 0) 1 0))), ((m_a 34), .inl (cZ, 2, .inl (upd (upd fk 0 0) 1 1)))] H := hP
        have hD : va_D A [(mo, .inr (11, mG m_a m_thrown m_taped m_at m_token m_place m_value m_word m_bad m_badPlace m_fault m_faultPlace (-1) m_will m_forgot 0 m_x vb vr vc vf m_any m_bothSend m_meanCards m_bestSum m_fitMany m_fitFirst m_fitSecond)), ((m_a 23), .inl (cI, 2, .inl fr)), ((m_a 24), .inl (cZ, 2, .inl fm)), ((m_a 25), .inl (cZ, 2, .inl fc)), ((m_a 26), .inl (cI, 2, .inl (upd (upd (upd fs 0 1) 1 0) 1 2))), ((m_a 27), .inl (cZ, 2, .inl (upd (upd fg 0 0) 1 0))), ((m_a 34), .inl (cZ, 2, .inl (upd (upd fk 0 0) 1 1)))] := hD
        refine lv_iinc (v := 2) (lv' := [(3, .int 2), (2, .ref (m_a 34)), (0, .ref mo), (1, .int (nI js))]) hx hb dX12_yearOf_196 hl (k := 0) rfl (by decide) (by decide) rfl (fun ls hl => ?_)
        refine lv_goto (tgt := 133) hx hb dX12_yearOf_199 (by decide) ?_
        refine lv_iload_n hx hb dX12_yearOf_133 rfl (lv_at hl 0 rfl) ?_
        refine lv_iconst (v := 2) hx hb dX12_yearOf_134 (by decide) ?_
        refine lv_icmp_ge (tgt := 202) hx hb dX12_yearOf_135 (by decide) (fun _ => ?_) (fun c84 => absurd c84 (by decide))
        refine lv_iload_n hx hb dX12_yearOf_202 rfl (lv_at hl 3 rfl) ?_
        refine lv_iconst (v := 5) hx hb dX12_yearOf_203 (by decide) ?_
        refine lv_iand hx hb dX12_yearOf_204 ?_
        refine lv_iconst (v := 1) hx hb dX12_yearOf_205 (by decide) ?_
        refine lv_ishl hx hb dX12_yearOf_206 ?_
        refine lv_istore_n (lv' := [(3, .int (((nI js) &&& 5) <<< (1 &&& (31 : Int32)))), (2, .ref (m_a 34)), (0, .ref mo), (1, .int (nI js))]) hx hb dX12_yearOf_207 rfl hl (by decide) rfl (fun ls hl => ?_)
        refine lv_iconst (v := 0) hx hb dX12_yearOf_208 (by decide) ?_
        refine lv_istore (lv' := [(4, .int 0), (3, .int (((nI js) &&& 5) <<< (1 &&& (31 : Int32)))), (2, .ref (m_a 34)), (0, .ref mo), (1, .int (nI js))]) hx hb dX12_yearOf_209 hl (by decide) rfl (fun ls hl => ?_)
        refine lv_iload hx hb dX12_yearOf_211 (lv_at hl 0 rfl) ?_
        refine lv_iconst (v := 2) hx hb dX12_yearOf_213 (by decide) ?_
        refine lv_icmp_ge (tgt := 282) hx hb dX12_yearOf_214 (by decide) (fun c85 => absurd c85 (by decide)) (fun _ => ?_)
        refine lv_aload_n hx hb dX12_yearOf_217 rfl (lv_at hl 3 rfl) ?_
        refine va_get (D := g) (ci := 11) (v := .ref (m_a 27)) (C := RX12) (T := TX12) (N := 56) hx hb hts iX12 hown hK hP 0 rfl rfl 27 (by decide) (hts (.fieldLink RX12 65 "CardsAtYuleModel" "gets" "[Z") (List.mem_cons_of_mem _ (List.mem_append_left _ (List.mem_of_getElem? (i := 0) rfl)))) (fun _ h9 => h9) rfl dX12_yearOf_218 ?_
        refine lv_iload hx hb dX12_yearOf_221 (lv_at hl 0 rfl) ?_
        refine lv_aload_n hx hb dX12_yearOf_223 rfl (lv_at hl 3 rfl) ?_
        refine va_get (D := g) (ci := 11) (v := .ref (m_a 26)) (C := RX12) (T := TX12) (N := 56) hx hb hts iX12 hown hK hP 0 rfl rfl 26 (by decide) (hts (.fieldLink RX12 62 "CardsAtYuleModel" "sent" "[I") (List.mem_cons_of_mem _ (List.mem_append_left _ (List.mem_of_getElem? (i := 10) rfl)))) (fun _ h9 => h9) rfl dX12_yearOf_224 ?_
        refine lv_iconst (v := 1) hx hb dX12_yearOf_227 (by decide) ?_
        refine lv_iload hx hb dX12_yearOf_228 (lv_at hl 0 rfl) ?_
        refine lv_isub hx hb dX12_yearOf_230 ?_
        refine lv_topi (nm_r (e' := 1) (by decide) ?_)
        refine va_iald (D := g) hx hb hK hP 4 0 rfl rfl (vc_in (by decide)) dX12_yearOf_231 ?_
        refine lv_topi (nm_r (e' := 2) rfl ?_)
        refine lv_if_le (tgt := 251) hx hb dX12_yearOf_232 (by decide) (fun c86 => absurd c86 (by decide)) (fun _ => ?_)
        refine lv_aload_n hx hb dX12_yearOf_235 rfl (lv_at hl 3 rfl) ?_
        refine va_get (D := g) (ci := 11) (v := .ref (m_a 25)) (C := RX12) (T := TX12) (N := 56) hx hb hts iX12 hown hK hP 0 rfl rfl 25 (by decide) (hts (.fieldLink RX12 59 "CardsAtYuleModel" "maycome" "[Z") (List.mem_cons_of_mem _ (List.mem_append_left _ (List.mem_of_getElem? (i := 12) rfl)))) (fun _ h9 => h9) rfl dX12_yearOf_236 ?_
        refine lv_iconst (v := 1) hx hb dX12_yearOf_239 (by decide) ?_
        refine lv_iload hx hb dX12_yearOf_240 (lv_at hl 0 rfl) ?_
        refine lv_isub hx hb dX12_yearOf_242 ?_
        refine lv_topi (nm_r (e' := 1) (by decide) ?_)
        refine va_zald (D := g) hx hb hK hP 3 3 rfl rfl (vc_in (by decide)) dX12_yearOf_243 ?_
        refine lv_topi (nm_r (e' := 1) hS_c1 ?_)
        refine lv_if_eq (tgt := 251) hx hb dX12_yearOf_244 (by decide) (fun c87 => absurd c87 (by decide)) (fun _ => ?_)
        refine lv_iconst (v := 1) hx hb dX12_yearOf_247 (by decide) ?_
        refine lv_goto (tgt := 252) hx hb dX12_yearOf_248 (by decide) ?_
        refine va_zast (D := g) hx hb hK hP hD hS 5 3 rfl rfl (vc_in (by decide)) dX12_yearOf_252 (fun H locs hP hD hS => ?_)
        have hP : va_P g vwCl [(mo, .inr (11, mG m_a m_thrown m_taped m_at m_token m_place m_value m_word m_bad m_badPlace m_fault m_faultPlace (-1) m_will m_forgot 0 m_x vb vr vc vf m_any m_bothSend m_meanCards m_bestSum m_fitMany m_fitFirst m_fitSecond)), ((m_a 23), .inl (cI, 2, .inl fr)), ((m_a 24), .inl (cZ, 2, .inl fm)), ((m_a 25), .inl (cZ, 2, .inl fc)), ((m_a 26), .inl (cI, 2, .inl (upd (upd (upd fs 0 1) 1 0) 1 2))), ((m_a 27), .inl (cZ, 2, .inl (upd (upd (upd fg 0 0) 1 0) 0 1))), ((m_a 34), .inl (cZ, 2, .inl (upd (upd fk 0 0) 1 1)))] H := hP
        have hD : va_D A [(mo, .inr (11, mG m_a m_thrown m_taped m_at m_token m_place m_value m_word m_bad m_badPlace m_fault m_faultPlace (-1) m_will m_forgot 0 m_x vb vr vc vf m_any m_bothSend m_meanCards m_bestSum m_fitMany m_fitFirst m_fitSecond)), ((m_a 23), .inl (cI, 2, .inl fr)), ((m_a 24), .inl (cZ, 2, .inl fm)), ((m_a 25), .inl (cZ, 2, .inl fc)), ((m_a 26), .inl (cI, 2, .inl (upd (upd (upd fs 0 1) 1 0) 1 2))), ((m_a 27), .inl (cZ, 2, .inl (upd (upd (upd fg 0 0) 1 0) 0 1))), ((m_a 34), .inl (cZ, 2, .inl (upd (upd fk 0 0) 1 1)))] := hD
        refine lv_iload_n hx hb dX12_yearOf_253 rfl (lv_at hl 1 rfl) ?_
        refine lv_aload_n hx hb dX12_yearOf_254 rfl (lv_at hl 3 rfl) ?_
        refine va_get (D := g) (ci := 11) (v := .ref (m_a 27)) (C := RX12) (T := TX12) (N := 56) hx hb hts iX12 hown hK hP 0 rfl rfl 27 (by decide) (hts (.fieldLink RX12 65 "CardsAtYuleModel" "gets" "[Z") (List.mem_cons_of_mem _ (List.mem_append_left _ (List.mem_of_getElem? (i := 0) rfl)))) (fun _ h9 => h9) rfl dX12_yearOf_255 ?_
        refine lv_iload hx hb dX12_yearOf_258 (lv_at hl 0 rfl) ?_
        refine va_zald (D := g) hx hb hK hP 5 3 rfl rfl (vc_in (by decide)) dX12_yearOf_260 ?_
        refine lv_topi (nm_r (e' := 1) rfl ?_)
        refine lv_if_eq (tgt := 273) hx hb dX12_yearOf_261 (by decide) (fun c88 => absurd c88 (by decide)) (fun _ => ?_)
        refine lv_iconst (v := 1) hx hb dX12_yearOf_264 (by decide) ?_
        refine lv_iconst (v := 2) hx hb dX12_yearOf_265 (by decide) ?_
        refine lv_iload hx hb dX12_yearOf_266 (lv_at hl 0 rfl) ?_
        refine lv_imul hx hb dX12_yearOf_268 ?_
        refine lv_topi (nm_r (e' := 0) (by decide) ?_)
        refine lv_ishl hx hb dX12_yearOf_269 ?_
        refine lv_topi (nm_r (e' := 1) (by decide) ?_)
        refine lv_goto (tgt := 274) hx hb dX12_yearOf_270 (by decide) ?_
        refine lv_ior hx hb dX12_yearOf_274 ?_
        refine lv_istore_n (lv' := [(3, .int ((((nI js) &&& 5) <<< (1 &&& (31 : Int32))) ||| 1)), (4, .int 0), (2, .ref (m_a 34)), (0, .ref mo), (1, .int (nI js))]) hx hb dX12_yearOf_275 rfl hl (by decide) rfl (fun ls hl => ?_)
        refine lv_iinc (v := 1) (lv' := [(4, .int 1), (3, .int ((((nI js) &&& 5) <<< (1 &&& (31 : Int32))) ||| 1)), (2, .ref (m_a 34)), (0, .ref mo), (1, .int (nI js))]) hx hb dX12_yearOf_276 hl (k := 1) rfl (by decide) (by decide) rfl (fun ls hl => ?_)
        refine lv_goto (tgt := 211) hx hb dX12_yearOf_279 (by decide) ?_
        refine lv_iload hx hb dX12_yearOf_211 (lv_at hl 0 rfl) ?_
        refine lv_iconst (v := 2) hx hb dX12_yearOf_213 (by decide) ?_
        refine lv_icmp_ge (tgt := 282) hx hb dX12_yearOf_214 (by decide) (fun c89 => absurd c89 (by decide)) (fun _ => ?_)
        refine lv_aload_n hx hb dX12_yearOf_217 rfl (lv_at hl 3 rfl) ?_
        refine va_get (D := g) (ci := 11) (v := .ref (m_a 27)) (C := RX12) (T := TX12) (N := 56) hx hb hts iX12 hown hK hP 0 rfl rfl 27 (by decide) (hts (.fieldLink RX12 65 "CardsAtYuleModel" "gets" "[Z") (List.mem_cons_of_mem _ (List.mem_append_left _ (List.mem_of_getElem? (i := 0) rfl)))) (fun _ h9 => h9) rfl dX12_yearOf_218 ?_
        refine lv_iload hx hb dX12_yearOf_221 (lv_at hl 0 rfl) ?_
        refine lv_aload_n hx hb dX12_yearOf_223 rfl (lv_at hl 3 rfl) ?_
        refine va_get (D := g) (ci := 11) (v := .ref (m_a 26)) (C := RX12) (T := TX12) (N := 56) hx hb hts iX12 hown hK hP 0 rfl rfl 26 (by decide) (hts (.fieldLink RX12 62 "CardsAtYuleModel" "sent" "[I") (List.mem_cons_of_mem _ (List.mem_append_left _ (List.mem_of_getElem? (i := 10) rfl)))) (fun _ h9 => h9) rfl dX12_yearOf_224 ?_
        refine lv_iconst (v := 1) hx hb dX12_yearOf_227 (by decide) ?_
        refine lv_iload hx hb dX12_yearOf_228 (lv_at hl 0 rfl) ?_
        refine lv_isub hx hb dX12_yearOf_230 ?_
        refine lv_topi (nm_r (e' := 0) (by decide) ?_)
        refine va_iald (D := g) hx hb hK hP 4 0 rfl rfl (vc_in (by decide)) dX12_yearOf_231 ?_
        refine lv_topi (nm_r (e' := 1) rfl ?_)
        refine lv_if_le (tgt := 251) hx hb dX12_yearOf_232 (by decide) (fun c90 => absurd c90 (by decide)) (fun _ => ?_)
        refine lv_aload_n hx hb dX12_yearOf_235 rfl (lv_at hl 3 rfl) ?_
        refine va_get (D := g) (ci := 11) (v := .ref (m_a 25)) (C := RX12) (T := TX12) (N := 56) hx hb hts iX12 hown hK hP 0 rfl rfl 25 (by decide) (hts (.fieldLink RX12 59 "CardsAtYuleModel" "maycome" "[Z") (List.mem_cons_of_mem _ (List.mem_append_left _ (List.mem_of_getElem? (i := 12) rfl)))) (fun _ h9 => h9) rfl dX12_yearOf_236 ?_
        refine lv_iconst (v := 1) hx hb dX12_yearOf_239 (by decide) ?_
        refine lv_iload hx hb dX12_yearOf_240 (lv_at hl 0 rfl) ?_
        refine lv_isub hx hb dX12_yearOf_242 ?_
        refine lv_topi (nm_r (e' := 0) (by decide) ?_)
        refine va_zald (D := g) hx hb hK hP 3 3 rfl rfl (vc_in (by decide)) dX12_yearOf_243 ?_
        refine lv_topi (nm_r (e' := 1) hS_c0 ?_)
        refine lv_if_eq (tgt := 251) hx hb dX12_yearOf_244 (by decide) (fun c91 => absurd c91 (by decide)) (fun _ => ?_)
        refine lv_iconst (v := 1) hx hb dX12_yearOf_247 (by decide) ?_
        refine lv_goto (tgt := 252) hx hb dX12_yearOf_248 (by decide) ?_
        refine va_zast (D := g) hx hb hK hP hD hS 5 3 rfl rfl (vc_in (by decide)) dX12_yearOf_252 (fun H locs hP hD hS => ?_)
        have hP : va_P g vwCl [(mo, .inr (11, mG m_a m_thrown m_taped m_at m_token m_place m_value m_word m_bad m_badPlace m_fault m_faultPlace (-1) m_will m_forgot 0 m_x vb vr vc vf m_any m_bothSend m_meanCards m_bestSum m_fitMany m_fitFirst m_fitSecond)), ((m_a 23), .inl (cI, 2, .inl fr)), ((m_a 24), .inl (cZ, 2, .inl fm)), ((m_a 25), .inl (cZ, 2, .inl fc)), ((m_a 26), .inl (cI, 2, .inl (upd (upd (upd fs 0 1) 1 0) 1 2))), ((m_a 27), .inl (cZ, 2, .inl (upd (upd (upd (upd fg 0 0) 1 0) 0 1) 1 1))), ((m_a 34), .inl (cZ, 2, .inl (upd (upd fk 0 0) 1 1)))] H := hP
        have hD : va_D A [(mo, .inr (11, mG m_a m_thrown m_taped m_at m_token m_place m_value m_word m_bad m_badPlace m_fault m_faultPlace (-1) m_will m_forgot 0 m_x vb vr vc vf m_any m_bothSend m_meanCards m_bestSum m_fitMany m_fitFirst m_fitSecond)), ((m_a 23), .inl (cI, 2, .inl fr)), ((m_a 24), .inl (cZ, 2, .inl fm)), ((m_a 25), .inl (cZ, 2, .inl fc)), ((m_a 26), .inl (cI, 2, .inl (upd (upd (upd fs 0 1) 1 0) 1 2))), ((m_a 27), .inl (cZ, 2, .inl (upd (upd (upd (upd fg 0 0) 1 0) 0 1) 1 1))), ((m_a 34), .inl (cZ, 2, .inl (upd (upd fk 0 0) 1 1)))] := hD
        refine lv_iload_n hx hb dX12_yearOf_253 rfl (lv_at hl 1 rfl) ?_
        refine lv_aload_n hx hb dX12_yearOf_254 rfl (lv_at hl 3 rfl) ?_
        refine va_get (D := g) (ci := 11) (v := .ref (m_a 27)) (C := RX12) (T := TX12) (N := 56) hx hb hts iX12 hown hK hP 0 rfl rfl 27 (by decide) (hts (.fieldLink RX12 65 "CardsAtYuleModel" "gets" "[Z") (List.mem_cons_of_mem _ (List.mem_append_left _ (List.mem_of_getElem? (i := 0) rfl)))) (fun _ h9 => h9) rfl dX12_yearOf_255 ?_
        refine lv_iload hx hb dX12_yearOf_258 (lv_at hl 0 rfl) ?_
        refine va_zald (D := g) hx hb hK hP 5 3 rfl rfl (vc_in (by decide)) dX12_yearOf_260 ?_
        refine lv_topi (nm_r (e' := 1) rfl ?_)
        refine lv_if_eq (tgt := 273) hx hb dX12_yearOf_261 (by decide) (fun c92 => absurd c92 (by decide)) (fun _ => ?_)
        refine lv_iconst (v := 1) hx hb dX12_yearOf_264 (by decide) ?_
        refine lv_iconst (v := 2) hx hb dX12_yearOf_265 (by decide) ?_
        refine lv_iload hx hb dX12_yearOf_266 (lv_at hl 0 rfl) ?_
        refine lv_imul hx hb dX12_yearOf_268 ?_
        refine lv_topi (nm_r (e' := 2) (by decide) ?_)
        refine lv_ishl hx hb dX12_yearOf_269 ?_
        refine lv_topi (nm_r (e' := 4) (by decide) ?_)
        refine lv_goto (tgt := 274) hx hb dX12_yearOf_270 (by decide) ?_
        refine lv_ior hx hb dX12_yearOf_274 ?_
        refine lv_istore_n (lv' := [(3, .int (((((nI js) &&& 5) <<< (1 &&& (31 : Int32))) ||| 1) ||| 4)), (4, .int 1), (2, .ref (m_a 34)), (0, .ref mo), (1, .int (nI js))]) hx hb dX12_yearOf_275 rfl hl (by decide) rfl (fun ls hl => ?_)
        refine lv_iinc (v := 2) (lv' := [(4, .int 2), (3, .int (((((nI js) &&& 5) <<< (1 &&& (31 : Int32))) ||| 1) ||| 4)), (2, .ref (m_a 34)), (0, .ref mo), (1, .int (nI js))]) hx hb dX12_yearOf_276 hl (k := 1) rfl (by decide) (by decide) rfl (fun ls hl => ?_)
        refine lv_goto (tgt := 211) hx hb dX12_yearOf_279 (by decide) ?_
        refine lv_iload hx hb dX12_yearOf_211 (lv_at hl 0 rfl) ?_
        refine lv_iconst (v := 2) hx hb dX12_yearOf_213 (by decide) ?_
        refine lv_icmp_ge (tgt := 282) hx hb dX12_yearOf_214 (by decide) (fun _ => ?_) (fun c93 => absurd c93 (by decide))
        refine lv_iload_n hx hb dX12_yearOf_282 rfl (lv_at hl 1 rfl) ?_
        have hA9 : sA ra rb js = 1 := by unfold sA; rw [if_pos (by omega)]
        have hB9 : zB ra rb js = 1 := by unfold zB; rw [if_pos (by omega)]
        have hP9 := hP.sub (ws' := [(mo, .inr (11, mG m_a m_thrown m_taped m_at m_token m_place m_value m_word m_bad m_badPlace m_fault m_faultPlace (-1) m_will m_forgot 0 m_x vb vr vc vf m_any m_bothSend m_meanCards m_bestSum m_fitMany m_fitFirst m_fitSecond)), ((m_a 23), .inl (cI, 2, .inl fr)), ((m_a 24), .inl (cZ, 2, .inl fm)), ((m_a 25), .inl (cZ, 2, .inl fc)), ((m_a 26), .inl (cI, 2, .inl (upd (upd (upd fs 0 1) 1 0) 1 2))), ((m_a 27), .inl (cZ, 2, .inl (upd (upd (upd (upd fg 0 0) 1 0) 0 1) 1 1))), ((m_a 34), .inl (cZ, 2, .inl (upd (upd fk 0 0) 1 1)))]) [0, 1, 2, 3, 4, 5, 6] rfl
        have hD9 := hD.sub (ws' := [(mo, .inr (11, mG m_a m_thrown m_taped m_at m_token m_place m_value m_word m_bad m_badPlace m_fault m_faultPlace (-1) m_will m_forgot 0 m_x vb vr vc vf m_any m_bothSend m_meanCards m_bestSum m_fitMany m_fitFirst m_fitSecond)), ((m_a 23), .inl (cI, 2, .inl fr)), ((m_a 24), .inl (cZ, 2, .inl fm)), ((m_a 25), .inl (cZ, 2, .inl fc)), ((m_a 26), .inl (cI, 2, .inl (upd (upd (upd fs 0 1) 1 0) 1 2))), ((m_a 27), .inl (cZ, 2, .inl (upd (upd (upd (upd fg 0 0) 1 0) 0 1) 1 1))), ((m_a 34), .inl (cZ, 2, .inl (upd (upd fk 0 0) 1 1)))]) [0, 1, 2, 3, 4, 5, 6] (by decide) rfl
        exact W.iret (v := (((((nI js) &&& 5) <<< (1 &&& (31 : Int32))) ||| 1) ||| 4)) hx hb hr (fun t ht hW => ⟨⟨(((((nI js) &&& 5) <<< (1 &&& (31 : Int32))) ||| 1) ||| 4), ((upd (upd (upd fs 0 1) 1 0) 1 2), (upd (upd (upd (upd fg 0 0) 1 0) 0 1) 1 1), (upd (upd fk 0 0) 1 1)), rfl, ⟨th_nx hjs (u := 1) (v := 1) hB9 hA9, 1, 2, rfl, rfl, by decide, by decide, by unfold sc; rw [hA9, hB9]; rfl⟩, by rw [ht]; exact hP9, va_K.moved hW.alike hK, hD9⟩, hS.F ht⟩) hS.2.2 dX12_yearOf_283
  · refine lv_if_eq (tgt := 59) hx hb dX12_yearOf_44 (by decide) (fun _ => ?_) (fun c94 => absurd c94 (by decide))
    refine lv_iconst (v := 0) hx hb dX12_yearOf_59 (by decide) ?_
    refine lv_istore_n (lv' := [(3, .int 0), (2, .int 0), (0, .ref mo), (1, .int (nI js))]) hx hb dX12_yearOf_60 rfl hl (by decide) rfl (fun ls hl => ?_)
    refine lv_aload_n hx hb dX12_yearOf_61 rfl (lv_at hl 2 rfl) ?_
    refine va_get (D := g) (ci := 11) (v := .ref (m_a 26)) (C := RX12) (T := TX12) (N := 56) hx hb hts iX12 hown hK hP 0 rfl rfl 26 (by decide) (hts (.fieldLink RX12 62 "CardsAtYuleModel" "sent" "[I") (List.mem_cons_of_mem _ (List.mem_append_left _ (List.mem_of_getElem? (i := 10) rfl)))) (fun _ h9 => h9) rfl dX12_yearOf_62 ?_
    refine lv_iload_n hx hb dX12_yearOf_65 rfl (lv_at hl 1 rfl) ?_
    refine lv_iload_n hx hb dX12_yearOf_66 rfl (lv_at hl 0 rfl) ?_
    refine lv_if_eq (tgt := 74) hx hb dX12_yearOf_67 (by decide) (fun _ => ?_) (fun c95 => absurd c95 (by decide))
    refine lv_iconst (v := 0) hx hb dX12_yearOf_74 (by decide) ?_
    refine va_iast (D := g) hx hb hK hP hD hS 4 0 rfl rfl (vc_in (by decide)) dX12_yearOf_75 (fun H locs hP hD hS => ?_)
    have hP : va_P g vwCl [(mo, .inr (11, mG m_a m_thrown m_taped m_at m_token m_place m_value m_word m_bad m_badPlace m_fault m_faultPlace (-1) m_will m_forgot 0 m_x vb vr vc vf m_any m_bothSend m_meanCards m_bestSum m_fitMany m_fitFirst m_fitSecond)), ((m_a 23), .inl (cI, 2, .inl fr)), ((m_a 24), .inl (cZ, 2, .inl fm)), ((m_a 25), .inl (cZ, 2, .inl fc)), ((m_a 26), .inl (cI, 2, .inl (upd fs 0 0))), ((m_a 27), .inl (cZ, 2, .inl (upd fg 0 0))), ((m_a 34), .inl (cZ, 2, .inl fk))] H := hP
    have hD : va_D A [(mo, .inr (11, mG m_a m_thrown m_taped m_at m_token m_place m_value m_word m_bad m_badPlace m_fault m_faultPlace (-1) m_will m_forgot 0 m_x vb vr vc vf m_any m_bothSend m_meanCards m_bestSum m_fitMany m_fitFirst m_fitSecond)), ((m_a 23), .inl (cI, 2, .inl fr)), ((m_a 24), .inl (cZ, 2, .inl fm)), ((m_a 25), .inl (cZ, 2, .inl fc)), ((m_a 26), .inl (cI, 2, .inl (upd fs 0 0))), ((m_a 27), .inl (cZ, 2, .inl (upd fg 0 0))), ((m_a 34), .inl (cZ, 2, .inl fk))] := hD
    refine lv_iinc (v := 1) (lv' := [(2, .int 1), (3, .int 0), (0, .ref mo), (1, .int (nI js))]) hx hb dX12_yearOf_76 hl (k := 1) rfl (by decide) (by decide) rfl (fun ls hl => ?_)
    refine lv_goto (tgt := 2) hx hb dX12_yearOf_79 (by decide) ?_
    refine lv_iload_n hx hb dX12_yearOf_2 rfl (lv_at hl 0 rfl) ?_
    refine lv_iconst (v := 2) hx hb dX12_yearOf_3 (by decide) ?_
    refine lv_icmp_ge (tgt := 82) hx hb dX12_yearOf_4 (by decide) (fun c96 => absurd c96 (by decide)) (fun _ => ?_)
    refine lv_aload_n hx hb dX12_yearOf_7 rfl (lv_at hl 2 rfl) ?_
    refine va_get (D := g) (ci := 11) (v := .ref (m_a 27)) (C := RX12) (T := TX12) (N := 56) hx hb hts iX12 hown hK hP 0 rfl rfl 27 (by decide) (hts (.fieldLink RX12 65 "CardsAtYuleModel" "gets" "[Z") (List.mem_cons_of_mem _ (List.mem_append_left _ (List.mem_of_getElem? (i := 0) rfl)))) (fun _ h9 => h9) rfl dX12_yearOf_8 ?_
    refine lv_iload_n hx hb dX12_yearOf_11 rfl (lv_at hl 0 rfl) ?_
    refine lv_iconst (v := 0) hx hb dX12_yearOf_12 (by decide) ?_
    refine va_zast (D := g) hx hb hK hP hD hS 5 3 rfl rfl (vc_in (by decide)) dX12_yearOf_13 (fun H locs hP hD hS => ?_)
    have hP : va_P g vwCl [(mo, .inr (11, mG m_a m_thrown m_taped m_at m_token m_place m_value m_word m_bad m_badPlace m_fault m_faultPlace (-1) m_will m_forgot 0 m_x vb vr vc vf m_any m_bothSend m_meanCards m_bestSum m_fitMany m_fitFirst m_fitSecond)), ((m_a 23), .inl (cI, 2, .inl fr)), ((m_a 24), .inl (cZ, 2, .inl fm)), ((m_a 25), .inl (cZ, 2, .inl fc)), ((m_a 26), .inl (cI, 2, .inl (upd fs 0 0))), ((m_a 27), .inl (cZ, 2, .inl (upd (upd fg 0 0) 1 0))), ((m_a 34), .inl (cZ, 2, .inl fk))] H := hP
    have hD : va_D A [(mo, .inr (11, mG m_a m_thrown m_taped m_at m_token m_place m_value m_word m_bad m_badPlace m_fault m_faultPlace (-1) m_will m_forgot 0 m_x vb vr vc vf m_any m_bothSend m_meanCards m_bestSum m_fitMany m_fitFirst m_fitSecond)), ((m_a 23), .inl (cI, 2, .inl fr)), ((m_a 24), .inl (cZ, 2, .inl fm)), ((m_a 25), .inl (cZ, 2, .inl fc)), ((m_a 26), .inl (cI, 2, .inl (upd fs 0 0))), ((m_a 27), .inl (cZ, 2, .inl (upd (upd fg 0 0) 1 0))), ((m_a 34), .inl (cZ, 2, .inl fk))] := hD
    refine lv_iload_n hx hb dX12_yearOf_14 rfl (lv_at hl 0 rfl) ?_
    refine lv_aload_n hx hb dX12_yearOf_15 rfl (lv_at hl 2 rfl) ?_
    refine va_get (D := g) (ci := 11) (v := .int (-1)) (C := RX12) (T := TX12) (N := 56) hx hb hts iX12 hown hK hP 0 rfl rfl 28 (by decide) (hts (.fieldLink RX12 68 "CardsAtYuleModel" "willing" "I") (List.mem_cons_of_mem _ (List.mem_append_left _ (List.mem_of_getElem? (i := 1) rfl)))) (fun _ h9 => h9) rfl dX12_yearOf_16 ?_
    refine lv_icmp_ne (tgt := 29) hx hb dX12_yearOf_19 (by decide) (fun _ => ?_) (fun c97 => absurd c97 (by decide))
    refine lv_aload_n hx hb dX12_yearOf_29 rfl (lv_at hl 2 rfl) ?_
    refine va_get (D := g) (ci := 11) (v := .ref (m_a 24)) (C := RX12) (T := TX12) (N := 56) hx hb hts iX12 hown hK hP 0 rfl rfl 24 (by decide) (hts (.fieldLink RX12 56 "CardsAtYuleModel" "maySend" "[Z") (List.mem_cons_of_mem _ (List.mem_append_left _ (List.mem_of_getElem? (i := 2) rfl)))) (fun _ h9 => h9) rfl dX12_yearOf_30 ?_
    refine lv_iload_n hx hb dX12_yearOf_33 rfl (lv_at hl 0 rfl) ?_
    refine va_zald (D := g) hx hb hK hP 2 3 rfl rfl (vc_in (by decide)) dX12_yearOf_34 ?_
    refine lv_topi (nm_r (e' := 1) hS_m1 ?_)
    refine lv_if_eq (tgt := 59) hx hb dX12_yearOf_35 (by decide) (fun c98 => absurd c98 (by decide)) (fun _ => ?_)
    refine lv_aload_n hx hb dX12_yearOf_38 rfl (lv_at hl 2 rfl) ?_
    refine lv_iload_n hx hb dX12_yearOf_39 rfl (lv_at hl 0 rfl) ?_
    refine lv_iload_n hx hb dX12_yearOf_40 rfl (lv_at hl 3 rfl) ?_
    refine ro_i (va_runV (As := [.int 1, .int (nI js)]) (rest := []) ⟨hx, hb, hml, hown, hts⟩ (k_fX12_wouldSend_1 l g cI cJ cB cZ cL mo m_a m_thrown m_taped m_at m_token m_place m_value m_word m_bad m_badPlace m_fault m_faultPlace m_will m_forgot m_x m_any m_bothSend m_meanCards m_bestSum m_fitMany m_fitFirst m_fitSecond vb vr vc vf fr rb js H.size hS_r1 (by omega) (by omega)) (cwV 2 hts (goodIn_app (g_4 (List.mem_cons_of_mem _ (List.mem_append_left _ (List.mem_of_getElem? (i := 3) rfl))) (List.mem_cons_of_mem _ (List.mem_append_left _ (List.mem_of_getElem? (i := 4) rfl))) (List.mem_cons_of_mem _ (List.mem_append_left _ (List.mem_of_getElem? (i := 5) rfl))) (List.mem_cons_of_mem _ (List.mem_append_left _ (List.mem_of_getElem? (i := 6) rfl))) (by decide +kernel)) (goodIn_sub (fun _ h => List.mem_cons_of_mem _ (List.mem_append_right _ (List.mem_append_right _ (List.mem_append_right _ (List.mem_append_left _ h))))) good_v_fX12_wouldSend_1)) rfl rfl rfl (by decide +kernel) ⟨Nat.le_of_ble_eq_true rfl, Nat.le_of_ble_eq_true rfl⟩) (pv_RO (q := (RX12, TX12, 56)) (ci := 11) (q0 := 0) (wc := [(mo, .inr (11, mG m_a m_thrown m_taped m_at m_token m_place m_value m_word m_bad m_badPlace m_fault m_faultPlace (-1) m_will m_forgot 0 m_x vb vr vc vf m_any m_bothSend m_meanCards m_bestSum m_fitMany m_fitFirst m_fitSecond)), ((m_a 23), .inl (cI, 2, .inl fr))]) hK hP [0, 1] rfl rfl rfl) rfl rfl hl.1 rfl (lv_room (Nat.le_of_ble_eq_true rfl)) dX12_yearOf_41 ⟨Nat.le_of_ble_eq_true rfl, Nat.le_of_ble_eq_true rfl⟩) hS hA hP (fun r99 u100 H locs hw101 hP hS => ?_)
    rcases hw101 with ⟨rfl, hw101_0⟩ | ⟨rfl, hw101_0⟩
    · refine lv_if_eq (tgt := 59) hx hb dX12_yearOf_44 (by decide) (fun c102 => absurd c102 (by decide)) (fun _ => ?_)
      refine lv_aload_n hx hb dX12_yearOf_47 rfl (lv_at hl 2 rfl) ?_
      refine lv_iload_n hx hb dX12_yearOf_48 rfl (lv_at hl 0 rfl) ?_
      refine ro_i (va_runV (As := [.int 1]) (rest := []) ⟨hx, hb, hml, hown, hts⟩ (k_fX12_isForgotten l g cI cJ cB cZ cL mo m_a m_thrown m_taped m_at m_token m_place m_value m_word m_bad m_badPlace m_fault m_faultPlace m_will m_forgot m_x m_any m_bothSend m_meanCards m_bestSum m_fitMany m_fitFirst m_fitSecond vb vr vc vf 1 H.size ) (cwV 1 hts (goodIn_app (g_4 (List.mem_cons_of_mem _ (List.mem_append_left _ (List.mem_of_getElem? (i := 7) rfl))) (List.mem_cons_of_mem _ (List.mem_append_left _ (List.mem_of_getElem? (i := 8) rfl))) (List.mem_cons_of_mem _ (List.mem_append_left _ (List.mem_of_getElem? (i := 9) rfl))) (List.mem_cons_of_mem _ (List.mem_append_left _ (List.mem_of_getElem? (i := 6) rfl))) (by decide +kernel)) (goodIn_sub (fun _ h => List.mem_cons_of_mem _ (List.mem_append_right _ (List.mem_append_right _ (List.mem_append_left _ h)))) good_v_fX12_isForgotten)) rfl rfl rfl (by decide +kernel) ⟨Nat.le_of_ble_eq_true rfl, Nat.le_of_ble_eq_true rfl⟩) (pv_RO (q := (RX12, TX12, 56)) (ci := 11) (q0 := 0) (wc := [(mo, .inr (11, mG m_a m_thrown m_taped m_at m_token m_place m_value m_word m_bad m_badPlace m_fault m_faultPlace (-1) m_will m_forgot 0 m_x vb vr vc vf m_any m_bothSend m_meanCards m_bestSum m_fitMany m_fitFirst m_fitSecond))]) hK hP [0] rfl rfl rfl) rfl rfl hl.1 rfl (lv_room (Nat.le_of_ble_eq_true rfl)) dX12_yearOf_49 ⟨Nat.le_of_ble_eq_true rfl, Nat.le_of_ble_eq_true rfl⟩) hS hA hP (fun r103 u104 H locs hw105 hP hS => ?_)
      subst hw105
      refine lv_if_ne (tgt := 59) hx hb dX12_yearOf_52 (by decide) (fun c106 => absurd c106 (by decide)) (fun _ => ?_)
      refine lv_iconst (v := 1) hx hb dX12_yearOf_55 (by decide) ?_
      refine lv_goto (tgt := 60) hx hb dX12_yearOf_56 (by decide) ?_
      refine lv_istore_n (lv' := [(3, .int 1), (2, .int 1), (0, .ref mo), (1, .int (nI js))]) hx hb dX12_yearOf_60 rfl hl (by decide) rfl (fun ls hl => ?_)
      refine lv_aload_n hx hb dX12_yearOf_61 rfl (lv_at hl 2 rfl) ?_
      refine va_get (D := g) (ci := 11) (v := .ref (m_a 26)) (C := RX12) (T := TX12) (N := 56) hx hb hts iX12 hown hK hP 0 rfl rfl 26 (by decide) (hts (.fieldLink RX12 62 "CardsAtYuleModel" "sent" "[I") (List.mem_cons_of_mem _ (List.mem_append_left _ (List.mem_of_getElem? (i := 10) rfl)))) (fun _ h9 => h9) rfl dX12_yearOf_62 ?_
      refine lv_iload_n hx hb dX12_yearOf_65 rfl (lv_at hl 1 rfl) ?_
      refine lv_iload_n hx hb dX12_yearOf_66 rfl (lv_at hl 0 rfl) ?_
      refine lv_if_eq (tgt := 74) hx hb dX12_yearOf_67 (by decide) (fun c107 => absurd c107 (by decide)) (fun _ => ?_)
      refine lv_iconst (v := 1) hx hb dX12_yearOf_70 (by decide) ?_
      refine lv_goto (tgt := 75) hx hb dX12_yearOf_71 (by decide) ?_
      refine va_iast (D := g) hx hb hK hP hD hS 4 0 rfl rfl (vc_in (by decide)) dX12_yearOf_75 (fun H locs hP hD hS => ?_)
      have hP : va_P g vwCl [(mo, .inr (11, mG m_a m_thrown m_taped m_at m_token m_place m_value m_word m_bad m_badPlace m_fault m_faultPlace (-1) m_will m_forgot 0 m_x vb vr vc vf m_any m_bothSend m_meanCards m_bestSum m_fitMany m_fitFirst m_fitSecond)), ((m_a 23), .inl (cI, 2, .inl fr)), ((m_a 24), .inl (cZ, 2, .inl fm)), ((m_a 25), .inl (cZ, 2, .inl fc)), ((m_a 26), .inl (cI, 2, .inl (upd (upd fs 0 0) 1 1))), ((m_a 27), .inl (cZ, 2, .inl (upd (upd fg 0 0) 1 0))), ((m_a 34), .inl (cZ, 2, .inl fk))] H := hP
      have hD : va_D A [(mo, .inr (11, mG m_a m_thrown m_taped m_at m_token m_place m_value m_word m_bad m_badPlace m_fault m_faultPlace (-1) m_will m_forgot 0 m_x vb vr vc vf m_any m_bothSend m_meanCards m_bestSum m_fitMany m_fitFirst m_fitSecond)), ((m_a 23), .inl (cI, 2, .inl fr)), ((m_a 24), .inl (cZ, 2, .inl fm)), ((m_a 25), .inl (cZ, 2, .inl fc)), ((m_a 26), .inl (cI, 2, .inl (upd (upd fs 0 0) 1 1))), ((m_a 27), .inl (cZ, 2, .inl (upd (upd fg 0 0) 1 0))), ((m_a 34), .inl (cZ, 2, .inl fk))] := hD
      refine lv_iinc (v := 2) (lv' := [(2, .int 2), (3, .int 1), (0, .ref mo), (1, .int (nI js))]) hx hb dX12_yearOf_76 hl (k := 1) rfl (by decide) (by decide) rfl (fun ls hl => ?_)
      refine lv_goto (tgt := 2) hx hb dX12_yearOf_79 (by decide) ?_
      refine lv_iload_n hx hb dX12_yearOf_2 rfl (lv_at hl 0 rfl) ?_
      refine lv_iconst (v := 2) hx hb dX12_yearOf_3 (by decide) ?_
      refine lv_icmp_ge (tgt := 82) hx hb dX12_yearOf_4 (by decide) (fun _ => ?_) (fun c108 => absurd c108 (by decide))
      refine lv_aload_n hx hb dX12_yearOf_82 rfl (lv_at hl 2 rfl) ?_
      refine va_get (D := g) (ci := 11) (v := .ref (m_a 34)) (C := RX12) (T := TX12) (N := 56) hx hb hts iX12 hown hK hP 0 rfl rfl 34 (by decide) (hts (.fieldLink RX12 74 "CardsAtYuleModel" "cameFirst" "[Z") (List.mem_cons_of_mem _ (List.mem_append_left _ (List.mem_of_getElem? (i := 11) rfl)))) (fun _ h9 => h9) rfl dX12_yearOf_83 ?_
      refine lv_astore_n (lv' := [(2, .ref (m_a 34)), (3, .int 1), (0, .ref mo), (1, .int (nI js))]) hx hb dX12_yearOf_86 rfl hl (by decide) rfl (fun ls hl => ?_)
      refine lv_iconst (v := 0) hx hb dX12_yearOf_87 (by decide) ?_
      refine lv_istore_n (lv' := [(3, .int 0), (2, .ref (m_a 34)), (0, .ref mo), (1, .int (nI js))]) hx hb dX12_yearOf_88 rfl hl (by decide) rfl (fun ls hl => ?_)
      refine lv_iload_n hx hb dX12_yearOf_89 rfl (lv_at hl 0 rfl) ?_
      refine lv_iconst (v := 2) hx hb dX12_yearOf_90 (by decide) ?_
      refine lv_icmp_ge (tgt := 131) hx hb dX12_yearOf_91 (by decide) (fun c109 => absurd c109 (by decide)) (fun _ => ?_)
      refine lv_aload_n hx hb dX12_yearOf_94 rfl (lv_at hl 1 rfl) ?_
      refine lv_iload_n hx hb dX12_yearOf_95 rfl (lv_at hl 0 rfl) ?_
      refine lv_aload_n hx hb dX12_yearOf_96 rfl (lv_at hl 2 rfl) ?_
      refine va_get (D := g) (ci := 11) (v := .ref (m_a 26)) (C := RX12) (T := TX12) (N := 56) hx hb hts iX12 hown hK hP 0 rfl rfl 26 (by decide) (hts (.fieldLink RX12 62 "CardsAtYuleModel" "sent" "[I") (List.mem_cons_of_mem _ (List.mem_append_left _ (List.mem_of_getElem? (i := 10) rfl)))) (fun _ h9 => h9) rfl dX12_yearOf_97 ?_
      refine lv_iconst (v := 1) hx hb dX12_yearOf_100 (by decide) ?_
      refine lv_iload_n hx hb dX12_yearOf_101 rfl (lv_at hl 0 rfl) ?_
      refine lv_isub hx hb dX12_yearOf_102 ?_
      refine lv_topi (nm_r (e' := 1) (by decide) ?_)
      refine va_iald (D := g) hx hb hK hP 4 0 rfl rfl (vc_in (by decide)) dX12_yearOf_103 ?_
      refine lv_topi (nm_r (e' := 1) rfl ?_)
      refine lv_iconst (v := 1) hx hb dX12_yearOf_104 (by decide) ?_
      refine lv_icmp_ne (tgt := 123) hx hb dX12_yearOf_105 (by decide) (fun c110 => absurd c110 (by decide)) (fun _ => ?_)
      refine lv_aload_n hx hb dX12_yearOf_108 rfl (lv_at hl 2 rfl) ?_
      refine va_get (D := g) (ci := 11) (v := .ref (m_a 25)) (C := RX12) (T := TX12) (N := 56) hx hb hts iX12 hown hK hP 0 rfl rfl 25 (by decide) (hts (.fieldLink RX12 59 "CardsAtYuleModel" "maycome" "[Z") (List.mem_cons_of_mem _ (List.mem_append_left _ (List.mem_of_getElem? (i := 12) rfl)))) (fun _ h9 => h9) rfl dX12_yearOf_109 ?_
      refine lv_iconst (v := 1) hx hb dX12_yearOf_112 (by decide) ?_
      refine lv_iload_n hx hb dX12_yearOf_113 rfl (lv_at hl 0 rfl) ?_
      refine lv_isub hx hb dX12_yearOf_114 ?_
      refine lv_topi (nm_r (e' := 1) (by decide) ?_)
      refine va_zald (D := g) hx hb hK hP 3 3 rfl rfl (vc_in (by decide)) dX12_yearOf_115 ?_
      refine lv_topi (nm_r (e' := 1) hS_c1 ?_)
      refine lv_if_eq (tgt := 123) hx hb dX12_yearOf_116 (by decide) (fun c111 => absurd c111 (by decide)) (fun _ => ?_)
      refine lv_iconst (v := 1) hx hb dX12_yearOf_119 (by decide) ?_
      refine lv_goto (tgt := 124) hx hb dX12_yearOf_120 (by decide) ?_
      refine va_zast (D := g) hx hb hK hP hD hS 6 3 rfl rfl (vc_in (by decide)) dX12_yearOf_124 (fun H locs hP hD hS => ?_)
      have hP : va_P g vwCl [(mo, .inr (11, mG m_a m_thrown m_taped m_at m_token m_place m_value m_word m_bad m_badPlace m_fault m_faultPlace (-1) m_will m_forgot 0 m_x vb vr vc vf m_any m_bothSend m_meanCards m_bestSum m_fitMany m_fitFirst m_fitSecond)), ((m_a 23), .inl (cI, 2, .inl fr)), ((m_a 24), .inl (cZ, 2, .inl fm)), ((m_a 25), .inl (cZ, 2, .inl fc)), ((m_a 26), .inl (cI, 2, .inl (upd (upd fs 0 0) 1 1))), ((m_a 27), .inl (cZ, 2, .inl (upd (upd fg 0 0) 1 0))), ((m_a 34), .inl (cZ, 2, .inl (upd fk 0 1)))] H := hP
      have hD : va_D A [(mo, .inr (11, mG m_a m_thrown m_taped m_at m_token m_place m_value m_word m_bad m_badPlace m_fault m_faultPlace (-1) m_will m_forgot 0 m_x vb vr vc vf m_any m_bothSend m_meanCards m_bestSum m_fitMany m_fitFirst m_fitSecond)), ((m_a 23), .inl (cI, 2, .inl fr)), ((m_a 24), .inl (cZ, 2, .inl fm)), ((m_a 25), .inl (cZ, 2, .inl fc)), ((m_a 26), .inl (cI, 2, .inl (upd (upd fs 0 0) 1 1))), ((m_a 27), .inl (cZ, 2, .inl (upd (upd fg 0 0) 1 0))), ((m_a 34), .inl (cZ, 2, .inl (upd fk 0 1)))] := hD
      refine lv_iinc (v := 1) (lv' := [(3, .int 1), (2, .ref (m_a 34)), (0, .ref mo), (1, .int (nI js))]) hx hb dX12_yearOf_125 hl (k := 0) rfl (by decide) (by decide) rfl (fun ls hl => ?_)
      refine lv_goto (tgt := 89) hx hb dX12_yearOf_128 (by decide) ?_
      refine lv_iload_n hx hb dX12_yearOf_89 rfl (lv_at hl 0 rfl) ?_
      refine lv_iconst (v := 2) hx hb dX12_yearOf_90 (by decide) ?_
      refine lv_icmp_ge (tgt := 131) hx hb dX12_yearOf_91 (by decide) (fun c112 => absurd c112 (by decide)) (fun _ => ?_)
      refine lv_aload_n hx hb dX12_yearOf_94 rfl (lv_at hl 1 rfl) ?_
      refine lv_iload_n hx hb dX12_yearOf_95 rfl (lv_at hl 0 rfl) ?_
      refine lv_aload_n hx hb dX12_yearOf_96 rfl (lv_at hl 2 rfl) ?_
      refine va_get (D := g) (ci := 11) (v := .ref (m_a 26)) (C := RX12) (T := TX12) (N := 56) hx hb hts iX12 hown hK hP 0 rfl rfl 26 (by decide) (hts (.fieldLink RX12 62 "CardsAtYuleModel" "sent" "[I") (List.mem_cons_of_mem _ (List.mem_append_left _ (List.mem_of_getElem? (i := 10) rfl)))) (fun _ h9 => h9) rfl dX12_yearOf_97 ?_
      refine lv_iconst (v := 1) hx hb dX12_yearOf_100 (by decide) ?_
      refine lv_iload_n hx hb dX12_yearOf_101 rfl (lv_at hl 0 rfl) ?_
      refine lv_isub hx hb dX12_yearOf_102 ?_
      refine lv_topi (nm_r (e' := 0) (by decide) ?_)
      refine va_iald (D := g) hx hb hK hP 4 0 rfl rfl (vc_in (by decide)) dX12_yearOf_103 ?_
      refine lv_topi (nm_r (e' := 0) rfl ?_)
      refine lv_iconst (v := 1) hx hb dX12_yearOf_104 (by decide) ?_
      refine lv_icmp_ne (tgt := 123) hx hb dX12_yearOf_105 (by decide) (fun _ => ?_) (fun c113 => absurd c113 (by decide))
      refine lv_iconst (v := 0) hx hb dX12_yearOf_123 (by decide) ?_
      refine va_zast (D := g) hx hb hK hP hD hS 6 3 rfl rfl (vc_in (by decide)) dX12_yearOf_124 (fun H locs hP hD hS => ?_)
      have hP : va_P g vwCl [(mo, .inr (11, mG m_a m_thrown m_taped m_at m_token m_place m_value m_word m_bad m_badPlace m_fault m_faultPlace (-1) m_will m_forgot 0 m_x vb vr vc vf m_any m_bothSend m_meanCards m_bestSum m_fitMany m_fitFirst m_fitSecond)), ((m_a 23), .inl (cI, 2, .inl fr)), ((m_a 24), .inl (cZ, 2, .inl fm)), ((m_a 25), .inl (cZ, 2, .inl fc)), ((m_a 26), .inl (cI, 2, .inl (upd (upd fs 0 0) 1 1))), ((m_a 27), .inl (cZ, 2, .inl (upd (upd fg 0 0) 1 0))), ((m_a 34), .inl (cZ, 2, .inl (upd (upd fk 0 1) 1 0)))] H := hP
      have hD : va_D A [(mo, .inr (11, mG m_a m_thrown m_taped m_at m_token m_place m_value m_word m_bad m_badPlace m_fault m_faultPlace (-1) m_will m_forgot 0 m_x vb vr vc vf m_any m_bothSend m_meanCards m_bestSum m_fitMany m_fitFirst m_fitSecond)), ((m_a 23), .inl (cI, 2, .inl fr)), ((m_a 24), .inl (cZ, 2, .inl fm)), ((m_a 25), .inl (cZ, 2, .inl fc)), ((m_a 26), .inl (cI, 2, .inl (upd (upd fs 0 0) 1 1))), ((m_a 27), .inl (cZ, 2, .inl (upd (upd fg 0 0) 1 0))), ((m_a 34), .inl (cZ, 2, .inl (upd (upd fk 0 1) 1 0)))] := hD
      refine lv_iinc (v := 2) (lv' := [(3, .int 2), (2, .ref (m_a 34)), (0, .ref mo), (1, .int (nI js))]) hx hb dX12_yearOf_125 hl (k := 0) rfl (by decide) (by decide) rfl (fun ls hl => ?_)
      refine lv_goto (tgt := 89) hx hb dX12_yearOf_128 (by decide) ?_
      refine lv_iload_n hx hb dX12_yearOf_89 rfl (lv_at hl 0 rfl) ?_
      refine lv_iconst (v := 2) hx hb dX12_yearOf_90 (by decide) ?_
      refine lv_icmp_ge (tgt := 131) hx hb dX12_yearOf_91 (by decide) (fun _ => ?_) (fun c114 => absurd c114 (by decide))
      refine lv_iconst (v := 0) hx hb dX12_yearOf_131 (by decide) ?_
      refine lv_istore_n (lv' := [(3, .int 0), (2, .ref (m_a 34)), (0, .ref mo), (1, .int (nI js))]) hx hb dX12_yearOf_132 rfl hl (by decide) rfl (fun ls hl => ?_)
      refine lv_iload_n hx hb dX12_yearOf_133 rfl (lv_at hl 0 rfl) ?_
      refine lv_iconst (v := 2) hx hb dX12_yearOf_134 (by decide) ?_
      refine lv_icmp_ge (tgt := 202) hx hb dX12_yearOf_135 (by decide) (fun c115 => absurd c115 (by decide)) (fun _ => ?_)
      refine lv_iload_n hx hb dX12_yearOf_138 rfl (lv_at hl 0 rfl) ?_
      refine lv_aload_n hx hb dX12_yearOf_139 rfl (lv_at hl 2 rfl) ?_
      refine va_get (D := g) (ci := 11) (v := .int (-1)) (C := RX12) (T := TX12) (N := 56) hx hb hts iX12 hown hK hP 0 rfl rfl 28 (by decide) (hts (.fieldLink RX12 68 "CardsAtYuleModel" "willing" "I") (List.mem_cons_of_mem _ (List.mem_append_left _ (List.mem_of_getElem? (i := 1) rfl)))) (fun _ h9 => h9) rfl dX12_yearOf_140 ?_
      refine lv_icmp_eq (tgt := 196) hx hb dX12_yearOf_143 (by decide) (fun c116 => absurd c116 (by decide)) (fun _ => ?_)
      refine lv_aload_n hx hb dX12_yearOf_146 rfl (lv_at hl 2 rfl) ?_
      refine va_get (D := g) (ci := 11) (v := .ref (m_a 24)) (C := RX12) (T := TX12) (N := 56) hx hb hts iX12 hown hK hP 0 rfl rfl 24 (by decide) (hts (.fieldLink RX12 56 "CardsAtYuleModel" "maySend" "[Z") (List.mem_cons_of_mem _ (List.mem_append_left _ (List.mem_of_getElem? (i := 2) rfl)))) (fun _ h9 => h9) rfl dX12_yearOf_147 ?_
      refine lv_iload_n hx hb dX12_yearOf_150 rfl (lv_at hl 0 rfl) ?_
      refine va_zald (D := g) hx hb hK hP 2 3 rfl rfl (vc_in (by decide)) dX12_yearOf_151 ?_
      refine lv_topi (nm_r (e' := 1) hS_m0 ?_)
      refine lv_if_eq (tgt := 196) hx hb dX12_yearOf_152 (by decide) (fun c117 => absurd c117 (by decide)) (fun _ => ?_)
      refine lv_aload_n hx hb dX12_yearOf_155 rfl (lv_at hl 2 rfl) ?_
      refine va_get (D := g) (ci := 11) (v := .ref (m_a 26)) (C := RX12) (T := TX12) (N := 56) hx hb hts iX12 hown hK hP 0 rfl rfl 26 (by decide) (hts (.fieldLink RX12 62 "CardsAtYuleModel" "sent" "[I") (List.mem_cons_of_mem _ (List.mem_append_left _ (List.mem_of_getElem? (i := 10) rfl)))) (fun _ h9 => h9) rfl dX12_yearOf_156 ?_
      refine lv_iload_n hx hb dX12_yearOf_159 rfl (lv_at hl 0 rfl) ?_
      refine va_iald (D := g) hx hb hK hP 4 0 rfl rfl (vc_in (by decide)) dX12_yearOf_160 ?_
      refine lv_topi (nm_r (e' := 0) rfl ?_)
      refine lv_if_ne (tgt := 196) hx hb dX12_yearOf_161 (by decide) (fun c118 => absurd c118 (by decide)) (fun _ => ?_)
      refine lv_aload_n hx hb dX12_yearOf_164 rfl (lv_at hl 2 rfl) ?_
      refine va_get (D := g) (ci := 11) (v := .ref (m_a 23)) (C := RX12) (T := TX12) (N := 56) hx hb hts iX12 hown hK hP 0 rfl rfl 23 (by decide) (hts (.fieldLink RX12 53 "CardsAtYuleModel" "ruleNow" "[I") (List.mem_cons_of_mem _ (List.mem_append_left _ (List.mem_of_getElem? (i := 13) rfl)))) (fun _ h9 => h9) rfl dX12_yearOf_165 ?_
      refine lv_iload_n hx hb dX12_yearOf_168 rfl (lv_at hl 0 rfl) ?_
      refine va_iald (D := g) hx hb hK hP 1 0 rfl rfl (vc_in (by decide)) dX12_yearOf_169 ?_
      refine lv_topi (nm_r (e' := nI ra) hS_r0 ?_)
      refine lv_bipush (v := 16) hx hb dX12_yearOf_170 (by decide) ?_
      refine lv_icmp_lt (tgt := 196) hx hb dX12_yearOf_172 (by decide) (fun c119 => ?_) (fun c119 => ?_)
      · have f120 := (show (ra : Int) < 16 from z_lt (nI_toInt (n := ra) (by omega)) rfl c119)
        refine lv_iinc (v := 1) (lv' := [(3, .int 1), (2, .ref (m_a 34)), (0, .ref mo), (1, .int (nI js))]) hx hb dX12_yearOf_196 hl (k := 0) rfl (by decide) (by decide) rfl (fun ls hl => ?_)
        refine lv_goto (tgt := 133) hx hb dX12_yearOf_199 (by decide) ?_
        refine lv_iload_n hx hb dX12_yearOf_133 rfl (lv_at hl 0 rfl) ?_
        refine lv_iconst (v := 2) hx hb dX12_yearOf_134 (by decide) ?_
        refine lv_icmp_ge (tgt := 202) hx hb dX12_yearOf_135 (by decide) (fun c121 => absurd c121 (by decide)) (fun _ => ?_)
        refine lv_iload_n hx hb dX12_yearOf_138 rfl (lv_at hl 0 rfl) ?_
        refine lv_aload_n hx hb dX12_yearOf_139 rfl (lv_at hl 2 rfl) ?_
        refine va_get (D := g) (ci := 11) (v := .int (-1)) (C := RX12) (T := TX12) (N := 56) hx hb hts iX12 hown hK hP 0 rfl rfl 28 (by decide) (hts (.fieldLink RX12 68 "CardsAtYuleModel" "willing" "I") (List.mem_cons_of_mem _ (List.mem_append_left _ (List.mem_of_getElem? (i := 1) rfl)))) (fun _ h9 => h9) rfl dX12_yearOf_140 ?_
        refine lv_icmp_eq (tgt := 196) hx hb dX12_yearOf_143 (by decide) (fun c122 => absurd c122 (by decide)) (fun _ => ?_)
        refine lv_aload_n hx hb dX12_yearOf_146 rfl (lv_at hl 2 rfl) ?_
        refine va_get (D := g) (ci := 11) (v := .ref (m_a 24)) (C := RX12) (T := TX12) (N := 56) hx hb hts iX12 hown hK hP 0 rfl rfl 24 (by decide) (hts (.fieldLink RX12 56 "CardsAtYuleModel" "maySend" "[Z") (List.mem_cons_of_mem _ (List.mem_append_left _ (List.mem_of_getElem? (i := 2) rfl)))) (fun _ h9 => h9) rfl dX12_yearOf_147 ?_
        refine lv_iload_n hx hb dX12_yearOf_150 rfl (lv_at hl 0 rfl) ?_
        refine va_zald (D := g) hx hb hK hP 2 3 rfl rfl (vc_in (by decide)) dX12_yearOf_151 ?_
        refine lv_topi (nm_r (e' := 1) hS_m1 ?_)
        refine lv_if_eq (tgt := 196) hx hb dX12_yearOf_152 (by decide) (fun c123 => absurd c123 (by decide)) (fun _ => ?_)
        refine lv_aload_n hx hb dX12_yearOf_155 rfl (lv_at hl 2 rfl) ?_
        refine va_get (D := g) (ci := 11) (v := .ref (m_a 26)) (C := RX12) (T := TX12) (N := 56) hx hb hts iX12 hown hK hP 0 rfl rfl 26 (by decide) (hts (.fieldLink RX12 62 "CardsAtYuleModel" "sent" "[I") (List.mem_cons_of_mem _ (List.mem_append_left _ (List.mem_of_getElem? (i := 10) rfl)))) (fun _ h9 => h9) rfl dX12_yearOf_156 ?_
        refine lv_iload_n hx hb dX12_yearOf_159 rfl (lv_at hl 0 rfl) ?_
        refine va_iald (D := g) hx hb hK hP 4 0 rfl rfl (vc_in (by decide)) dX12_yearOf_160 ?_
        refine lv_topi (nm_r (e' := 1) rfl ?_)
        refine lv_if_ne (tgt := 196) hx hb dX12_yearOf_161 (by decide) (fun _ => ?_) (fun c124 => absurd c124 (by decide))
        refine lv_iinc (v := 2) (lv' := [(3, .int 2), (2, .ref (m_a 34)), (0, .ref mo), (1, .int (nI js))]) hx hb dX12_yearOf_196 hl (k := 0) rfl (by decide) (by decide) rfl (fun ls hl => ?_)
        refine lv_goto (tgt := 133) hx hb dX12_yearOf_199 (by decide) ?_
        refine lv_iload_n hx hb dX12_yearOf_133 rfl (lv_at hl 0 rfl) ?_
        refine lv_iconst (v := 2) hx hb dX12_yearOf_134 (by decide) ?_
        refine lv_icmp_ge (tgt := 202) hx hb dX12_yearOf_135 (by decide) (fun _ => ?_) (fun c125 => absurd c125 (by decide))
        refine lv_iload_n hx hb dX12_yearOf_202 rfl (lv_at hl 3 rfl) ?_
        refine lv_iconst (v := 5) hx hb dX12_yearOf_203 (by decide) ?_
        refine lv_iand hx hb dX12_yearOf_204 ?_
        refine lv_iconst (v := 1) hx hb dX12_yearOf_205 (by decide) ?_
        refine lv_ishl hx hb dX12_yearOf_206 ?_
        refine lv_istore_n (lv' := [(3, .int (((nI js) &&& 5) <<< (1 &&& (31 : Int32)))), (2, .ref (m_a 34)), (0, .ref mo), (1, .int (nI js))]) hx hb dX12_yearOf_207 rfl hl (by decide) rfl (fun ls hl => ?_)
        refine lv_iconst (v := 0) hx hb dX12_yearOf_208 (by decide) ?_
        refine lv_istore (lv' := [(4, .int 0), (3, .int (((nI js) &&& 5) <<< (1 &&& (31 : Int32)))), (2, .ref (m_a 34)), (0, .ref mo), (1, .int (nI js))]) hx hb dX12_yearOf_209 hl (by decide) rfl (fun ls hl => ?_)
        refine lv_iload hx hb dX12_yearOf_211 (lv_at hl 0 rfl) ?_
        refine lv_iconst (v := 2) hx hb dX12_yearOf_213 (by decide) ?_
        refine lv_icmp_ge (tgt := 282) hx hb dX12_yearOf_214 (by decide) (fun c126 => absurd c126 (by decide)) (fun _ => ?_)
        refine lv_aload_n hx hb dX12_yearOf_217 rfl (lv_at hl 3 rfl) ?_
        refine va_get (D := g) (ci := 11) (v := .ref (m_a 27)) (C := RX12) (T := TX12) (N := 56) hx hb hts iX12 hown hK hP 0 rfl rfl 27 (by decide) (hts (.fieldLink RX12 65 "CardsAtYuleModel" "gets" "[Z") (List.mem_cons_of_mem _ (List.mem_append_left _ (List.mem_of_getElem? (i := 0) rfl)))) (fun _ h9 => h9) rfl dX12_yearOf_218 ?_
        refine lv_iload hx hb dX12_yearOf_221 (lv_at hl 0 rfl) ?_
        refine lv_aload_n hx hb dX12_yearOf_223 rfl (lv_at hl 3 rfl) ?_
        refine va_get (D := g) (ci := 11) (v := .ref (m_a 26)) (C := RX12) (T := TX12) (N := 56) hx hb hts iX12 hown hK hP 0 rfl rfl 26 (by decide) (hts (.fieldLink RX12 62 "CardsAtYuleModel" "sent" "[I") (List.mem_cons_of_mem _ (List.mem_append_left _ (List.mem_of_getElem? (i := 10) rfl)))) (fun _ h9 => h9) rfl dX12_yearOf_224 ?_
        refine lv_iconst (v := 1) hx hb dX12_yearOf_227 (by decide) ?_
        refine lv_iload hx hb dX12_yearOf_228 (lv_at hl 0 rfl) ?_
        refine lv_isub hx hb dX12_yearOf_230 ?_
        refine lv_topi (nm_r (e' := 1) (by decide) ?_)
        refine va_iald (D := g) hx hb hK hP 4 0 rfl rfl (vc_in (by decide)) dX12_yearOf_231 ?_
        refine lv_topi (nm_r (e' := 1) rfl ?_)
        refine lv_if_le (tgt := 251) hx hb dX12_yearOf_232 (by decide) (fun c127 => absurd c127 (by decide)) (fun _ => ?_)
        refine lv_aload_n hx hb dX12_yearOf_235 rfl (lv_at hl 3 rfl) ?_
        refine va_get (D := g) (ci := 11) (v := .ref (m_a 25)) (C := RX12) (T := TX12) (N := 56) hx hb hts iX12 hown hK hP 0 rfl rfl 25 (by decide) (hts (.fieldLink RX12 59 "CardsAtYuleModel" "maycome" "[Z") (List.mem_cons_of_mem _ (List.mem_append_left _ (List.mem_of_getElem? (i := 12) rfl)))) (fun _ h9 => h9) rfl dX12_yearOf_236 ?_
        refine lv_iconst (v := 1) hx hb dX12_yearOf_239 (by decide) ?_
        refine lv_iload hx hb dX12_yearOf_240 (lv_at hl 0 rfl) ?_
        refine lv_isub hx hb dX12_yearOf_242 ?_
        refine lv_topi (nm_r (e' := 1) (by decide) ?_)
        refine va_zald (D := g) hx hb hK hP 3 3 rfl rfl (vc_in (by decide)) dX12_yearOf_243 ?_
        refine lv_topi (nm_r (e' := 1) hS_c1 ?_)
        refine lv_if_eq (tgt := 251) hx hb dX12_yearOf_244 (by decide) (fun c128 => absurd c128 (by decide)) (fun _ => ?_)
        refine lv_iconst (v := 1) hx hb dX12_yearOf_247 (by decide) ?_
        refine lv_goto (tgt := 252) hx hb dX12_yearOf_248 (by decide) ?_
        refine va_zast (D := g) hx hb hK hP hD hS 5 3 rfl rfl (vc_in (by decide)) dX12_yearOf_252 (fun H locs hP hD hS => ?_)
        have hP : va_P g vwCl [(mo, .inr (11, mG m_a m_thrown m_taped m_at m_token m_place m_value m_word m_bad m_badPlace m_fault m_faultPlace (-1) m_will m_forgot 0 m_x vb vr vc vf m_any m_bothSend m_meanCards m_bestSum m_fitMany m_fitFirst m_fitSecond)), ((m_a 23), .inl (cI, 2, .inl fr)), ((m_a 24), .inl (cZ, 2, .inl fm)), ((m_a 25), .inl (cZ, 2, .inl fc)), ((m_a 26), .inl (cI, 2, .inl (upd (upd fs 0 0) 1 1))), ((m_a 27), .inl (cZ, 2, .inl (upd (upd (upd fg 0 0) 1 0) 0 1))), ((m_a 34), .inl (cZ, 2, .inl (upd (upd fk 0 1) 1 0)))] H := hP
        have hD : va_D A [(mo, .inr (11, mG m_a m_thrown m_taped m_at m_token m_place m_value m_word m_bad m_badPlace m_fault m_faultPlace (-1) m_will m_forgot 0 m_x vb vr vc vf m_any m_bothSend m_meanCards m_bestSum m_fitMany m_fitFirst m_fitSecond)), ((m_a 23), .inl (cI, 2, .inl fr)), ((m_a 24), .inl (cZ, 2, .inl fm)), ((m_a 25), .inl (cZ, 2, .inl fc)), ((m_a 26), .inl (cI, 2, .inl (upd (upd fs 0 0) 1 1))), ((m_a 27), .inl (cZ, 2, .inl (upd (upd (upd fg 0 0) 1 0) 0 1))), ((m_a 34), .inl (cZ, 2, .inl (upd (upd fk 0 1) 1 0)))] := hD
        refine lv_iload_n hx hb dX12_yearOf_253 rfl (lv_at hl 1 rfl) ?_
        refine lv_aload_n hx hb dX12_yearOf_254 rfl (lv_at hl 3 rfl) ?_
        refine va_get (D := g) (ci := 11) (v := .ref (m_a 27)) (C := RX12) (T := TX12) (N := 56) hx hb hts iX12 hown hK hP 0 rfl rfl 27 (by decide) (hts (.fieldLink RX12 65 "CardsAtYuleModel" "gets" "[Z") (List.mem_cons_of_mem _ (List.mem_append_left _ (List.mem_of_getElem? (i := 0) rfl)))) (fun _ h9 => h9) rfl dX12_yearOf_255 ?_
        refine lv_iload hx hb dX12_yearOf_258 (lv_at hl 0 rfl) ?_
        refine va_zald (D := g) hx hb hK hP 5 3 rfl rfl (vc_in (by decide)) dX12_yearOf_260 ?_
        refine lv_topi (nm_r (e' := 1) rfl ?_)
        refine lv_if_eq (tgt := 273) hx hb dX12_yearOf_261 (by decide) (fun c129 => absurd c129 (by decide)) (fun _ => ?_)
        refine lv_iconst (v := 1) hx hb dX12_yearOf_264 (by decide) ?_
        refine lv_iconst (v := 2) hx hb dX12_yearOf_265 (by decide) ?_
        refine lv_iload hx hb dX12_yearOf_266 (lv_at hl 0 rfl) ?_
        refine lv_imul hx hb dX12_yearOf_268 ?_
        refine lv_topi (nm_r (e' := 0) (by decide) ?_)
        refine lv_ishl hx hb dX12_yearOf_269 ?_
        refine lv_topi (nm_r (e' := 1) (by decide) ?_)
        refine lv_goto (tgt := 274) hx hb dX12_yearOf_270 (by decide) ?_
        refine lv_ior hx hb dX12_yearOf_274 ?_
        refine lv_istore_n (lv' := [(3, .int ((((nI js) &&& 5) <<< (1 &&& (31 : Int32))) ||| 1)), (4, .int 0), (2, .ref (m_a 34)), (0, .ref mo), (1, .int (nI js))]) hx hb dX12_yearOf_275 rfl hl (by decide) rfl (fun ls hl => ?_)
        refine lv_iinc (v := 1) (lv' := [(4, .int 1), (3, .int ((((nI js) &&& 5) <<< (1 &&& (31 : Int32))) ||| 1)), (2, .ref (m_a 34)), (0, .ref mo), (1, .int (nI js))]) hx hb dX12_yearOf_276 hl (k := 1) rfl (by decide) (by decide) rfl (fun ls hl => ?_)
        refine lv_goto (tgt := 211) hx hb dX12_yearOf_279 (by decide) ?_
        refine lv_iload hx hb dX12_yearOf_211 (lv_at hl 0 rfl) ?_
        refine lv_iconst (v := 2) hx hb dX12_yearOf_213 (by decide) ?_
        refine lv_icmp_ge (tgt := 282) hx hb dX12_yearOf_214 (by decide) (fun c130 => absurd c130 (by decide)) (fun _ => ?_)
        refine lv_aload_n hx hb dX12_yearOf_217 rfl (lv_at hl 3 rfl) ?_
        refine va_get (D := g) (ci := 11) (v := .ref (m_a 27)) (C := RX12) (T := TX12) (N := 56) hx hb hts iX12 hown hK hP 0 rfl rfl 27 (by decide) (hts (.fieldLink RX12 65 "CardsAtYuleModel" "gets" "[Z") (List.mem_cons_of_mem _ (List.mem_append_left _ (List.mem_of_getElem? (i := 0) rfl)))) (fun _ h9 => h9) rfl dX12_yearOf_218 ?_
        refine lv_iload hx hb dX12_yearOf_221 (lv_at hl 0 rfl) ?_
        refine lv_aload_n hx hb dX12_yearOf_223 rfl (lv_at hl 3 rfl) ?_
        refine va_get (D := g) (ci := 11) (v := .ref (m_a 26)) (C := RX12) (T := TX12) (N := 56) hx hb hts iX12 hown hK hP 0 rfl rfl 26 (by decide) (hts (.fieldLink RX12 62 "CardsAtYuleModel" "sent" "[I") (List.mem_cons_of_mem _ (List.mem_append_left _ (List.mem_of_getElem? (i := 10) rfl)))) (fun _ h9 => h9) rfl dX12_yearOf_224 ?_
        refine lv_iconst (v := 1) hx hb dX12_yearOf_227 (by decide) ?_
        refine lv_iload hx hb dX12_yearOf_228 (lv_at hl 0 rfl) ?_
        refine lv_isub hx hb dX12_yearOf_230 ?_
        refine lv_topi (nm_r (e' := 0) (by decide) ?_)
        refine va_iald (D := g) hx hb hK hP 4 0 rfl rfl (vc_in (by decide)) dX12_yearOf_231 ?_
        refine lv_topi (nm_r (e' := 0) rfl ?_)
        refine lv_if_le (tgt := 251) hx hb dX12_yearOf_232 (by decide) (fun _ => ?_) (fun c131 => absurd c131 (by decide))
        refine lv_iconst (v := 0) hx hb dX12_yearOf_251 (by decide) ?_
        refine va_zast (D := g) hx hb hK hP hD hS 5 3 rfl rfl (vc_in (by decide)) dX12_yearOf_252 (fun H locs hP hD hS => ?_)
        have hP : va_P g vwCl [(mo, .inr (11, mG m_a m_thrown m_taped m_at m_token m_place m_value m_word m_bad m_badPlace m_fault m_faultPlace (-1) m_will m_forgot 0 m_x vb vr vc vf m_any m_bothSend m_meanCards m_bestSum m_fitMany m_fitFirst m_fitSecond)), ((m_a 23), .inl (cI, 2, .inl fr)), ((m_a 24), .inl (cZ, 2, .inl fm)), ((m_a 25), .inl (cZ, 2, .inl fc)), ((m_a 26), .inl (cI, 2, .inl (upd (upd fs 0 0) 1 1))), ((m_a 27), .inl (cZ, 2, .inl (upd (upd (upd (upd fg 0 0) 1 0) 0 1) 1 0))), ((m_a 34), .inl (cZ, 2, .inl (upd (upd fk 0 1) 1 0)))] H := hP
        have hD : va_D A [(mo, .inr (11, mG m_a m_thrown m_taped m_at m_token m_place m_value m_word m_bad m_badPlace m_fault m_faultPlace (-1) m_will m_forgot 0 m_x vb vr vc vf m_any m_bothSend m_meanCards m_bestSum m_fitMany m_fitFirst m_fitSecond)), ((m_a 23), .inl (cI, 2, .inl fr)), ((m_a 24), .inl (cZ, 2, .inl fm)), ((m_a 25), .inl (cZ, 2, .inl fc)), ((m_a 26), .inl (cI, 2, .inl (upd (upd fs 0 0) 1 1))), ((m_a 27), .inl (cZ, 2, .inl (upd (upd (upd (upd fg 0 0) 1 0) 0 1) 1 0))), ((m_a 34), .inl (cZ, 2, .inl (upd (upd fk 0 1) 1 0)))] := hD
        refine lv_iload_n hx hb dX12_yearOf_253 rfl (lv_at hl 1 rfl) ?_
        refine lv_aload_n hx hb dX12_yearOf_254 rfl (lv_at hl 3 rfl) ?_
        refine va_get (D := g) (ci := 11) (v := .ref (m_a 27)) (C := RX12) (T := TX12) (N := 56) hx hb hts iX12 hown hK hP 0 rfl rfl 27 (by decide) (hts (.fieldLink RX12 65 "CardsAtYuleModel" "gets" "[Z") (List.mem_cons_of_mem _ (List.mem_append_left _ (List.mem_of_getElem? (i := 0) rfl)))) (fun _ h9 => h9) rfl dX12_yearOf_255 ?_
        refine lv_iload hx hb dX12_yearOf_258 (lv_at hl 0 rfl) ?_
        refine va_zald (D := g) hx hb hK hP 5 3 rfl rfl (vc_in (by decide)) dX12_yearOf_260 ?_
        refine lv_topi (nm_r (e' := 0) rfl ?_)
        refine lv_if_eq (tgt := 273) hx hb dX12_yearOf_261 (by decide) (fun _ => ?_) (fun c132 => absurd c132 (by decide))
        refine lv_iconst (v := 0) hx hb dX12_yearOf_273 (by decide) ?_
        refine lv_ior hx hb dX12_yearOf_274 ?_
        refine lv_istore_n (lv' := [(3, .int (((((nI js) &&& 5) <<< (1 &&& (31 : Int32))) ||| 1) ||| 0)), (4, .int 1), (2, .ref (m_a 34)), (0, .ref mo), (1, .int (nI js))]) hx hb dX12_yearOf_275 rfl hl (by decide) rfl (fun ls hl => ?_)
        refine lv_iinc (v := 2) (lv' := [(4, .int 2), (3, .int (((((nI js) &&& 5) <<< (1 &&& (31 : Int32))) ||| 1) ||| 0)), (2, .ref (m_a 34)), (0, .ref mo), (1, .int (nI js))]) hx hb dX12_yearOf_276 hl (k := 1) rfl (by decide) (by decide) rfl (fun ls hl => ?_)
        refine lv_goto (tgt := 211) hx hb dX12_yearOf_279 (by decide) ?_
        refine lv_iload hx hb dX12_yearOf_211 (lv_at hl 0 rfl) ?_
        refine lv_iconst (v := 2) hx hb dX12_yearOf_213 (by decide) ?_
        refine lv_icmp_ge (tgt := 282) hx hb dX12_yearOf_214 (by decide) (fun _ => ?_) (fun c133 => absurd c133 (by decide))
        refine lv_iload_n hx hb dX12_yearOf_282 rfl (lv_at hl 1 rfl) ?_
        have hA9 : sA ra rb js = 0 := by unfold sA; rw [if_neg (by omega)]
        have hB9 : zB ra rb js = 1 := by unfold zB; rw [if_pos (by omega)]
        have hP9 := hP.sub (ws' := [(mo, .inr (11, mG m_a m_thrown m_taped m_at m_token m_place m_value m_word m_bad m_badPlace m_fault m_faultPlace (-1) m_will m_forgot 0 m_x vb vr vc vf m_any m_bothSend m_meanCards m_bestSum m_fitMany m_fitFirst m_fitSecond)), ((m_a 23), .inl (cI, 2, .inl fr)), ((m_a 24), .inl (cZ, 2, .inl fm)), ((m_a 25), .inl (cZ, 2, .inl fc)), ((m_a 26), .inl (cI, 2, .inl (upd (upd fs 0 0) 1 1))), ((m_a 27), .inl (cZ, 2, .inl (upd (upd (upd (upd fg 0 0) 1 0) 0 1) 1 0))), ((m_a 34), .inl (cZ, 2, .inl (upd (upd fk 0 1) 1 0)))]) [0, 1, 2, 3, 4, 5, 6] rfl
        have hD9 := hD.sub (ws' := [(mo, .inr (11, mG m_a m_thrown m_taped m_at m_token m_place m_value m_word m_bad m_badPlace m_fault m_faultPlace (-1) m_will m_forgot 0 m_x vb vr vc vf m_any m_bothSend m_meanCards m_bestSum m_fitMany m_fitFirst m_fitSecond)), ((m_a 23), .inl (cI, 2, .inl fr)), ((m_a 24), .inl (cZ, 2, .inl fm)), ((m_a 25), .inl (cZ, 2, .inl fc)), ((m_a 26), .inl (cI, 2, .inl (upd (upd fs 0 0) 1 1))), ((m_a 27), .inl (cZ, 2, .inl (upd (upd (upd (upd fg 0 0) 1 0) 0 1) 1 0))), ((m_a 34), .inl (cZ, 2, .inl (upd (upd fk 0 1) 1 0)))]) [0, 1, 2, 3, 4, 5, 6] (by decide) rfl
        exact W.iret (v := (((((nI js) &&& 5) <<< (1 &&& (31 : Int32))) ||| 1) ||| 0)) hx hb hr (fun t ht hW => ⟨⟨(((((nI js) &&& 5) <<< (1 &&& (31 : Int32))) ||| 1) ||| 0), ((upd (upd fs 0 0) 1 1), (upd (upd (upd (upd fg 0 0) 1 0) 0 1) 1 0), (upd (upd fk 0 1) 1 0)), rfl, ⟨th_nx hjs (u := 1) (v := 0) hB9 hA9, 0, 1, rfl, rfl, by decide, by decide, by unfold sc; rw [hA9, hB9]; rfl⟩, by rw [ht]; exact hP9, va_K.moved hW.alike hK, hD9⟩, hS.F ht⟩) hS.2.2 dX12_yearOf_283
      · have f120 := (show 16 ≤ (ra : Int) from z_nlt (nI_toInt (n := ra) (by omega)) rfl c119)
        refine lv_aload_n hx hb dX12_yearOf_175 rfl (lv_at hl 1 rfl) ?_
        refine lv_iload_n hx hb dX12_yearOf_176 rfl (lv_at hl 0 rfl) ?_
        refine va_zald (D := g) hx hb hK hP 6 3 rfl rfl (vc_in (by decide)) dX12_yearOf_177 ?_
        refine lv_topi (nm_r (e' := 1) rfl ?_)
        refine lv_if_eq (tgt := 196) hx hb dX12_yearOf_178 (by decide) (fun c134 => absurd c134 (by decide)) (fun _ => ?_)
        refine lv_aload_n hx hb dX12_yearOf_181 rfl (lv_at hl 2 rfl) ?_
        refine lv_iload_n hx hb dX12_yearOf_182 rfl (lv_at hl 0 rfl) ?_
        refine ro_i (va_runV (As := [.int 0]) (rest := []) ⟨hx, hb, hml, hown, hts⟩ (k_fX12_isForgotten l g cI cJ cB cZ cL mo m_a m_thrown m_taped m_at m_token m_place m_value m_word m_bad m_badPlace m_fault m_faultPlace m_will m_forgot m_x m_any m_bothSend m_meanCards m_bestSum m_fitMany m_fitFirst m_fitSecond vb vr vc vf 0 H.size ) (cwV 1 hts (goodIn_app (g_4 (List.mem_cons_of_mem _ (List.mem_append_left _ (List.mem_of_getElem? (i := 7) rfl))) (List.mem_cons_of_mem _ (List.mem_append_left _ (List.mem_of_getElem? (i := 8) rfl))) (List.mem_cons_of_mem _ (List.mem_append_left _ (List.mem_of_getElem? (i := 9) rfl))) (List.mem_cons_of_mem _ (List.mem_append_left _ (List.mem_of_getElem? (i := 6) rfl))) (by decide +kernel)) (goodIn_sub (fun _ h => List.mem_cons_of_mem _ (List.mem_append_right _ (List.mem_append_right _ (List.mem_append_left _ h)))) good_v_fX12_isForgotten)) rfl rfl rfl (by decide +kernel) ⟨Nat.le_of_ble_eq_true rfl, Nat.le_of_ble_eq_true rfl⟩) (pv_RO (q := (RX12, TX12, 56)) (ci := 11) (q0 := 0) (wc := [(mo, .inr (11, mG m_a m_thrown m_taped m_at m_token m_place m_value m_word m_bad m_badPlace m_fault m_faultPlace (-1) m_will m_forgot 0 m_x vb vr vc vf m_any m_bothSend m_meanCards m_bestSum m_fitMany m_fitFirst m_fitSecond))]) hK hP [0] rfl rfl rfl) rfl rfl hl.1 rfl (lv_room (Nat.le_of_ble_eq_true rfl)) dX12_yearOf_183 ⟨Nat.le_of_ble_eq_true rfl, Nat.le_of_ble_eq_true rfl⟩) hS hA hP (fun r135 u136 H locs hw137 hP hS => ?_)
        subst hw137
        refine lv_if_ne (tgt := 196) hx hb dX12_yearOf_186 (by decide) (fun c138 => absurd c138 (by decide)) (fun _ => ?_)
        refine lv_aload_n hx hb dX12_yearOf_189 rfl (lv_at hl 2 rfl) ?_
        refine va_get (D := g) (ci := 11) (v := .ref (m_a 26)) (C := RX12) (T := TX12) (N := 56) hx hb hts iX12 hown hK hP 0 rfl rfl 26 (by decide) (hts (.fieldLink RX12 62 "CardsAtYuleModel" "sent" "[I") (List.mem_cons_of_mem _ (List.mem_append_left _ (List.mem_of_getElem? (i := 10) rfl)))) (fun _ h9 => h9) rfl dX12_yearOf_190 ?_
        refine lv_iload_n hx hb dX12_yearOf_193 rfl (lv_at hl 0 rfl) ?_
        refine lv_iconst (v := 2) hx hb dX12_yearOf_194 (by decide) ?_
        refine va_iast (D := g) hx hb hK hP hD hS 4 0 rfl rfl (vc_in (by decide)) dX12_yearOf_195 (fun H locs hP hD hS => ?_)
        have hP : va_P g vwCl [(mo, .inr (11, mG m_a m_thrown m_taped m_at m_token m_place m_value m_word m_bad m_badPlace m_fault m_faultPlace (-1) m_will m_forgot 0 m_x vb vr vc vf m_any m_bothSend m_meanCards m_bestSum m_fitMany m_fitFirst m_fitSecond)), ((m_a 23), .inl (cI, 2, .inl fr)), ((m_a 24), .inl (cZ, 2, .inl fm)), ((m_a 25), .inl (cZ, 2, .inl fc)), ((m_a 26), .inl (cI, 2, .inl (upd (upd (upd fs 0 0) 1 1) 0 2))), ((m_a 27), .inl (cZ, 2, .inl (upd (upd fg 0 0) 1 0))), ((m_a 34), .inl (cZ, 2, .inl (upd (upd fk 0 1) 1 0)))] H := hP
        have hD : va_D A [(mo, .inr (11, mG m_a m_thrown m_taped m_at m_token m_place m_value m_word m_bad m_badPlace m_fault m_faultPlace (-1) m_will m_forgot 0 m_x vb vr vc vf m_any m_bothSend m_meanCards m_bestSum m_fitMany m_fitFirst m_fitSecond)), ((m_a 23), .inl (cI, 2, .inl fr)), ((m_a 24), .inl (cZ, 2, .inl fm)), ((m_a 25), .inl (cZ, 2, .inl fc)), ((m_a 26), .inl (cI, 2, .inl (upd (upd (upd fs 0 0) 1 1) 0 2))), ((m_a 27), .inl (cZ, 2, .inl (upd (upd fg 0 0) 1 0))), ((m_a 34), .inl (cZ, 2, .inl (upd (upd fk 0 1) 1 0)))] := hD
        refine lv_iinc (v := 1) (lv' := [(3, .int 1), (2, .ref (m_a 34)), (0, .ref mo), (1, .int (nI js))]) hx hb dX12_yearOf_196 hl (k := 0) rfl (by decide) (by decide) rfl (fun ls hl => ?_)
        refine lv_goto (tgt := 133) hx hb dX12_yearOf_199 (by decide) ?_
        refine lv_iload_n hx hb dX12_yearOf_133 rfl (lv_at hl 0 rfl) ?_
        refine lv_iconst (v := 2) hx hb dX12_yearOf_134 (by decide) ?_
        refine lv_icmp_ge (tgt := 202) hx hb dX12_yearOf_135 (by decide) (fun c139 => absurd c139 (by decide)) (fun _ => ?_)
        refine lv_iload_n hx hb dX12_yearOf_138 rfl (lv_at hl 0 rfl) ?_
        refine lv_aload_n hx hb dX12_yearOf_139 rfl (lv_at hl 2 rfl) ?_
        refine va_get (D := g) (ci := 11) (v := .int (-1)) (C := RX12) (T := TX12) (N := 56) hx hb hts iX12 hown hK hP 0 rfl rfl 28 (by decide) (hts (.fieldLink RX12 68 "CardsAtYuleModel" "willing" "I") (List.mem_cons_of_mem _ (List.mem_append_left _ (List.mem_of_getElem? (i := 1) rfl)))) (fun _ h9 => h9) rfl dX12_yearOf_140 ?_
        refine lv_icmp_eq (tgt := 196) hx hb dX12_yearOf_143 (by decide) (fun c140 => absurd c140 (by decide)) (fun _ => ?_)
        refine lv_aload_n hx hb dX12_yearOf_146 rfl (lv_at hl 2 rfl) ?_
        refine va_get (D := g) (ci := 11) (v := .ref (m_a 24)) (C := RX12) (T := TX12) (N := 56) hx hb hts iX12 hown hK hP 0 rfl rfl 24 (by decide) (hts (.fieldLink RX12 56 "CardsAtYuleModel" "maySend" "[Z") (List.mem_cons_of_mem _ (List.mem_append_left _ (List.mem_of_getElem? (i := 2) rfl)))) (fun _ h9 => h9) rfl dX12_yearOf_147 ?_
        refine lv_iload_n hx hb dX12_yearOf_150 rfl (lv_at hl 0 rfl) ?_
        refine va_zald (D := g) hx hb hK hP 2 3 rfl rfl (vc_in (by decide)) dX12_yearOf_151 ?_
        refine lv_topi (nm_r (e' := 1) hS_m1 ?_)
        refine lv_if_eq (tgt := 196) hx hb dX12_yearOf_152 (by decide) (fun c141 => absurd c141 (by decide)) (fun _ => ?_)
        refine lv_aload_n hx hb dX12_yearOf_155 rfl (lv_at hl 2 rfl) ?_
        refine va_get (D := g) (ci := 11) (v := .ref (m_a 26)) (C := RX12) (T := TX12) (N := 56) hx hb hts iX12 hown hK hP 0 rfl rfl 26 (by decide) (hts (.fieldLink RX12 62 "CardsAtYuleModel" "sent" "[I") (List.mem_cons_of_mem _ (List.mem_append_left _ (List.mem_of_getElem? (i := 10) rfl)))) (fun _ h9 => h9) rfl dX12_yearOf_156 ?_
        refine lv_iload_n hx hb dX12_yearOf_159 rfl (lv_at hl 0 rfl) ?_
        refine va_iald (D := g) hx hb hK hP 4 0 rfl rfl (vc_in (by decide)) dX12_yearOf_160 ?_
        refine lv_topi (nm_r (e' := 1) rfl ?_)
        refine lv_if_ne (tgt := 196) hx hb dX12_yearOf_161 (by decide) (fun _ => ?_) (fun c142 => absurd c142 (by decide))
        refine lv_iinc (v := 2) (lv' := [(3, .int 2), (2, .ref (m_a 34)), (0, .ref mo), (1, .int (nI js))]) hx hb dX12_yearOf_196 hl (k := 0) rfl (by decide) (by decide) rfl (fun ls hl => ?_)
        refine lv_goto (tgt := 133) hx hb dX12_yearOf_199 (by decide) ?_
        refine lv_iload_n hx hb dX12_yearOf_133 rfl (lv_at hl 0 rfl) ?_
        refine lv_iconst (v := 2) hx hb dX12_yearOf_134 (by decide) ?_
        refine lv_icmp_ge (tgt := 202) hx hb dX12_yearOf_135 (by decide) (fun _ => ?_) (fun c143 => absurd c143 (by decide))
        refine lv_iload_n hx hb dX12_yearOf_202 rfl (lv_at hl 3 rfl) ?_
        refine lv_iconst (v := 5) hx hb dX12_yearOf_203 (by decide) ?_
        refine lv_iand hx hb dX12_yearOf_204 ?_
        refine lv_iconst (v := 1) hx hb dX12_yearOf_205 (by decide) ?_
        refine lv_ishl hx hb dX12_yearOf_206 ?_
        refine lv_istore_n (lv' := [(3, .int (((nI js) &&& 5) <<< (1 &&& (31 : Int32)))), (2, .ref (m_a 34)), (0, .ref mo), (1, .int (nI js))]) hx hb dX12_yearOf_207 rfl hl (by decide) rfl (fun ls hl => ?_)
        refine lv_iconst (v := 0) hx hb dX12_yearOf_208 (by decide) ?_
        refine lv_istore (lv' := [(4, .int 0), (3, .int (((nI js) &&& 5) <<< (1 &&& (31 : Int32)))), (2, .ref (m_a 34)), (0, .ref mo), (1, .int (nI js))]) hx hb dX12_yearOf_209 hl (by decide) rfl (fun ls hl => ?_)
        refine lv_iload hx hb dX12_yearOf_211 (lv_at hl 0 rfl) ?_
        refine lv_iconst (v := 2) hx hb dX12_yearOf_213 (by decide) ?_
        refine lv_icmp_ge (tgt := 282) hx hb dX12_yearOf_214 (by decide) (fun c144 => absurd c144 (by decide)) (fun _ => ?_)
        refine lv_aload_n hx hb dX12_yearOf_217 rfl (lv_at hl 3 rfl) ?_
        refine va_get (D := g) (ci := 11) (v := .ref (m_a 27)) (C := RX12) (T := TX12) (N := 56) hx hb hts iX12 hown hK hP 0 rfl rfl 27 (by decide) (hts (.fieldLink RX12 65 "CardsAtYuleModel" "gets" "[Z") (List.mem_cons_of_mem _ (List.mem_append_left _ (List.mem_of_getElem? (i := 0) rfl)))) (fun _ h9 => h9) rfl dX12_yearOf_218 ?_
        refine lv_iload hx hb dX12_yearOf_221 (lv_at hl 0 rfl) ?_
        refine lv_aload_n hx hb dX12_yearOf_223 rfl (lv_at hl 3 rfl) ?_
        refine va_get (D := g) (ci := 11) (v := .ref (m_a 26)) (C := RX12) (T := TX12) (N := 56) hx hb hts iX12 hown hK hP 0 rfl rfl 26 (by decide) (hts (.fieldLink RX12 62 "CardsAtYuleModel" "sent" "[I") (List.mem_cons_of_mem _ (List.mem_append_left _ (List.mem_of_getElem? (i := 10) rfl)))) (fun _ h9 => h9) rfl dX12_yearOf_224 ?_
        refine lv_iconst (v := 1) hx hb dX12_yearOf_227 (by decide) ?_
        refine lv_iload hx hb dX12_yearOf_228 (lv_at hl 0 rfl) ?_
        refine lv_isub hx hb dX12_yearOf_230 ?_
        refine lv_topi (nm_r (e' := 1) (by decide) ?_)
        refine va_iald (D := g) hx hb hK hP 4 0 rfl rfl (vc_in (by decide)) dX12_yearOf_231 ?_
        refine lv_topi (nm_r (e' := 1) rfl ?_)
        refine lv_if_le (tgt := 251) hx hb dX12_yearOf_232 (by decide) (fun c145 => absurd c145 (by decide)) (fun _ => ?_)
        refine lv_aload_n hx hb dX12_yearOf_235 rfl (lv_at hl 3 rfl) ?_
        refine va_get (D := g) (ci := 11) (v := .ref (m_a 25)) (C := RX12) (T := TX12) (N := 56) hx hb hts iX12 hown hK hP 0 rfl rfl 25 (by decide) (hts (.fieldLink RX12 59 "CardsAtYuleModel" "maycome" "[Z") (List.mem_cons_of_mem _ (List.mem_append_left _ (List.mem_of_getElem? (i := 12) rfl)))) (fun _ h9 => h9) rfl dX12_yearOf_236 ?_
        refine lv_iconst (v := 1) hx hb dX12_yearOf_239 (by decide) ?_
        refine lv_iload hx hb dX12_yearOf_240 (lv_at hl 0 rfl) ?_
        refine lv_isub hx hb dX12_yearOf_242 ?_
        refine lv_topi (nm_r (e' := 1) (by decide) ?_)
        refine va_zald (D := g) hx hb hK hP 3 3 rfl rfl (vc_in (by decide)) dX12_yearOf_243 ?_
        refine lv_topi (nm_r (e' := 1) hS_c1 ?_)
        refine lv_if_eq (tgt := 251) hx hb dX12_yearOf_244 (by decide) (fun c146 => absurd c146 (by decide)) (fun _ => ?_)
        refine lv_iconst (v := 1) hx hb dX12_yearOf_247 (by decide) ?_
        refine lv_goto (tgt := 252) hx hb dX12_yearOf_248 (by decide) ?_
        refine va_zast (D := g) hx hb hK hP hD hS 5 3 rfl rfl (vc_in (by decide)) dX12_yearOf_252 (fun H locs hP hD hS => ?_)
        have hP : va_P g vwCl [(mo, .inr (11, mG m_a m_thrown m_taped m_at m_token m_place m_value m_word m_bad m_badPlace m_fault m_faultPlace (-1) m_will m_forgot 0 m_x vb vr vc vf m_any m_bothSend m_meanCards m_bestSum m_fitMany m_fitFirst m_fitSecond)), ((m_a 23), .inl (cI, 2, .inl fr)), ((m_a 24), .inl (cZ, 2, .inl fm)), ((m_a 25), .inl (cZ, 2, .inl fc)), ((m_a 26), .inl (cI, 2, .inl (upd (upd (upd fs 0 0) 1 1) 0 2))), ((m_a 27), .inl (cZ, 2, .inl (upd (upd (upd fg 0 0) 1 0) 0 1))), ((m_a 34), .inl (cZ, 2, .inl (upd (upd fk 0 1) 1 0)))] H := hP
        have hD : va_D A [(mo, .inr (11, mG m_a m_thrown m_taped m_at m_token m_place m_value m_word m_bad m_badPlace m_fault m_faultPlace (-1) m_will m_forgot 0 m_x vb vr vc vf m_any m_bothSend m_meanCards m_bestSum m_fitMany m_fitFirst m_fitSecond)), ((m_a 23), .inl (cI, 2, .inl fr)), ((m_a 24), .inl (cZ, 2, .inl fm)), ((m_a 25), .inl (cZ, 2, .inl fc)), ((m_a 26), .inl (cI, 2, .inl (upd (upd (upd fs 0 0) 1 1) 0 2))), ((m_a 27), .inl (cZ, 2, .inl (upd (upd (upd fg 0 0) 1 0) 0 1))), ((m_a 34), .inl (cZ, 2, .inl (upd (upd fk 0 1) 1 0)))] := hD
        refine lv_iload_n hx hb dX12_yearOf_253 rfl (lv_at hl 1 rfl) ?_
        refine lv_aload_n hx hb dX12_yearOf_254 rfl (lv_at hl 3 rfl) ?_
        refine va_get (D := g) (ci := 11) (v := .ref (m_a 27)) (C := RX12) (T := TX12) (N := 56) hx hb hts iX12 hown hK hP 0 rfl rfl 27 (by decide) (hts (.fieldLink RX12 65 "CardsAtYuleModel" "gets" "[Z") (List.mem_cons_of_mem _ (List.mem_append_left _ (List.mem_of_getElem? (i := 0) rfl)))) (fun _ h9 => h9) rfl dX12_yearOf_255 ?_
        refine lv_iload hx hb dX12_yearOf_258 (lv_at hl 0 rfl) ?_
        refine va_zald (D := g) hx hb hK hP 5 3 rfl rfl (vc_in (by decide)) dX12_yearOf_260 ?_
        refine lv_topi (nm_r (e' := 1) rfl ?_)
        refine lv_if_eq (tgt := 273) hx hb dX12_yearOf_261 (by decide) (fun c147 => absurd c147 (by decide)) (fun _ => ?_)
        refine lv_iconst (v := 1) hx hb dX12_yearOf_264 (by decide) ?_
        refine lv_iconst (v := 2) hx hb dX12_yearOf_265 (by decide) ?_
        refine lv_iload hx hb dX12_yearOf_266 (lv_at hl 0 rfl) ?_
        refine lv_imul hx hb dX12_yearOf_268 ?_
        refine lv_topi (nm_r (e' := 0) (by decide) ?_)
        refine lv_ishl hx hb dX12_yearOf_269 ?_
        refine lv_topi (nm_r (e' := 1) (by decide) ?_)
        refine lv_goto (tgt := 274) hx hb dX12_yearOf_270 (by decide) ?_
        refine lv_ior hx hb dX12_yearOf_274 ?_
        refine lv_istore_n (lv' := [(3, .int ((((nI js) &&& 5) <<< (1 &&& (31 : Int32))) ||| 1)), (4, .int 0), (2, .ref (m_a 34)), (0, .ref mo), (1, .int (nI js))]) hx hb dX12_yearOf_275 rfl hl (by decide) rfl (fun ls hl => ?_)
        refine lv_iinc (v := 1) (lv' := [(4, .int 1), (3, .int ((((nI js) &&& 5) <<< (1 &&& (31 : Int32))) ||| 1)), (2, .ref (m_a 34)), (0, .ref mo), (1, .int (nI js))]) hx hb dX12_yearOf_276 hl (k := 1) rfl (by decide) (by decide) rfl (fun ls hl => ?_)
        refine lv_goto (tgt := 211) hx hb dX12_yearOf_279 (by decide) ?_
        refine lv_iload hx hb dX12_yearOf_211 (lv_at hl 0 rfl) ?_
        refine lv_iconst (v := 2) hx hb dX12_yearOf_213 (by decide) ?_
        refine lv_icmp_ge (tgt := 282) hx hb dX12_yearOf_214 (by decide) (fun c148 => absurd c148 (by decide)) (fun _ => ?_)
        refine lv_aload_n hx hb dX12_yearOf_217 rfl (lv_at hl 3 rfl) ?_
        refine va_get (D := g) (ci := 11) (v := .ref (m_a 27)) (C := RX12) (T := TX12) (N := 56) hx hb hts iX12 hown hK hP 0 rfl rfl 27 (by decide) (hts (.fieldLink RX12 65 "CardsAtYuleModel" "gets" "[Z") (List.mem_cons_of_mem _ (List.mem_append_left _ (List.mem_of_getElem? (i := 0) rfl)))) (fun _ h9 => h9) rfl dX12_yearOf_218 ?_
        refine lv_iload hx hb dX12_yearOf_221 (lv_at hl 0 rfl) ?_
        refine lv_aload_n hx hb dX12_yearOf_223 rfl (lv_at hl 3 rfl) ?_
        refine va_get (D := g) (ci := 11) (v := .ref (m_a 26)) (C := RX12) (T := TX12) (N := 56) hx hb hts iX12 hown hK hP 0 rfl rfl 26 (by decide) (hts (.fieldLink RX12 62 "CardsAtYuleModel" "sent" "[I") (List.mem_cons_of_mem _ (List.mem_append_left _ (List.mem_of_getElem? (i := 10) rfl)))) (fun _ h9 => h9) rfl dX12_yearOf_224 ?_
        refine lv_iconst (v := 1) hx hb dX12_yearOf_227 (by decide) ?_
        refine lv_iload hx hb dX12_yearOf_228 (lv_at hl 0 rfl) ?_
        refine lv_isub hx hb dX12_yearOf_230 ?_
        refine lv_topi (nm_r (e' := 0) (by decide) ?_)
        refine va_iald (D := g) hx hb hK hP 4 0 rfl rfl (vc_in (by decide)) dX12_yearOf_231 ?_
        refine lv_topi (nm_r (e' := 2) rfl ?_)
        refine lv_if_le (tgt := 251) hx hb dX12_yearOf_232 (by decide) (fun c149 => absurd c149 (by decide)) (fun _ => ?_)
        refine lv_aload_n hx hb dX12_yearOf_235 rfl (lv_at hl 3 rfl) ?_
        refine va_get (D := g) (ci := 11) (v := .ref (m_a 25)) (C := RX12) (T := TX12) (N := 56) hx hb hts iX12 hown hK hP 0 rfl rfl 25 (by decide) (hts (.fieldLink RX12 59 "CardsAtYuleModel" "maycome" "[Z") (List.mem_cons_of_mem _ (List.mem_append_left _ (List.mem_of_getElem? (i := 12) rfl)))) (fun _ h9 => h9) rfl dX12_yearOf_236 ?_
        refine lv_iconst (v := 1) hx hb dX12_yearOf_239 (by decide) ?_
        refine lv_iload hx hb dX12_yearOf_240 (lv_at hl 0 rfl) ?_
        refine lv_isub hx hb dX12_yearOf_242 ?_
        refine lv_topi (nm_r (e' := 0) (by decide) ?_)
        refine va_zald (D := g) hx hb hK hP 3 3 rfl rfl (vc_in (by decide)) dX12_yearOf_243 ?_
        refine lv_topi (nm_r (e' := 1) hS_c0 ?_)
        refine lv_if_eq (tgt := 251) hx hb dX12_yearOf_244 (by decide) (fun c150 => absurd c150 (by decide)) (fun _ => ?_)
        refine lv_iconst (v := 1) hx hb dX12_yearOf_247 (by decide) ?_
        refine lv_goto (tgt := 252) hx hb dX12_yearOf_248 (by decide) ?_
        refine va_zast (D := g) hx hb hK hP hD hS 5 3 rfl rfl (vc_in (by decide)) dX12_yearOf_252 (fun H locs hP hD hS => ?_)
        have hP : va_P g vwCl [(mo, .inr (11, mG m_a m_thrown m_taped m_at m_token m_place m_value m_word m_bad m_badPlace m_fault m_faultPlace (-1) m_will m_forgot 0 m_x vb vr vc vf m_any m_bothSend m_meanCards m_bestSum m_fitMany m_fitFirst m_fitSecond)), ((m_a 23), .inl (cI, 2, .inl fr)), ((m_a 24), .inl (cZ, 2, .inl fm)), ((m_a 25), .inl (cZ, 2, .inl fc)), ((m_a 26), .inl (cI, 2, .inl (upd (upd (upd fs 0 0) 1 1) 0 2))), ((m_a 27), .inl (cZ, 2, .inl (upd (upd (upd (upd fg 0 0) 1 0) 0 1) 1 1))), ((m_a 34), .inl (cZ, 2, .inl (upd (upd fk 0 1) 1 0)))] H := hP
        have hD : va_D A [(mo, .inr (11, mG m_a m_thrown m_taped m_at m_token m_place m_value m_word m_bad m_badPlace m_fault m_faultPlace (-1) m_will m_forgot 0 m_x vb vr vc vf m_any m_bothSend m_meanCards m_bestSum m_fitMany m_fitFirst m_fitSecond)), ((m_a 23), .inl (cI, 2, .inl fr)), ((m_a 24), .inl (cZ, 2, .inl fm)), ((m_a 25), .inl (cZ, 2, .inl fc)), ((m_a 26), .inl (cI, 2, .inl (upd (upd (upd fs 0 0) 1 1) 0 2))), ((m_a 27), .inl (cZ, 2, .inl (upd (upd (upd (upd fg 0 0) 1 0) 0 1) 1 1))), ((m_a 34), .inl (cZ, 2, .inl (upd (upd fk 0 1) 1 0)))] := hD
        refine lv_iload_n hx hb dX12_yearOf_253 rfl (lv_at hl 1 rfl) ?_
        refine lv_aload_n hx hb dX12_yearOf_254 rfl (lv_at hl 3 rfl) ?_
        refine va_get (D := g) (ci := 11) (v := .ref (m_a 27)) (C := RX12) (T := TX12) (N := 56) hx hb hts iX12 hown hK hP 0 rfl rfl 27 (by decide) (hts (.fieldLink RX12 65 "CardsAtYuleModel" "gets" "[Z") (List.mem_cons_of_mem _ (List.mem_append_left _ (List.mem_of_getElem? (i := 0) rfl)))) (fun _ h9 => h9) rfl dX12_yearOf_255 ?_
        refine lv_iload hx hb dX12_yearOf_258 (lv_at hl 0 rfl) ?_
        refine va_zald (D := g) hx hb hK hP 5 3 rfl rfl (vc_in (by decide)) dX12_yearOf_260 ?_
        refine lv_topi (nm_r (e' := 1) rfl ?_)
        refine lv_if_eq (tgt := 273) hx hb dX12_yearOf_261 (by decide) (fun c151 => absurd c151 (by decide)) (fun _ => ?_)
        refine lv_iconst (v := 1) hx hb dX12_yearOf_264 (by decide) ?_
        refine lv_iconst (v := 2) hx hb dX12_yearOf_265 (by decide) ?_
        refine lv_iload hx hb dX12_yearOf_266 (lv_at hl 0 rfl) ?_
        refine lv_imul hx hb dX12_yearOf_268 ?_
        refine lv_topi (nm_r (e' := 2) (by decide) ?_)
        refine lv_ishl hx hb dX12_yearOf_269 ?_
        refine lv_topi (nm_r (e' := 4) (by decide) ?_)
        refine lv_goto (tgt := 274) hx hb dX12_yearOf_270 (by decide) ?_
        refine lv_ior hx hb dX12_yearOf_274 ?_
        refine lv_istore_n (lv' := [(3, .int (((((nI js) &&& 5) <<< (1 &&& (31 : Int32))) ||| 1) ||| 4)), (4, .int 1), (2, .ref (m_a 34)), (0, .ref mo), (1, .int (nI js))]) hx hb dX12_yearOf_275 rfl hl (by decide) rfl (fun ls hl => ?_)
        refine lv_iinc (v := 2) (lv' := [(4, .int 2), (3, .int (((((nI js) &&& 5) <<< (1 &&& (31 : Int32))) ||| 1) ||| 4)), (2, .ref (m_a 34)), (0, .ref mo), (1, .int (nI js))]) hx hb dX12_yearOf_276 hl (k := 1) rfl (by decide) (by decide) rfl (fun ls hl => ?_)
        refine lv_goto (tgt := 211) hx hb dX12_yearOf_279 (by decide) ?_
        refine lv_iload hx hb dX12_yearOf_211 (lv_at hl 0 rfl) ?_
        refine lv_iconst (v := 2) hx hb dX12_yearOf_213 (by decide) ?_
        refine lv_icmp_ge (tgt := 282) hx hb dX12_yearOf_214 (by decide) (fun _ => ?_) (fun c152 => absurd c152 (by decide))
        refine lv_iload_n hx hb dX12_yearOf_282 rfl (lv_at hl 1 rfl) ?_
        have hA9 : sA ra rb js = 1 := by unfold sA; rw [if_pos (by omega)]
        have hB9 : zB ra rb js = 1 := by unfold zB; rw [if_pos (by omega)]
        have hP9 := hP.sub (ws' := [(mo, .inr (11, mG m_a m_thrown m_taped m_at m_token m_place m_value m_word m_bad m_badPlace m_fault m_faultPlace (-1) m_will m_forgot 0 m_x vb vr vc vf m_any m_bothSend m_meanCards m_bestSum m_fitMany m_fitFirst m_fitSecond)), ((m_a 23), .inl (cI, 2, .inl fr)), ((m_a 24), .inl (cZ, 2, .inl fm)), ((m_a 25), .inl (cZ, 2, .inl fc)), ((m_a 26), .inl (cI, 2, .inl (upd (upd (upd fs 0 0) 1 1) 0 2))), ((m_a 27), .inl (cZ, 2, .inl (upd (upd (upd (upd fg 0 0) 1 0) 0 1) 1 1))), ((m_a 34), .inl (cZ, 2, .inl (upd (upd fk 0 1) 1 0)))]) [0, 1, 2, 3, 4, 5, 6] rfl
        have hD9 := hD.sub (ws' := [(mo, .inr (11, mG m_a m_thrown m_taped m_at m_token m_place m_value m_word m_bad m_badPlace m_fault m_faultPlace (-1) m_will m_forgot 0 m_x vb vr vc vf m_any m_bothSend m_meanCards m_bestSum m_fitMany m_fitFirst m_fitSecond)), ((m_a 23), .inl (cI, 2, .inl fr)), ((m_a 24), .inl (cZ, 2, .inl fm)), ((m_a 25), .inl (cZ, 2, .inl fc)), ((m_a 26), .inl (cI, 2, .inl (upd (upd (upd fs 0 0) 1 1) 0 2))), ((m_a 27), .inl (cZ, 2, .inl (upd (upd (upd (upd fg 0 0) 1 0) 0 1) 1 1))), ((m_a 34), .inl (cZ, 2, .inl (upd (upd fk 0 1) 1 0)))]) [0, 1, 2, 3, 4, 5, 6] (by decide) rfl
        exact W.iret (v := (((((nI js) &&& 5) <<< (1 &&& (31 : Int32))) ||| 1) ||| 4)) hx hb hr (fun t ht hW => ⟨⟨(((((nI js) &&& 5) <<< (1 &&& (31 : Int32))) ||| 1) ||| 4), ((upd (upd (upd fs 0 0) 1 1) 0 2), (upd (upd (upd (upd fg 0 0) 1 0) 0 1) 1 1), (upd (upd fk 0 1) 1 0)), rfl, ⟨th_nx hjs (u := 1) (v := 1) hB9 hA9, 2, 1, rfl, rfl, by decide, by decide, by unfold sc; rw [hA9, hB9]; rfl⟩, by rw [ht]; exact hP9, va_K.moved hW.alike hK, hD9⟩, hS.F ht⟩) hS.2.2 dX12_yearOf_283
    · refine lv_if_eq (tgt := 59) hx hb dX12_yearOf_44 (by decide) (fun _ => ?_) (fun c153 => absurd c153 (by decide))
      refine lv_iconst (v := 0) hx hb dX12_yearOf_59 (by decide) ?_
      refine lv_istore_n (lv' := [(3, .int 0), (2, .int 1), (0, .ref mo), (1, .int (nI js))]) hx hb dX12_yearOf_60 rfl hl (by decide) rfl (fun ls hl => ?_)
      refine lv_aload_n hx hb dX12_yearOf_61 rfl (lv_at hl 2 rfl) ?_
      refine va_get (D := g) (ci := 11) (v := .ref (m_a 26)) (C := RX12) (T := TX12) (N := 56) hx hb hts iX12 hown hK hP 0 rfl rfl 26 (by decide) (hts (.fieldLink RX12 62 "CardsAtYuleModel" "sent" "[I") (List.mem_cons_of_mem _ (List.mem_append_left _ (List.mem_of_getElem? (i := 10) rfl)))) (fun _ h9 => h9) rfl dX12_yearOf_62 ?_
      refine lv_iload_n hx hb dX12_yearOf_65 rfl (lv_at hl 1 rfl) ?_
      refine lv_iload_n hx hb dX12_yearOf_66 rfl (lv_at hl 0 rfl) ?_
      refine lv_if_eq (tgt := 74) hx hb dX12_yearOf_67 (by decide) (fun _ => ?_) (fun c154 => absurd c154 (by decide))
      refine lv_iconst (v := 0) hx hb dX12_yearOf_74 (by decide) ?_
      refine va_iast (D := g) hx hb hK hP hD hS 4 0 rfl rfl (vc_in (by decide)) dX12_yearOf_75 (fun H locs hP hD hS => ?_)
      have hP : va_P g vwCl [(mo, .inr (11, mG m_a m_thrown m_taped m_at m_token m_place m_value m_word m_bad m_badPlace m_fault m_faultPlace (-1) m_will m_forgot 0 m_x vb vr vc vf m_any m_bothSend m_meanCards m_bestSum m_fitMany m_fitFirst m_fitSecond)), ((m_a 23), .inl (cI, 2, .inl fr)), ((m_a 24), .inl (cZ, 2, .inl fm)), ((m_a 25), .inl (cZ, 2, .inl fc)), ((m_a 26), .inl (cI, 2, .inl (upd (upd fs 0 0) 1 0))), ((m_a 27), .inl (cZ, 2, .inl (upd (upd fg 0 0) 1 0))), ((m_a 34), .inl (cZ, 2, .inl fk))] H := hP
      have hD : va_D A [(mo, .inr (11, mG m_a m_thrown m_taped m_at m_token m_place m_value m_word m_bad m_badPlace m_fault m_faultPlace (-1) m_will m_forgot 0 m_x vb vr vc vf m_any m_bothSend m_meanCards m_bestSum m_fitMany m_fitFirst m_fitSecond)), ((m_a 23), .inl (cI, 2, .inl fr)), ((m_a 24), .inl (cZ, 2, .inl fm)), ((m_a 25), .inl (cZ, 2, .inl fc)), ((m_a 26), .inl (cI, 2, .inl (upd (upd fs 0 0) 1 0))), ((m_a 27), .inl (cZ, 2, .inl (upd (upd fg 0 0) 1 0))), ((m_a 34), .inl (cZ, 2, .inl fk))] := hD
      refine lv_iinc (v := 2) (lv' := [(2, .int 2), (3, .int 0), (0, .ref mo), (1, .int (nI js))]) hx hb dX12_yearOf_76 hl (k := 1) rfl (by decide) (by decide) rfl (fun ls hl => ?_)
      refine lv_goto (tgt := 2) hx hb dX12_yearOf_79 (by decide) ?_
      refine lv_iload_n hx hb dX12_yearOf_2 rfl (lv_at hl 0 rfl) ?_
      refine lv_iconst (v := 2) hx hb dX12_yearOf_3 (by decide) ?_
      refine lv_icmp_ge (tgt := 82) hx hb dX12_yearOf_4 (by decide) (fun _ => ?_) (fun c155 => absurd c155 (by decide))
      refine lv_aload_n hx hb dX12_yearOf_82 rfl (lv_at hl 2 rfl) ?_
      refine va_get (D := g) (ci := 11) (v := .ref (m_a 34)) (C := RX12) (T := TX12) (N := 56) hx hb hts iX12 hown hK hP 0 rfl rfl 34 (by decide) (hts (.fieldLink RX12 74 "CardsAtYuleModel" "cameFirst" "[Z") (List.mem_cons_of_mem _ (List.mem_append_left _ (List.mem_of_getElem? (i := 11) rfl)))) (fun _ h9 => h9) rfl dX12_yearOf_83 ?_
      refine lv_astore_n (lv' := [(2, .ref (m_a 34)), (3, .int 0), (0, .ref mo), (1, .int (nI js))]) hx hb dX12_yearOf_86 rfl hl (by decide) rfl (fun ls hl => ?_)
      refine lv_iconst (v := 0) hx hb dX12_yearOf_87 (by decide) ?_
      refine lv_istore_n (lv' := [(3, .int 0), (2, .ref (m_a 34)), (0, .ref mo), (1, .int (nI js))]) hx hb dX12_yearOf_88 rfl hl (by decide) rfl (fun ls hl => ?_)
      refine lv_iload_n hx hb dX12_yearOf_89 rfl (lv_at hl 0 rfl) ?_
      refine lv_iconst (v := 2) hx hb dX12_yearOf_90 (by decide) ?_
      refine lv_icmp_ge (tgt := 131) hx hb dX12_yearOf_91 (by decide) (fun c156 => absurd c156 (by decide)) (fun _ => ?_)
      refine lv_aload_n hx hb dX12_yearOf_94 rfl (lv_at hl 1 rfl) ?_
      refine lv_iload_n hx hb dX12_yearOf_95 rfl (lv_at hl 0 rfl) ?_
      refine lv_aload_n hx hb dX12_yearOf_96 rfl (lv_at hl 2 rfl) ?_
      refine va_get (D := g) (ci := 11) (v := .ref (m_a 26)) (C := RX12) (T := TX12) (N := 56) hx hb hts iX12 hown hK hP 0 rfl rfl 26 (by decide) (hts (.fieldLink RX12 62 "CardsAtYuleModel" "sent" "[I") (List.mem_cons_of_mem _ (List.mem_append_left _ (List.mem_of_getElem? (i := 10) rfl)))) (fun _ h9 => h9) rfl dX12_yearOf_97 ?_
      refine lv_iconst (v := 1) hx hb dX12_yearOf_100 (by decide) ?_
      refine lv_iload_n hx hb dX12_yearOf_101 rfl (lv_at hl 0 rfl) ?_
      refine lv_isub hx hb dX12_yearOf_102 ?_
      refine lv_topi (nm_r (e' := 1) (by decide) ?_)
      refine va_iald (D := g) hx hb hK hP 4 0 rfl rfl (vc_in (by decide)) dX12_yearOf_103 ?_
      refine lv_topi (nm_r (e' := 0) rfl ?_)
      refine lv_iconst (v := 1) hx hb dX12_yearOf_104 (by decide) ?_
      refine lv_icmp_ne (tgt := 123) hx hb dX12_yearOf_105 (by decide) (fun _ => ?_) (fun c157 => absurd c157 (by decide))
      refine lv_iconst (v := 0) hx hb dX12_yearOf_123 (by decide) ?_
      refine va_zast (D := g) hx hb hK hP hD hS 6 3 rfl rfl (vc_in (by decide)) dX12_yearOf_124 (fun H locs hP hD hS => ?_)
      have hP : va_P g vwCl [(mo, .inr (11, mG m_a m_thrown m_taped m_at m_token m_place m_value m_word m_bad m_badPlace m_fault m_faultPlace (-1) m_will m_forgot 0 m_x vb vr vc vf m_any m_bothSend m_meanCards m_bestSum m_fitMany m_fitFirst m_fitSecond)), ((m_a 23), .inl (cI, 2, .inl fr)), ((m_a 24), .inl (cZ, 2, .inl fm)), ((m_a 25), .inl (cZ, 2, .inl fc)), ((m_a 26), .inl (cI, 2, .inl (upd (upd fs 0 0) 1 0))), ((m_a 27), .inl (cZ, 2, .inl (upd (upd fg 0 0) 1 0))), ((m_a 34), .inl (cZ, 2, .inl (upd fk 0 0)))] H := hP
      have hD : va_D A [(mo, .inr (11, mG m_a m_thrown m_taped m_at m_token m_place m_value m_word m_bad m_badPlace m_fault m_faultPlace (-1) m_will m_forgot 0 m_x vb vr vc vf m_any m_bothSend m_meanCards m_bestSum m_fitMany m_fitFirst m_fitSecond)), ((m_a 23), .inl (cI, 2, .inl fr)), ((m_a 24), .inl (cZ, 2, .inl fm)), ((m_a 25), .inl (cZ, 2, .inl fc)), ((m_a 26), .inl (cI, 2, .inl (upd (upd fs 0 0) 1 0))), ((m_a 27), .inl (cZ, 2, .inl (upd (upd fg 0 0) 1 0))), ((m_a 34), .inl (cZ, 2, .inl (upd fk 0 0)))] := hD
      refine lv_iinc (v := 1) (lv' := [(3, .int 1), (2, .ref (m_a 34)), (0, .ref mo), (1, .int (nI js))]) hx hb dX12_yearOf_125 hl (k := 0) rfl (by decide) (by decide) rfl (fun ls hl => ?_)
      refine lv_goto (tgt := 89) hx hb dX12_yearOf_128 (by decide) ?_
      refine lv_iload_n hx hb dX12_yearOf_89 rfl (lv_at hl 0 rfl) ?_
      refine lv_iconst (v := 2) hx hb dX12_yearOf_90 (by decide) ?_
      refine lv_icmp_ge (tgt := 131) hx hb dX12_yearOf_91 (by decide) (fun c158 => absurd c158 (by decide)) (fun _ => ?_)
      refine lv_aload_n hx hb dX12_yearOf_94 rfl (lv_at hl 1 rfl) ?_
      refine lv_iload_n hx hb dX12_yearOf_95 rfl (lv_at hl 0 rfl) ?_
      refine lv_aload_n hx hb dX12_yearOf_96 rfl (lv_at hl 2 rfl) ?_
      refine va_get (D := g) (ci := 11) (v := .ref (m_a 26)) (C := RX12) (T := TX12) (N := 56) hx hb hts iX12 hown hK hP 0 rfl rfl 26 (by decide) (hts (.fieldLink RX12 62 "CardsAtYuleModel" "sent" "[I") (List.mem_cons_of_mem _ (List.mem_append_left _ (List.mem_of_getElem? (i := 10) rfl)))) (fun _ h9 => h9) rfl dX12_yearOf_97 ?_
      refine lv_iconst (v := 1) hx hb dX12_yearOf_100 (by decide) ?_
      refine lv_iload_n hx hb dX12_yearOf_101 rfl (lv_at hl 0 rfl) ?_
      refine lv_isub hx hb dX12_yearOf_102 ?_
      refine lv_topi (nm_r (e' := 0) (by decide) ?_)
      refine va_iald (D := g) hx hb hK hP 4 0 rfl rfl (vc_in (by decide)) dX12_yearOf_103 ?_
      refine lv_topi (nm_r (e' := 0) rfl ?_)
      refine lv_iconst (v := 1) hx hb dX12_yearOf_104 (by decide) ?_
      refine lv_icmp_ne (tgt := 123) hx hb dX12_yearOf_105 (by decide) (fun _ => ?_) (fun c159 => absurd c159 (by decide))
      refine lv_iconst (v := 0) hx hb dX12_yearOf_123 (by decide) ?_
      refine va_zast (D := g) hx hb hK hP hD hS 6 3 rfl rfl (vc_in (by decide)) dX12_yearOf_124 (fun H locs hP hD hS => ?_)
      have hP : va_P g vwCl [(mo, .inr (11, mG m_a m_thrown m_taped m_at m_token m_place m_value m_word m_bad m_badPlace m_fault m_faultPlace (-1) m_will m_forgot 0 m_x vb vr vc vf m_any m_bothSend m_meanCards m_bestSum m_fitMany m_fitFirst m_fitSecond)), ((m_a 23), .inl (cI, 2, .inl fr)), ((m_a 24), .inl (cZ, 2, .inl fm)), ((m_a 25), .inl (cZ, 2, .inl fc)), ((m_a 26), .inl (cI, 2, .inl (upd (upd fs 0 0) 1 0))), ((m_a 27), .inl (cZ, 2, .inl (upd (upd fg 0 0) 1 0))), ((m_a 34), .inl (cZ, 2, .inl (upd (upd fk 0 0) 1 0)))] H := hP
      have hD : va_D A [(mo, .inr (11, mG m_a m_thrown m_taped m_at m_token m_place m_value m_word m_bad m_badPlace m_fault m_faultPlace (-1) m_will m_forgot 0 m_x vb vr vc vf m_any m_bothSend m_meanCards m_bestSum m_fitMany m_fitFirst m_fitSecond)), ((m_a 23), .inl (cI, 2, .inl fr)), ((m_a 24), .inl (cZ, 2, .inl fm)), ((m_a 25), .inl (cZ, 2, .inl fc)), ((m_a 26), .inl (cI, 2, .inl (upd (upd fs 0 0) 1 0))), ((m_a 27), .inl (cZ, 2, .inl (upd (upd fg 0 0) 1 0))), ((m_a 34), .inl (cZ, 2, .inl (upd (upd fk 0 0) 1 0)))] := hD
      refine lv_iinc (v := 2) (lv' := [(3, .int 2), (2, .ref (m_a 34)), (0, .ref mo), (1, .int (nI js))]) hx hb dX12_yearOf_125 hl (k := 0) rfl (by decide) (by decide) rfl (fun ls hl => ?_)
      refine lv_goto (tgt := 89) hx hb dX12_yearOf_128 (by decide) ?_
      refine lv_iload_n hx hb dX12_yearOf_89 rfl (lv_at hl 0 rfl) ?_
      refine lv_iconst (v := 2) hx hb dX12_yearOf_90 (by decide) ?_
      refine lv_icmp_ge (tgt := 131) hx hb dX12_yearOf_91 (by decide) (fun _ => ?_) (fun c160 => absurd c160 (by decide))
      refine lv_iconst (v := 0) hx hb dX12_yearOf_131 (by decide) ?_
      refine lv_istore_n (lv' := [(3, .int 0), (2, .ref (m_a 34)), (0, .ref mo), (1, .int (nI js))]) hx hb dX12_yearOf_132 rfl hl (by decide) rfl (fun ls hl => ?_)
      refine lv_iload_n hx hb dX12_yearOf_133 rfl (lv_at hl 0 rfl) ?_
      refine lv_iconst (v := 2) hx hb dX12_yearOf_134 (by decide) ?_
      refine lv_icmp_ge (tgt := 202) hx hb dX12_yearOf_135 (by decide) (fun c161 => absurd c161 (by decide)) (fun _ => ?_)
      refine lv_iload_n hx hb dX12_yearOf_138 rfl (lv_at hl 0 rfl) ?_
      refine lv_aload_n hx hb dX12_yearOf_139 rfl (lv_at hl 2 rfl) ?_
      refine va_get (D := g) (ci := 11) (v := .int (-1)) (C := RX12) (T := TX12) (N := 56) hx hb hts iX12 hown hK hP 0 rfl rfl 28 (by decide) (hts (.fieldLink RX12 68 "CardsAtYuleModel" "willing" "I") (List.mem_cons_of_mem _ (List.mem_append_left _ (List.mem_of_getElem? (i := 1) rfl)))) (fun _ h9 => h9) rfl dX12_yearOf_140 ?_
      refine lv_icmp_eq (tgt := 196) hx hb dX12_yearOf_143 (by decide) (fun c162 => absurd c162 (by decide)) (fun _ => ?_)
      refine lv_aload_n hx hb dX12_yearOf_146 rfl (lv_at hl 2 rfl) ?_
      refine va_get (D := g) (ci := 11) (v := .ref (m_a 24)) (C := RX12) (T := TX12) (N := 56) hx hb hts iX12 hown hK hP 0 rfl rfl 24 (by decide) (hts (.fieldLink RX12 56 "CardsAtYuleModel" "maySend" "[Z") (List.mem_cons_of_mem _ (List.mem_append_left _ (List.mem_of_getElem? (i := 2) rfl)))) (fun _ h9 => h9) rfl dX12_yearOf_147 ?_
      refine lv_iload_n hx hb dX12_yearOf_150 rfl (lv_at hl 0 rfl) ?_
      refine va_zald (D := g) hx hb hK hP 2 3 rfl rfl (vc_in (by decide)) dX12_yearOf_151 ?_
      refine lv_topi (nm_r (e' := 1) hS_m0 ?_)
      refine lv_if_eq (tgt := 196) hx hb dX12_yearOf_152 (by decide) (fun c163 => absurd c163 (by decide)) (fun _ => ?_)
      refine lv_aload_n hx hb dX12_yearOf_155 rfl (lv_at hl 2 rfl) ?_
      refine va_get (D := g) (ci := 11) (v := .ref (m_a 26)) (C := RX12) (T := TX12) (N := 56) hx hb hts iX12 hown hK hP 0 rfl rfl 26 (by decide) (hts (.fieldLink RX12 62 "CardsAtYuleModel" "sent" "[I") (List.mem_cons_of_mem _ (List.mem_append_left _ (List.mem_of_getElem? (i := 10) rfl)))) (fun _ h9 => h9) rfl dX12_yearOf_156 ?_
      refine lv_iload_n hx hb dX12_yearOf_159 rfl (lv_at hl 0 rfl) ?_
      refine va_iald (D := g) hx hb hK hP 4 0 rfl rfl (vc_in (by decide)) dX12_yearOf_160 ?_
      refine lv_topi (nm_r (e' := 0) rfl ?_)
      refine lv_if_ne (tgt := 196) hx hb dX12_yearOf_161 (by decide) (fun c164 => absurd c164 (by decide)) (fun _ => ?_)
      refine lv_aload_n hx hb dX12_yearOf_164 rfl (lv_at hl 2 rfl) ?_
      refine va_get (D := g) (ci := 11) (v := .ref (m_a 23)) (C := RX12) (T := TX12) (N := 56) hx hb hts iX12 hown hK hP 0 rfl rfl 23 (by decide) (hts (.fieldLink RX12 53 "CardsAtYuleModel" "ruleNow" "[I") (List.mem_cons_of_mem _ (List.mem_append_left _ (List.mem_of_getElem? (i := 13) rfl)))) (fun _ h9 => h9) rfl dX12_yearOf_165 ?_
      refine lv_iload_n hx hb dX12_yearOf_168 rfl (lv_at hl 0 rfl) ?_
      refine va_iald (D := g) hx hb hK hP 1 0 rfl rfl (vc_in (by decide)) dX12_yearOf_169 ?_
      refine lv_topi (nm_r (e' := nI ra) hS_r0 ?_)
      refine lv_bipush (v := 16) hx hb dX12_yearOf_170 (by decide) ?_
      refine lv_icmp_lt (tgt := 196) hx hb dX12_yearOf_172 (by decide) (fun c165 => ?_) (fun c165 => ?_)
      · have f166 := (show (ra : Int) < 16 from z_lt (nI_toInt (n := ra) (by omega)) rfl c165)
        refine lv_iinc (v := 1) (lv' := [(3, .int 1), (2, .ref (m_a 34)), (0, .ref mo), (1, .int (nI js))]) hx hb dX12_yearOf_196 hl (k := 0) rfl (by decide) (by decide) rfl (fun ls hl => ?_)
        refine lv_goto (tgt := 133) hx hb dX12_yearOf_199 (by decide) ?_
        refine lv_iload_n hx hb dX12_yearOf_133 rfl (lv_at hl 0 rfl) ?_
        refine lv_iconst (v := 2) hx hb dX12_yearOf_134 (by decide) ?_
        refine lv_icmp_ge (tgt := 202) hx hb dX12_yearOf_135 (by decide) (fun c167 => absurd c167 (by decide)) (fun _ => ?_)
        refine lv_iload_n hx hb dX12_yearOf_138 rfl (lv_at hl 0 rfl) ?_
        refine lv_aload_n hx hb dX12_yearOf_139 rfl (lv_at hl 2 rfl) ?_
        refine va_get (D := g) (ci := 11) (v := .int (-1)) (C := RX12) (T := TX12) (N := 56) hx hb hts iX12 hown hK hP 0 rfl rfl 28 (by decide) (hts (.fieldLink RX12 68 "CardsAtYuleModel" "willing" "I") (List.mem_cons_of_mem _ (List.mem_append_left _ (List.mem_of_getElem? (i := 1) rfl)))) (fun _ h9 => h9) rfl dX12_yearOf_140 ?_
        refine lv_icmp_eq (tgt := 196) hx hb dX12_yearOf_143 (by decide) (fun c168 => absurd c168 (by decide)) (fun _ => ?_)
        refine lv_aload_n hx hb dX12_yearOf_146 rfl (lv_at hl 2 rfl) ?_
        refine va_get (D := g) (ci := 11) (v := .ref (m_a 24)) (C := RX12) (T := TX12) (N := 56) hx hb hts iX12 hown hK hP 0 rfl rfl 24 (by decide) (hts (.fieldLink RX12 56 "CardsAtYuleModel" "maySend" "[Z") (List.mem_cons_of_mem _ (List.mem_append_left _ (List.mem_of_getElem? (i := 2) rfl)))) (fun _ h9 => h9) rfl dX12_yearOf_147 ?_
        refine lv_iload_n hx hb dX12_yearOf_150 rfl (lv_at hl 0 rfl) ?_
        refine va_zald (D := g) hx hb hK hP 2 3 rfl rfl (vc_in (by decide)) dX12_yearOf_151 ?_
        refine lv_topi (nm_r (e' := 1) hS_m1 ?_)
        refine lv_if_eq (tgt := 196) hx hb dX12_yearOf_152 (by decide) (fun c169 => absurd c169 (by decide)) (fun _ => ?_)
        refine lv_aload_n hx hb dX12_yearOf_155 rfl (lv_at hl 2 rfl) ?_
        refine va_get (D := g) (ci := 11) (v := .ref (m_a 26)) (C := RX12) (T := TX12) (N := 56) hx hb hts iX12 hown hK hP 0 rfl rfl 26 (by decide) (hts (.fieldLink RX12 62 "CardsAtYuleModel" "sent" "[I") (List.mem_cons_of_mem _ (List.mem_append_left _ (List.mem_of_getElem? (i := 10) rfl)))) (fun _ h9 => h9) rfl dX12_yearOf_156 ?_
        refine lv_iload_n hx hb dX12_yearOf_159 rfl (lv_at hl 0 rfl) ?_
        refine va_iald (D := g) hx hb hK hP 4 0 rfl rfl (vc_in (by decide)) dX12_yearOf_160 ?_
        refine lv_topi (nm_r (e' := 0) rfl ?_)
        refine lv_if_ne (tgt := 196) hx hb dX12_yearOf_161 (by decide) (fun c170 => absurd c170 (by decide)) (fun _ => ?_)
        refine lv_aload_n hx hb dX12_yearOf_164 rfl (lv_at hl 2 rfl) ?_
        refine va_get (D := g) (ci := 11) (v := .ref (m_a 23)) (C := RX12) (T := TX12) (N := 56) hx hb hts iX12 hown hK hP 0 rfl rfl 23 (by decide) (hts (.fieldLink RX12 53 "CardsAtYuleModel" "ruleNow" "[I") (List.mem_cons_of_mem _ (List.mem_append_left _ (List.mem_of_getElem? (i := 13) rfl)))) (fun _ h9 => h9) rfl dX12_yearOf_165 ?_
        refine lv_iload_n hx hb dX12_yearOf_168 rfl (lv_at hl 0 rfl) ?_
        refine va_iald (D := g) hx hb hK hP 1 0 rfl rfl (vc_in (by decide)) dX12_yearOf_169 ?_
        refine lv_topi (nm_r (e' := nI rb) hS_r1 ?_)
        refine lv_bipush (v := 16) hx hb dX12_yearOf_170 (by decide) ?_
        refine lv_icmp_lt (tgt := 196) hx hb dX12_yearOf_172 (by decide) (fun c171 => ?_) (fun c171 => ?_)
        · have f172 := (show (rb : Int) < 16 from z_lt (nI_toInt (n := rb) (by omega)) rfl c171)
          refine lv_iinc (v := 2) (lv' := [(3, .int 2), (2, .ref (m_a 34)), (0, .ref mo), (1, .int (nI js))]) hx hb dX12_yearOf_196 hl (k := 0) rfl (by decide) (by decide) rfl (fun ls hl => ?_)
          refine lv_goto (tgt := 133) hx hb dX12_yearOf_199 (by decide) ?_
          refine lv_iload_n hx hb dX12_yearOf_133 rfl (lv_at hl 0 rfl) ?_
          refine lv_iconst (v := 2) hx hb dX12_yearOf_134 (by decide) ?_
          refine lv_icmp_ge (tgt := 202) hx hb dX12_yearOf_135 (by decide) (fun _ => ?_) (fun c173 => absurd c173 (by decide))
          refine lv_iload_n hx hb dX12_yearOf_202 rfl (lv_at hl 3 rfl) ?_
          refine lv_iconst (v := 5) hx hb dX12_yearOf_203 (by decide) ?_
          refine lv_iand hx hb dX12_yearOf_204 ?_
          refine lv_iconst (v := 1) hx hb dX12_yearOf_205 (by decide) ?_
          refine lv_ishl hx hb dX12_yearOf_206 ?_
          refine lv_istore_n (lv' := [(3, .int (((nI js) &&& 5) <<< (1 &&& (31 : Int32)))), (2, .ref (m_a 34)), (0, .ref mo), (1, .int (nI js))]) hx hb dX12_yearOf_207 rfl hl (by decide) rfl (fun ls hl => ?_)
          refine lv_iconst (v := 0) hx hb dX12_yearOf_208 (by decide) ?_
          refine lv_istore (lv' := [(4, .int 0), (3, .int (((nI js) &&& 5) <<< (1 &&& (31 : Int32)))), (2, .ref (m_a 34)), (0, .ref mo), (1, .int (nI js))]) hx hb dX12_yearOf_209 hl (by decide) rfl (fun ls hl => ?_)
          refine lv_iload hx hb dX12_yearOf_211 (lv_at hl 0 rfl) ?_
          refine lv_iconst (v := 2) hx hb dX12_yearOf_213 (by decide) ?_
          refine lv_icmp_ge (tgt := 282) hx hb dX12_yearOf_214 (by decide) (fun c174 => absurd c174 (by decide)) (fun _ => ?_)
          refine lv_aload_n hx hb dX12_yearOf_217 rfl (lv_at hl 3 rfl) ?_
          refine va_get (D := g) (ci := 11) (v := .ref (m_a 27)) (C := RX12) (T := TX12) (N := 56) hx hb hts iX12 hown hK hP 0 rfl rfl 27 (by decide) (hts (.fieldLink RX12 65 "CardsAtYuleModel" "gets" "[Z") (List.mem_cons_of_mem _ (List.mem_append_left _ (List.mem_of_getElem? (i := 0) rfl)))) (fun _ h9 => h9) rfl dX12_yearOf_218 ?_
          refine lv_iload hx hb dX12_yearOf_221 (lv_at hl 0 rfl) ?_
          refine lv_aload_n hx hb dX12_yearOf_223 rfl (lv_at hl 3 rfl) ?_
          refine va_get (D := g) (ci := 11) (v := .ref (m_a 26)) (C := RX12) (T := TX12) (N := 56) hx hb hts iX12 hown hK hP 0 rfl rfl 26 (by decide) (hts (.fieldLink RX12 62 "CardsAtYuleModel" "sent" "[I") (List.mem_cons_of_mem _ (List.mem_append_left _ (List.mem_of_getElem? (i := 10) rfl)))) (fun _ h9 => h9) rfl dX12_yearOf_224 ?_
          refine lv_iconst (v := 1) hx hb dX12_yearOf_227 (by decide) ?_
          refine lv_iload hx hb dX12_yearOf_228 (lv_at hl 0 rfl) ?_
          refine lv_isub hx hb dX12_yearOf_230 ?_
          refine lv_topi (nm_r (e' := 1) (by decide) ?_)
          refine va_iald (D := g) hx hb hK hP 4 0 rfl rfl (vc_in (by decide)) dX12_yearOf_231 ?_
          refine lv_topi (nm_r (e' := 0) rfl ?_)
          refine lv_if_le (tgt := 251) hx hb dX12_yearOf_232 (by decide) (fun _ => ?_) (fun c175 => absurd c175 (by decide))
          refine lv_iconst (v := 0) hx hb dX12_yearOf_251 (by decide) ?_
          refine va_zast (D := g) hx hb hK hP hD hS 5 3 rfl rfl (vc_in (by decide)) dX12_yearOf_252 (fun H locs hP hD hS => ?_)
          have hP : va_P g vwCl [(mo, .inr (11, mG m_a m_thrown m_taped m_at m_token m_place m_value m_word m_bad m_badPlace m_fault m_faultPlace (-1) m_will m_forgot 0 m_x vb vr vc vf m_any m_bothSend m_meanCards m_bestSum m_fitMany m_fitFirst m_fitSecond)), ((m_a 23), .inl (cI, 2, .inl fr)), ((m_a 24), .inl (cZ, 2, .inl fm)), ((m_a 25), .inl (cZ, 2, .inl fc)), ((m_a 26), .inl (cI, 2, .inl (upd (upd fs 0 0) 1 0))), ((m_a 27), .inl (cZ, 2, .inl (upd (upd (upd fg 0 0) 1 0) 0 0))), ((m_a 34), .inl (cZ, 2, .inl (upd (upd fk 0 0) 1 0)))] H := hP
          have hD : va_D A [(mo, .inr (11, mG m_a m_thrown m_taped m_at m_token m_place m_value m_word m_bad m_badPlace m_fault m_faultPlace (-1) m_will m_forgot 0 m_x vb vr vc vf m_any m_bothSend m_meanCards m_bestSum m_fitMany m_fitFirst m_fitSecond)), ((m_a 23), .inl (cI, 2, .inl fr)), ((m_a 24), .inl (cZ, 2, .inl fm)), ((m_a 25), .inl (cZ, 2, .inl fc)), ((m_a 26), .inl (cI, 2, .inl (upd (upd fs 0 0) 1 0))), ((m_a 27), .inl (cZ, 2, .inl (upd (upd (upd fg 0 0) 1 0) 0 0))), ((m_a 34), .inl (cZ, 2, .inl (upd (upd fk 0 0) 1 0)))] := hD
          refine lv_iload_n hx hb dX12_yearOf_253 rfl (lv_at hl 1 rfl) ?_
          refine lv_aload_n hx hb dX12_yearOf_254 rfl (lv_at hl 3 rfl) ?_
          refine va_get (D := g) (ci := 11) (v := .ref (m_a 27)) (C := RX12) (T := TX12) (N := 56) hx hb hts iX12 hown hK hP 0 rfl rfl 27 (by decide) (hts (.fieldLink RX12 65 "CardsAtYuleModel" "gets" "[Z") (List.mem_cons_of_mem _ (List.mem_append_left _ (List.mem_of_getElem? (i := 0) rfl)))) (fun _ h9 => h9) rfl dX12_yearOf_255 ?_
          refine lv_iload hx hb dX12_yearOf_258 (lv_at hl 0 rfl) ?_
          refine va_zald (D := g) hx hb hK hP 5 3 rfl rfl (vc_in (by decide)) dX12_yearOf_260 ?_
          refine lv_topi (nm_r (e' := 0) rfl ?_)
          refine lv_if_eq (tgt := 273) hx hb dX12_yearOf_261 (by decide) (fun _ => ?_) (fun c176 => absurd c176 (by decide))
          refine lv_iconst (v := 0) hx hb dX12_yearOf_273 (by decide) ?_
          refine lv_ior hx hb dX12_yearOf_274 ?_
          refine lv_istore_n (lv' := [(3, .int ((((nI js) &&& 5) <<< (1 &&& (31 : Int32))) ||| 0)), (4, .int 0), (2, .ref (m_a 34)), (0, .ref mo), (1, .int (nI js))]) hx hb dX12_yearOf_275 rfl hl (by decide) rfl (fun ls hl => ?_)
          refine lv_iinc (v := 1) (lv' := [(4, .int 1), (3, .int ((((nI js) &&& 5) <<< (1 &&& (31 : Int32))) ||| 0)), (2, .ref (m_a 34)), (0, .ref mo), (1, .int (nI js))]) hx hb dX12_yearOf_276 hl (k := 1) rfl (by decide) (by decide) rfl (fun ls hl => ?_)
          refine lv_goto (tgt := 211) hx hb dX12_yearOf_279 (by decide) ?_
          refine lv_iload hx hb dX12_yearOf_211 (lv_at hl 0 rfl) ?_
          refine lv_iconst (v := 2) hx hb dX12_yearOf_213 (by decide) ?_
          refine lv_icmp_ge (tgt := 282) hx hb dX12_yearOf_214 (by decide) (fun c177 => absurd c177 (by decide)) (fun _ => ?_)
          refine lv_aload_n hx hb dX12_yearOf_217 rfl (lv_at hl 3 rfl) ?_
          refine va_get (D := g) (ci := 11) (v := .ref (m_a 27)) (C := RX12) (T := TX12) (N := 56) hx hb hts iX12 hown hK hP 0 rfl rfl 27 (by decide) (hts (.fieldLink RX12 65 "CardsAtYuleModel" "gets" "[Z") (List.mem_cons_of_mem _ (List.mem_append_left _ (List.mem_of_getElem? (i := 0) rfl)))) (fun _ h9 => h9) rfl dX12_yearOf_218 ?_
          refine lv_iload hx hb dX12_yearOf_221 (lv_at hl 0 rfl) ?_
          refine lv_aload_n hx hb dX12_yearOf_223 rfl (lv_at hl 3 rfl) ?_
          refine va_get (D := g) (ci := 11) (v := .ref (m_a 26)) (C := RX12) (T := TX12) (N := 56) hx hb hts iX12 hown hK hP 0 rfl rfl 26 (by decide) (hts (.fieldLink RX12 62 "CardsAtYuleModel" "sent" "[I") (List.mem_cons_of_mem _ (List.mem_append_left _ (List.mem_of_getElem? (i := 10) rfl)))) (fun _ h9 => h9) rfl dX12_yearOf_224 ?_
          refine lv_iconst (v := 1) hx hb dX12_yearOf_227 (by decide) ?_
          refine lv_iload hx hb dX12_yearOf_228 (lv_at hl 0 rfl) ?_
          refine lv_isub hx hb dX12_yearOf_230 ?_
          refine lv_topi (nm_r (e' := 0) (by decide) ?_)
          refine va_iald (D := g) hx hb hK hP 4 0 rfl rfl (vc_in (by decide)) dX12_yearOf_231 ?_
          refine lv_topi (nm_r (e' := 0) rfl ?_)
          refine lv_if_le (tgt := 251) hx hb dX12_yearOf_232 (by decide) (fun _ => ?_) (fun c178 => absurd c178 (by decide))
          refine lv_iconst (v := 0) hx hb dX12_yearOf_251 (by decide) ?_
          refine va_zast (D := g) hx hb hK hP hD hS 5 3 rfl rfl (vc_in (by decide)) dX12_yearOf_252 (fun H locs hP hD hS => ?_)
          have hP : va_P g vwCl [(mo, .inr (11, mG m_a m_thrown m_taped m_at m_token m_place m_value m_word m_bad m_badPlace m_fault m_faultPlace (-1) m_will m_forgot 0 m_x vb vr vc vf m_any m_bothSend m_meanCards m_bestSum m_fitMany m_fitFirst m_fitSecond)), ((m_a 23), .inl (cI, 2, .inl fr)), ((m_a 24), .inl (cZ, 2, .inl fm)), ((m_a 25), .inl (cZ, 2, .inl fc)), ((m_a 26), .inl (cI, 2, .inl (upd (upd fs 0 0) 1 0))), ((m_a 27), .inl (cZ, 2, .inl (upd (upd (upd (upd fg 0 0) 1 0) 0 0) 1 0))), ((m_a 34), .inl (cZ, 2, .inl (upd (upd fk 0 0) 1 0)))] H := hP
          have hD : va_D A [(mo, .inr (11, mG m_a m_thrown m_taped m_at m_token m_place m_value m_word m_bad m_badPlace m_fault m_faultPlace (-1) m_will m_forgot 0 m_x vb vr vc vf m_any m_bothSend m_meanCards m_bestSum m_fitMany m_fitFirst m_fitSecond)), ((m_a 23), .inl (cI, 2, .inl fr)), ((m_a 24), .inl (cZ, 2, .inl fm)), ((m_a 25), .inl (cZ, 2, .inl fc)), ((m_a 26), .inl (cI, 2, .inl (upd (upd fs 0 0) 1 0))), ((m_a 27), .inl (cZ, 2, .inl (upd (upd (upd (upd fg 0 0) 1 0) 0 0) 1 0))), ((m_a 34), .inl (cZ, 2, .inl (upd (upd fk 0 0) 1 0)))] := hD
          refine lv_iload_n hx hb dX12_yearOf_253 rfl (lv_at hl 1 rfl) ?_
          refine lv_aload_n hx hb dX12_yearOf_254 rfl (lv_at hl 3 rfl) ?_
          refine va_get (D := g) (ci := 11) (v := .ref (m_a 27)) (C := RX12) (T := TX12) (N := 56) hx hb hts iX12 hown hK hP 0 rfl rfl 27 (by decide) (hts (.fieldLink RX12 65 "CardsAtYuleModel" "gets" "[Z") (List.mem_cons_of_mem _ (List.mem_append_left _ (List.mem_of_getElem? (i := 0) rfl)))) (fun _ h9 => h9) rfl dX12_yearOf_255 ?_
          refine lv_iload hx hb dX12_yearOf_258 (lv_at hl 0 rfl) ?_
          refine va_zald (D := g) hx hb hK hP 5 3 rfl rfl (vc_in (by decide)) dX12_yearOf_260 ?_
          refine lv_topi (nm_r (e' := 0) rfl ?_)
          refine lv_if_eq (tgt := 273) hx hb dX12_yearOf_261 (by decide) (fun _ => ?_) (fun c179 => absurd c179 (by decide))
          refine lv_iconst (v := 0) hx hb dX12_yearOf_273 (by decide) ?_
          refine lv_ior hx hb dX12_yearOf_274 ?_
          refine lv_istore_n (lv' := [(3, .int (((((nI js) &&& 5) <<< (1 &&& (31 : Int32))) ||| 0) ||| 0)), (4, .int 1), (2, .ref (m_a 34)), (0, .ref mo), (1, .int (nI js))]) hx hb dX12_yearOf_275 rfl hl (by decide) rfl (fun ls hl => ?_)
          refine lv_iinc (v := 2) (lv' := [(4, .int 2), (3, .int (((((nI js) &&& 5) <<< (1 &&& (31 : Int32))) ||| 0) ||| 0)), (2, .ref (m_a 34)), (0, .ref mo), (1, .int (nI js))]) hx hb dX12_yearOf_276 hl (k := 1) rfl (by decide) (by decide) rfl (fun ls hl => ?_)
          refine lv_goto (tgt := 211) hx hb dX12_yearOf_279 (by decide) ?_
          refine lv_iload hx hb dX12_yearOf_211 (lv_at hl 0 rfl) ?_
          refine lv_iconst (v := 2) hx hb dX12_yearOf_213 (by decide) ?_
          refine lv_icmp_ge (tgt := 282) hx hb dX12_yearOf_214 (by decide) (fun _ => ?_) (fun c180 => absurd c180 (by decide))
          refine lv_iload_n hx hb dX12_yearOf_282 rfl (lv_at hl 1 rfl) ?_
          have hA9 : sA ra rb js = 0 := by unfold sA; rw [if_neg (by omega)]
          have hB9 : zB ra rb js = 0 := by unfold zB; rw [if_neg (by omega)]
          have hP9 := hP.sub (ws' := [(mo, .inr (11, mG m_a m_thrown m_taped m_at m_token m_place m_value m_word m_bad m_badPlace m_fault m_faultPlace (-1) m_will m_forgot 0 m_x vb vr vc vf m_any m_bothSend m_meanCards m_bestSum m_fitMany m_fitFirst m_fitSecond)), ((m_a 23), .inl (cI, 2, .inl fr)), ((m_a 24), .inl (cZ, 2, .inl fm)), ((m_a 25), .inl (cZ, 2, .inl fc)), ((m_a 26), .inl (cI, 2, .inl (upd (upd fs 0 0) 1 0))), ((m_a 27), .inl (cZ, 2, .inl (upd (upd (upd (upd fg 0 0) 1 0) 0 0) 1 0))), ((m_a 34), .inl (cZ, 2, .inl (upd (upd fk 0 0) 1 0)))]) [0, 1, 2, 3, 4, 5, 6] rfl
          have hD9 := hD.sub (ws' := [(mo, .inr (11, mG m_a m_thrown m_taped m_at m_token m_place m_value m_word m_bad m_badPlace m_fault m_faultPlace (-1) m_will m_forgot 0 m_x vb vr vc vf m_any m_bothSend m_meanCards m_bestSum m_fitMany m_fitFirst m_fitSecond)), ((m_a 23), .inl (cI, 2, .inl fr)), ((m_a 24), .inl (cZ, 2, .inl fm)), ((m_a 25), .inl (cZ, 2, .inl fc)), ((m_a 26), .inl (cI, 2, .inl (upd (upd fs 0 0) 1 0))), ((m_a 27), .inl (cZ, 2, .inl (upd (upd (upd (upd fg 0 0) 1 0) 0 0) 1 0))), ((m_a 34), .inl (cZ, 2, .inl (upd (upd fk 0 0) 1 0)))]) [0, 1, 2, 3, 4, 5, 6] (by decide) rfl
          exact W.iret (v := (((((nI js) &&& 5) <<< (1 &&& (31 : Int32))) ||| 0) ||| 0)) hx hb hr (fun t ht hW => ⟨⟨(((((nI js) &&& 5) <<< (1 &&& (31 : Int32))) ||| 0) ||| 0), ((upd (upd fs 0 0) 1 0), (upd (upd (upd (upd fg 0 0) 1 0) 0 0) 1 0), (upd (upd fk 0 0) 1 0)), rfl, ⟨th_nx hjs (u := 0) (v := 0) hB9 hA9, 0, 0, rfl, rfl, by decide, by decide, by unfold sc; rw [hA9, hB9]; rfl⟩, by rw [ht]; exact hP9, va_K.moved hW.alike hK, hD9⟩, hS.F ht⟩) hS.2.2 dX12_yearOf_283
        · have f172 := (show 16 ≤ (rb : Int) from z_nlt (nI_toInt (n := rb) (by omega)) rfl c171)
          refine lv_aload_n hx hb dX12_yearOf_175 rfl (lv_at hl 1 rfl) ?_
          refine lv_iload_n hx hb dX12_yearOf_176 rfl (lv_at hl 0 rfl) ?_
          refine va_zald (D := g) hx hb hK hP 6 3 rfl rfl (vc_in (by decide)) dX12_yearOf_177 ?_
          refine lv_topi (nm_r (e' := 0) rfl ?_)
          refine lv_if_eq (tgt := 196) hx hb dX12_yearOf_178 (by decide) (fun _ => ?_) (fun c181 => absurd c181 (by decide))
          refine lv_iinc (v := 2) (lv' := [(3, .int 2), (2, .ref (m_a 34)), (0, .ref mo), (1, .int (nI js))]) hx hb dX12_yearOf_196 hl (k := 0) rfl (by decide) (by decide) rfl (fun ls hl => ?_)
          refine lv_goto (tgt := 133) hx hb dX12_yearOf_199 (by decide) ?_
          refine lv_iload_n hx hb dX12_yearOf_133 rfl (lv_at hl 0 rfl) ?_
          refine lv_iconst (v := 2) hx hb dX12_yearOf_134 (by decide) ?_
          refine lv_icmp_ge (tgt := 202) hx hb dX12_yearOf_135 (by decide) (fun _ => ?_) (fun c182 => absurd c182 (by decide))
          refine lv_iload_n hx hb dX12_yearOf_202 rfl (lv_at hl 3 rfl) ?_
          refine lv_iconst (v := 5) hx hb dX12_yearOf_203 (by decide) ?_
          refine lv_iand hx hb dX12_yearOf_204 ?_
          refine lv_iconst (v := 1) hx hb dX12_yearOf_205 (by decide) ?_
          refine lv_ishl hx hb dX12_yearOf_206 ?_
          refine lv_istore_n (lv' := [(3, .int (((nI js) &&& 5) <<< (1 &&& (31 : Int32)))), (2, .ref (m_a 34)), (0, .ref mo), (1, .int (nI js))]) hx hb dX12_yearOf_207 rfl hl (by decide) rfl (fun ls hl => ?_)
          refine lv_iconst (v := 0) hx hb dX12_yearOf_208 (by decide) ?_
          refine lv_istore (lv' := [(4, .int 0), (3, .int (((nI js) &&& 5) <<< (1 &&& (31 : Int32)))), (2, .ref (m_a 34)), (0, .ref mo), (1, .int (nI js))]) hx hb dX12_yearOf_209 hl (by decide) rfl (fun ls hl => ?_)
          refine lv_iload hx hb dX12_yearOf_211 (lv_at hl 0 rfl) ?_
          refine lv_iconst (v := 2) hx hb dX12_yearOf_213 (by decide) ?_
          refine lv_icmp_ge (tgt := 282) hx hb dX12_yearOf_214 (by decide) (fun c183 => absurd c183 (by decide)) (fun _ => ?_)
          refine lv_aload_n hx hb dX12_yearOf_217 rfl (lv_at hl 3 rfl) ?_
          refine va_get (D := g) (ci := 11) (v := .ref (m_a 27)) (C := RX12) (T := TX12) (N := 56) hx hb hts iX12 hown hK hP 0 rfl rfl 27 (by decide) (hts (.fieldLink RX12 65 "CardsAtYuleModel" "gets" "[Z") (List.mem_cons_of_mem _ (List.mem_append_left _ (List.mem_of_getElem? (i := 0) rfl)))) (fun _ h9 => h9) rfl dX12_yearOf_218 ?_
          refine lv_iload hx hb dX12_yearOf_221 (lv_at hl 0 rfl) ?_
          refine lv_aload_n hx hb dX12_yearOf_223 rfl (lv_at hl 3 rfl) ?_
          refine va_get (D := g) (ci := 11) (v := .ref (m_a 26)) (C := RX12) (T := TX12) (N := 56) hx hb hts iX12 hown hK hP 0 rfl rfl 26 (by decide) (hts (.fieldLink RX12 62 "CardsAtYuleModel" "sent" "[I") (List.mem_cons_of_mem _ (List.mem_append_left _ (List.mem_of_getElem? (i := 10) rfl)))) (fun _ h9 => h9) rfl dX12_yearOf_224 ?_
          refine lv_iconst (v := 1) hx hb dX12_yearOf_227 (by decide) ?_
          refine lv_iload hx hb dX12_yearOf_228 (lv_at hl 0 rfl) ?_
          refine lv_isub hx hb dX12_yearOf_230 ?_
          refine lv_topi (nm_r (e' := 1) (by decide) ?_)
          refine va_iald (D := g) hx hb hK hP 4 0 rfl rfl (vc_in (by decide)) dX12_yearOf_231 ?_
          refine lv_topi (nm_r (e' := 0) rfl ?_)
          refine lv_if_le (tgt := 251) hx hb dX12_yearOf_232 (by decide) (fun _ => ?_) (fun c184 => absurd c184 (by decide))
          refine lv_iconst (v := 0) hx hb dX12_yearOf_251 (by decide) ?_
          refine va_zast (D := g) hx hb hK hP hD hS 5 3 rfl rfl (vc_in (by decide)) dX12_yearOf_252 (fun H locs hP hD hS => ?_)
          have hP : va_P g vwCl [(mo, .inr (11, mG m_a m_thrown m_taped m_at m_token m_place m_value m_word m_bad m_badPlace m_fault m_faultPlace (-1) m_will m_forgot 0 m_x vb vr vc vf m_any m_bothSend m_meanCards m_bestSum m_fitMany m_fitFirst m_fitSecond)), ((m_a 23), .inl (cI, 2, .inl fr)), ((m_a 24), .inl (cZ, 2, .inl fm)), ((m_a 25), .inl (cZ, 2, .inl fc)), ((m_a 26), .inl (cI, 2, .inl (upd (upd fs 0 0) 1 0))), ((m_a 27), .inl (cZ, 2, .inl (upd (upd (upd fg 0 0) 1 0) 0 0))), ((m_a 34), .inl (cZ, 2, .inl (upd (upd fk 0 0) 1 0)))] H := hP
          have hD : va_D A [(mo, .inr (11, mG m_a m_thrown m_taped m_at m_token m_place m_value m_word m_bad m_badPlace m_fault m_faultPlace (-1) m_will m_forgot 0 m_x vb vr vc vf m_any m_bothSend m_meanCards m_bestSum m_fitMany m_fitFirst m_fitSecond)), ((m_a 23), .inl (cI, 2, .inl fr)), ((m_a 24), .inl (cZ, 2, .inl fm)), ((m_a 25), .inl (cZ, 2, .inl fc)), ((m_a 26), .inl (cI, 2, .inl (upd (upd fs 0 0) 1 0))), ((m_a 27), .inl (cZ, 2, .inl (upd (upd (upd fg 0 0) 1 0) 0 0))), ((m_a 34), .inl (cZ, 2, .inl (upd (upd fk 0 0) 1 0)))] := hD
          refine lv_iload_n hx hb dX12_yearOf_253 rfl (lv_at hl 1 rfl) ?_
          refine lv_aload_n hx hb dX12_yearOf_254 rfl (lv_at hl 3 rfl) ?_
          refine va_get (D := g) (ci := 11) (v := .ref (m_a 27)) (C := RX12) (T := TX12) (N := 56) hx hb hts iX12 hown hK hP 0 rfl rfl 27 (by decide) (hts (.fieldLink RX12 65 "CardsAtYuleModel" "gets" "[Z") (List.mem_cons_of_mem _ (List.mem_append_left _ (List.mem_of_getElem? (i := 0) rfl)))) (fun _ h9 => h9) rfl dX12_yearOf_255 ?_
          refine lv_iload hx hb dX12_yearOf_258 (lv_at hl 0 rfl) ?_
          refine va_zald (D := g) hx hb hK hP 5 3 rfl rfl (vc_in (by decide)) dX12_yearOf_260 ?_
          refine lv_topi (nm_r (e' := 0) rfl ?_)
          refine lv_if_eq (tgt := 273) hx hb dX12_yearOf_261 (by decide) (fun _ => ?_) (fun c185 => absurd c185 (by decide))
          refine lv_iconst (v := 0) hx hb dX12_yearOf_273 (by decide) ?_
          refine lv_ior hx hb dX12_yearOf_274 ?_
          refine lv_istore_n (lv' := [(3, .int ((((nI js) &&& 5) <<< (1 &&& (31 : Int32))) ||| 0)), (4, .int 0), (2, .ref (m_a 34)), (0, .ref mo), (1, .int (nI js))]) hx hb dX12_yearOf_275 rfl hl (by decide) rfl (fun ls hl => ?_)
          refine lv_iinc (v := 1) (lv' := [(4, .int 1), (3, .int ((((nI js) &&& 5) <<< (1 &&& (31 : Int32))) ||| 0)), (2, .ref (m_a 34)), (0, .ref mo), (1, .int (nI js))]) hx hb dX12_yearOf_276 hl (k := 1) rfl (by decide) (by decide) rfl (fun ls hl => ?_)
          refine lv_goto (tgt := 211) hx hb dX12_yearOf_279 (by decide) ?_
          refine lv_iload hx hb dX12_yearOf_211 (lv_at hl 0 rfl) ?_
          refine lv_iconst (v := 2) hx hb dX12_yearOf_213 (by decide) ?_
          refine lv_icmp_ge (tgt := 282) hx hb dX12_yearOf_214 (by decide) (fun c186 => absurd c186 (by decide)) (fun _ => ?_)
          refine lv_aload_n hx hb dX12_yearOf_217 rfl (lv_at hl 3 rfl) ?_
          refine va_get (D := g) (ci := 11) (v := .ref (m_a 27)) (C := RX12) (T := TX12) (N := 56) hx hb hts iX12 hown hK hP 0 rfl rfl 27 (by decide) (hts (.fieldLink RX12 65 "CardsAtYuleModel" "gets" "[Z") (List.mem_cons_of_mem _ (List.mem_append_left _ (List.mem_of_getElem? (i := 0) rfl)))) (fun _ h9 => h9) rfl dX12_yearOf_218 ?_
          refine lv_iload hx hb dX12_yearOf_221 (lv_at hl 0 rfl) ?_
          refine lv_aload_n hx hb dX12_yearOf_223 rfl (lv_at hl 3 rfl) ?_
          refine va_get (D := g) (ci := 11) (v := .ref (m_a 26)) (C := RX12) (T := TX12) (N := 56) hx hb hts iX12 hown hK hP 0 rfl rfl 26 (by decide) (hts (.fieldLink RX12 62 "CardsAtYuleModel" "sent" "[I") (List.mem_cons_of_mem _ (List.mem_append_left _ (List.mem_of_getElem? (i := 10) rfl)))) (fun _ h9 => h9) rfl dX12_yearOf_224 ?_
          refine lv_iconst (v := 1) hx hb dX12_yearOf_227 (by decide) ?_
          refine lv_iload hx hb dX12_yearOf_228 (lv_at hl 0 rfl) ?_
          refine lv_isub hx hb dX12_yearOf_230 ?_
          refine lv_topi (nm_r (e' := 0) (by decide) ?_)
          refine va_iald (D := g) hx hb hK hP 4 0 rfl rfl (vc_in (by decide)) dX12_yearOf_231 ?_
          refine lv_topi (nm_r (e' := 0) rfl ?_)
          refine lv_if_le (tgt := 251) hx hb dX12_yearOf_232 (by decide) (fun _ => ?_) (fun c187 => absurd c187 (by decide))
          refine lv_iconst (v := 0) hx hb dX12_yearOf_251 (by decide) ?_
          refine va_zast (D := g) hx hb hK hP hD hS 5 3 rfl rfl (vc_in (by decide)) dX12_yearOf_252 (fun H locs hP hD hS => ?_)
          have hP : va_P g vwCl [(mo, .inr (11, mG m_a m_thrown m_taped m_at m_token m_place m_value m_word m_bad m_badPlace m_fault m_faultPlace (-1) m_will m_forgot 0 m_x vb vr vc vf m_any m_bothSend m_meanCards m_bestSum m_fitMany m_fitFirst m_fitSecond)), ((m_a 23), .inl (cI, 2, .inl fr)), ((m_a 24), .inl (cZ, 2, .inl fm)), ((m_a 25), .inl (cZ, 2, .inl fc)), ((m_a 26), .inl (cI, 2, .inl (upd (upd fs 0 0) 1 0))), ((m_a 27), .inl (cZ, 2, .inl (upd (upd (upd (upd fg 0 0) 1 0) 0 0) 1 0))), ((m_a 34), .inl (cZ, 2, .inl (upd (upd fk 0 0) 1 0)))] H := hP
          have hD : va_D A [(mo, .inr (11, mG m_a m_thrown m_taped m_at m_token m_place m_value m_word m_bad m_badPlace m_fault m_faultPlace (-1) m_will m_forgot 0 m_x vb vr vc vf m_any m_bothSend m_meanCards m_bestSum m_fitMany m_fitFirst m_fitSecond)), ((m_a 23), .inl (cI, 2, .inl fr)), ((m_a 24), .inl (cZ, 2, .inl fm)), ((m_a 25), .inl (cZ, 2, .inl fc)), ((m_a 26), .inl (cI, 2, .inl (upd (upd fs 0 0) 1 0))), ((m_a 27), .inl (cZ, 2, .inl (upd (upd (upd (upd fg 0 0) 1 0) 0 0) 1 0))), ((m_a 34), .inl (cZ, 2, .inl (upd (upd fk 0 0) 1 0)))] := hD
          refine lv_iload_n hx hb dX12_yearOf_253 rfl (lv_at hl 1 rfl) ?_
          refine lv_aload_n hx hb dX12_yearOf_254 rfl (lv_at hl 3 rfl) ?_
          refine va_get (D := g) (ci := 11) (v := .ref (m_a 27)) (C := RX12) (T := TX12) (N := 56) hx hb hts iX12 hown hK hP 0 rfl rfl 27 (by decide) (hts (.fieldLink RX12 65 "CardsAtYuleModel" "gets" "[Z") (List.mem_cons_of_mem _ (List.mem_append_left _ (List.mem_of_getElem? (i := 0) rfl)))) (fun _ h9 => h9) rfl dX12_yearOf_255 ?_
          refine lv_iload hx hb dX12_yearOf_258 (lv_at hl 0 rfl) ?_
          refine va_zald (D := g) hx hb hK hP 5 3 rfl rfl (vc_in (by decide)) dX12_yearOf_260 ?_
          refine lv_topi (nm_r (e' := 0) rfl ?_)
          refine lv_if_eq (tgt := 273) hx hb dX12_yearOf_261 (by decide) (fun _ => ?_) (fun c188 => absurd c188 (by decide))
          refine lv_iconst (v := 0) hx hb dX12_yearOf_273 (by decide) ?_
          refine lv_ior hx hb dX12_yearOf_274 ?_
          refine lv_istore_n (lv' := [(3, .int (((((nI js) &&& 5) <<< (1 &&& (31 : Int32))) ||| 0) ||| 0)), (4, .int 1), (2, .ref (m_a 34)), (0, .ref mo), (1, .int (nI js))]) hx hb dX12_yearOf_275 rfl hl (by decide) rfl (fun ls hl => ?_)
          refine lv_iinc (v := 2) (lv' := [(4, .int 2), (3, .int (((((nI js) &&& 5) <<< (1 &&& (31 : Int32))) ||| 0) ||| 0)), (2, .ref (m_a 34)), (0, .ref mo), (1, .int (nI js))]) hx hb dX12_yearOf_276 hl (k := 1) rfl (by decide) (by decide) rfl (fun ls hl => ?_)
          refine lv_goto (tgt := 211) hx hb dX12_yearOf_279 (by decide) ?_
          refine lv_iload hx hb dX12_yearOf_211 (lv_at hl 0 rfl) ?_
          refine lv_iconst (v := 2) hx hb dX12_yearOf_213 (by decide) ?_
          refine lv_icmp_ge (tgt := 282) hx hb dX12_yearOf_214 (by decide) (fun _ => ?_) (fun c189 => absurd c189 (by decide))
          refine lv_iload_n hx hb dX12_yearOf_282 rfl (lv_at hl 1 rfl) ?_
          have hA9 : sA ra rb js = 0 := by unfold sA; rw [if_neg (by omega)]
          have hB9 : zB ra rb js = 0 := by unfold zB; rw [if_neg (by omega)]
          have hP9 := hP.sub (ws' := [(mo, .inr (11, mG m_a m_thrown m_taped m_at m_token m_place m_value m_word m_bad m_badPlace m_fault m_faultPlace (-1) m_will m_forgot 0 m_x vb vr vc vf m_any m_bothSend m_meanCards m_bestSum m_fitMany m_fitFirst m_fitSecond)), ((m_a 23), .inl (cI, 2, .inl fr)), ((m_a 24), .inl (cZ, 2, .inl fm)), ((m_a 25), .inl (cZ, 2, .inl fc)), ((m_a 26), .inl (cI, 2, .inl (upd (upd fs 0 0) 1 0))), ((m_a 27), .inl (cZ, 2, .inl (upd (upd (upd (upd fg 0 0) 1 0) 0 0) 1 0))), ((m_a 34), .inl (cZ, 2, .inl (upd (upd fk 0 0) 1 0)))]) [0, 1, 2, 3, 4, 5, 6] rfl
          have hD9 := hD.sub (ws' := [(mo, .inr (11, mG m_a m_thrown m_taped m_at m_token m_place m_value m_word m_bad m_badPlace m_fault m_faultPlace (-1) m_will m_forgot 0 m_x vb vr vc vf m_any m_bothSend m_meanCards m_bestSum m_fitMany m_fitFirst m_fitSecond)), ((m_a 23), .inl (cI, 2, .inl fr)), ((m_a 24), .inl (cZ, 2, .inl fm)), ((m_a 25), .inl (cZ, 2, .inl fc)), ((m_a 26), .inl (cI, 2, .inl (upd (upd fs 0 0) 1 0))), ((m_a 27), .inl (cZ, 2, .inl (upd (upd (upd (upd fg 0 0) 1 0) 0 0) 1 0))), ((m_a 34), .inl (cZ, 2, .inl (upd (upd fk 0 0) 1 0)))]) [0, 1, 2, 3, 4, 5, 6] (by decide) rfl
          exact W.iret (v := (((((nI js) &&& 5) <<< (1 &&& (31 : Int32))) ||| 0) ||| 0)) hx hb hr (fun t ht hW => ⟨⟨(((((nI js) &&& 5) <<< (1 &&& (31 : Int32))) ||| 0) ||| 0), ((upd (upd fs 0 0) 1 0), (upd (upd (upd (upd fg 0 0) 1 0) 0 0) 1 0), (upd (upd fk 0 0) 1 0)), rfl, ⟨th_nx hjs (u := 0) (v := 0) hB9 hA9, 0, 0, rfl, rfl, by decide, by decide, by unfold sc; rw [hA9, hB9]; rfl⟩, by rw [ht]; exact hP9, va_K.moved hW.alike hK, hD9⟩, hS.F ht⟩) hS.2.2 dX12_yearOf_283
      · have f166 := (show 16 ≤ (ra : Int) from z_nlt (nI_toInt (n := ra) (by omega)) rfl c165)
        refine lv_aload_n hx hb dX12_yearOf_175 rfl (lv_at hl 1 rfl) ?_
        refine lv_iload_n hx hb dX12_yearOf_176 rfl (lv_at hl 0 rfl) ?_
        refine va_zald (D := g) hx hb hK hP 6 3 rfl rfl (vc_in (by decide)) dX12_yearOf_177 ?_
        refine lv_topi (nm_r (e' := 0) rfl ?_)
        refine lv_if_eq (tgt := 196) hx hb dX12_yearOf_178 (by decide) (fun _ => ?_) (fun c190 => absurd c190 (by decide))
        refine lv_iinc (v := 1) (lv' := [(3, .int 1), (2, .ref (m_a 34)), (0, .ref mo), (1, .int (nI js))]) hx hb dX12_yearOf_196 hl (k := 0) rfl (by decide) (by decide) rfl (fun ls hl => ?_)
        refine lv_goto (tgt := 133) hx hb dX12_yearOf_199 (by decide) ?_
        refine lv_iload_n hx hb dX12_yearOf_133 rfl (lv_at hl 0 rfl) ?_
        refine lv_iconst (v := 2) hx hb dX12_yearOf_134 (by decide) ?_
        refine lv_icmp_ge (tgt := 202) hx hb dX12_yearOf_135 (by decide) (fun c191 => absurd c191 (by decide)) (fun _ => ?_)
        refine lv_iload_n hx hb dX12_yearOf_138 rfl (lv_at hl 0 rfl) ?_
        refine lv_aload_n hx hb dX12_yearOf_139 rfl (lv_at hl 2 rfl) ?_
        refine va_get (D := g) (ci := 11) (v := .int (-1)) (C := RX12) (T := TX12) (N := 56) hx hb hts iX12 hown hK hP 0 rfl rfl 28 (by decide) (hts (.fieldLink RX12 68 "CardsAtYuleModel" "willing" "I") (List.mem_cons_of_mem _ (List.mem_append_left _ (List.mem_of_getElem? (i := 1) rfl)))) (fun _ h9 => h9) rfl dX12_yearOf_140 ?_
        refine lv_icmp_eq (tgt := 196) hx hb dX12_yearOf_143 (by decide) (fun c192 => absurd c192 (by decide)) (fun _ => ?_)
        refine lv_aload_n hx hb dX12_yearOf_146 rfl (lv_at hl 2 rfl) ?_
        refine va_get (D := g) (ci := 11) (v := .ref (m_a 24)) (C := RX12) (T := TX12) (N := 56) hx hb hts iX12 hown hK hP 0 rfl rfl 24 (by decide) (hts (.fieldLink RX12 56 "CardsAtYuleModel" "maySend" "[Z") (List.mem_cons_of_mem _ (List.mem_append_left _ (List.mem_of_getElem? (i := 2) rfl)))) (fun _ h9 => h9) rfl dX12_yearOf_147 ?_
        refine lv_iload_n hx hb dX12_yearOf_150 rfl (lv_at hl 0 rfl) ?_
        refine va_zald (D := g) hx hb hK hP 2 3 rfl rfl (vc_in (by decide)) dX12_yearOf_151 ?_
        refine lv_topi (nm_r (e' := 1) hS_m1 ?_)
        refine lv_if_eq (tgt := 196) hx hb dX12_yearOf_152 (by decide) (fun c193 => absurd c193 (by decide)) (fun _ => ?_)
        refine lv_aload_n hx hb dX12_yearOf_155 rfl (lv_at hl 2 rfl) ?_
        refine va_get (D := g) (ci := 11) (v := .ref (m_a 26)) (C := RX12) (T := TX12) (N := 56) hx hb hts iX12 hown hK hP 0 rfl rfl 26 (by decide) (hts (.fieldLink RX12 62 "CardsAtYuleModel" "sent" "[I") (List.mem_cons_of_mem _ (List.mem_append_left _ (List.mem_of_getElem? (i := 10) rfl)))) (fun _ h9 => h9) rfl dX12_yearOf_156 ?_
        refine lv_iload_n hx hb dX12_yearOf_159 rfl (lv_at hl 0 rfl) ?_
        refine va_iald (D := g) hx hb hK hP 4 0 rfl rfl (vc_in (by decide)) dX12_yearOf_160 ?_
        refine lv_topi (nm_r (e' := 0) rfl ?_)
        refine lv_if_ne (tgt := 196) hx hb dX12_yearOf_161 (by decide) (fun c194 => absurd c194 (by decide)) (fun _ => ?_)
        refine lv_aload_n hx hb dX12_yearOf_164 rfl (lv_at hl 2 rfl) ?_
        refine va_get (D := g) (ci := 11) (v := .ref (m_a 23)) (C := RX12) (T := TX12) (N := 56) hx hb hts iX12 hown hK hP 0 rfl rfl 23 (by decide) (hts (.fieldLink RX12 53 "CardsAtYuleModel" "ruleNow" "[I") (List.mem_cons_of_mem _ (List.mem_append_left _ (List.mem_of_getElem? (i := 13) rfl)))) (fun _ h9 => h9) rfl dX12_yearOf_165 ?_
        refine lv_iload_n hx hb dX12_yearOf_168 rfl (lv_at hl 0 rfl) ?_
        refine va_iald (D := g) hx hb hK hP 1 0 rfl rfl (vc_in (by decide)) dX12_yearOf_169 ?_
        refine lv_topi (nm_r (e' := nI rb) hS_r1 ?_)
        refine lv_bipush (v := 16) hx hb dX12_yearOf_170 (by decide) ?_
        refine lv_icmp_lt (tgt := 196) hx hb dX12_yearOf_172 (by decide) (fun c195 => ?_) (fun c195 => ?_)
        · have f196 := (show (rb : Int) < 16 from z_lt (nI_toInt (n := rb) (by omega)) rfl c195)
          refine lv_iinc (v := 2) (lv' := [(3, .int 2), (2, .ref (m_a 34)), (0, .ref mo), (1, .int (nI js))]) hx hb dX12_yearOf_196 hl (k := 0) rfl (by decide) (by decide) rfl (fun ls hl => ?_)
          refine lv_goto (tgt := 133) hx hb dX12_yearOf_199 (by decide) ?_
          refine lv_iload_n hx hb dX12_yearOf_133 rfl (lv_at hl 0 rfl) ?_
          refine lv_iconst (v := 2) hx hb dX12_yearOf_134 (by decide) ?_
          refine lv_icmp_ge (tgt := 202) hx hb dX12_yearOf_135 (by decide) (fun _ => ?_) (fun c197 => absurd c197 (by decide))
          refine lv_iload_n hx hb dX12_yearOf_202 rfl (lv_at hl 3 rfl) ?_
          refine lv_iconst (v := 5) hx hb dX12_yearOf_203 (by decide) ?_
          refine lv_iand hx hb dX12_yearOf_204 ?_
          refine lv_iconst (v := 1) hx hb dX12_yearOf_205 (by decide) ?_
          refine lv_ishl hx hb dX12_yearOf_206 ?_
          refine lv_istore_n (lv' := [(3, .int (((nI js) &&& 5) <<< (1 &&& (31 : Int32)))), (2, .ref (m_a 34)), (0, .ref mo), (1, .int (nI js))]) hx hb dX12_yearOf_207 rfl hl (by decide) rfl (fun ls hl => ?_)
          refine lv_iconst (v := 0) hx hb dX12_yearOf_208 (by decide) ?_
          refine lv_istore (lv' := [(4, .int 0), (3, .int (((nI js) &&& 5) <<< (1 &&& (31 : Int32)))), (2, .ref (m_a 34)), (0, .ref mo), (1, .int (nI js))]) hx hb dX12_yearOf_209 hl (by decide) rfl (fun ls hl => ?_)
          refine lv_iload hx hb dX12_yearOf_211 (lv_at hl 0 rfl) ?_
          refine lv_iconst (v := 2) hx hb dX12_yearOf_213 (by decide) ?_
          refine lv_icmp_ge (tgt := 282) hx hb dX12_yearOf_214 (by decide) (fun c198 => absurd c198 (by decide)) (fun _ => ?_)
          refine lv_aload_n hx hb dX12_yearOf_217 rfl (lv_at hl 3 rfl) ?_
          refine va_get (D := g) (ci := 11) (v := .ref (m_a 27)) (C := RX12) (T := TX12) (N := 56) hx hb hts iX12 hown hK hP 0 rfl rfl 27 (by decide) (hts (.fieldLink RX12 65 "CardsAtYuleModel" "gets" "[Z") (List.mem_cons_of_mem _ (List.mem_append_left _ (List.mem_of_getElem? (i := 0) rfl)))) (fun _ h9 => h9) rfl dX12_yearOf_218 ?_
          refine lv_iload hx hb dX12_yearOf_221 (lv_at hl 0 rfl) ?_
          refine lv_aload_n hx hb dX12_yearOf_223 rfl (lv_at hl 3 rfl) ?_
          refine va_get (D := g) (ci := 11) (v := .ref (m_a 26)) (C := RX12) (T := TX12) (N := 56) hx hb hts iX12 hown hK hP 0 rfl rfl 26 (by decide) (hts (.fieldLink RX12 62 "CardsAtYuleModel" "sent" "[I") (List.mem_cons_of_mem _ (List.mem_append_left _ (List.mem_of_getElem? (i := 10) rfl)))) (fun _ h9 => h9) rfl dX12_yearOf_224 ?_
          refine lv_iconst (v := 1) hx hb dX12_yearOf_227 (by decide) ?_
          refine lv_iload hx hb dX12_yearOf_228 (lv_at hl 0 rfl) ?_
          refine lv_isub hx hb dX12_yearOf_230 ?_
          refine lv_topi (nm_r (e' := 1) (by decide) ?_)
          refine va_iald (D := g) hx hb hK hP 4 0 rfl rfl (vc_in (by decide)) dX12_yearOf_231 ?_
          refine lv_topi (nm_r (e' := 0) rfl ?_)
          refine lv_if_le (tgt := 251) hx hb dX12_yearOf_232 (by decide) (fun _ => ?_) (fun c199 => absurd c199 (by decide))
          refine lv_iconst (v := 0) hx hb dX12_yearOf_251 (by decide) ?_
          refine va_zast (D := g) hx hb hK hP hD hS 5 3 rfl rfl (vc_in (by decide)) dX12_yearOf_252 (fun H locs hP hD hS => ?_)
          have hP : va_P g vwCl [(mo, .inr (11, mG m_a m_thrown m_taped m_at m_token m_place m_value m_word m_bad m_badPlace m_fault m_faultPlace (-1) m_will m_forgot 0 m_x vb vr vc vf m_any m_bothSend m_meanCards m_bestSum m_fitMany m_fitFirst m_fitSecond)), ((m_a 23), .inl (cI, 2, .inl fr)), ((m_a 24), .inl (cZ, 2, .inl fm)), ((m_a 25), .inl (cZ, 2, .inl fc)), ((m_a 26), .inl (cI, 2, .inl (upd (upd fs 0 0) 1 0))), ((m_a 27), .inl (cZ, 2, .inl (upd (upd (upd fg 0 0) 1 0) 0 0))), ((m_a 34), .inl (cZ, 2, .inl (upd (upd fk 0 0) 1 0)))] H := hP
          have hD : va_D A [(mo, .inr (11, mG m_a m_thrown m_taped m_at m_token m_place m_value m_word m_bad m_badPlace m_fault m_faultPlace (-1) m_will m_forgot 0 m_x vb vr vc vf m_any m_bothSend m_meanCards m_bestSum m_fitMany m_fitFirst m_fitSecond)), ((m_a 23), .inl (cI, 2, .inl fr)), ((m_a 24), .inl (cZ, 2, .inl fm)), ((m_a 25), .inl (cZ, 2, .inl fc)), ((m_a 26), .inl (cI, 2, .inl (upd (upd fs 0 0) 1 0))), ((m_a 27), .inl (cZ, 2, .inl (upd (upd (upd fg 0 0) 1 0) 0 0))), ((m_a 34), .inl (cZ, 2, .inl (upd (upd fk 0 0) 1 0)))] := hD
          refine lv_iload_n hx hb dX12_yearOf_253 rfl (lv_at hl 1 rfl) ?_
          refine lv_aload_n hx hb dX12_yearOf_254 rfl (lv_at hl 3 rfl) ?_
          refine va_get (D := g) (ci := 11) (v := .ref (m_a 27)) (C := RX12) (T := TX12) (N := 56) hx hb hts iX12 hown hK hP 0 rfl rfl 27 (by decide) (hts (.fieldLink RX12 65 "CardsAtYuleModel" "gets" "[Z") (List.mem_cons_of_mem _ (List.mem_append_left _ (List.mem_of_getElem? (i := 0) rfl)))) (fun _ h9 => h9) rfl dX12_yearOf_255 ?_
          refine lv_iload hx hb dX12_yearOf_258 (lv_at hl 0 rfl) ?_
          refine va_zald (D := g) hx hb hK hP 5 3 rfl rfl (vc_in (by decide)) dX12_yearOf_260 ?_
          refine lv_topi (nm_r (e' := 0) rfl ?_)
          refine lv_if_eq (tgt := 273) hx hb dX12_yearOf_261 (by decide) (fun _ => ?_) (fun c200 => absurd c200 (by decide))
          refine lv_iconst (v := 0) hx hb dX12_yearOf_273 (by decide) ?_
          refine lv_ior hx hb dX12_yearOf_274 ?_
          refine lv_istore_n (lv' := [(3, .int ((((nI js) &&& 5) <<< (1 &&& (31 : Int32))) ||| 0)), (4, .int 0), (2, .ref (m_a 34)), (0, .ref mo), (1, .int (nI js))]) hx hb dX12_yearOf_275 rfl hl (by decide) rfl (fun ls hl => ?_)
          refine lv_iinc (v := 1) (lv' := [(4, .int 1), (3, .int ((((nI js) &&& 5) <<< (1 &&& (31 : Int32))) ||| 0)), (2, .ref (m_a 34)), (0, .ref mo), (1, .int (nI js))]) hx hb dX12_yearOf_276 hl (k := 1) rfl (by decide) (by decide) rfl (fun ls hl => ?_)
          refine lv_goto (tgt := 211) hx hb dX12_yearOf_279 (by decide) ?_
          refine lv_iload hx hb dX12_yearOf_211 (lv_at hl 0 rfl) ?_
          refine lv_iconst (v := 2) hx hb dX12_yearOf_213 (by decide) ?_
          refine lv_icmp_ge (tgt := 282) hx hb dX12_yearOf_214 (by decide) (fun c201 => absurd c201 (by decide)) (fun _ => ?_)
          refine lv_aload_n hx hb dX12_yearOf_217 rfl (lv_at hl 3 rfl) ?_
          refine va_get (D := g) (ci := 11) (v := .ref (m_a 27)) (C := RX12) (T := TX12) (N := 56) hx hb hts iX12 hown hK hP 0 rfl rfl 27 (by decide) (hts (.fieldLink RX12 65 "CardsAtYuleModel" "gets" "[Z") (List.mem_cons_of_mem _ (List.mem_append_left _ (List.mem_of_getElem? (i := 0) rfl)))) (fun _ h9 => h9) rfl dX12_yearOf_218 ?_
          refine lv_iload hx hb dX12_yearOf_221 (lv_at hl 0 rfl) ?_
          refine lv_aload_n hx hb dX12_yearOf_223 rfl (lv_at hl 3 rfl) ?_
          refine va_get (D := g) (ci := 11) (v := .ref (m_a 26)) (C := RX12) (T := TX12) (N := 56) hx hb hts iX12 hown hK hP 0 rfl rfl 26 (by decide) (hts (.fieldLink RX12 62 "CardsAtYuleModel" "sent" "[I") (List.mem_cons_of_mem _ (List.mem_append_left _ (List.mem_of_getElem? (i := 10) rfl)))) (fun _ h9 => h9) rfl dX12_yearOf_224 ?_
          refine lv_iconst (v := 1) hx hb dX12_yearOf_227 (by decide) ?_
          refine lv_iload hx hb dX12_yearOf_228 (lv_at hl 0 rfl) ?_
          refine lv_isub hx hb dX12_yearOf_230 ?_
          refine lv_topi (nm_r (e' := 0) (by decide) ?_)
          refine va_iald (D := g) hx hb hK hP 4 0 rfl rfl (vc_in (by decide)) dX12_yearOf_231 ?_
          refine lv_topi (nm_r (e' := 0) rfl ?_)
          refine lv_if_le (tgt := 251) hx hb dX12_yearOf_232 (by decide) (fun _ => ?_) (fun c202 => absurd c202 (by decide))
          refine lv_iconst (v := 0) hx hb dX12_yearOf_251 (by decide) ?_
          refine va_zast (D := g) hx hb hK hP hD hS 5 3 rfl rfl (vc_in (by decide)) dX12_yearOf_252 (fun H locs hP hD hS => ?_)
          have hP : va_P g vwCl [(mo, .inr (11, mG m_a m_thrown m_taped m_at m_token m_place m_value m_word m_bad m_badPlace m_fault m_faultPlace (-1) m_will m_forgot 0 m_x vb vr vc vf m_any m_bothSend m_meanCards m_bestSum m_fitMany m_fitFirst m_fitSecond)), ((m_a 23), .inl (cI, 2, .inl fr)), ((m_a 24), .inl (cZ, 2, .inl fm)), ((m_a 25), .inl (cZ, 2, .inl fc)), ((m_a 26), .inl (cI, 2, .inl (upd (upd fs 0 0) 1 0))), ((m_a 27), .inl (cZ, 2, .inl (upd (upd (upd (upd fg 0 0) 1 0) 0 0) 1 0))), ((m_a 34), .inl (cZ, 2, .inl (upd (upd fk 0 0) 1 0)))] H := hP
          have hD : va_D A [(mo, .inr (11, mG m_a m_thrown m_taped m_at m_token m_place m_value m_word m_bad m_badPlace m_fault m_faultPlace (-1) m_will m_forgot 0 m_x vb vr vc vf m_any m_bothSend m_meanCards m_bestSum m_fitMany m_fitFirst m_fitSecond)), ((m_a 23), .inl (cI, 2, .inl fr)), ((m_a 24), .inl (cZ, 2, .inl fm)), ((m_a 25), .inl (cZ, 2, .inl fc)), ((m_a 26), .inl (cI, 2, .inl (upd (upd fs 0 0) 1 0))), ((m_a 27), .inl (cZ, 2, .inl (upd (upd (upd (upd fg 0 0) 1 0) 0 0) 1 0))), ((m_a 34), .inl (cZ, 2, .inl (upd (upd fk 0 0) 1 0)))] := hD
          refine lv_iload_n hx hb dX12_yearOf_253 rfl (lv_at hl 1 rfl) ?_
          refine lv_aload_n hx hb dX12_yearOf_254 rfl (lv_at hl 3 rfl) ?_
          refine va_get (D := g) (ci := 11) (v := .ref (m_a 27)) (C := RX12) (T := TX12) (N := 56) hx hb hts iX12 hown hK hP 0 rfl rfl 27 (by decide) (hts (.fieldLink RX12 65 "CardsAtYuleModel" "gets" "[Z") (List.mem_cons_of_mem _ (List.mem_append_left _ (List.mem_of_getElem? (i := 0) rfl)))) (fun _ h9 => h9) rfl dX12_yearOf_255 ?_
          refine lv_iload hx hb dX12_yearOf_258 (lv_at hl 0 rfl) ?_
          refine va_zald (D := g) hx hb hK hP 5 3 rfl rfl (vc_in (by decide)) dX12_yearOf_260 ?_
          refine lv_topi (nm_r (e' := 0) rfl ?_)
          refine lv_if_eq (tgt := 273) hx hb dX12_yearOf_261 (by decide) (fun _ => ?_) (fun c203 => absurd c203 (by decide))
          refine lv_iconst (v := 0) hx hb dX12_yearOf_273 (by decide) ?_
          refine lv_ior hx hb dX12_yearOf_274 ?_
          refine lv_istore_n (lv' := [(3, .int (((((nI js) &&& 5) <<< (1 &&& (31 : Int32))) ||| 0) ||| 0)), (4, .int 1), (2, .ref (m_a 34)), (0, .ref mo), (1, .int (nI js))]) hx hb dX12_yearOf_275 rfl hl (by decide) rfl (fun ls hl => ?_)
          refine lv_iinc (v := 2) (lv' := [(4, .int 2), (3, .int (((((nI js) &&& 5) <<< (1 &&& (31 : Int32))) ||| 0) ||| 0)), (2, .ref (m_a 34)), (0, .ref mo), (1, .int (nI js))]) hx hb dX12_yearOf_276 hl (k := 1) rfl (by decide) (by decide) rfl (fun ls hl => ?_)
          refine lv_goto (tgt := 211) hx hb dX12_yearOf_279 (by decide) ?_
          refine lv_iload hx hb dX12_yearOf_211 (lv_at hl 0 rfl) ?_
          refine lv_iconst (v := 2) hx hb dX12_yearOf_213 (by decide) ?_
          refine lv_icmp_ge (tgt := 282) hx hb dX12_yearOf_214 (by decide) (fun _ => ?_) (fun c204 => absurd c204 (by decide))
          refine lv_iload_n hx hb dX12_yearOf_282 rfl (lv_at hl 1 rfl) ?_
          have hA9 : sA ra rb js = 0 := by unfold sA; rw [if_neg (by omega)]
          have hB9 : zB ra rb js = 0 := by unfold zB; rw [if_neg (by omega)]
          have hP9 := hP.sub (ws' := [(mo, .inr (11, mG m_a m_thrown m_taped m_at m_token m_place m_value m_word m_bad m_badPlace m_fault m_faultPlace (-1) m_will m_forgot 0 m_x vb vr vc vf m_any m_bothSend m_meanCards m_bestSum m_fitMany m_fitFirst m_fitSecond)), ((m_a 23), .inl (cI, 2, .inl fr)), ((m_a 24), .inl (cZ, 2, .inl fm)), ((m_a 25), .inl (cZ, 2, .inl fc)), ((m_a 26), .inl (cI, 2, .inl (upd (upd fs 0 0) 1 0))), ((m_a 27), .inl (cZ, 2, .inl (upd (upd (upd (upd fg 0 0) 1 0) 0 0) 1 0))), ((m_a 34), .inl (cZ, 2, .inl (upd (upd fk 0 0) 1 0)))]) [0, 1, 2, 3, 4, 5, 6] rfl
          have hD9 := hD.sub (ws' := [(mo, .inr (11, mG m_a m_thrown m_taped m_at m_token m_place m_value m_word m_bad m_badPlace m_fault m_faultPlace (-1) m_will m_forgot 0 m_x vb vr vc vf m_any m_bothSend m_meanCards m_bestSum m_fitMany m_fitFirst m_fitSecond)), ((m_a 23), .inl (cI, 2, .inl fr)), ((m_a 24), .inl (cZ, 2, .inl fm)), ((m_a 25), .inl (cZ, 2, .inl fc)), ((m_a 26), .inl (cI, 2, .inl (upd (upd fs 0 0) 1 0))), ((m_a 27), .inl (cZ, 2, .inl (upd (upd (upd (upd fg 0 0) 1 0) 0 0) 1 0))), ((m_a 34), .inl (cZ, 2, .inl (upd (upd fk 0 0) 1 0)))]) [0, 1, 2, 3, 4, 5, 6] (by decide) rfl
          exact W.iret (v := (((((nI js) &&& 5) <<< (1 &&& (31 : Int32))) ||| 0) ||| 0)) hx hb hr (fun t ht hW => ⟨⟨(((((nI js) &&& 5) <<< (1 &&& (31 : Int32))) ||| 0) ||| 0), ((upd (upd fs 0 0) 1 0), (upd (upd (upd (upd fg 0 0) 1 0) 0 0) 1 0), (upd (upd fk 0 0) 1 0)), rfl, ⟨th_nx hjs (u := 0) (v := 0) hB9 hA9, 0, 0, rfl, rfl, by decide, by decide, by unfold sc; rw [hA9, hB9]; rfl⟩, by rw [ht]; exact hP9, va_K.moved hW.alike hK, hD9⟩, hS.F ht⟩) hS.2.2 dX12_yearOf_283
        · have f196 := (show 16 ≤ (rb : Int) from z_nlt (nI_toInt (n := rb) (by omega)) rfl c195)
          refine lv_aload_n hx hb dX12_yearOf_175 rfl (lv_at hl 1 rfl) ?_
          refine lv_iload_n hx hb dX12_yearOf_176 rfl (lv_at hl 0 rfl) ?_
          refine va_zald (D := g) hx hb hK hP 6 3 rfl rfl (vc_in (by decide)) dX12_yearOf_177 ?_
          refine lv_topi (nm_r (e' := 0) rfl ?_)
          refine lv_if_eq (tgt := 196) hx hb dX12_yearOf_178 (by decide) (fun _ => ?_) (fun c205 => absurd c205 (by decide))
          refine lv_iinc (v := 2) (lv' := [(3, .int 2), (2, .ref (m_a 34)), (0, .ref mo), (1, .int (nI js))]) hx hb dX12_yearOf_196 hl (k := 0) rfl (by decide) (by decide) rfl (fun ls hl => ?_)
          refine lv_goto (tgt := 133) hx hb dX12_yearOf_199 (by decide) ?_
          refine lv_iload_n hx hb dX12_yearOf_133 rfl (lv_at hl 0 rfl) ?_
          refine lv_iconst (v := 2) hx hb dX12_yearOf_134 (by decide) ?_
          refine lv_icmp_ge (tgt := 202) hx hb dX12_yearOf_135 (by decide) (fun _ => ?_) (fun c206 => absurd c206 (by decide))
          refine lv_iload_n hx hb dX12_yearOf_202 rfl (lv_at hl 3 rfl) ?_
          refine lv_iconst (v := 5) hx hb dX12_yearOf_203 (by decide) ?_
          refine lv_iand hx hb dX12_yearOf_204 ?_
          refine lv_iconst (v := 1) hx hb dX12_yearOf_205 (by decide) ?_
          refine lv_ishl hx hb dX12_yearOf_206 ?_
          refine lv_istore_n (lv' := [(3, .int (((nI js) &&& 5) <<< (1 &&& (31 : Int32)))), (2, .ref (m_a 34)), (0, .ref mo), (1, .int (nI js))]) hx hb dX12_yearOf_207 rfl hl (by decide) rfl (fun ls hl => ?_)
          refine lv_iconst (v := 0) hx hb dX12_yearOf_208 (by decide) ?_
          refine lv_istore (lv' := [(4, .int 0), (3, .int (((nI js) &&& 5) <<< (1 &&& (31 : Int32)))), (2, .ref (m_a 34)), (0, .ref mo), (1, .int (nI js))]) hx hb dX12_yearOf_209 hl (by decide) rfl (fun ls hl => ?_)
          refine lv_iload hx hb dX12_yearOf_211 (lv_at hl 0 rfl) ?_
          refine lv_iconst (v := 2) hx hb dX12_yearOf_213 (by decide) ?_
          refine lv_icmp_ge (tgt := 282) hx hb dX12_yearOf_214 (by decide) (fun c207 => absurd c207 (by decide)) (fun _ => ?_)
          refine lv_aload_n hx hb dX12_yearOf_217 rfl (lv_at hl 3 rfl) ?_
          refine va_get (D := g) (ci := 11) (v := .ref (m_a 27)) (C := RX12) (T := TX12) (N := 56) hx hb hts iX12 hown hK hP 0 rfl rfl 27 (by decide) (hts (.fieldLink RX12 65 "CardsAtYuleModel" "gets" "[Z") (List.mem_cons_of_mem _ (List.mem_append_left _ (List.mem_of_getElem? (i := 0) rfl)))) (fun _ h9 => h9) rfl dX12_yearOf_218 ?_
          refine lv_iload hx hb dX12_yearOf_221 (lv_at hl 0 rfl) ?_
          refine lv_aload_n hx hb dX12_yearOf_223 rfl (lv_at hl 3 rfl) ?_
          refine va_get (D := g) (ci := 11) (v := .ref (m_a 26)) (C := RX12) (T := TX12) (N := 56) hx hb hts iX12 hown hK hP 0 rfl rfl 26 (by decide) (hts (.fieldLink RX12 62 "CardsAtYuleModel" "sent" "[I") (List.mem_cons_of_mem _ (List.mem_append_left _ (List.mem_of_getElem? (i := 10) rfl)))) (fun _ h9 => h9) rfl dX12_yearOf_224 ?_
          refine lv_iconst (v := 1) hx hb dX12_yearOf_227 (by decide) ?_
          refine lv_iload hx hb dX12_yearOf_228 (lv_at hl 0 rfl) ?_
          refine lv_isub hx hb dX12_yearOf_230 ?_
          refine lv_topi (nm_r (e' := 1) (by decide) ?_)
          refine va_iald (D := g) hx hb hK hP 4 0 rfl rfl (vc_in (by decide)) dX12_yearOf_231 ?_
          refine lv_topi (nm_r (e' := 0) rfl ?_)
          refine lv_if_le (tgt := 251) hx hb dX12_yearOf_232 (by decide) (fun _ => ?_) (fun c208 => absurd c208 (by decide))
          refine lv_iconst (v := 0) hx hb dX12_yearOf_251 (by decide) ?_
          refine va_zast (D := g) hx hb hK hP hD hS 5 3 rfl rfl (vc_in (by decide)) dX12_yearOf_252 (fun H locs hP hD hS => ?_)
          have hP : va_P g vwCl [(mo, .inr (11, mG m_a m_thrown m_taped m_at m_token m_place m_value m_word m_bad m_badPlace m_fault m_faultPlace (-1) m_will m_forgot 0 m_x vb vr vc vf m_any m_bothSend m_meanCards m_bestSum m_fitMany m_fitFirst m_fitSecond)), ((m_a 23), .inl (cI, 2, .inl fr)), ((m_a 24), .inl (cZ, 2, .inl fm)), ((m_a 25), .inl (cZ, 2, .inl fc)), ((m_a 26), .inl (cI, 2, .inl (upd (upd fs 0 0) 1 0))), ((m_a 27), .inl (cZ, 2, .inl (upd (upd (upd fg 0 0) 1 0) 0 0))), ((m_a 34), .inl (cZ, 2, .inl (upd (upd fk 0 0) 1 0)))] H := hP
          have hD : va_D A [(mo, .inr (11, mG m_a m_thrown m_taped m_at m_token m_place m_value m_word m_bad m_badPlace m_fault m_faultPlace (-1) m_will m_forgot 0 m_x vb vr vc vf m_any m_bothSend m_meanCards m_bestSum m_fitMany m_fitFirst m_fitSecond)), ((m_a 23), .inl (cI, 2, .inl fr)), ((m_a 24), .inl (cZ, 2, .inl fm)), ((m_a 25), .inl (cZ, 2, .inl fc)), ((m_a 26), .inl (cI, 2, .inl (upd (upd fs 0 0) 1 0))), ((m_a 27), .inl (cZ, 2, .inl (upd (upd (upd fg 0 0) 1 0) 0 0))), ((m_a 34), .inl (cZ, 2, .inl (upd (upd fk 0 0) 1 0)))] := hD
          refine lv_iload_n hx hb dX12_yearOf_253 rfl (lv_at hl 1 rfl) ?_
          refine lv_aload_n hx hb dX12_yearOf_254 rfl (lv_at hl 3 rfl) ?_
          refine va_get (D := g) (ci := 11) (v := .ref (m_a 27)) (C := RX12) (T := TX12) (N := 56) hx hb hts iX12 hown hK hP 0 rfl rfl 27 (by decide) (hts (.fieldLink RX12 65 "CardsAtYuleModel" "gets" "[Z") (List.mem_cons_of_mem _ (List.mem_append_left _ (List.mem_of_getElem? (i := 0) rfl)))) (fun _ h9 => h9) rfl dX12_yearOf_255 ?_
          refine lv_iload hx hb dX12_yearOf_258 (lv_at hl 0 rfl) ?_
          refine va_zald (D := g) hx hb hK hP 5 3 rfl rfl (vc_in (by decide)) dX12_yearOf_260 ?_
          refine lv_topi (nm_r (e' := 0) rfl ?_)
          refine lv_if_eq (tgt := 273) hx hb dX12_yearOf_261 (by decide) (fun _ => ?_) (fun c209 => absurd c209 (by decide))
          refine lv_iconst (v := 0) hx hb dX12_yearOf_273 (by decide) ?_
          refine lv_ior hx hb dX12_yearOf_274 ?_
          refine lv_istore_n (lv' := [(3, .int ((((nI js) &&& 5) <<< (1 &&& (31 : Int32))) ||| 0)), (4, .int 0), (2, .ref (m_a 34)), (0, .ref mo), (1, .int (nI js))]) hx hb dX12_yearOf_275 rfl hl (by decide) rfl (fun ls hl => ?_)
          refine lv_iinc (v := 1) (lv' := [(4, .int 1), (3, .int ((((nI js) &&& 5) <<< (1 &&& (31 : Int32))) ||| 0)), (2, .ref (m_a 34)), (0, .ref mo), (1, .int (nI js))]) hx hb dX12_yearOf_276 hl (k := 1) rfl (by decide) (by decide) rfl (fun ls hl => ?_)
          refine lv_goto (tgt := 211) hx hb dX12_yearOf_279 (by decide) ?_
          refine lv_iload hx hb dX12_yearOf_211 (lv_at hl 0 rfl) ?_
          refine lv_iconst (v := 2) hx hb dX12_yearOf_213 (by decide) ?_
          refine lv_icmp_ge (tgt := 282) hx hb dX12_yearOf_214 (by decide) (fun c210 => absurd c210 (by decide)) (fun _ => ?_)
          refine lv_aload_n hx hb dX12_yearOf_217 rfl (lv_at hl 3 rfl) ?_
          refine va_get (D := g) (ci := 11) (v := .ref (m_a 27)) (C := RX12) (T := TX12) (N := 56) hx hb hts iX12 hown hK hP 0 rfl rfl 27 (by decide) (hts (.fieldLink RX12 65 "CardsAtYuleModel" "gets" "[Z") (List.mem_cons_of_mem _ (List.mem_append_left _ (List.mem_of_getElem? (i := 0) rfl)))) (fun _ h9 => h9) rfl dX12_yearOf_218 ?_
          refine lv_iload hx hb dX12_yearOf_221 (lv_at hl 0 rfl) ?_
          refine lv_aload_n hx hb dX12_yearOf_223 rfl (lv_at hl 3 rfl) ?_
          refine va_get (D := g) (ci := 11) (v := .ref (m_a 26)) (C := RX12) (T := TX12) (N := 56) hx hb hts iX12 hown hK hP 0 rfl rfl 26 (by decide) (hts (.fieldLink RX12 62 "CardsAtYuleModel" "sent" "[I") (List.mem_cons_of_mem _ (List.mem_append_left _ (List.mem_of_getElem? (i := 10) rfl)))) (fun _ h9 => h9) rfl dX12_yearOf_224 ?_
          refine lv_iconst (v := 1) hx hb dX12_yearOf_227 (by decide) ?_
          refine lv_iload hx hb dX12_yearOf_228 (lv_at hl 0 rfl) ?_
          refine lv_isub hx hb dX12_yearOf_230 ?_
          refine lv_topi (nm_r (e' := 0) (by decide) ?_)
          refine va_iald (D := g) hx hb hK hP 4 0 rfl rfl (vc_in (by decide)) dX12_yearOf_231 ?_
          refine lv_topi (nm_r (e' := 0) rfl ?_)
          refine lv_if_le (tgt := 251) hx hb dX12_yearOf_232 (by decide) (fun _ => ?_) (fun c211 => absurd c211 (by decide))
          refine lv_iconst (v := 0) hx hb dX12_yearOf_251 (by decide) ?_
          refine va_zast (D := g) hx hb hK hP hD hS 5 3 rfl rfl (vc_in (by decide)) dX12_yearOf_252 (fun H locs hP hD hS => ?_)
          have hP : va_P g vwCl [(mo, .inr (11, mG m_a m_thrown m_taped m_at m_token m_place m_value m_word m_bad m_badPlace m_fault m_faultPlace (-1) m_will m_forgot 0 m_x vb vr vc vf m_any m_bothSend m_meanCards m_bestSum m_fitMany m_fitFirst m_fitSecond)), ((m_a 23), .inl (cI, 2, .inl fr)), ((m_a 24), .inl (cZ, 2, .inl fm)), ((m_a 25), .inl (cZ, 2, .inl fc)), ((m_a 26), .inl (cI, 2, .inl (upd (upd fs 0 0) 1 0))), ((m_a 27), .inl (cZ, 2, .inl (upd (upd (upd (upd fg 0 0) 1 0) 0 0) 1 0))), ((m_a 34), .inl (cZ, 2, .inl (upd (upd fk 0 0) 1 0)))] H := hP
          have hD : va_D A [(mo, .inr (11, mG m_a m_thrown m_taped m_at m_token m_place m_value m_word m_bad m_badPlace m_fault m_faultPlace (-1) m_will m_forgot 0 m_x vb vr vc vf m_any m_bothSend m_meanCards m_bestSum m_fitMany m_fitFirst m_fitSecond)), ((m_a 23), .inl (cI, 2, .inl fr)), ((m_a 24), .inl (cZ, 2, .inl fm)), ((m_a 25), .inl (cZ, 2, .inl fc)), ((m_a 26), .inl (cI, 2, .inl (upd (upd fs 0 0) 1 0))), ((m_a 27), .inl (cZ, 2, .inl (upd (upd (upd (upd fg 0 0) 1 0) 0 0) 1 0))), ((m_a 34), .inl (cZ, 2, .inl (upd (upd fk 0 0) 1 0)))] := hD
          refine lv_iload_n hx hb dX12_yearOf_253 rfl (lv_at hl 1 rfl) ?_
          refine lv_aload_n hx hb dX12_yearOf_254 rfl (lv_at hl 3 rfl) ?_
          refine va_get (D := g) (ci := 11) (v := .ref (m_a 27)) (C := RX12) (T := TX12) (N := 56) hx hb hts iX12 hown hK hP 0 rfl rfl 27 (by decide) (hts (.fieldLink RX12 65 "CardsAtYuleModel" "gets" "[Z") (List.mem_cons_of_mem _ (List.mem_append_left _ (List.mem_of_getElem? (i := 0) rfl)))) (fun _ h9 => h9) rfl dX12_yearOf_255 ?_
          refine lv_iload hx hb dX12_yearOf_258 (lv_at hl 0 rfl) ?_
          refine va_zald (D := g) hx hb hK hP 5 3 rfl rfl (vc_in (by decide)) dX12_yearOf_260 ?_
          refine lv_topi (nm_r (e' := 0) rfl ?_)
          refine lv_if_eq (tgt := 273) hx hb dX12_yearOf_261 (by decide) (fun _ => ?_) (fun c212 => absurd c212 (by decide))
          refine lv_iconst (v := 0) hx hb dX12_yearOf_273 (by decide) ?_
          refine lv_ior hx hb dX12_yearOf_274 ?_
          refine lv_istore_n (lv' := [(3, .int (((((nI js) &&& 5) <<< (1 &&& (31 : Int32))) ||| 0) ||| 0)), (4, .int 1), (2, .ref (m_a 34)), (0, .ref mo), (1, .int (nI js))]) hx hb dX12_yearOf_275 rfl hl (by decide) rfl (fun ls hl => ?_)
          refine lv_iinc (v := 2) (lv' := [(4, .int 2), (3, .int (((((nI js) &&& 5) <<< (1 &&& (31 : Int32))) ||| 0) ||| 0)), (2, .ref (m_a 34)), (0, .ref mo), (1, .int (nI js))]) hx hb dX12_yearOf_276 hl (k := 1) rfl (by decide) (by decide) rfl (fun ls hl => ?_)
          refine lv_goto (tgt := 211) hx hb dX12_yearOf_279 (by decide) ?_
          refine lv_iload hx hb dX12_yearOf_211 (lv_at hl 0 rfl) ?_
          refine lv_iconst (v := 2) hx hb dX12_yearOf_213 (by decide) ?_
          refine lv_icmp_ge (tgt := 282) hx hb dX12_yearOf_214 (by decide) (fun _ => ?_) (fun c213 => absurd c213 (by decide))
          refine lv_iload_n hx hb dX12_yearOf_282 rfl (lv_at hl 1 rfl) ?_
          have hA9 : sA ra rb js = 0 := by unfold sA; rw [if_neg (by omega)]
          have hB9 : zB ra rb js = 0 := by unfold zB; rw [if_neg (by omega)]
          have hP9 := hP.sub (ws' := [(mo, .inr (11, mG m_a m_thrown m_taped m_at m_token m_place m_value m_word m_bad m_badPlace m_fault m_faultPlace (-1) m_will m_forgot 0 m_x vb vr vc vf m_any m_bothSend m_meanCards m_bestSum m_fitMany m_fitFirst m_fitSecond)), ((m_a 23), .inl (cI, 2, .inl fr)), ((m_a 24), .inl (cZ, 2, .inl fm)), ((m_a 25), .inl (cZ, 2, .inl fc)), ((m_a 26), .inl (cI, 2, .inl (upd (upd fs 0 0) 1 0))), ((m_a 27), .inl (cZ, 2, .inl (upd (upd (upd (upd fg 0 0) 1 0) 0 0) 1 0))), ((m_a 34), .inl (cZ, 2, .inl (upd (upd fk 0 0) 1 0)))]) [0, 1, 2, 3, 4, 5, 6] rfl
          have hD9 := hD.sub (ws' := [(mo, .inr (11, mG m_a m_thrown m_taped m_at m_token m_place m_value m_word m_bad m_badPlace m_fault m_faultPlace (-1) m_will m_forgot 0 m_x vb vr vc vf m_any m_bothSend m_meanCards m_bestSum m_fitMany m_fitFirst m_fitSecond)), ((m_a 23), .inl (cI, 2, .inl fr)), ((m_a 24), .inl (cZ, 2, .inl fm)), ((m_a 25), .inl (cZ, 2, .inl fc)), ((m_a 26), .inl (cI, 2, .inl (upd (upd fs 0 0) 1 0))), ((m_a 27), .inl (cZ, 2, .inl (upd (upd (upd (upd fg 0 0) 1 0) 0 0) 1 0))), ((m_a 34), .inl (cZ, 2, .inl (upd (upd fk 0 0) 1 0)))]) [0, 1, 2, 3, 4, 5, 6] (by decide) rfl
          exact W.iret (v := (((((nI js) &&& 5) <<< (1 &&& (31 : Int32))) ||| 0) ||| 0)) hx hb hr (fun t ht hW => ⟨⟨(((((nI js) &&& 5) <<< (1 &&& (31 : Int32))) ||| 0) ||| 0), ((upd (upd fs 0 0) 1 0), (upd (upd (upd (upd fg 0 0) 1 0) 0 0) 1 0), (upd (upd fk 0 0) 1 0)), rfl, ⟨th_nx hjs (u := 0) (v := 0) hB9 hA9, 0, 0, rfl, rfl, by decide, by decide, by unfold sc; rw [hA9, hB9]; rfl⟩, by rw [ht]; exact hP9, va_K.moved hW.alike hK, hD9⟩, hS.F ht⟩) hS.2.2 dX12_yearOf_283
def v_fX12_cardsNow : List Cond := .code yX12_cardsNow cX12_cardsNow 1 (some .int) :: (([.fieldLink RX12 62 "CardsAtYuleModel" "sent" "[I"] : List Cond) ++ (wsX120 ++ ([] : List Cond)))
theorem good_v_fX12_cardsNow : v_fX12_cardsNow.all goodWord = true := ga_c (by decide +kernel) (ga_a (by decide +kernel) (ga_a good_wsX120 rfl))
set_option maxHeartbeats 4000000 in
set_option maxRecDepth 100000 in
theorem k_fX12_cardsNow (l : Launch) (g : va_G) (cI cJ cB cZ cL : ClassId) (mo : Nat) (m_a : Nat → Nat) (m_thrown : Int32) (m_taped : Int32) (m_at : Int32) (m_token : Int32) (m_place : Int32) (m_value : Int32) (m_word : Int64) (m_bad : Int32) (m_badPlace : Int32) (m_fault : Int32) (m_faultPlace : Int32) (m_will : Int32) (m_forgot : Int32) (m_x : Int64) (m_any : Int64) (m_bothSend : Int64) (m_meanCards : Int64) (m_bestSum : Int32) (m_fitMany : Int32) (m_fitFirst : Int64) (m_fitSecond : Int64) (vb : Int32) (vr : Int32) (vc : Int32) (vf : Int32) (fs : Nat → Int32) (v0 : Nat) (v1 : Nat) (sz : Nat) (hS_s0 : fs 0 = nI v0) (hS_s1 : fs 1 = nI v1) (hv0 : v0 ≤ 2) (hv1 : v1 ≤ 2) : Met l yX12_cardsNow v_fX12_cardsNow ({ frames := 0, cells := 0, slots := 0, locals := 0 }) (va_Pc [.ref mo] (pRO g (tyT cI cJ cB cZ cL) [(mo, .inr (11, mG m_a m_thrown m_taped m_at m_token m_place m_value m_word m_bad m_badPlace m_fault m_faultPlace (-1) m_will m_forgot 0 m_x vb vr vc vf m_any m_bothSend m_meanCards m_bestSum m_fitMany m_fitFirst m_fitSecond)), ((m_a 26), .inl (cI, 2, .inl fs))] sz)) (va_Qi (fun (r : Int32) (u : Unit) => r = nI (b1 v0 + b1 v1)) (fun (_ : Unit) (_ : State) => True) (va_A [] sz)) 0 0 (va_A [] sz) := by
  refine Met.ofW (cc := cX12_cardsNow) (maxL := 1) (ret := (some .int)) (by decide) rfl ?_
  intro p e s m args below meth c s₁ B hml hv
  obtain ⟨rfl, hsz, hP, hK⟩ := hv
  have hx := B.exec
  have hb := B.bytes
  have hr := B.returns
  have hts := atoms_spec (ws := v_fX12_cardsNow) B.pre
  have hown : s.vm.findClass RX12 = some m.cls := findClass_of_methodNamed B.named
  have hlocks := B.notSynchronized
  subst hsz
  have iX12 : ∀ w ∈ wsX120, w ∈ v_fX12_cardsNow := (fun _ h => List.mem_cons_of_mem _ (List.mem_append_right _ (List.mem_append_left _ h)))
  generalize hAe : (va_A [] s.heap.size) = A
  have hA : ∀ q : Nat, s.heap.size ≤ q → A q := fun q h => by rw [← hAe]; exact Or.inr h
  have hS : va_S A s.heap s.heap [] := va_S.rf
  have hl := lv_entry ([.ref mo]) (n := 1) (Nat.le_of_ble_eq_true rfl)
  rw [lg_entry_eq]
  generalize (lg_sl ([.ref mo]) ++ List.replicate (1 - (lg_sl ([.ref mo])).length) Slot.unset).toArray = ls at hl ⊢
  have hl : lv_has ls 1 [(0, .ref mo)] := hl
  have hP : va_P g vwCl [(mo, .inr (11, mG m_a m_thrown m_taped m_at m_token m_place m_value m_word m_bad m_badPlace m_fault m_faultPlace (-1) m_will m_forgot 0 m_x vb vr vc vf m_any m_bothSend m_meanCards m_bestSum m_fitMany m_fitFirst m_fitSecond)), ((m_a 26), .inl (cI, 2, .inl fs))] s.heap := hP
  refine lv_aload_n hx hb dX12_cardsNow_0 rfl (lv_at hl 0 rfl) ?_
  refine va_get (D := g) (ci := 11) (v := .ref (m_a 26)) (C := RX12) (T := TX12) (N := 56) hx hb hts iX12 hown hK hP 0 rfl rfl 26 (by decide) (hts (.fieldLink RX12 62 "CardsAtYuleModel" "sent" "[I") (List.mem_cons_of_mem _ (List.mem_append_left _ (List.mem_of_getElem? (i := 0) rfl)))) (fun _ h9 => h9) rfl dX12_cardsNow_1 ?_
  refine lv_iconst (v := 0) hx hb dX12_cardsNow_4 (by decide) ?_
  refine va_iald (D := g) hx hb hK hP 1 0 rfl rfl (vc_in (by decide)) dX12_cardsNow_5 ?_
  refine lv_topi (nm_r (e' := nI v0) hS_s0 ?_)
  refine lv_if_le (tgt := 13) hx hb dX12_cardsNow_6 (by decide) (fun c1 => ?_) (fun c1 => ?_)
  · have f2 := (show (v0 : Int) ≤ 0 from z_le (nI_toInt (n := v0) (by omega)) rfl c1)
    refine lv_iconst (v := 0) hx hb dX12_cardsNow_13 (by decide) ?_
    refine lv_aload_n hx hb dX12_cardsNow_14 rfl (lv_at hl 0 rfl) ?_
    refine va_get (D := g) (ci := 11) (v := .ref (m_a 26)) (C := RX12) (T := TX12) (N := 56) hx hb hts iX12 hown hK hP 0 rfl rfl 26 (by decide) (hts (.fieldLink RX12 62 "CardsAtYuleModel" "sent" "[I") (List.mem_cons_of_mem _ (List.mem_append_left _ (List.mem_of_getElem? (i := 0) rfl)))) (fun _ h9 => h9) rfl dX12_cardsNow_15 ?_
    refine lv_iconst (v := 1) hx hb dX12_cardsNow_18 (by decide) ?_
    refine va_iald (D := g) hx hb hK hP 1 0 rfl rfl (vc_in (by decide)) dX12_cardsNow_19 ?_
    refine lv_topi (nm_r (e' := nI v1) hS_s1 ?_)
    refine lv_if_le (tgt := 27) hx hb dX12_cardsNow_20 (by decide) (fun c3 => ?_) (fun c3 => ?_)
    · have f4 := (show (v1 : Int) ≤ 0 from z_le (nI_toInt (n := v1) (by omega)) rfl c3)
      refine lv_iconst (v := 0) hx hb dX12_cardsNow_27 (by decide) ?_
      refine lv_iadd hx hb dX12_cardsNow_28 ?_
      refine lv_topi (nm_r (e' := 0) (by decide) ?_)
      exact W.iret (v := 0) hx hb hr (fun t ht hW => ⟨⟨0, (), rfl, (by unfold b1; (first | rw [if_pos (show v0 = 0 by omega)] | rw [if_neg (show ¬ v0 = 0 by omega)]); (first | rw [if_pos (show v1 = 0 by omega)] | rw [if_neg (show ¬ v1 = 0 by omega)]); rfl), trivial⟩, hS.F ht⟩) hS.2.2 dX12_cardsNow_29
    · have f4 := (show 0 < (v1 : Int) from z_nle (nI_toInt (n := v1) (by omega)) rfl c3)
      refine lv_iconst (v := 1) hx hb dX12_cardsNow_23 (by decide) ?_
      refine lv_goto (tgt := 28) hx hb dX12_cardsNow_24 (by decide) ?_
      refine lv_iadd hx hb dX12_cardsNow_28 ?_
      refine lv_topi (nm_r (e' := 1) (by decide) ?_)
      exact W.iret (v := 1) hx hb hr (fun t ht hW => ⟨⟨1, (), rfl, (by unfold b1; (first | rw [if_pos (show v0 = 0 by omega)] | rw [if_neg (show ¬ v0 = 0 by omega)]); (first | rw [if_pos (show v1 = 0 by omega)] | rw [if_neg (show ¬ v1 = 0 by omega)]); rfl), trivial⟩, hS.F ht⟩) hS.2.2 dX12_cardsNow_29
  · have f2 := (show 0 < (v0 : Int) from z_nle (nI_toInt (n := v0) (by omega)) rfl c1)
    refine lv_iconst (v := 1) hx hb dX12_cardsNow_9 (by decide) ?_
    refine lv_goto (tgt := 14) hx hb dX12_cardsNow_10 (by decide) ?_
    refine lv_aload_n hx hb dX12_cardsNow_14 rfl (lv_at hl 0 rfl) ?_
    refine va_get (D := g) (ci := 11) (v := .ref (m_a 26)) (C := RX12) (T := TX12) (N := 56) hx hb hts iX12 hown hK hP 0 rfl rfl 26 (by decide) (hts (.fieldLink RX12 62 "CardsAtYuleModel" "sent" "[I") (List.mem_cons_of_mem _ (List.mem_append_left _ (List.mem_of_getElem? (i := 0) rfl)))) (fun _ h9 => h9) rfl dX12_cardsNow_15 ?_
    refine lv_iconst (v := 1) hx hb dX12_cardsNow_18 (by decide) ?_
    refine va_iald (D := g) hx hb hK hP 1 0 rfl rfl (vc_in (by decide)) dX12_cardsNow_19 ?_
    refine lv_topi (nm_r (e' := nI v1) hS_s1 ?_)
    refine lv_if_le (tgt := 27) hx hb dX12_cardsNow_20 (by decide) (fun c5 => ?_) (fun c5 => ?_)
    · have f6 := (show (v1 : Int) ≤ 0 from z_le (nI_toInt (n := v1) (by omega)) rfl c5)
      refine lv_iconst (v := 0) hx hb dX12_cardsNow_27 (by decide) ?_
      refine lv_iadd hx hb dX12_cardsNow_28 ?_
      refine lv_topi (nm_r (e' := 1) (by decide) ?_)
      exact W.iret (v := 1) hx hb hr (fun t ht hW => ⟨⟨1, (), rfl, (by unfold b1; (first | rw [if_pos (show v0 = 0 by omega)] | rw [if_neg (show ¬ v0 = 0 by omega)]); (first | rw [if_pos (show v1 = 0 by omega)] | rw [if_neg (show ¬ v1 = 0 by omega)]); rfl), trivial⟩, hS.F ht⟩) hS.2.2 dX12_cardsNow_29
    · have f6 := (show 0 < (v1 : Int) from z_nle (nI_toInt (n := v1) (by omega)) rfl c5)
      refine lv_iconst (v := 1) hx hb dX12_cardsNow_23 (by decide) ?_
      refine lv_goto (tgt := 28) hx hb dX12_cardsNow_24 (by decide) ?_
      refine lv_iadd hx hb dX12_cardsNow_28 ?_
      refine lv_topi (nm_r (e' := 2) (by decide) ?_)
      exact W.iret (v := 2) hx hb hr (fun t ht hW => ⟨⟨2, (), rfl, (by unfold b1; (first | rw [if_pos (show v0 = 0 by omega)] | rw [if_neg (show ¬ v0 = 0 by omega)]); (first | rw [if_pos (show v1 = 0 by omega)] | rw [if_neg (show ¬ v1 = 0 by omega)]); rfl), trivial⟩, hS.F ht⟩) hS.2.2 dX12_cardsNow_29
def v_fX12_fates : List Cond := .code yX12_fates cX12_fates 7 none :: (([.methodLink RX12 382 yX12_rulesAlone, .instanceMethod yX12_rulesAlone, .selects RX12 yX12_rulesAlone yX12_rulesAlone, .initialized RX12, .fieldLink RX12 86 "CardsAtYuleModel" "came" "[I", .fieldLink RX12 385 "CardsAtYuleModel" "begin" "I", .fieldLink RX12 388 "CardsAtYuleModel" "round" "I", .fieldLink RX12 391 "CardsAtYuleModel" "roundCards" "I", .fieldLink RX12 397 "CardsAtYuleModel" "fate" "I", .methodLink RX12 333 yX12_yearOf, .instanceMethod yX12_yearOf, .selects RX12 yX12_yearOf yX12_yearOf, .methodLink RX12 394 yX12_cardsNow, .instanceMethod yX12_cardsNow, .selects RX12 yX12_cardsNow yX12_cardsNow, .fieldLink RX12 89 "CardsAtYuleModel" "path" "[I"] : List Cond) ++ (v_fX12_rulesAlone ++ (v_fX12_yearOf ++ (v_fX12_cardsNow ++ (wsX120 ++ ([] : List Cond))))))
theorem good_v_fX12_fates : v_fX12_fates.all goodWord = true := ga_c (by decide +kernel) (ga_a (by decide +kernel) (ga_a good_v_fX12_rulesAlone (ga_a good_v_fX12_yearOf (ga_a good_v_fX12_cardsNow (ga_a good_wsX120 rfl)))))
set_option maxHeartbeats 4000000 in
set_option maxRecDepth 100000 in
theorem k_fX12_fates (l : Launch) (g : va_G) (cI cJ cB cZ cL : ClassId) (mo : Nat) (m_a : Nat → Nat) (m_thrown : Int32) (m_taped : Int32) (m_at : Int32) (m_token : Int32) (m_place : Int32) (m_value : Int32) (m_word : Int64) (m_bad : Int32) (m_badPlace : Int32) (m_fault : Int32) (m_faultPlace : Int32) (m_will : Int32) (m_forgot : Int32) (m_x : Int64) (m_any : Int64) (m_bothSend : Int64) (m_meanCards : Int64) (m_bestSum : Int32) (m_fitMany : Int32) (m_fitFirst : Int64) (m_fitSecond : Int64) (vb : Int32) (vr : Int32) (vc : Int32) (vf : Int32) (kc1 : Nat → Int32) (kc2 : Nat → Int32) (kc3 : Nat → Int32) (kc4 : Nat → Int32) (kc5 : Nat → Int32) (kc6 : Nat → Int32) (kc7 : Nat → Int32) (kc8 : Nat → Int32) (ra : Nat) (rb : Nat) (js : Nat) (sz : Nat) (hra : ra < 32) (hrb : rb < 32) (hjs : js < 16) : Met l yX12_fates v_fX12_fates ({ frames := 3, cells := 0, slots := 0, locals := 68 }) (va_Pc [.ref mo, .int (nI ra), .int (nI rb), .int (nI js)] (pRW g (tyT cI cJ cB cZ cL) [(mo, .inr (11, mG m_a m_thrown m_taped m_at m_token m_place m_value m_word m_bad m_badPlace m_fault m_faultPlace (-1) m_will m_forgot 0 m_x vb vr vc vf m_any m_bothSend m_meanCards m_bestSum m_fitMany m_fitFirst m_fitSecond)), ((m_a 23), .inl (cI, 2, .inl kc1)), ((m_a 24), .inl (cZ, 2, .inl kc2)), ((m_a 25), .inl (cZ, 2, .inl kc3)), ((m_a 26), .inl (cI, 2, .inl kc4)), ((m_a 27), .inl (cZ, 2, .inl kc5)), ((m_a 34), .inl (cZ, 2, .inl kc6)), ((m_a 38), .inl (cI, 16, .inl kc7)), ((m_a 39), .inl (cI, 17, .inl kc8))] sz)) (va_Qv (fun (u : (Nat → Int32) × (Nat → Int32) × (Nat → Int32) × (Nat → Int32) × (Nat → Int32) × (Nat → Int32) × (Nat → Int32) × (Nat → Int32) × Int32 × Int32 × Int32 × Int32) => match u with | (h1, h2, h3, h4, h5, h6, h7, h8, wb, wr, wc, wf) => wb = nI (fJ ra rb js) ∧ wr = nI (fL ra rb js) ∧ wc = nI (fC ra rb js) ∧ wf = nI (fK ra rb js)) (fun (u : (Nat → Int32) × (Nat → Int32) × (Nat → Int32) × (Nat → Int32) × (Nat → Int32) × (Nat → Int32) × (Nat → Int32) × (Nat → Int32) × Int32 × Int32 × Int32 × Int32) (t : State) => bRW g (tyT cI cJ cB cZ cL) (va_A [(mo, .inr (11, mG m_a m_thrown m_taped m_at m_token m_place m_value m_word m_bad m_badPlace m_fault m_faultPlace (-1) m_will m_forgot 0 m_x vb vr vc vf m_any m_bothSend m_meanCards m_bestSum m_fitMany m_fitFirst m_fitSecond)), ((m_a 23), .inl (cI, 2, .inl kc1)), ((m_a 24), .inl (cZ, 2, .inl kc2)), ((m_a 25), .inl (cZ, 2, .inl kc3)), ((m_a 26), .inl (cI, 2, .inl kc4)), ((m_a 27), .inl (cZ, 2, .inl kc5)), ((m_a 34), .inl (cZ, 2, .inl kc6)), ((m_a 38), .inl (cI, 16, .inl kc7)), ((m_a 39), .inl (cI, 17, .inl kc8))] sz) (match u with | (h1, h2, h3, h4, h5, h6, h7, h8, wb, wr, wc, wf) => [(mo, .inr (11, mG m_a m_thrown m_taped m_at m_token m_place m_value m_word m_bad m_badPlace m_fault m_faultPlace (-1) m_will m_forgot 0 m_x wb wr wc wf m_any m_bothSend m_meanCards m_bestSum m_fitMany m_fitFirst m_fitSecond)), ((m_a 23), .inl (cI, 2, .inl h1)), ((m_a 24), .inl (cZ, 2, .inl h2)), ((m_a 25), .inl (cZ, 2, .inl h3)), ((m_a 26), .inl (cI, 2, .inl h4)), ((m_a 27), .inl (cZ, 2, .inl h5)), ((m_a 34), .inl (cZ, 2, .inl h6)), ((m_a 38), .inl (cI, 16, .inl h7)), ((m_a 39), .inl (cI, 17, .inl h8))]) t) (va_A [(mo, .inr (11, mG m_a m_thrown m_taped m_at m_token m_place m_value m_word m_bad m_badPlace m_fault m_faultPlace (-1) m_will m_forgot 0 m_x vb vr vc vf m_any m_bothSend m_meanCards m_bestSum m_fitMany m_fitFirst m_fitSecond)), ((m_a 23), .inl (cI, 2, .inl kc1)), ((m_a 24), .inl (cZ, 2, .inl kc2)), ((m_a 25), .inl (cZ, 2, .inl kc3)), ((m_a 26), .inl (cI, 2, .inl kc4)), ((m_a 27), .inl (cZ, 2, .inl kc5)), ((m_a 34), .inl (cZ, 2, .inl kc6)), ((m_a 38), .inl (cI, 16, .inl kc7)), ((m_a 39), .inl (cI, 17, .inl kc8))] sz)) 0 0 (va_A [(mo, .inr (11, mG m_a m_thrown m_taped m_at m_token m_place m_value m_word m_bad m_badPlace m_fault m_faultPlace (-1) m_will m_forgot 0 m_x vb vr vc vf m_any m_bothSend m_meanCards m_bestSum m_fitMany m_fitFirst m_fitSecond)), ((m_a 23), .inl (cI, 2, .inl kc1)), ((m_a 24), .inl (cZ, 2, .inl kc2)), ((m_a 25), .inl (cZ, 2, .inl kc3)), ((m_a 26), .inl (cI, 2, .inl kc4)), ((m_a 27), .inl (cZ, 2, .inl kc5)), ((m_a 34), .inl (cZ, 2, .inl kc6)), ((m_a 38), .inl (cI, 16, .inl kc7)), ((m_a 39), .inl (cI, 17, .inl kc8))] sz) := by
  refine Met.ofW (cc := cX12_fates) (maxL := 7) (ret := none) (by decide) rfl ?_
  intro p e s m args below meth c s₁ B hml hv
  obtain ⟨rfl, hsz, hP, hK, hD0⟩ := hv
  have hx := B.exec
  have hb := B.bytes
  have hr := B.returns
  have hts := atoms_spec (ws := v_fX12_fates) B.pre
  have hown : s.vm.findClass RX12 = some m.cls := findClass_of_methodNamed B.named
  have hlocks := B.notSynchronized
  subst hsz
  have iX12 : ∀ w ∈ wsX120, w ∈ v_fX12_fates := (fun _ h => List.mem_cons_of_mem _ (List.mem_append_right _ (List.mem_append_right _ (List.mem_append_right _ (List.mem_append_right _ (List.mem_append_left _ h))))))
  have hD := hD0.self (sz := s.heap.size)
  generalize hAe : (va_A [(mo, .inr (11, mG m_a m_thrown m_taped m_at m_token m_place m_value m_word m_bad m_badPlace m_fault m_faultPlace (-1) m_will m_forgot 0 m_x vb vr vc vf m_any m_bothSend m_meanCards m_bestSum m_fitMany m_fitFirst m_fitSecond)), ((m_a 23), .inl (cI, 2, .inl kc1)), ((m_a 24), .inl (cZ, 2, .inl kc2)), ((m_a 25), .inl (cZ, 2, .inl kc3)), ((m_a 26), .inl (cI, 2, .inl kc4)), ((m_a 27), .inl (cZ, 2, .inl kc5)), ((m_a 34), .inl (cZ, 2, .inl kc6)), ((m_a 38), .inl (cI, 16, .inl kc7)), ((m_a 39), .inl (cI, 17, .inl kc8))] s.heap.size) = A at hD ⊢
  have hA : ∀ q : Nat, s.heap.size ≤ q → A q := fun q h => by rw [← hAe]; exact Or.inr h
  have hS : va_S A s.heap s.heap [] := va_S.rf
  have hl := lv_entry ([.ref mo, .int (nI ra), .int (nI rb), .int (nI js)]) (n := 7) (Nat.le_of_ble_eq_true rfl)
  rw [lg_entry_eq]
  generalize (lg_sl ([.ref mo, .int (nI ra), .int (nI rb), .int (nI js)]) ++ List.replicate (7 - (lg_sl ([.ref mo, .int (nI ra), .int (nI rb), .int (nI js)])).length) Slot.unset).toArray = ls at hl ⊢
  have hl : lv_has ls 7 [(0, .ref mo), (1, .int (nI ra)), (2, .int (nI rb)), (3, .int (nI js))] := hl
  have hP : va_P g vwCl [(mo, .inr (11, mG m_a m_thrown m_taped m_at m_token m_place m_value m_word m_bad m_badPlace m_fault m_faultPlace (-1) m_will m_forgot 0 m_x vb vr vc vf m_any m_bothSend m_meanCards m_bestSum m_fitMany m_fitFirst m_fitSecond)), ((m_a 23), .inl (cI, 2, .inl kc1)), ((m_a 24), .inl (cZ, 2, .inl kc2)), ((m_a 25), .inl (cZ, 2, .inl kc3)), ((m_a 26), .inl (cI, 2, .inl kc4)), ((m_a 27), .inl (cZ, 2, .inl kc5)), ((m_a 34), .inl (cZ, 2, .inl kc6)), ((m_a 38), .inl (cI, 16, .inl kc7)), ((m_a 39), .inl (cI, 17, .inl kc8))] s.heap := hP
  refine lv_aload_n hx hb dX12_fates_0 rfl (lv_at hl 0 rfl) ?_
  refine lv_iload_n hx hb dX12_fates_1 rfl (lv_at hl 1 rfl) ?_
  refine lv_iload_n hx hb dX12_fates_2 rfl (lv_at hl 2 rfl) ?_
  refine rw_v (wr := [((m_a 26), .inl (cI, 2, .inl kc4)), ((m_a 27), .inl (cZ, 2, .inl kc5)), ((m_a 34), .inl (cZ, 2, .inl kc6)), ((m_a 38), .inl (cI, 16, .inl kc7)), ((m_a 39), .inl (cI, 17, .inl kc8))]) (va_runV (As := [.int (nI ra), .int (nI rb)]) (rest := []) ⟨hx, hb, hml, hown, hts⟩ (k_fX12_rulesAlone l g cI cJ cB cZ cL mo m_a m_thrown m_taped m_at m_token m_place m_value m_word m_bad m_badPlace m_fault m_faultPlace m_will m_forgot m_x m_any m_bothSend m_meanCards m_bestSum m_fitMany m_fitFirst m_fitSecond vb vr vc vf kc1 kc2 kc3 ra rb s.heap.size ) (cwV 2 hts (goodIn_app (g_4 (List.mem_cons_of_mem _ (List.mem_append_left _ (List.mem_of_getElem? (i := 0) rfl))) (List.mem_cons_of_mem _ (List.mem_append_left _ (List.mem_of_getElem? (i := 1) rfl))) (List.mem_cons_of_mem _ (List.mem_append_left _ (List.mem_of_getElem? (i := 2) rfl))) (List.mem_cons_of_mem _ (List.mem_append_left _ (List.mem_of_getElem? (i := 3) rfl))) (by decide +kernel)) (goodIn_sub (fun _ h => List.mem_cons_of_mem _ (List.mem_append_right _ (List.mem_append_left _ h))) good_v_fX12_rulesAlone)) rfl rfl rfl (by decide +kernel) ⟨Nat.le_of_ble_eq_true rfl, Nat.le_of_ble_eq_true rfl⟩) (pv_RW (q := (RX12, TX12, 56)) (ci := 11) (q0 := 0) (wc := [(mo, .inr (11, mG m_a m_thrown m_taped m_at m_token m_place m_value m_word m_bad m_badPlace m_fault m_faultPlace (-1) m_will m_forgot 0 m_x vb vr vc vf m_any m_bothSend m_meanCards m_bestSum m_fitMany m_fitFirst m_fitSecond)), ((m_a 23), .inl (cI, 2, .inl kc1)), ((m_a 24), .inl (cZ, 2, .inl kc2)), ((m_a 25), .inl (cZ, 2, .inl kc3))]) hK hP hD [0, 1, 2, 3] (by decide) rfl rfl rfl) rfl rfl hl.1 rfl (lv_room (Nat.le_of_ble_eq_true rfl)) dX12_fates_3 ⟨Nat.le_of_ble_eq_true rfl, Nat.le_of_ble_eq_true rfl⟩) hS hA hP hD [0, 1, 2, 3] [4, 5, 6, 7, 8] rfl rfl (by decide) (by decide) (fun u2 H locs hw3 hP hD hS => ?_)
  obtain ⟨u_h14, u_h25, u_h36⟩ := u2
  try dsimp only at hw3
  have hP : va_P g vwCl [((m_a 26), .inl (cI, 2, .inl kc4)), ((m_a 27), .inl (cZ, 2, .inl kc5)), ((m_a 34), .inl (cZ, 2, .inl kc6)), ((m_a 38), .inl (cI, 16, .inl kc7)), ((m_a 39), .inl (cI, 17, .inl kc8)), (mo, .inr (11, mG m_a m_thrown m_taped m_at m_token m_place m_value m_word m_bad m_badPlace m_fault m_faultPlace (-1) m_will m_forgot 0 m_x vb vr vc vf m_any m_bothSend m_meanCards m_bestSum m_fitMany m_fitFirst m_fitSecond)), ((m_a 23), .inl (cI, 2, .inl u_h14)), ((m_a 24), .inl (cZ, 2, .inl u_h25)), ((m_a 25), .inl (cZ, 2, .inl u_h36))] H := hP
  have hD : va_D A [((m_a 26), .inl (cI, 2, .inl kc4)), ((m_a 27), .inl (cZ, 2, .inl kc5)), ((m_a 34), .inl (cZ, 2, .inl kc6)), ((m_a 38), .inl (cI, 16, .inl kc7)), ((m_a 39), .inl (cI, 17, .inl kc8)), (mo, .inr (11, mG m_a m_thrown m_taped m_at m_token m_place m_value m_word m_bad m_badPlace m_fault m_faultPlace (-1) m_will m_forgot 0 m_x vb vr vc vf m_any m_bothSend m_meanCards m_bestSum m_fitMany m_fitFirst m_fitSecond)), ((m_a 23), .inl (cI, 2, .inl u_h14)), ((m_a 24), .inl (cZ, 2, .inl u_h25)), ((m_a 25), .inl (cZ, 2, .inl u_h36))] := hD
  obtain ⟨hS_r0, hS_r1, hS_m0, hS_m1, hS_c0, hS_c1⟩ := hw3
  refine lv_iconst (v := 0) hx hb dX12_fates_6 (by decide) ?_
  refine lv_istore (lv' := [(4, .int 0), (0, .ref mo), (1, .int (nI ra)), (2, .int (nI rb)), (3, .int (nI js))]) hx hb dX12_fates_7 hl (by decide) rfl (fun ls hl => ?_)
  have lp9 : ∀ (n7 : Nat) (i : Nat) (f : Nat → Int32) (H : Heap) (locs : List Loc) (ls : Array Slot), 16 - i < n7 → (i ≤ 16) → (∀ k, k < i → f k = (-1)) → va_P g vwCl [((m_a 26), .inl (cI, 2, .inl kc4)), ((m_a 27), .inl (cZ, 2, .inl kc5)), ((m_a 34), .inl (cZ, 2, .inl kc6)), ((m_a 38), .inl (cI, 16, .inl f)), ((m_a 39), .inl (cI, 17, .inl kc8)), (mo, .inr (11, mG m_a m_thrown m_taped m_at m_token m_place m_value m_word m_bad m_badPlace m_fault m_faultPlace (-1) m_will m_forgot 0 m_x vb vr vc vf m_any m_bothSend m_meanCards m_bestSum m_fitMany m_fitFirst m_fitSecond)), ((m_a 23), .inl (cI, 2, .inl u_h14)), ((m_a 24), .inl (cZ, 2, .inl u_h25)), ((m_a 25), .inl (cZ, 2, .inl u_h36))] H → va_D A [((m_a 26), .inl (cI, 2, .inl kc4)), ((m_a 27), .inl (cZ, 2, .inl kc5)), ((m_a 34), .inl (cZ, 2, .inl kc6)), ((m_a 38), .inl (cI, 16, .inl f)), ((m_a 39), .inl (cI, 17, .inl kc8)), (mo, .inr (11, mG m_a m_thrown m_taped m_at m_token m_place m_value m_word m_bad m_badPlace m_fault m_faultPlace (-1) m_will m_forgot 0 m_x vb vr vc vf m_any m_bothSend m_meanCards m_bestSum m_fitMany m_fitFirst m_fitSecond)), ((m_a 23), .inl (cI, 2, .inl u_h14)), ((m_a 24), .inl (cZ, 2, .inl u_h25)), ((m_a 25), .inl (cZ, 2, .inl u_h36))] → va_S A s.heap H locs → lv_has ls 7 [(0, .ref mo), (1, .int (nI ra)), (2, .int (nI rb)), (3, .int (nI js)), (4, .int (nI i))] → W p l e (headSpec v_fX12_fates ({ frames := 3, cells := 0, slots := 0, locals := 68 })).room s m ([.ref mo, .int (nI ra), .int (nI rb), .int (nI js)] : List Value).toArray below meth c H locs 0 0 (MQ below (va_Qv (fun (u : (Nat → Int32) × (Nat → Int32) × (Nat → Int32) × (Nat → Int32) × (Nat → Int32) × (Nat → Int32) × (Nat → Int32) × (Nat → Int32) × Int32 × Int32 × Int32 × Int32) => match u with | (h1, h2, h3, h4, h5, h6, h7, h8, wb, wr, wc, wf) => wb = nI (fJ ra rb js) ∧ wr = nI (fL ra rb js) ∧ wc = nI (fC ra rb js) ∧ wf = nI (fK ra rb js)) (fun (u : (Nat → Int32) × (Nat → Int32) × (Nat → Int32) × (Nat → Int32) × (Nat → Int32) × (Nat → Int32) × (Nat → Int32) × (Nat → Int32) × Int32 × Int32 × Int32 × Int32) (t : State) => bRW g (tyT cI cJ cB cZ cL) A (match u with | (h1, h2, h3, h4, h5, h6, h7, h8, wb, wr, wc, wf) => [(mo, .inr (11, mG m_a m_thrown m_taped m_at m_token m_place m_value m_word m_bad m_badPlace m_fault m_faultPlace (-1) m_will m_forgot 0 m_x wb wr wc wf m_any m_bothSend m_meanCards m_bestSum m_fitMany m_fitFirst m_fitSecond)), ((m_a 23), .inl (cI, 2, .inl h1)), ((m_a 24), .inl (cZ, 2, .inl h2)), ((m_a 25), .inl (cZ, 2, .inl h3)), ((m_a 26), .inl (cI, 2, .inl h4)), ((m_a 27), .inl (cZ, 2, .inl h5)), ((m_a 34), .inl (cZ, 2, .inl h6)), ((m_a 38), .inl (cI, 16, .inl h7)), ((m_a 39), .inl (cI, 17, .inl h8))]) t) A) ([.ref mo, .int (nI ra), .int (nI rb), .int (nI js)] : List Value).toArray s 0 0 A) (F0 m 9 ls []) := by
    intro n7
    induction n7 with
    | zero => exact fun i f H locs ls hn => absurd hn (Nat.not_lt_zero _)
    | succ n7 ih8 =>
      intro i f H locs ls hn hi hf hP hD hS hl
      refine lv_iload hx hb dX12_fates_9 (lv_at hl 4 rfl) ?_
      refine lv_bipush (v := 16) hx hb dX12_fates_11 (by decide) ?_
      refine lv_icmp_ge (tgt := 30) hx hb dX12_fates_13 (by decide) (fun c10 => ?_) (fun c10 => ?_)
      · have f11 := (show 16 ≤ (i : Int) from z_le rfl (nI_toInt (n := i) (by omega)) c10)
        refine lv_iload_n hx hb dX12_fates_30 rfl (lv_at hl 3 rfl) ?_
        refine lv_istore (lv' := [(4, .int (nI js)), (0, .ref mo), (1, .int (nI ra)), (2, .int (nI rb)), (3, .int (nI js))]) hx hb dX12_fates_31 hl (by decide) rfl (fun ls hl => ?_)
        refine lv_iconst (v := 0) hx hb dX12_fates_33 (by decide) ?_
        refine lv_istore (lv' := [(5, .int 0), (4, .int (nI js)), (0, .ref mo), (1, .int (nI ra)), (2, .int (nI rb)), (3, .int (nI js))]) hx hb dX12_fates_34 hl (by decide) rfl (fun ls hl => ?_)
        have lp14 : ∀ (n12 : Nat) (k : Nat) (f : Nat → Int32) (fp : Nat → Int32) (g1 : Nat → Int32) (g2 : Nat → Int32) (g3 : Nat → Int32) (H : Heap) (locs : List Loc) (ls : Array Slot), 17 - k < n12 → (k ≤ 16) → (DS ra rb js k) → (CM ra rb js k f) → va_P g vwCl [((m_a 26), .inl (cI, 2, .inl g1)), ((m_a 27), .inl (cZ, 2, .inl g2)), ((m_a 34), .inl (cZ, 2, .inl g3)), ((m_a 38), .inl (cI, 16, .inl f)), ((m_a 39), .inl (cI, 17, .inl fp)), (mo, .inr (11, mG m_a m_thrown m_taped m_at m_token m_place m_value m_word m_bad m_badPlace m_fault m_faultPlace (-1) m_will m_forgot 0 m_x vb vr vc vf m_any m_bothSend m_meanCards m_bestSum m_fitMany m_fitFirst m_fitSecond)), ((m_a 23), .inl (cI, 2, .inl u_h14)), ((m_a 24), .inl (cZ, 2, .inl u_h25)), ((m_a 25), .inl (cZ, 2, .inl u_h36))] H → va_D A [((m_a 26), .inl (cI, 2, .inl g1)), ((m_a 27), .inl (cZ, 2, .inl g2)), ((m_a 34), .inl (cZ, 2, .inl g3)), ((m_a 38), .inl (cI, 16, .inl f)), ((m_a 39), .inl (cI, 17, .inl fp)), (mo, .inr (11, mG m_a m_thrown m_taped m_at m_token m_place m_value m_word m_bad m_badPlace m_fault m_faultPlace (-1) m_will m_forgot 0 m_x vb vr vc vf m_any m_bothSend m_meanCards m_bestSum m_fitMany m_fitFirst m_fitSecond)), ((m_a 23), .inl (cI, 2, .inl u_h14)), ((m_a 24), .inl (cZ, 2, .inl u_h25)), ((m_a 25), .inl (cZ, 2, .inl u_h36))] → va_S A s.heap H locs → lv_has ls 7 [(0, .ref mo), (4, .int (nI (pt ra rb js k))), (5, .int (nI k))] → W p l e (headSpec v_fX12_fates ({ frames := 3, cells := 0, slots := 0, locals := 68 })).room s m ([.ref mo, .int (nI ra), .int (nI rb), .int (nI js)] : List Value).toArray below meth c H locs 0 0 (MQ below (va_Qv (fun (u : (Nat → Int32) × (Nat → Int32) × (Nat → Int32) × (Nat → Int32) × (Nat → Int32) × (Nat → Int32) × (Nat → Int32) × (Nat → Int32) × Int32 × Int32 × Int32 × Int32) => match u with | (h1, h2, h3, h4, h5, h6, h7, h8, wb, wr, wc, wf) => wb = nI (fJ ra rb js) ∧ wr = nI (fL ra rb js) ∧ wc = nI (fC ra rb js) ∧ wf = nI (fK ra rb js)) (fun (u : (Nat → Int32) × (Nat → Int32) × (Nat → Int32) × (Nat → Int32) × (Nat → Int32) × (Nat → Int32) × (Nat → Int32) × (Nat → Int32) × Int32 × Int32 × Int32 × Int32) (t : State) => bRW g (tyT cI cJ cB cZ cL) A (match u with | (h1, h2, h3, h4, h5, h6, h7, h8, wb, wr, wc, wf) => [(mo, .inr (11, mG m_a m_thrown m_taped m_at m_token m_place m_value m_word m_bad m_badPlace m_fault m_faultPlace (-1) m_will m_forgot 0 m_x wb wr wc wf m_any m_bothSend m_meanCards m_bestSum m_fitMany m_fitFirst m_fitSecond)), ((m_a 23), .inl (cI, 2, .inl h1)), ((m_a 24), .inl (cZ, 2, .inl h2)), ((m_a 25), .inl (cZ, 2, .inl h3)), ((m_a 26), .inl (cI, 2, .inl h4)), ((m_a 27), .inl (cZ, 2, .inl h5)), ((m_a 34), .inl (cZ, 2, .inl h6)), ((m_a 38), .inl (cI, 16, .inl h7)), ((m_a 39), .inl (cI, 17, .inl h8))]) t) A) ([.ref mo, .int (nI ra), .int (nI rb), .int (nI js)] : List Value).toArray s 0 0 A) (F0 m 36 ls []) := by
          intro n12
          induction n12 with
          | zero => exact fun k f fp g1 g2 g3 H locs ls hn => absurd hn (Nat.not_lt_zero _)
          | succ n12 ih13 =>
            intro k f fp g1 g2 g3 H locs ls hn hk hds hcm hP hD hS hl
            have hpt := pt_lt (a := ra) (b := rb) hjs k
            refine lv_aload_n hx hb dX12_fates_36 rfl (lv_at hl 0 rfl) ?_
            refine va_get (D := g) (ci := 11) (v := .ref (m_a 38)) (C := RX12) (T := TX12) (N := 56) hx hb hts iX12 hown hK hP 5 rfl rfl 38 (by decide) (hts (.fieldLink RX12 86 "CardsAtYuleModel" "came" "[I") (List.mem_cons_of_mem _ (List.mem_append_left _ (List.mem_of_getElem? (i := 4) rfl)))) (fun _ h9 => h9) rfl dX12_fates_37 ?_
            refine lv_iload hx hb dX12_fates_40 (lv_at hl 1 rfl) ?_
            refine va_iald (D := g) hx hb hK hP 3 0 rfl rfl (vp_in_nI (n := pt ra rb js k) (by omega) (by decide)) dX12_fates_42 ?_
            rcases hcm _ hpt with ⟨j, hj, hpj, hfj⟩ | ⟨hno, hfm⟩
            · refine lv_topi (nm_r (e' := nI j) (by rw [nI_clamp (n := pt ra rb js k) (by omega)]; exact hfj) ?_)
              refine lv_iconst (v := (-1)) hx hb dX12_fates_43 (by decide) ?_
              refine lv_icmp_ne (tgt := 79) hx hb dX12_fates_44 (by decide) (fun c15 => ?_) (fun c15 => by exfalso; have f16 := (show (j : Int) = (-1) from z_eq (nI_toInt (n := j) (by omega)) rfl c15); omega)
              have f16 := (show (j : Int) ≠ (-1) from z_ne (nI_toInt (n := j) (by omega)) rfl c15)
              refine lv_aload_n hx hb dX12_fates_79 rfl (lv_at hl 0 rfl) ?_
              refine lv_aload_n hx hb dX12_fates_80 rfl (lv_at hl 0 rfl) ?_
              refine va_get (D := g) (ci := 11) (v := .ref (m_a 38)) (C := RX12) (T := TX12) (N := 56) hx hb hts iX12 hown hK hP 5 rfl rfl 38 (by decide) (hts (.fieldLink RX12 86 "CardsAtYuleModel" "came" "[I") (List.mem_cons_of_mem _ (List.mem_append_left _ (List.mem_of_getElem? (i := 4) rfl)))) (fun _ h9 => h9) rfl dX12_fates_81 ?_
              refine lv_iload hx hb dX12_fates_84 (lv_at hl 1 rfl) ?_
              refine va_iald (D := g) hx hb hK hP 3 0 rfl rfl (vp_in_nI (n := pt ra rb js k) (by omega) (by decide)) dX12_fates_86 ?_
              obtain ⟨j2, hj2, hpj2, hfj2⟩ : ∃ j2, j2 < k ∧ pt ra rb js j2 = pt ra rb js k ∧ f (pt ra rb js k) = nI j2 := by
                rcases hcm _ hpt with h | ⟨h, -⟩
                · exact h
                · exfalso
                  first | exact h _ hj hpj | (have hr9 := DS_room hjs hds h; omega)
              refine lv_topi (nm_r (e' := nI j2) (by rw [nI_clamp (n := pt ra rb js k) (by omega)]; exact hfj2) ?_)
              refine va_put (D := g) (ci := 11) (v := .int (nI j2)) (ty := .int) (C := RX12) (T := TX12) (N := 56) hx hb hts iX12 tyX12 tyX12_ok nmX12 hown hK hP hD hS 5 rfl rfl 40 (by decide) (hts (.fieldLink RX12 385 "CardsAtYuleModel" "begin" "I") (List.mem_cons_of_mem _ (List.mem_append_left _ (List.mem_of_getElem? (i := 5) rfl)))) (fun _ h9 => h9) rfl (by decide +kernel) rfl rfl (Nat.le_of_ble_eq_true rfl) dX12_fates_87 (fun H locs hP hD hS => ?_)
              have hP : va_P g vwCl [((m_a 26), .inl (cI, 2, .inl g1)), ((m_a 27), .inl (cZ, 2, .inl g2)), ((m_a 34), .inl (cZ, 2, .inl g3)), ((m_a 38), .inl (cI, 16, .inl f)), ((m_a 39), .inl (cI, 17, .inl fp)), (mo, .inr (11, mG m_a m_thrown m_taped m_at m_token m_place m_value m_word m_bad m_badPlace m_fault m_faultPlace (-1) m_will m_forgot 0 m_x (nI j2) vr vc vf m_any m_bothSend m_meanCards m_bestSum m_fitMany m_fitFirst m_fitSecond)), ((m_a 23), .inl (cI, 2, .inl u_h14)), ((m_a 24), .inl (cZ, 2, .inl u_h25)), ((m_a 25), .inl (cZ, 2, .inl u_h36))] H := hP
              have hD : va_D A [((m_a 26), .inl (cI, 2, .inl g1)), ((m_a 27), .inl (cZ, 2, .inl g2)), ((m_a 34), .inl (cZ, 2, .inl g3)), ((m_a 38), .inl (cI, 16, .inl f)), ((m_a 39), .inl (cI, 17, .inl fp)), (mo, .inr (11, mG m_a m_thrown m_taped m_at m_token m_place m_value m_word m_bad m_badPlace m_fault m_faultPlace (-1) m_will m_forgot 0 m_x (nI j2) vr vc vf m_any m_bothSend m_meanCards m_bestSum m_fitMany m_fitFirst m_fitSecond)), ((m_a 23), .inl (cI, 2, .inl u_h14)), ((m_a 24), .inl (cZ, 2, .inl u_h25)), ((m_a 25), .inl (cZ, 2, .inl u_h36))] := hD
              refine lv_aload_n hx hb dX12_fates_90 rfl (lv_at hl 0 rfl) ?_
              refine lv_iload hx hb dX12_fates_91 (lv_at hl 2 rfl) ?_
              refine lv_aload_n hx hb dX12_fates_93 rfl (lv_at hl 0 rfl) ?_
              refine va_get (D := g) (ci := 11) (v := .int (nI j2)) (C := RX12) (T := TX12) (N := 56) hx hb hts iX12 hown hK hP 5 rfl rfl 40 (by decide) (hts (.fieldLink RX12 385 "CardsAtYuleModel" "begin" "I") (List.mem_cons_of_mem _ (List.mem_append_left _ (List.mem_of_getElem? (i := 5) rfl)))) (fun _ h9 => h9) rfl dX12_fates_94 ?_
              refine lv_isub hx hb dX12_fates_97 ?_
              refine lv_topi (nm_r (e' := (nI (k - j2))) (pk_sub (a := k) (b := j2) (by omega)) ?_)
              refine va_put (D := g) (ci := 11) (v := .int (nI (k - j2))) (ty := .int) (C := RX12) (T := TX12) (N := 56) hx hb hts iX12 tyX12 tyX12_ok nmX12 hown hK hP hD hS 5 rfl rfl 41 (by decide) (hts (.fieldLink RX12 388 "CardsAtYuleModel" "round" "I") (List.mem_cons_of_mem _ (List.mem_append_left _ (List.mem_of_getElem? (i := 6) rfl)))) (fun _ h9 => h9) rfl (by decide +kernel) rfl rfl (Nat.le_of_ble_eq_true rfl) dX12_fates_98 (fun H locs hP hD hS => ?_)
              have hP : va_P g vwCl [((m_a 26), .inl (cI, 2, .inl g1)), ((m_a 27), .inl (cZ, 2, .inl g2)), ((m_a 34), .inl (cZ, 2, .inl g3)), ((m_a 38), .inl (cI, 16, .inl f)), ((m_a 39), .inl (cI, 17, .inl fp)), (mo, .inr (11, mG m_a m_thrown m_taped m_at m_token m_place m_value m_word m_bad m_badPlace m_fault m_faultPlace (-1) m_will m_forgot 0 m_x (nI j2) (nI (k - j2)) vc vf m_any m_bothSend m_meanCards m_bestSum m_fitMany m_fitFirst m_fitSecond)), ((m_a 23), .inl (cI, 2, .inl u_h14)), ((m_a 24), .inl (cZ, 2, .inl u_h25)), ((m_a 25), .inl (cZ, 2, .inl u_h36))] H := hP
              have hD : va_D A [((m_a 26), .inl (cI, 2, .inl g1)), ((m_a 27), .inl (cZ, 2, .inl g2)), ((m_a 34), .inl (cZ, 2, .inl g3)), ((m_a 38), .inl (cI, 16, .inl f)), ((m_a 39), .inl (cI, 17, .inl fp)), (mo, .inr (11, mG m_a m_thrown m_taped m_at m_token m_place m_value m_word m_bad m_badPlace m_fault m_faultPlace (-1) m_will m_forgot 0 m_x (nI j2) (nI (k - j2)) vc vf m_any m_bothSend m_meanCards m_bestSum m_fitMany m_fitFirst m_fitSecond)), ((m_a 23), .inl (cI, 2, .inl u_h14)), ((m_a 24), .inl (cZ, 2, .inl u_h25)), ((m_a 25), .inl (cZ, 2, .inl u_h36))] := hD
              refine lv_aload_n hx hb dX12_fates_101 rfl (lv_at hl 0 rfl) ?_
              refine lv_iconst (v := 0) hx hb dX12_fates_102 (by decide) ?_
              refine va_put (D := g) (ci := 11) (v := .int 0) (ty := .int) (C := RX12) (T := TX12) (N := 56) hx hb hts iX12 tyX12 tyX12_ok nmX12 hown hK hP hD hS 5 rfl rfl 42 (by decide) (hts (.fieldLink RX12 391 "CardsAtYuleModel" "roundCards" "I") (List.mem_cons_of_mem _ (List.mem_append_left _ (List.mem_of_getElem? (i := 7) rfl)))) (fun _ h9 => h9) rfl (by decide +kernel) rfl rfl (Nat.le_of_ble_eq_true rfl) dX12_fates_103 (fun H locs hP hD hS => ?_)
              have hP : va_P g vwCl [((m_a 26), .inl (cI, 2, .inl g1)), ((m_a 27), .inl (cZ, 2, .inl g2)), ((m_a 34), .inl (cZ, 2, .inl g3)), ((m_a 38), .inl (cI, 16, .inl f)), ((m_a 39), .inl (cI, 17, .inl fp)), (mo, .inr (11, mG m_a m_thrown m_taped m_at m_token m_place m_value m_word m_bad m_badPlace m_fault m_faultPlace (-1) m_will m_forgot 0 m_x (nI j2) (nI (k - j2)) 0 vf m_any m_bothSend m_meanCards m_bestSum m_fitMany m_fitFirst m_fitSecond)), ((m_a 23), .inl (cI, 2, .inl u_h14)), ((m_a 24), .inl (cZ, 2, .inl u_h25)), ((m_a 25), .inl (cZ, 2, .inl u_h36))] H := hP
              have hD : va_D A [((m_a 26), .inl (cI, 2, .inl g1)), ((m_a 27), .inl (cZ, 2, .inl g2)), ((m_a 34), .inl (cZ, 2, .inl g3)), ((m_a 38), .inl (cI, 16, .inl f)), ((m_a 39), .inl (cI, 17, .inl fp)), (mo, .inr (11, mG m_a m_thrown m_taped m_at m_token m_place m_value m_word m_bad m_badPlace m_fault m_faultPlace (-1) m_will m_forgot 0 m_x (nI j2) (nI (k - j2)) 0 vf m_any m_bothSend m_meanCards m_bestSum m_fitMany m_fitFirst m_fitSecond)), ((m_a 23), .inl (cI, 2, .inl u_h14)), ((m_a 24), .inl (cZ, 2, .inl u_h25)), ((m_a 25), .inl (cZ, 2, .inl u_h36))] := hD
              refine lv_iconst (v := 0) hx hb dX12_fates_106 (by decide) ?_
              refine lv_istore (lv' := [(6, .int 0), (0, .ref mo), (4, .int (nI (pt ra rb js k))), (5, .int (nI k))]) hx hb dX12_fates_107 hl (by decide) rfl (fun ls hl => ?_)
              have lp19 : ∀ (n17 : Nat) (i : Nat) (g1 : Nat → Int32) (g2 : Nat → Int32) (g3 : Nat → Int32) (H : Heap) (locs : List Loc) (ls : Array Slot), (k - j2) - i < n17 → (i ≤ k - j2) → va_P g vwCl [((m_a 26), .inl (cI, 2, .inl g1)), ((m_a 27), .inl (cZ, 2, .inl g2)), ((m_a 34), .inl (cZ, 2, .inl g3)), ((m_a 38), .inl (cI, 16, .inl f)), ((m_a 39), .inl (cI, 17, .inl fp)), (mo, .inr (11, mG m_a m_thrown m_taped m_at m_token m_place m_value m_word m_bad m_badPlace m_fault m_faultPlace (-1) m_will m_forgot 0 m_x (nI j2) (nI (k - j2)) (nI (sm (fun t => sc ra rb (pt ra rb js (k + t))) i)) vf m_any m_bothSend m_meanCards m_bestSum m_fitMany m_fitFirst m_fitSecond)), ((m_a 23), .inl (cI, 2, .inl u_h14)), ((m_a 24), .inl (cZ, 2, .inl u_h25)), ((m_a 25), .inl (cZ, 2, .inl u_h36))] H → va_D A [((m_a 26), .inl (cI, 2, .inl g1)), ((m_a 27), .inl (cZ, 2, .inl g2)), ((m_a 34), .inl (cZ, 2, .inl g3)), ((m_a 38), .inl (cI, 16, .inl f)), ((m_a 39), .inl (cI, 17, .inl fp)), (mo, .inr (11, mG m_a m_thrown m_taped m_at m_token m_place m_value m_word m_bad m_badPlace m_fault m_faultPlace (-1) m_will m_forgot 0 m_x (nI j2) (nI (k - j2)) (nI (sm (fun t => sc ra rb (pt ra rb js (k + t))) i)) vf m_any m_bothSend m_meanCards m_bestSum m_fitMany m_fitFirst m_fitSecond)), ((m_a 23), .inl (cI, 2, .inl u_h14)), ((m_a 24), .inl (cZ, 2, .inl u_h25)), ((m_a 25), .inl (cZ, 2, .inl u_h36))] → va_S A s.heap H locs → lv_has ls 7 [(0, .ref mo), (4, .int (nI (pt ra rb js (k + i)))), (6, .int (nI i))] → W p l e (headSpec v_fX12_fates ({ frames := 3, cells := 0, slots := 0, locals := 68 })).room s m ([.ref mo, .int (nI ra), .int (nI rb), .int (nI js)] : List Value).toArray below meth c H locs 0 0 (MQ below (va_Qv (fun (u : (Nat → Int32) × (Nat → Int32) × (Nat → Int32) × (Nat → Int32) × (Nat → Int32) × (Nat → Int32) × (Nat → Int32) × (Nat → Int32) × Int32 × Int32 × Int32 × Int32) => match u with | (h1, h2, h3, h4, h5, h6, h7, h8, wb, wr, wc, wf) => wb = nI (fJ ra rb js) ∧ wr = nI (fL ra rb js) ∧ wc = nI (fC ra rb js) ∧ wf = nI (fK ra rb js)) (fun (u : (Nat → Int32) × (Nat → Int32) × (Nat → Int32) × (Nat → Int32) × (Nat → Int32) × (Nat → Int32) × (Nat → Int32) × (Nat → Int32) × Int32 × Int32 × Int32 × Int32) (t : State) => bRW g (tyT cI cJ cB cZ cL) A (match u with | (h1, h2, h3, h4, h5, h6, h7, h8, wb, wr, wc, wf) => [(mo, .inr (11, mG m_a m_thrown m_taped m_at m_token m_place m_value m_word m_bad m_badPlace m_fault m_faultPlace (-1) m_will m_forgot 0 m_x wb wr wc wf m_any m_bothSend m_meanCards m_bestSum m_fitMany m_fitFirst m_fitSecond)), ((m_a 23), .inl (cI, 2, .inl h1)), ((m_a 24), .inl (cZ, 2, .inl h2)), ((m_a 25), .inl (cZ, 2, .inl h3)), ((m_a 26), .inl (cI, 2, .inl h4)), ((m_a 27), .inl (cZ, 2, .inl h5)), ((m_a 34), .inl (cZ, 2, .inl h6)), ((m_a 38), .inl (cI, 16, .inl h7)), ((m_a 39), .inl (cI, 17, .inl h8))]) t) A) ([.ref mo, .int (nI ra), .int (nI rb), .int (nI js)] : List Value).toArray s 0 0 A) (F0 m 109 ls []) := by
                intro n17
                induction n17 with
                | zero => exact fun i g1 g2 g3 H locs ls hn => absurd hn (Nat.not_lt_zero _)
                | succ n17 ih18 =>
                  intro i g1 g2 g3 H locs ls hn hi hP hD hS hl
                  have hsm := sm_le (f := (fun t => sc ra rb (pt ra rb js (k + t)))) (c := 2) (fun q => sc_le _ _ _) i
                  have hpi := pt_lt (a := ra) (b := rb) hjs (k + i)
                  refine lv_iload hx hb dX12_fates_109 (lv_at hl 2 rfl) ?_
                  refine lv_aload_n hx hb dX12_fates_111 rfl (lv_at hl 0 rfl) ?_
                  refine va_get (D := g) (ci := 11) (v := .int (nI (k - j2))) (C := RX12) (T := TX12) (N := 56) hx hb hts iX12 hown hK hP 5 rfl rfl 41 (by decide) (hts (.fieldLink RX12 388 "CardsAtYuleModel" "round" "I") (List.mem_cons_of_mem _ (List.mem_append_left _ (List.mem_of_getElem? (i := 6) rfl)))) (fun _ h9 => h9) rfl dX12_fates_112 ?_
                  refine lv_icmp_ge (tgt := 145) hx hb dX12_fates_115 (by decide) (fun c20 => ?_) (fun c20 => ?_)
                  · have f21 := (show ((k - j2 : Nat) : Int) ≤ (i : Int) from z_le (nI_toInt (n := k - j2) (by omega)) (nI_toInt (n := i) (by omega)) c20)
                    refine lv_aload_n hx hb dX12_fates_145 rfl (lv_at hl 0 rfl) ?_
                    refine lv_aload_n hx hb dX12_fates_146 rfl (lv_at hl 0 rfl) ?_
                    refine va_get (D := g) (ci := 11) (v := .int (nI (sm (fun t => sc ra rb (pt ra rb js (k + t))) i))) (C := RX12) (T := TX12) (N := 56) hx hb hts iX12 hown hK hP 5 rfl rfl 42 (by decide) (hts (.fieldLink RX12 391 "CardsAtYuleModel" "roundCards" "I") (List.mem_cons_of_mem _ (List.mem_append_left _ (List.mem_of_getElem? (i := 7) rfl)))) (fun _ h9 => h9) rfl dX12_fates_147 ?_
                    refine lv_if_ne (tgt := 157) hx hb dX12_fates_150 (by decide) (fun c22 => ?_) (fun c22 => ?_)
                    · have f23 := (show ((sm (fun t => sc ra rb (pt ra rb js (k + t))) i : Nat) : Int) ≠ 0 from z_ne (nI_toInt (n := sm (fun t => sc ra rb (pt ra rb js (k + t))) i) (by omega)) rfl c22)
                      refine lv_aload_n hx hb dX12_fates_157 rfl (lv_at hl 0 rfl) ?_
                      refine va_get (D := g) (ci := 11) (v := .int (nI (sm (fun t => sc ra rb (pt ra rb js (k + t))) i))) (C := RX12) (T := TX12) (N := 56) hx hb hts iX12 hown hK hP 5 rfl rfl 42 (by decide) (hts (.fieldLink RX12 391 "CardsAtYuleModel" "roundCards" "I") (List.mem_cons_of_mem _ (List.mem_append_left _ (List.mem_of_getElem? (i := 7) rfl)))) (fun _ h9 => h9) rfl dX12_fates_158 ?_
                      refine lv_iconst (v := 2) hx hb dX12_fates_161 (by decide) ?_
                      refine lv_aload_n hx hb dX12_fates_162 rfl (lv_at hl 0 rfl) ?_
                      refine va_get (D := g) (ci := 11) (v := .int (nI (k - j2))) (C := RX12) (T := TX12) (N := 56) hx hb hts iX12 hown hK hP 5 rfl rfl 41 (by decide) (hts (.fieldLink RX12 388 "CardsAtYuleModel" "round" "I") (List.mem_cons_of_mem _ (List.mem_append_left _ (List.mem_of_getElem? (i := 6) rfl)))) (fun _ h9 => h9) rfl dX12_fates_163 ?_
                      refine lv_imul hx hb dX12_fates_166 ?_
                      refine lv_topi (nm_r (e' := (nI (2 * (k - j2)))) (pk_mul 2 (k - j2)) ?_)
                      refine lv_icmp_ne (tgt := 174) hx hb dX12_fates_167 (by decide) (fun c24 => ?_) (fun c24 => ?_)
                      · have f25 := (show ((sm (fun t => sc ra rb (pt ra rb js (k + t))) i : Nat) : Int) ≠ ((2 * (k - j2) : Nat) : Int) from z_ne (nI_toInt (n := sm (fun t => sc ra rb (pt ra rb js (k + t))) i) (by omega)) (nI_toInt (n := 2 * (k - j2)) (by omega)) c24)
                        refine lv_iconst (v := 2) hx hb dX12_fates_174 (by decide) ?_
                        refine va_put (D := g) (ci := 11) (v := .int 2) (ty := .int) (C := RX12) (T := TX12) (N := 56) hx hb hts iX12 tyX12 tyX12_ok nmX12 hown hK hP hD hS 5 rfl rfl 43 (by decide) (hts (.fieldLink RX12 397 "CardsAtYuleModel" "fate" "I") (List.mem_cons_of_mem _ (List.mem_append_left _ (List.mem_of_getElem? (i := 8) rfl)))) (fun _ h9 => h9) rfl (by decide +kernel) rfl rfl (Nat.le_of_ble_eq_true rfl) dX12_fates_175 (fun H locs hP hD hS => ?_)
                        have hP : va_P g vwCl [((m_a 26), .inl (cI, 2, .inl g1)), ((m_a 27), .inl (cZ, 2, .inl g2)), ((m_a 34), .inl (cZ, 2, .inl g3)), ((m_a 38), .inl (cI, 16, .inl f)), ((m_a 39), .inl (cI, 17, .inl fp)), (mo, .inr (11, mG m_a m_thrown m_taped m_at m_token m_place m_value m_word m_bad m_badPlace m_fault m_faultPlace (-1) m_will m_forgot 0 m_x (nI j2) (nI (k - j2)) (nI (sm (fun t => sc ra rb (pt ra rb js (k + t))) i)) 2 m_any m_bothSend m_meanCards m_bestSum m_fitMany m_fitFirst m_fitSecond)), ((m_a 23), .inl (cI, 2, .inl u_h14)), ((m_a 24), .inl (cZ, 2, .inl u_h25)), ((m_a 25), .inl (cZ, 2, .inl u_h36))] H := hP
                        have hD : va_D A [((m_a 26), .inl (cI, 2, .inl g1)), ((m_a 27), .inl (cZ, 2, .inl g2)), ((m_a 34), .inl (cZ, 2, .inl g3)), ((m_a 38), .inl (cI, 16, .inl f)), ((m_a 39), .inl (cI, 17, .inl fp)), (mo, .inr (11, mG m_a m_thrown m_taped m_at m_token m_place m_value m_word m_bad m_badPlace m_fault m_faultPlace (-1) m_will m_forgot 0 m_x (nI j2) (nI (k - j2)) (nI (sm (fun t => sc ra rb (pt ra rb js (k + t))) i)) 2 m_any m_bothSend m_meanCards m_bestSum m_fitMany m_fitFirst m_fitSecond)), ((m_a 23), .inl (cI, 2, .inl u_h14)), ((m_a 24), .inl (cZ, 2, .inl u_h25)), ((m_a 25), .inl (cZ, 2, .inl u_h36))] := hD
                        have hFK : fK ra rb js = kd (sm (fun t => sc ra rb (pt ra rb js (k + t))) i) (k - j2) := by unfold fK; rw [fC_eq (⟨hj2, hpj2, hds⟩ : FT ra rb js j2 k), fL_eq (⟨hj2, hpj2, hds⟩ : FT ra rb js j2 k), show i = k - j2 from by omega]
                        have hP9 := hP.sub (ws' := [(mo, .inr (11, mG m_a m_thrown m_taped m_at m_token m_place m_value m_word m_bad m_badPlace m_fault m_faultPlace (-1) m_will m_forgot 0 m_x (nI j2) (nI (k - j2)) (nI (sm (fun t => sc ra rb (pt ra rb js (k + t))) i)) 2 m_any m_bothSend m_meanCards m_bestSum m_fitMany m_fitFirst m_fitSecond)), ((m_a 23), .inl (cI, 2, .inl u_h14)), ((m_a 24), .inl (cZ, 2, .inl u_h25)), ((m_a 25), .inl (cZ, 2, .inl u_h36)), ((m_a 26), .inl (cI, 2, .inl g1)), ((m_a 27), .inl (cZ, 2, .inl g2)), ((m_a 34), .inl (cZ, 2, .inl g3)), ((m_a 38), .inl (cI, 16, .inl f)), ((m_a 39), .inl (cI, 17, .inl fp))]) [5, 6, 7, 8, 0, 1, 2, 3, 4] rfl
                        have hD9 := hD.sub (ws' := [(mo, .inr (11, mG m_a m_thrown m_taped m_at m_token m_place m_value m_word m_bad m_badPlace m_fault m_faultPlace (-1) m_will m_forgot 0 m_x (nI j2) (nI (k - j2)) (nI (sm (fun t => sc ra rb (pt ra rb js (k + t))) i)) 2 m_any m_bothSend m_meanCards m_bestSum m_fitMany m_fitFirst m_fitSecond)), ((m_a 23), .inl (cI, 2, .inl u_h14)), ((m_a 24), .inl (cZ, 2, .inl u_h25)), ((m_a 25), .inl (cZ, 2, .inl u_h36)), ((m_a 26), .inl (cI, 2, .inl g1)), ((m_a 27), .inl (cZ, 2, .inl g2)), ((m_a 34), .inl (cZ, 2, .inl g3)), ((m_a 38), .inl (cI, 16, .inl f)), ((m_a 39), .inl (cI, 17, .inl fp))]) [5, 6, 7, 8, 0, 1, 2, 3, 4] (by decide) rfl
                        exact W.vret hx hb hr (fun t ht hW => ⟨⟨(u_h14, u_h25, u_h36, g1, g2, g3, f, fp, (nI j2), (nI (k - j2)), (nI (sm (fun t => sc ra rb (pt ra rb js (k + t))) i)), 2), rfl, ⟨congrArg nI (fP_eq (⟨hj2, hpj2, hds⟩ : FT ra rb js j2 k)).1.symm, congrArg nI (fL_eq (⟨hj2, hpj2, hds⟩ : FT ra rb js j2 k)).symm, congrArg nI (by rw [fC_eq (⟨hj2, hpj2, hds⟩ : FT ra rb js j2 k), show i = k - j2 from by omega]), by rw [hFK]; exact kd_2 (by omega) (by omega)⟩, by rw [ht]; exact hP9, va_K.moved hW.alike hK, hD9⟩, hS.F ht⟩) hS.2.2 dX12_fates_178
                      · have f25 := (show ((sm (fun t => sc ra rb (pt ra rb js (k + t))) i : Nat) : Int) = ((2 * (k - j2) : Nat) : Int) from z_eq (nI_toInt (n := sm (fun t => sc ra rb (pt ra rb js (k + t))) i) (by omega)) (nI_toInt (n := 2 * (k - j2)) (by omega)) c24)
                        refine lv_iconst (v := 1) hx hb dX12_fates_170 (by decide) ?_
                        refine lv_goto (tgt := 175) hx hb dX12_fates_171 (by decide) ?_
                        refine va_put (D := g) (ci := 11) (v := .int 1) (ty := .int) (C := RX12) (T := TX12) (N := 56) hx hb hts iX12 tyX12 tyX12_ok nmX12 hown hK hP hD hS 5 rfl rfl 43 (by decide) (hts (.fieldLink RX12 397 "CardsAtYuleModel" "fate" "I") (List.mem_cons_of_mem _ (List.mem_append_left _ (List.mem_of_getElem? (i := 8) rfl)))) (fun _ h9 => h9) rfl (by decide +kernel) rfl rfl (Nat.le_of_ble_eq_true rfl) dX12_fates_175 (fun H locs hP hD hS => ?_)
                        have hP : va_P g vwCl [((m_a 26), .inl (cI, 2, .inl g1)), ((m_a 27), .inl (cZ, 2, .inl g2)), ((m_a 34), .inl (cZ, 2, .inl g3)), ((m_a 38), .inl (cI, 16, .inl f)), ((m_a 39), .inl (cI, 17, .inl fp)), (mo, .inr (11, mG m_a m_thrown m_taped m_at m_token m_place m_value m_word m_bad m_badPlace m_fault m_faultPlace (-1) m_will m_forgot 0 m_x (nI j2) (nI (k - j2)) (nI (sm (fun t => sc ra rb (pt ra rb js (k + t))) i)) 1 m_any m_bothSend m_meanCards m_bestSum m_fitMany m_fitFirst m_fitSecond)), ((m_a 23), .inl (cI, 2, .inl u_h14)), ((m_a 24), .inl (cZ, 2, .inl u_h25)), ((m_a 25), .inl (cZ, 2, .inl u_h36))] H := hP
                        have hD : va_D A [((m_a 26), .inl (cI, 2, .inl g1)), ((m_a 27), .inl (cZ, 2, .inl g2)), ((m_a 34), .inl (cZ, 2, .inl g3)), ((m_a 38), .inl (cI, 16, .inl f)), ((m_a 39), .inl (cI, 17, .inl fp)), (mo, .inr (11, mG m_a m_thrown m_taped m_at m_token m_place m_value m_word m_bad m_badPlace m_fault m_faultPlace (-1) m_will m_forgot 0 m_x (nI j2) (nI (k - j2)) (nI (sm (fun t => sc ra rb (pt ra rb js (k + t))) i)) 1 m_any m_bothSend m_meanCards m_bestSum m_fitMany m_fitFirst m_fitSecond)), ((m_a 23), .inl (cI, 2, .inl u_h14)), ((m_a 24), .inl (cZ, 2, .inl u_h25)), ((m_a 25), .inl (cZ, 2, .inl u_h36))] := hD
                        have hFK : fK ra rb js = kd (sm (fun t => sc ra rb (pt ra rb js (k + t))) i) (k - j2) := by unfold fK; rw [fC_eq (⟨hj2, hpj2, hds⟩ : FT ra rb js j2 k), fL_eq (⟨hj2, hpj2, hds⟩ : FT ra rb js j2 k), show i = k - j2 from by omega]
                        have hP9 := hP.sub (ws' := [(mo, .inr (11, mG m_a m_thrown m_taped m_at m_token m_place m_value m_word m_bad m_badPlace m_fault m_faultPlace (-1) m_will m_forgot 0 m_x (nI j2) (nI (k - j2)) (nI (sm (fun t => sc ra rb (pt ra rb js (k + t))) i)) 1 m_any m_bothSend m_meanCards m_bestSum m_fitMany m_fitFirst m_fitSecond)), ((m_a 23), .inl (cI, 2, .inl u_h14)), ((m_a 24), .inl (cZ, 2, .inl u_h25)), ((m_a 25), .inl (cZ, 2, .inl u_h36)), ((m_a 26), .inl (cI, 2, .inl g1)), ((m_a 27), .inl (cZ, 2, .inl g2)), ((m_a 34), .inl (cZ, 2, .inl g3)), ((m_a 38), .inl (cI, 16, .inl f)), ((m_a 39), .inl (cI, 17, .inl fp))]) [5, 6, 7, 8, 0, 1, 2, 3, 4] rfl
                        have hD9 := hD.sub (ws' := [(mo, .inr (11, mG m_a m_thrown m_taped m_at m_token m_place m_value m_word m_bad m_badPlace m_fault m_faultPlace (-1) m_will m_forgot 0 m_x (nI j2) (nI (k - j2)) (nI (sm (fun t => sc ra rb (pt ra rb js (k + t))) i)) 1 m_any m_bothSend m_meanCards m_bestSum m_fitMany m_fitFirst m_fitSecond)), ((m_a 23), .inl (cI, 2, .inl u_h14)), ((m_a 24), .inl (cZ, 2, .inl u_h25)), ((m_a 25), .inl (cZ, 2, .inl u_h36)), ((m_a 26), .inl (cI, 2, .inl g1)), ((m_a 27), .inl (cZ, 2, .inl g2)), ((m_a 34), .inl (cZ, 2, .inl g3)), ((m_a 38), .inl (cI, 16, .inl f)), ((m_a 39), .inl (cI, 17, .inl fp))]) [5, 6, 7, 8, 0, 1, 2, 3, 4] (by decide) rfl
                        exact W.vret hx hb hr (fun t ht hW => ⟨⟨(u_h14, u_h25, u_h36, g1, g2, g3, f, fp, (nI j2), (nI (k - j2)), (nI (sm (fun t => sc ra rb (pt ra rb js (k + t))) i)), 1), rfl, ⟨congrArg nI (fP_eq (⟨hj2, hpj2, hds⟩ : FT ra rb js j2 k)).1.symm, congrArg nI (fL_eq (⟨hj2, hpj2, hds⟩ : FT ra rb js j2 k)).symm, congrArg nI (by rw [fC_eq (⟨hj2, hpj2, hds⟩ : FT ra rb js j2 k), show i = k - j2 from by omega]), by rw [hFK]; exact kd_1 (by omega) (by omega)⟩, by rw [ht]; exact hP9, va_K.moved hW.alike hK, hD9⟩, hS.F ht⟩) hS.2.2 dX12_fates_178
                    · have f23 := (show ((sm (fun t => sc ra rb (pt ra rb js (k + t))) i : Nat) : Int) = 0 from z_eq (nI_toInt (n := sm (fun t => sc ra rb (pt ra rb js (k + t))) i) (by omega)) rfl c22)
                      refine lv_iconst (v := 0) hx hb dX12_fates_153 (by decide) ?_
                      refine lv_goto (tgt := 175) hx hb dX12_fates_154 (by decide) ?_
                      refine va_put (D := g) (ci := 11) (v := .int 0) (ty := .int) (C := RX12) (T := TX12) (N := 56) hx hb hts iX12 tyX12 tyX12_ok nmX12 hown hK hP hD hS 5 rfl rfl 43 (by decide) (hts (.fieldLink RX12 397 "CardsAtYuleModel" "fate" "I") (List.mem_cons_of_mem _ (List.mem_append_left _ (List.mem_of_getElem? (i := 8) rfl)))) (fun _ h9 => h9) rfl (by decide +kernel) rfl rfl (Nat.le_of_ble_eq_true rfl) dX12_fates_175 (fun H locs hP hD hS => ?_)
                      have hP : va_P g vwCl [((m_a 26), .inl (cI, 2, .inl g1)), ((m_a 27), .inl (cZ, 2, .inl g2)), ((m_a 34), .inl (cZ, 2, .inl g3)), ((m_a 38), .inl (cI, 16, .inl f)), ((m_a 39), .inl (cI, 17, .inl fp)), (mo, .inr (11, mG m_a m_thrown m_taped m_at m_token m_place m_value m_word m_bad m_badPlace m_fault m_faultPlace (-1) m_will m_forgot 0 m_x (nI j2) (nI (k - j2)) (nI (sm (fun t => sc ra rb (pt ra rb js (k + t))) i)) 0 m_any m_bothSend m_meanCards m_bestSum m_fitMany m_fitFirst m_fitSecond)), ((m_a 23), .inl (cI, 2, .inl u_h14)), ((m_a 24), .inl (cZ, 2, .inl u_h25)), ((m_a 25), .inl (cZ, 2, .inl u_h36))] H := hP
                      have hD : va_D A [((m_a 26), .inl (cI, 2, .inl g1)), ((m_a 27), .inl (cZ, 2, .inl g2)), ((m_a 34), .inl (cZ, 2, .inl g3)), ((m_a 38), .inl (cI, 16, .inl f)), ((m_a 39), .inl (cI, 17, .inl fp)), (mo, .inr (11, mG m_a m_thrown m_taped m_at m_token m_place m_value m_word m_bad m_badPlace m_fault m_faultPlace (-1) m_will m_forgot 0 m_x (nI j2) (nI (k - j2)) (nI (sm (fun t => sc ra rb (pt ra rb js (k + t))) i)) 0 m_any m_bothSend m_meanCards m_bestSum m_fitMany m_fitFirst m_fitSecond)), ((m_a 23), .inl (cI, 2, .inl u_h14)), ((m_a 24), .inl (cZ, 2, .inl u_h25)), ((m_a 25), .inl (cZ, 2, .inl u_h36))] := hD
                      have hFK : fK ra rb js = kd (sm (fun t => sc ra rb (pt ra rb js (k + t))) i) (k - j2) := by unfold fK; rw [fC_eq (⟨hj2, hpj2, hds⟩ : FT ra rb js j2 k), fL_eq (⟨hj2, hpj2, hds⟩ : FT ra rb js j2 k), show i = k - j2 from by omega]
                      have hP9 := hP.sub (ws' := [(mo, .inr (11, mG m_a m_thrown m_taped m_at m_token m_place m_value m_word m_bad m_badPlace m_fault m_faultPlace (-1) m_will m_forgot 0 m_x (nI j2) (nI (k - j2)) (nI (sm (fun t => sc ra rb (pt ra rb js (k + t))) i)) 0 m_any m_bothSend m_meanCards m_bestSum m_fitMany m_fitFirst m_fitSecond)), ((m_a 23), .inl (cI, 2, .inl u_h14)), ((m_a 24), .inl (cZ, 2, .inl u_h25)), ((m_a 25), .inl (cZ, 2, .inl u_h36)), ((m_a 26), .inl (cI, 2, .inl g1)), ((m_a 27), .inl (cZ, 2, .inl g2)), ((m_a 34), .inl (cZ, 2, .inl g3)), ((m_a 38), .inl (cI, 16, .inl f)), ((m_a 39), .inl (cI, 17, .inl fp))]) [5, 6, 7, 8, 0, 1, 2, 3, 4] rfl
                      have hD9 := hD.sub (ws' := [(mo, .inr (11, mG m_a m_thrown m_taped m_at m_token m_place m_value m_word m_bad m_badPlace m_fault m_faultPlace (-1) m_will m_forgot 0 m_x (nI j2) (nI (k - j2)) (nI (sm (fun t => sc ra rb (pt ra rb js (k + t))) i)) 0 m_any m_bothSend m_meanCards m_bestSum m_fitMany m_fitFirst m_fitSecond)), ((m_a 23), .inl (cI, 2, .inl u_h14)), ((m_a 24), .inl (cZ, 2, .inl u_h25)), ((m_a 25), .inl (cZ, 2, .inl u_h36)), ((m_a 26), .inl (cI, 2, .inl g1)), ((m_a 27), .inl (cZ, 2, .inl g2)), ((m_a 34), .inl (cZ, 2, .inl g3)), ((m_a 38), .inl (cI, 16, .inl f)), ((m_a 39), .inl (cI, 17, .inl fp))]) [5, 6, 7, 8, 0, 1, 2, 3, 4] (by decide) rfl
                      exact W.vret hx hb hr (fun t ht hW => ⟨⟨(u_h14, u_h25, u_h36, g1, g2, g3, f, fp, (nI j2), (nI (k - j2)), (nI (sm (fun t => sc ra rb (pt ra rb js (k + t))) i)), 0), rfl, ⟨congrArg nI (fP_eq (⟨hj2, hpj2, hds⟩ : FT ra rb js j2 k)).1.symm, congrArg nI (fL_eq (⟨hj2, hpj2, hds⟩ : FT ra rb js j2 k)).symm, congrArg nI (by rw [fC_eq (⟨hj2, hpj2, hds⟩ : FT ra rb js j2 k), show i = k - j2 from by omega]), by rw [hFK]; exact kd_0 (by omega)⟩, by rw [ht]; exact hP9, va_K.moved hW.alike hK, hD9⟩, hS.F ht⟩) hS.2.2 dX12_fates_178
                  · have f21 := (show (i : Int) < ((k - j2 : Nat) : Int) from z_nle (nI_toInt (n := k - j2) (by omega)) (nI_toInt (n := i) (by omega)) c20)
                    refine lv_aload_n hx hb dX12_fates_118 rfl (lv_at hl 0 rfl) ?_
                    refine lv_iload hx hb dX12_fates_119 (lv_at hl 1 rfl) ?_
                    refine rw_i (wr := [((m_a 38), .inl (cI, 16, .inl f)), ((m_a 39), .inl (cI, 17, .inl fp))]) (va_runV (As := [.int (nI (pt ra rb js (k + i)))]) (rest := []) ⟨hx, hb, hml, hown, hts⟩ (k_fX12_yearOf l g cI cJ cB cZ cL mo m_a m_thrown m_taped m_at m_token m_place m_value m_word m_bad m_badPlace m_fault m_faultPlace m_will m_forgot m_x m_any m_bothSend m_meanCards m_bestSum m_fitMany m_fitFirst m_fitSecond (nI j2) (nI (k - j2)) (nI (sm (fun t => sc ra rb (pt ra rb js (k + t))) i)) vf u_h14 u_h25 u_h36 g1 g2 g3 ra rb (pt ra rb js (k + i)) H.size hS_r0 hS_r1 hS_m0 hS_m1 hS_c0 hS_c1 (by omega) (by omega) (by omega)) (cwV 1 hts (goodIn_app (g_4 (List.mem_cons_of_mem _ (List.mem_append_left _ (List.mem_of_getElem? (i := 9) rfl))) (List.mem_cons_of_mem _ (List.mem_append_left _ (List.mem_of_getElem? (i := 10) rfl))) (List.mem_cons_of_mem _ (List.mem_append_left _ (List.mem_of_getElem? (i := 11) rfl))) (List.mem_cons_of_mem _ (List.mem_append_left _ (List.mem_of_getElem? (i := 3) rfl))) (by decide +kernel)) (goodIn_sub (fun _ h => List.mem_cons_of_mem _ (List.mem_append_right _ (List.mem_append_right _ (List.mem_append_left _ h)))) good_v_fX12_yearOf)) rfl rfl rfl (by decide +kernel) ⟨Nat.le_of_ble_eq_true rfl, Nat.le_of_ble_eq_true rfl⟩) (pv_RW (q := (RX12, TX12, 56)) (ci := 11) (q0 := 0) (wc := [(mo, .inr (11, mG m_a m_thrown m_taped m_at m_token m_place m_value m_word m_bad m_badPlace m_fault m_faultPlace (-1) m_will m_forgot 0 m_x (nI j2) (nI (k - j2)) (nI (sm (fun t => sc ra rb (pt ra rb js (k + t))) i)) vf m_any m_bothSend m_meanCards m_bestSum m_fitMany m_fitFirst m_fitSecond)), ((m_a 23), .inl (cI, 2, .inl u_h14)), ((m_a 24), .inl (cZ, 2, .inl u_h25)), ((m_a 25), .inl (cZ, 2, .inl u_h36)), ((m_a 26), .inl (cI, 2, .inl g1)), ((m_a 27), .inl (cZ, 2, .inl g2)), ((m_a 34), .inl (cZ, 2, .inl g3))]) hK hP hD [5, 6, 7, 8, 0, 1, 2] (by decide) rfl rfl rfl) rfl rfl hl.1 rfl (lv_room (Nat.le_of_ble_eq_true rfl)) dX12_fates_121 ⟨Nat.le_of_ble_eq_true rfl, Nat.le_of_ble_eq_true rfl⟩) hS hA hP hD [5, 6, 7, 8, 0, 1, 2] [3, 4] rfl rfl (by decide) (by decide) (fun r26 u27 H locs hw28 hP hD hS => ?_)
                    obtain ⟨u_h129, u_h230, u_h331⟩ := u27
                    try dsimp only at hw28
                    have hP : va_P g vwCl [((m_a 38), .inl (cI, 16, .inl f)), ((m_a 39), .inl (cI, 17, .inl fp)), (mo, .inr (11, mG m_a m_thrown m_taped m_at m_token m_place m_value m_word m_bad m_badPlace m_fault m_faultPlace (-1) m_will m_forgot 0 m_x (nI j2) (nI (k - j2)) (nI (sm (fun t => sc ra rb (pt ra rb js (k + t))) i)) vf m_any m_bothSend m_meanCards m_bestSum m_fitMany m_fitFirst m_fitSecond)), ((m_a 23), .inl (cI, 2, .inl u_h14)), ((m_a 24), .inl (cZ, 2, .inl u_h25)), ((m_a 25), .inl (cZ, 2, .inl u_h36)), ((m_a 26), .inl (cI, 2, .inl u_h129)), ((m_a 27), .inl (cZ, 2, .inl u_h230)), ((m_a 34), .inl (cZ, 2, .inl u_h331))] H := hP
                    have hD : va_D A [((m_a 38), .inl (cI, 16, .inl f)), ((m_a 39), .inl (cI, 17, .inl fp)), (mo, .inr (11, mG m_a m_thrown m_taped m_at m_token m_place m_value m_word m_bad m_badPlace m_fault m_faultPlace (-1) m_will m_forgot 0 m_x (nI j2) (nI (k - j2)) (nI (sm (fun t => sc ra rb (pt ra rb js (k + t))) i)) vf m_any m_bothSend m_meanCards m_bestSum m_fitMany m_fitFirst m_fitSecond)), ((m_a 23), .inl (cI, 2, .inl u_h14)), ((m_a 24), .inl (cZ, 2, .inl u_h25)), ((m_a 25), .inl (cZ, 2, .inl u_h36)), ((m_a 26), .inl (cI, 2, .inl u_h129)), ((m_a 27), .inl (cZ, 2, .inl u_h230)), ((m_a 34), .inl (cZ, 2, .inl u_h331))] := hD
                    obtain ⟨hr9, v0, v1, hS_s0, hS_s1, hv0, hv1, hsum⟩ := hw28
                    subst hr9
                    refine lv_topi (nm_r (e' := nI (pt ra rb js (k + i + 1))) rfl ?_)
                    refine lv_istore (lv' := [(4, .int (nI (pt ra rb js (k + i + 1)))), (0, .ref mo), (6, .int (nI i))]) hx hb dX12_fates_124 hl (by decide) rfl (fun ls hl => ?_)
                    refine lv_aload_n hx hb dX12_fates_126 rfl (lv_at hl 1 rfl) ?_
                    refine lv_dup hx hb dX12_fates_127 rfl ?_
                    refine va_get (D := g) (ci := 11) (v := .int (nI (sm (fun t => sc ra rb (pt ra rb js (k + t))) i))) (C := RX12) (T := TX12) (N := 56) hx hb hts iX12 hown hK hP 2 rfl rfl 42 (by decide) (hts (.fieldLink RX12 391 "CardsAtYuleModel" "roundCards" "I") (List.mem_cons_of_mem _ (List.mem_append_left _ (List.mem_of_getElem? (i := 7) rfl)))) (fun _ h9 => h9) rfl dX12_fates_128 ?_
                    refine lv_aload_n hx hb dX12_fates_131 rfl (lv_at hl 1 rfl) ?_
                    refine ro_i (va_runV (As := []) (rest := [.int (nI (sm (fun t => sc ra rb (pt ra rb js (k + t))) i)), .ref mo]) ⟨hx, hb, hml, hown, hts⟩ (k_fX12_cardsNow l g cI cJ cB cZ cL mo m_a m_thrown m_taped m_at m_token m_place m_value m_word m_bad m_badPlace m_fault m_faultPlace m_will m_forgot m_x m_any m_bothSend m_meanCards m_bestSum m_fitMany m_fitFirst m_fitSecond (nI j2) (nI (k - j2)) (nI (sm (fun t => sc ra rb (pt ra rb js (k + t))) i)) vf u_h129 v0 v1 H.size hS_s0 hS_s1 (by omega) (by omega)) (cwV 0 hts (goodIn_app (g_4 (List.mem_cons_of_mem _ (List.mem_append_left _ (List.mem_of_getElem? (i := 12) rfl))) (List.mem_cons_of_mem _ (List.mem_append_left _ (List.mem_of_getElem? (i := 13) rfl))) (List.mem_cons_of_mem _ (List.mem_append_left _ (List.mem_of_getElem? (i := 14) rfl))) (List.mem_cons_of_mem _ (List.mem_append_left _ (List.mem_of_getElem? (i := 3) rfl))) (by decide +kernel)) (goodIn_sub (fun _ h => List.mem_cons_of_mem _ (List.mem_append_right _ (List.mem_append_right _ (List.mem_append_right _ (List.mem_append_left _ h))))) good_v_fX12_cardsNow)) rfl rfl rfl (by decide +kernel) ⟨Nat.le_of_ble_eq_true rfl, Nat.le_of_ble_eq_true rfl⟩) (pv_RO (q := (RX12, TX12, 56)) (ci := 11) (q0 := 0) (wc := [(mo, .inr (11, mG m_a m_thrown m_taped m_at m_token m_place m_value m_word m_bad m_badPlace m_fault m_faultPlace (-1) m_will m_forgot 0 m_x (nI j2) (nI (k - j2)) (nI (sm (fun t => sc ra rb (pt ra rb js (k + t))) i)) vf m_any m_bothSend m_meanCards m_bestSum m_fitMany m_fitFirst m_fitSecond)), ((m_a 26), .inl (cI, 2, .inl u_h129))]) hK hP [2, 6] rfl rfl rfl) rfl rfl hl.1 rfl (lv_room (Nat.le_of_ble_eq_true rfl)) dX12_fates_132 ⟨Nat.le_of_ble_eq_true rfl, Nat.le_of_ble_eq_true rfl⟩) hS hA hP (fun r32 u33 H locs hw34 hP hS => ?_)
                    subst hw34
                    refine lv_topi (nm_r (e' := nI (sc ra rb (pt ra rb js (k + i)))) (congrArg nI hsum) ?_)
                    have hsc := sc_le ra rb (pt ra rb js (k + i))
                    refine lv_iadd hx hb dX12_fates_135 ?_
                    refine lv_topi (nm_r (e' := (nI (sm (fun t => sc ra rb (pt ra rb js (k + t))) (i + 1)))) (nI_add (sm (fun t => sc ra rb (pt ra rb js (k + t))) i) (sc ra rb (pt ra rb js (k + i)))) ?_)
                    refine va_put (D := g) (ci := 11) (v := .int (nI (sm (fun t => sc ra rb (pt ra rb js (k + t))) (i + 1)))) (ty := .int) (C := RX12) (T := TX12) (N := 56) hx hb hts iX12 tyX12 tyX12_ok nmX12 hown hK hP hD hS 2 rfl rfl 42 (by decide) (hts (.fieldLink RX12 391 "CardsAtYuleModel" "roundCards" "I") (List.mem_cons_of_mem _ (List.mem_append_left _ (List.mem_of_getElem? (i := 7) rfl)))) (fun _ h9 => h9) rfl (by decide +kernel) rfl rfl (Nat.le_of_ble_eq_true rfl) dX12_fates_136 (fun H locs hP hD hS => ?_)
                    have hP : va_P g vwCl [((m_a 38), .inl (cI, 16, .inl f)), ((m_a 39), .inl (cI, 17, .inl fp)), (mo, .inr (11, mG m_a m_thrown m_taped m_at m_token m_place m_value m_word m_bad m_badPlace m_fault m_faultPlace (-1) m_will m_forgot 0 m_x (nI j2) (nI (k - j2)) (nI (sm (fun t => sc ra rb (pt ra rb js (k + t))) (i + 1))) vf m_any m_bothSend m_meanCards m_bestSum m_fitMany m_fitFirst m_fitSecond)), ((m_a 23), .inl (cI, 2, .inl u_h14)), ((m_a 24), .inl (cZ, 2, .inl u_h25)), ((m_a 25), .inl (cZ, 2, .inl u_h36)), ((m_a 26), .inl (cI, 2, .inl u_h129)), ((m_a 27), .inl (cZ, 2, .inl u_h230)), ((m_a 34), .inl (cZ, 2, .inl u_h331))] H := hP
                    have hD : va_D A [((m_a 38), .inl (cI, 16, .inl f)), ((m_a 39), .inl (cI, 17, .inl fp)), (mo, .inr (11, mG m_a m_thrown m_taped m_at m_token m_place m_value m_word m_bad m_badPlace m_fault m_faultPlace (-1) m_will m_forgot 0 m_x (nI j2) (nI (k - j2)) (nI (sm (fun t => sc ra rb (pt ra rb js (k + t))) (i + 1))) vf m_any m_bothSend m_meanCards m_bestSum m_fitMany m_fitFirst m_fitSecond)), ((m_a 23), .inl (cI, 2, .inl u_h14)), ((m_a 24), .inl (cZ, 2, .inl u_h25)), ((m_a 25), .inl (cZ, 2, .inl u_h36)), ((m_a 26), .inl (cI, 2, .inl u_h129)), ((m_a 27), .inl (cZ, 2, .inl u_h230)), ((m_a 34), .inl (cZ, 2, .inl u_h331))] := hD
                    refine lv_iinc (v := (nI (i + 1))) (lv' := [(6, .int (nI (i + 1))), (4, .int (nI (pt ra rb js (k + i + 1)))), (0, .ref mo)]) hx hb dX12_fates_139 hl (k := 2) rfl (nI_add i 1) (by decide) rfl (fun ls hl => ?_)
                    refine lv_goto (tgt := 109) hx hb dX12_fates_142 (by decide) ?_
                    exact ih18 (i + 1) u_h129 u_h230 u_h331 _ _ _ (by omega) (by omega) (hP.sub [6, 7, 8, 0, 1, 2, 3, 4, 5] rfl) (hD.sub [6, 7, 8, 0, 1, 2, 3, 4, 5] (by decide) rfl) hS (lv_sub hl [2, 1, 0] rfl)
              exact lp19 _ 0 g1 g2 g3 _ _ _ (Nat.lt_succ_self _) (Nat.zero_le _) (hP.sub [0, 1, 2, 3, 4, 5, 6, 7, 8] rfl) (hD.sub [0, 1, 2, 3, 4, 5, 6, 7, 8] (by decide) rfl) hS (lv_sub hl [1, 2, 0] rfl)
            · refine lv_topi (nm_r (e' := (-1)) (by rw [nI_clamp (n := pt ra rb js k) (by omega)]; exact hfm) ?_)
              refine lv_iconst (v := (-1)) hx hb dX12_fates_43 (by decide) ?_
              refine lv_icmp_ne (tgt := 79) hx hb dX12_fates_44 (by decide) (fun c35 => absurd c35 (by decide)) (fun _ => ?_)
              refine lv_aload_n hx hb dX12_fates_47 rfl (lv_at hl 0 rfl) ?_
              refine va_get (D := g) (ci := 11) (v := .ref (m_a 38)) (C := RX12) (T := TX12) (N := 56) hx hb hts iX12 hown hK hP 5 rfl rfl 38 (by decide) (hts (.fieldLink RX12 86 "CardsAtYuleModel" "came" "[I") (List.mem_cons_of_mem _ (List.mem_append_left _ (List.mem_of_getElem? (i := 4) rfl)))) (fun _ h9 => h9) rfl dX12_fates_48 ?_
              refine lv_iload hx hb dX12_fates_51 (lv_at hl 1 rfl) ?_
              refine lv_iload hx hb dX12_fates_53 (lv_at hl 2 rfl) ?_
              refine va_iast (D := g) hx hb hK hP hD hS 3 0 rfl rfl (vp_in_nI (n := pt ra rb js k) (by omega) (by decide)) dX12_fates_55 (fun H locs hP hD hS => ?_)
              rw [nI_clamp (n := pt ra rb js k) (by omega)] at hP hD
              have hP : va_P g vwCl [((m_a 26), .inl (cI, 2, .inl g1)), ((m_a 27), .inl (cZ, 2, .inl g2)), ((m_a 34), .inl (cZ, 2, .inl g3)), ((m_a 38), .inl (cI, 16, .inl (upd f (pt ra rb js k) (nI k)))), ((m_a 39), .inl (cI, 17, .inl fp)), (mo, .inr (11, mG m_a m_thrown m_taped m_at m_token m_place m_value m_word m_bad m_badPlace m_fault m_faultPlace (-1) m_will m_forgot 0 m_x vb vr vc vf m_any m_bothSend m_meanCards m_bestSum m_fitMany m_fitFirst m_fitSecond)), ((m_a 23), .inl (cI, 2, .inl u_h14)), ((m_a 24), .inl (cZ, 2, .inl u_h25)), ((m_a 25), .inl (cZ, 2, .inl u_h36))] H := hP
              have hD : va_D A [((m_a 26), .inl (cI, 2, .inl g1)), ((m_a 27), .inl (cZ, 2, .inl g2)), ((m_a 34), .inl (cZ, 2, .inl g3)), ((m_a 38), .inl (cI, 16, .inl (upd f (pt ra rb js k) (nI k)))), ((m_a 39), .inl (cI, 17, .inl fp)), (mo, .inr (11, mG m_a m_thrown m_taped m_at m_token m_place m_value m_word m_bad m_badPlace m_fault m_faultPlace (-1) m_will m_forgot 0 m_x vb vr vc vf m_any m_bothSend m_meanCards m_bestSum m_fitMany m_fitFirst m_fitSecond)), ((m_a 23), .inl (cI, 2, .inl u_h14)), ((m_a 24), .inl (cZ, 2, .inl u_h25)), ((m_a 25), .inl (cZ, 2, .inl u_h36))] := hD
              refine lv_aload_n hx hb dX12_fates_56 rfl (lv_at hl 0 rfl) ?_
              refine va_get (D := g) (ci := 11) (v := .ref (m_a 39)) (C := RX12) (T := TX12) (N := 56) hx hb hts iX12 hown hK hP 5 rfl rfl 39 (by decide) (hts (.fieldLink RX12 89 "CardsAtYuleModel" "path" "[I") (List.mem_cons_of_mem _ (List.mem_append_left _ (List.mem_of_getElem? (i := 15) rfl)))) (fun _ h9 => h9) rfl dX12_fates_57 ?_
              refine lv_iload hx hb dX12_fates_60 (lv_at hl 2 rfl) ?_
              refine lv_iload hx hb dX12_fates_62 (lv_at hl 1 rfl) ?_
              refine va_iast (D := g) hx hb hK hP hD hS 4 0 rfl rfl (vp_in_nI (n := k) (by omega) (by decide)) dX12_fates_64 (fun H locs hP hD hS => ?_)
              rw [nI_clamp (n := k) (by omega)] at hP hD
              have hP : va_P g vwCl [((m_a 26), .inl (cI, 2, .inl g1)), ((m_a 27), .inl (cZ, 2, .inl g2)), ((m_a 34), .inl (cZ, 2, .inl g3)), ((m_a 38), .inl (cI, 16, .inl (upd f (pt ra rb js k) (nI k)))), ((m_a 39), .inl (cI, 17, .inl (upd fp k (nI (pt ra rb js k))))), (mo, .inr (11, mG m_a m_thrown m_taped m_at m_token m_place m_value m_word m_bad m_badPlace m_fault m_faultPlace (-1) m_will m_forgot 0 m_x vb vr vc vf m_any m_bothSend m_meanCards m_bestSum m_fitMany m_fitFirst m_fitSecond)), ((m_a 23), .inl (cI, 2, .inl u_h14)), ((m_a 24), .inl (cZ, 2, .inl u_h25)), ((m_a 25), .inl (cZ, 2, .inl u_h36))] H := hP
              have hD : va_D A [((m_a 26), .inl (cI, 2, .inl g1)), ((m_a 27), .inl (cZ, 2, .inl g2)), ((m_a 34), .inl (cZ, 2, .inl g3)), ((m_a 38), .inl (cI, 16, .inl (upd f (pt ra rb js k) (nI k)))), ((m_a 39), .inl (cI, 17, .inl (upd fp k (nI (pt ra rb js k))))), (mo, .inr (11, mG m_a m_thrown m_taped m_at m_token m_place m_value m_word m_bad m_badPlace m_fault m_faultPlace (-1) m_will m_forgot 0 m_x vb vr vc vf m_any m_bothSend m_meanCards m_bestSum m_fitMany m_fitFirst m_fitSecond)), ((m_a 23), .inl (cI, 2, .inl u_h14)), ((m_a 24), .inl (cZ, 2, .inl u_h25)), ((m_a 25), .inl (cZ, 2, .inl u_h36))] := hD
              refine lv_aload_n hx hb dX12_fates_65 rfl (lv_at hl 0 rfl) ?_
              refine lv_iload hx hb dX12_fates_66 (lv_at hl 1 rfl) ?_
              refine rw_i (wr := [((m_a 38), .inl (cI, 16, .inl (upd f (pt ra rb js k) (nI k)))), ((m_a 39), .inl (cI, 17, .inl (upd fp k (nI (pt ra rb js k)))))]) (va_runV (As := [.int (nI (pt ra rb js k))]) (rest := []) ⟨hx, hb, hml, hown, hts⟩ (k_fX12_yearOf l g cI cJ cB cZ cL mo m_a m_thrown m_taped m_at m_token m_place m_value m_word m_bad m_badPlace m_fault m_faultPlace m_will m_forgot m_x m_any m_bothSend m_meanCards m_bestSum m_fitMany m_fitFirst m_fitSecond vb vr vc vf u_h14 u_h25 u_h36 g1 g2 g3 ra rb (pt ra rb js k) H.size hS_r0 hS_r1 hS_m0 hS_m1 hS_c0 hS_c1 (by omega) (by omega) (by omega)) (cwV 1 hts (goodIn_app (g_4 (List.mem_cons_of_mem _ (List.mem_append_left _ (List.mem_of_getElem? (i := 9) rfl))) (List.mem_cons_of_mem _ (List.mem_append_left _ (List.mem_of_getElem? (i := 10) rfl))) (List.mem_cons_of_mem _ (List.mem_append_left _ (List.mem_of_getElem? (i := 11) rfl))) (List.mem_cons_of_mem _ (List.mem_append_left _ (List.mem_of_getElem? (i := 3) rfl))) (by decide +kernel)) (goodIn_sub (fun _ h => List.mem_cons_of_mem _ (List.mem_append_right _ (List.mem_append_right _ (List.mem_append_left _ h)))) good_v_fX12_yearOf)) rfl rfl rfl (by decide +kernel) ⟨Nat.le_of_ble_eq_true rfl, Nat.le_of_ble_eq_true rfl⟩) (pv_RW (q := (RX12, TX12, 56)) (ci := 11) (q0 := 0) (wc := [(mo, .inr (11, mG m_a m_thrown m_taped m_at m_token m_place m_value m_word m_bad m_badPlace m_fault m_faultPlace (-1) m_will m_forgot 0 m_x vb vr vc vf m_any m_bothSend m_meanCards m_bestSum m_fitMany m_fitFirst m_fitSecond)), ((m_a 23), .inl (cI, 2, .inl u_h14)), ((m_a 24), .inl (cZ, 2, .inl u_h25)), ((m_a 25), .inl (cZ, 2, .inl u_h36)), ((m_a 26), .inl (cI, 2, .inl g1)), ((m_a 27), .inl (cZ, 2, .inl g2)), ((m_a 34), .inl (cZ, 2, .inl g3))]) hK hP hD [5, 6, 7, 8, 0, 1, 2] (by decide) rfl rfl rfl) rfl rfl hl.1 rfl (lv_room (Nat.le_of_ble_eq_true rfl)) dX12_fates_68 ⟨Nat.le_of_ble_eq_true rfl, Nat.le_of_ble_eq_true rfl⟩) hS hA hP hD [5, 6, 7, 8, 0, 1, 2] [3, 4] rfl rfl (by decide) (by decide) (fun r36 u37 H locs hw38 hP hD hS => ?_)
              obtain ⟨u_h139, u_h240, u_h341⟩ := u37
              try dsimp only at hw38
              have hP : va_P g vwCl [((m_a 38), .inl (cI, 16, .inl (upd f (pt ra rb js k) (nI k)))), ((m_a 39), .inl (cI, 17, .inl (upd fp k (nI (pt ra rb js k))))), (mo, .inr (11, mG m_a m_thrown m_taped m_at m_token m_place m_value m_word m_bad m_badPlace m_fault m_faultPlace (-1) m_will m_forgot 0 m_x vb vr vc vf m_any m_bothSend m_meanCards m_bestSum m_fitMany m_fitFirst m_fitSecond)), ((m_a 23), .inl (cI, 2, .inl u_h14)), ((m_a 24), .inl (cZ, 2, .inl u_h25)), ((m_a 25), .inl (cZ, 2, .inl u_h36)), ((m_a 26), .inl (cI, 2, .inl u_h139)), ((m_a 27), .inl (cZ, 2, .inl u_h240)), ((m_a 34), .inl (cZ, 2, .inl u_h341))] H := hP
              have hD : va_D A [((m_a 38), .inl (cI, 16, .inl (upd f (pt ra rb js k) (nI k)))), ((m_a 39), .inl (cI, 17, .inl (upd fp k (nI (pt ra rb js k))))), (mo, .inr (11, mG m_a m_thrown m_taped m_at m_token m_place m_value m_word m_bad m_badPlace m_fault m_faultPlace (-1) m_will m_forgot 0 m_x vb vr vc vf m_any m_bothSend m_meanCards m_bestSum m_fitMany m_fitFirst m_fitSecond)), ((m_a 23), .inl (cI, 2, .inl u_h14)), ((m_a 24), .inl (cZ, 2, .inl u_h25)), ((m_a 25), .inl (cZ, 2, .inl u_h36)), ((m_a 26), .inl (cI, 2, .inl u_h139)), ((m_a 27), .inl (cZ, 2, .inl u_h240)), ((m_a 34), .inl (cZ, 2, .inl u_h341))] := hD
              obtain ⟨hr9, v0, v1, hS_s0, hS_s1, hv0, hv1, hsum⟩ := hw38
              subst hr9
              refine lv_topi (nm_r (e' := nI (pt ra rb js (k + 1))) rfl ?_)
              refine lv_istore (lv' := [(4, .int (nI (pt ra rb js (k + 1)))), (0, .ref mo), (5, .int (nI k))]) hx hb dX12_fates_71 hl (by decide) rfl (fun ls hl => ?_)
              refine lv_iinc (v := (nI (k + 1))) (lv' := [(5, .int (nI (k + 1))), (4, .int (nI (pt ra rb js (k + 1)))), (0, .ref mo)]) hx hb dX12_fates_73 hl (k := 2) rfl (nI_add k 1) (by decide) rfl (fun ls hl => ?_)
              refine lv_goto (tgt := 36) hx hb dX12_fates_76 (by decide) ?_
              exact ih13 (k + 1) (upd f (pt ra rb js k) (nI k)) (upd fp k (nI (pt ra rb js k))) u_h139 u_h240 u_h341 _ _ _ (by omega) (by have h9 := DS_room hjs hds hno; omega) (DS_s hds hno) (CM_s hcm hno (fun t => rfl)) (hP.sub [6, 7, 8, 0, 1, 2, 3, 4, 5] rfl) (hD.sub [6, 7, 8, 0, 1, 2, 3, 4, 5] (by decide) rfl) hS (lv_sub hl [2, 1, 0] rfl)
        exact lp14 _ 0 f kc8 kc4 kc5 kc6 _ _ _ (Nat.lt_succ_self _) (Nat.zero_le _) DS_0 (CM_0 (fun t ht => hf t (by omega))) (hP.sub [0, 1, 2, 3, 4, 5, 6, 7, 8] rfl) (hD.sub [0, 1, 2, 3, 4, 5, 6, 7, 8] (by decide) rfl) hS (lv_sub hl [2, 1, 0] rfl)
      · have f11 := (show (i : Int) < 16 from z_nle rfl (nI_toInt (n := i) (by omega)) c10)
        refine lv_aload_n hx hb dX12_fates_16 rfl (lv_at hl 0 rfl) ?_
        refine va_get (D := g) (ci := 11) (v := .ref (m_a 38)) (C := RX12) (T := TX12) (N := 56) hx hb hts iX12 hown hK hP 5 rfl rfl 38 (by decide) (hts (.fieldLink RX12 86 "CardsAtYuleModel" "came" "[I") (List.mem_cons_of_mem _ (List.mem_append_left _ (List.mem_of_getElem? (i := 4) rfl)))) (fun _ h9 => h9) rfl dX12_fates_17 ?_
        refine lv_iload hx hb dX12_fates_20 (lv_at hl 4 rfl) ?_
        refine lv_iconst (v := (-1)) hx hb dX12_fates_22 (by decide) ?_
        refine va_iast (D := g) hx hb hK hP hD hS 3 0 rfl rfl (vp_in_nI (n := i) (by omega) (by decide)) dX12_fates_23 (fun H locs hP hD hS => ?_)
        rw [nI_clamp (n := i) (by omega)] at hP hD
        have hP : va_P g vwCl [((m_a 26), .inl (cI, 2, .inl kc4)), ((m_a 27), .inl (cZ, 2, .inl kc5)), ((m_a 34), .inl (cZ, 2, .inl kc6)), ((m_a 38), .inl (cI, 16, .inl (upd f i (-1)))), ((m_a 39), .inl (cI, 17, .inl kc8)), (mo, .inr (11, mG m_a m_thrown m_taped m_at m_token m_place m_value m_word m_bad m_badPlace m_fault m_faultPlace (-1) m_will m_forgot 0 m_x vb vr vc vf m_any m_bothSend m_meanCards m_bestSum m_fitMany m_fitFirst m_fitSecond)), ((m_a 23), .inl (cI, 2, .inl u_h14)), ((m_a 24), .inl (cZ, 2, .inl u_h25)), ((m_a 25), .inl (cZ, 2, .inl u_h36))] H := hP
        have hD : va_D A [((m_a 26), .inl (cI, 2, .inl kc4)), ((m_a 27), .inl (cZ, 2, .inl kc5)), ((m_a 34), .inl (cZ, 2, .inl kc6)), ((m_a 38), .inl (cI, 16, .inl (upd f i (-1)))), ((m_a 39), .inl (cI, 17, .inl kc8)), (mo, .inr (11, mG m_a m_thrown m_taped m_at m_token m_place m_value m_word m_bad m_badPlace m_fault m_faultPlace (-1) m_will m_forgot 0 m_x vb vr vc vf m_any m_bothSend m_meanCards m_bestSum m_fitMany m_fitFirst m_fitSecond)), ((m_a 23), .inl (cI, 2, .inl u_h14)), ((m_a 24), .inl (cZ, 2, .inl u_h25)), ((m_a 25), .inl (cZ, 2, .inl u_h36))] := hD
        refine lv_iinc (v := (nI (i + 1))) (lv' := [(4, .int (nI (i + 1))), (0, .ref mo), (1, .int (nI ra)), (2, .int (nI rb)), (3, .int (nI js))]) hx hb dX12_fates_24 hl (k := 4) rfl (nI_add i 1) (by decide) rfl (fun ls hl => ?_)
        refine lv_goto (tgt := 9) hx hb dX12_fates_27 (by decide) ?_
        exact ih8 (i + 1) (upd f i (-1)) _ _ _ (by omega) (by omega) (fill_s hf (fun k => rfl)) (hP.sub [0, 1, 2, 3, 4, 5, 6, 7, 8] rfl) (hD.sub [0, 1, 2, 3, 4, 5, 6, 7, 8] (by decide) rfl) hS (lv_sub hl [1, 2, 3, 4, 0] rfl)
  exact lp9 _ 0 kc7 _ _ _ (Nat.lt_succ_self _) (Nat.zero_le _) (fun k hk => absurd hk (Nat.not_lt_zero _)) (hP.sub [0, 1, 2, 3, 4, 5, 6, 7, 8] rfl) (hD.sub [0, 1, 2, 3, 4, 5, 6, 7, 8] (by decide) rfl) hS (lv_sub hl [1, 2, 3, 4, 0] rfl)
abbrev v_X12_fates : List Cond := v_fX12_fates
theorem good_v_X12_fates : v_X12_fates.all goodWord = true := good_v_fX12_fates
set_option maxHeartbeats 4000000 in
theorem q_X12_fates (l : Launch) (g : va_G) (cI cJ cB cZ cL : ClassId) (p0 : Int32) (p1 : Int32) (p2 : Int32) (m : Nat) (m_a : Nat → Nat) (m_thrown : Int32) (m_taped : Int32) (m_at : Int32) (m_token : Int32) (m_place : Int32) (m_value : Int32) (m_word : Int64) (m_bad : Int32) (m_badPlace : Int32) (m_fault : Int32) (m_faultPlace : Int32) (m_willing : Int32) (m_will : Int32) (m_forgot : Int32) (m_isDrawn : Int32) (m_x : Int64) (m_begin : Int32) (m_round : Int32) (m_roundCards : Int32) (m_fate : Int32) (m_any : Int64) (m_bothSend : Int64) (m_meanCards : Int64) (m_bestSum : Int32) (m_fitMany : Int32) (m_fitFirst : Int64) (m_fitSecond : Int64) (m_ruleNow_c : Nat → Int32) (m_maySend_c : Nat → Int32) (m_maycome_c : Nat → Int32) (m_sent_c : Nat → Int32) (m_gets_c : Nat → Int32) (m_cameFirst_c : Nat → Int32) (m_came_c : Nat → Int32) (m_path_c : Nat → Int32) (sz : Nat) (hv_p0 : ir p0.toInt 0 31) (hv_p1 : ir p1.toInt 0 31) (hv_p2 : ir p2.toInt 0 15) (hv_m_taped : ir m_taped.toInt 0 1600) (hv_m_at : ir m_at.toInt 0 1600) (hv_m_willing : ir m_willing.toInt (-1) (-1)) (hv_m_will : ir m_will.toInt 0 1) (hv_m_isDrawn : ir m_isDrawn.toInt 0 0) : Met l yX12_fates v_X12_fates ({ frames := 3, cells := 0, slots := 0, locals := 68 }) (va_Pc [.ref m, .int p0, .int p1, .int p2] (pRW g (tyT cI cJ cB cZ cL) [(m, .inr (11, mG m_a m_thrown m_taped m_at m_token m_place m_value m_word m_bad m_badPlace m_fault m_faultPlace m_willing m_will m_forgot m_isDrawn m_x m_begin m_round m_roundCards m_fate m_any m_bothSend m_meanCards m_bestSum m_fitMany m_fitFirst m_fitSecond)), ((m_a 23), .inl (cI, 2, .inl m_ruleNow_c)), ((m_a 24), .inl (cZ, 2, .inl m_maySend_c)), ((m_a 25), .inl (cZ, 2, .inl m_maycome_c)), ((m_a 26), .inl (cI, 2, .inl m_sent_c)), ((m_a 27), .inl (cZ, 2, .inl m_gets_c)), ((m_a 34), .inl (cZ, 2, .inl m_cameFirst_c)), ((m_a 38), .inl (cI, 16, .inl m_came_c)), ((m_a 39), .inl (cI, 17, .inl m_path_c))] sz)) (va_Qv (fun (u : Int32 × Int32 × Int32 × Int32 × (Nat → Int32) × (Nat → Int32) × (Nat → Int32) × (Nat → Int32) × (Nat → Int32) × (Nat → Int32) × (Nat → Int32) × (Nat → Int32)) => match u with | (n_m_begin, n_m_round, n_m_roundCards, n_m_fate, n_m_ruleNow_c, n_m_maySend_c, n_m_maycome_c, n_m_sent_c, n_m_gets_c, n_m_cameFirst_c, n_m_came_c, n_m_path_c) => (ir n_m_begin.toInt 0 15) ∧ (ir n_m_round.toInt 1 16) ∧ (ir n_m_fate.toInt 0 2) ∧ (n_m_begin.toInt + n_m_round.toInt ≤ 16) ∧ (n_m_round.toInt = (fL p0.toNatClampNeg p1.toNatClampNeg p2.toNatClampNeg : Int))) (fun (u : Int32 × Int32 × Int32 × Int32 × (Nat → Int32) × (Nat → Int32) × (Nat → Int32) × (Nat → Int32) × (Nat → Int32) × (Nat → Int32) × (Nat → Int32) × (Nat → Int32)) (t : State) => bRW g (tyT cI cJ cB cZ cL) (va_A [(m, .inr (11, mG m_a m_thrown m_taped m_at m_token m_place m_value m_word m_bad m_badPlace m_fault m_faultPlace m_willing m_will m_forgot m_isDrawn m_x m_begin m_round m_roundCards m_fate m_any m_bothSend m_meanCards m_bestSum m_fitMany m_fitFirst m_fitSecond)), ((m_a 23), .inl (cI, 2, .inl m_ruleNow_c)), ((m_a 24), .inl (cZ, 2, .inl m_maySend_c)), ((m_a 25), .inl (cZ, 2, .inl m_maycome_c)), ((m_a 26), .inl (cI, 2, .inl m_sent_c)), ((m_a 27), .inl (cZ, 2, .inl m_gets_c)), ((m_a 34), .inl (cZ, 2, .inl m_cameFirst_c)), ((m_a 38), .inl (cI, 16, .inl m_came_c)), ((m_a 39), .inl (cI, 17, .inl m_path_c))] sz) (match u with | (n_m_begin, n_m_round, n_m_roundCards, n_m_fate, n_m_ruleNow_c, n_m_maySend_c, n_m_maycome_c, n_m_sent_c, n_m_gets_c, n_m_cameFirst_c, n_m_came_c, n_m_path_c) => [(m, .inr (11, mG m_a m_thrown m_taped m_at m_token m_place m_value m_word m_bad m_badPlace m_fault m_faultPlace m_willing m_will m_forgot m_isDrawn m_x n_m_begin n_m_round n_m_roundCards n_m_fate m_any m_bothSend m_meanCards m_bestSum m_fitMany m_fitFirst m_fitSecond)), ((m_a 23), .inl (cI, 2, .inl n_m_ruleNow_c)), ((m_a 24), .inl (cZ, 2, .inl n_m_maySend_c)), ((m_a 25), .inl (cZ, 2, .inl n_m_maycome_c)), ((m_a 26), .inl (cI, 2, .inl n_m_sent_c)), ((m_a 27), .inl (cZ, 2, .inl n_m_gets_c)), ((m_a 34), .inl (cZ, 2, .inl n_m_cameFirst_c)), ((m_a 38), .inl (cI, 16, .inl n_m_came_c)), ((m_a 39), .inl (cI, 17, .inl n_m_path_c))]) t) (va_A [(m, .inr (11, mG m_a m_thrown m_taped m_at m_token m_place m_value m_word m_bad m_badPlace m_fault m_faultPlace m_willing m_will m_forgot m_isDrawn m_x m_begin m_round m_roundCards m_fate m_any m_bothSend m_meanCards m_bestSum m_fitMany m_fitFirst m_fitSecond)), ((m_a 23), .inl (cI, 2, .inl m_ruleNow_c)), ((m_a 24), .inl (cZ, 2, .inl m_maySend_c)), ((m_a 25), .inl (cZ, 2, .inl m_maycome_c)), ((m_a 26), .inl (cI, 2, .inl m_sent_c)), ((m_a 27), .inl (cZ, 2, .inl m_gets_c)), ((m_a 34), .inl (cZ, 2, .inl m_cameFirst_c)), ((m_a 38), .inl (cI, 16, .inl m_came_c)), ((m_a 39), .inl (cI, 17, .inl m_path_c))] sz)) 0 0 (va_A [(m, .inr (11, mG m_a m_thrown m_taped m_at m_token m_place m_value m_word m_bad m_badPlace m_fault m_faultPlace m_willing m_will m_forgot m_isDrawn m_x m_begin m_round m_roundCards m_fate m_any m_bothSend m_meanCards m_bestSum m_fitMany m_fitFirst m_fitSecond)), ((m_a 23), .inl (cI, 2, .inl m_ruleNow_c)), ((m_a 24), .inl (cZ, 2, .inl m_maySend_c)), ((m_a 25), .inl (cZ, 2, .inl m_maycome_c)), ((m_a 26), .inl (cI, 2, .inl m_sent_c)), ((m_a 27), .inl (cZ, 2, .inl m_gets_c)), ((m_a 34), .inl (cZ, 2, .inl m_cameFirst_c)), ((m_a 38), .inl (cI, 16, .inl m_came_c)), ((m_a 39), .inl (cI, 17, .inl m_path_c))] sz) := by
  obtain ⟨ja, eja, hja, rfl⟩ := nat_i (x := p0) rfl hv_p0 (by decide)
  obtain ⟨jb, ejb, hjb, rfl⟩ := nat_i (x := p1) rfl hv_p1 (by decide)
  obtain ⟨jc, ejc, hjc, rfl⟩ := nat_i (x := p2) rfl hv_p2 (by decide)
  have ew : m_willing = (-1) := cI_of hv_m_willing rfl
  have ed : m_isDrawn = 0 := cI_of hv_m_isDrawn rfl
  subst ew
  subst ed
  have q0 : ja < 32 := by omega
  have q1 : jb < 32 := by omega
  have q2 : jc < 16 := by omega
  have b1 := fL_le (a := ja) (b := jb) (s := jc) q2
  have b2 := fJ_le (a := ja) (b := jb) (s := jc) q2
  have b3 := fK_le ja jb jc
  have b4 := fJL_le (a := ja) (b := jb) (s := jc) q2
  refine mt_mono (k_fX12_fates l g cI cJ cB cZ cL m m_a m_thrown m_taped m_at m_token m_place m_value m_word m_bad m_badPlace m_fault m_faultPlace m_will m_forgot m_x m_any m_bothSend m_meanCards m_bestSum m_fitMany m_fitFirst m_fitSecond m_begin m_round m_roundCards m_fate m_ruleNow_c m_maySend_c m_maycome_c m_sent_c m_gets_c m_cameFirst_c m_came_c m_path_c ja jb jc sz q0 q1 q2) (fun _ _ h => h) (fun a s o t _ h => ?_) (fun _ h => h)
  obtain ⟨⟨⟨h1, h2, h3, h4, h5, h6, h7, h8, wb, wr, wc, wf⟩, ho, ⟨h21, h22, h23, h24⟩, hB⟩, hF⟩ := h
  have z1 : wb.toInt = (fJ ja jb jc : Int) := by rw [h21]; exact nI_toInt (by omega)
  have z2 : wr.toInt = (fL ja jb jc : Int) := by rw [h22]; exact nI_toInt (by omega)
  have z3 : wf.toInt = (fK ja jb jc : Int) := by rw [h24]; exact nI_toInt (by omega)
  refine ⟨⟨(wb, wr, wc, wf, h1, h2, h3, h4, h5, h6, h7, h8), ho, ⟨⟨by omega, by omega⟩, ⟨by omega, by omega⟩, ⟨by omega, by omega⟩, by omega, ?_⟩, hB⟩, hF⟩
  rw [nI_clamp hja, nI_clamp hjb, nI_clamp hjc]
  exact z2
