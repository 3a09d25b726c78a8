def v_fX11_does : List Cond := .code yX11_does cX11_does 4 (some .int) :: (([.methodLink RX11 148 yX11_isBelow, .static yX11_isBelow, .initialized RX11, .methodLink RX11 152 yX11_isBit, .static yX11_isBit] : List Cond) ++ (v_fX11_isBelow ++ (v_fX11_isBit ++ ([] : List Cond))))
theorem good_v_fX11_does : v_fX11_does.all goodWord = true := ga_c (by decide +kernel) (ga_a (by decide +kernel) (ga_a good_v_fX11_isBelow (ga_a good_v_fX11_isBit rfl)))
set_option maxHeartbeats 4000000 in
set_option maxRecDepth 100000 in
theorem k_fX11_does (l : Launch) (g : va_G) (cI cJ cB cZ cL : ClassId) (x : Nat) (x_tape : Nat) (x_land : Nat) (x_images : Nat) (x_book : Nat) (x_course : Nat) (x_fates : Nat) (x_chances : Nat) (x_will : Nat) (x_slots : Nat) (x_seen : Nat) (x_drawn : Nat) (p0 : Int32) (p1 : Int32) (p2 : Int32) (ip0 : Int) (ip1 : Int) (ip2 : Int) (sz : Nat) (hzp0 : p0.toInt = ip0) (hzp1 : p1.toInt = ip1) (hzp2 : p2.toInt = ip2) : Met l yX11_does v_fX11_does ({ frames := 1, cells := 0, slots := 0, locals := 21 }) (va_Pc [.ref x, .int p0, .int p1, .int p2] (pRO g (tyT cI cJ cB cZ cL) [(x, .inr (10, [.ref x_tape, .ref x_land, .ref x_images, .ref x_book, .ref x_course, .ref x_fates, .ref x_chances, .ref x_will, .ref x_slots, .ref x_seen, .ref x_drawn]))] sz)) (va_Qi (fun (r : Int32) (u : Unit) => r = doesV p0 p1 p2 ip0 ip1 ip2) (fun (_ : Unit) (_ : State) => True) (va_A [] sz)) 0 0 (va_A [] sz) := by
  refine Met.ofW (cc := cX11_does) (maxL := 4) (ret := (some .int)) (by decide) rfl ?_
  intro p e s m args below meth c s₁ B hml hv
  obtain ⟨rfl, hsz, hP, hK⟩ := hv
  have hx := B.exec
  have hb := B.bytes
  have hr := B.returns
  have hts := atoms_spec (ws := v_fX11_does) B.pre
  have hown : s.vm.findClass RX11 = some m.cls := findClass_of_methodNamed B.named
  have hlocks := B.notSynchronized
  subst hsz
  generalize hAe : (va_A [] s.heap.size) = A
  have hA : ∀ q : Nat, s.heap.size ≤ q → A q := fun q h => by rw [← hAe]; exact Or.inr h
  have hS : va_S A s.heap s.heap [] := va_S.rf
  have hl := lv_entry ([.ref x, .int p0, .int p1, .int p2]) (n := 4) (Nat.le_of_ble_eq_true rfl)
  rw [lg_entry_eq]
  generalize (lg_sl ([.ref x, .int p0, .int p1, .int p2]) ++ List.replicate (4 - (lg_sl ([.ref x, .int p0, .int p1, .int p2])).length) Slot.unset).toArray = ls at hl ⊢
  have hl : lv_has ls 4 [(0, .ref x), (1, .int p0), (2, .int p1), (3, .int p2)] := hl
  have hP : va_P g vwCl [(x, .inr (10, [.ref x_tape, .ref x_land, .ref x_images, .ref x_book, .ref x_course, .ref x_fates, .ref x_chances, .ref x_will, .ref x_slots, .ref x_seen, .ref x_drawn]))] s.heap := hP
  refine lv_iload_n hx hb dX11_does_0 rfl (lv_at hl 1 rfl) ?_
  refine lv_bipush (v := 16) hx hb dX11_does_1 (by decide) ?_
  refine ro_i (va_runS (As := [.int p0, .int 16]) (rest := []) ⟨hx, hb, hml, hown, hts⟩ (k_fX11_isBelow l g cI cJ cB cZ cL p0 16 ip0 16 s.heap.size hzp0 rfl) (va_cwS 2 hts (goodIn_app (g_3 (List.mem_cons_of_mem _ (List.mem_append_left _ (List.mem_of_getElem? (i := 0) rfl))) (List.mem_cons_of_mem _ (List.mem_append_left _ (List.mem_of_getElem? (i := 1) rfl))) (List.mem_cons_of_mem _ (List.mem_append_left _ (List.mem_of_getElem? (i := 2) rfl))) (by decide +kernel)) (goodIn_sub (fun _ h => List.mem_cons_of_mem _ (List.mem_append_right _ (List.mem_append_left _ h))) good_v_fX11_isBelow)) rfl rfl rfl (by decide +kernel) ⟨Nat.le_of_ble_eq_true rfl, Nat.le_of_ble_eq_true rfl⟩) (ps_RO (wc := []) hK hP [] rfl) rfl rfl hl.1 rfl (lv_room (Nat.le_of_ble_eq_true rfl)) dX11_does_3 ⟨Nat.le_of_ble_eq_true rfl, Nat.le_of_ble_eq_true rfl⟩) hS hA hP (fun r1 u2 H locs hw3 hP hS => ?_)
  rcases hw3 with ⟨rfl, hw3_0, hw3_1⟩ | ⟨rfl, hw3_0⟩
  · refine lv_if_eq (tgt := 23) hx hb dX11_does_6 (by decide) (fun c4 => absurd c4 (by decide)) (fun _ => ?_)
    refine lv_iload_n hx hb dX11_does_9 rfl (lv_at hl 2 rfl) ?_
    refine ro_i (va_runS (As := [.int p1]) (rest := []) ⟨hx, hb, hml, hown, hts⟩ (k_fX11_isBit l g cI cJ cB cZ cL p1 ip1 H.size hzp1) (va_cwS 1 hts (goodIn_app (g_3 (List.mem_cons_of_mem _ (List.mem_append_left _ (List.mem_of_getElem? (i := 3) rfl))) (List.mem_cons_of_mem _ (List.mem_append_left _ (List.mem_of_getElem? (i := 4) rfl))) (List.mem_cons_of_mem _ (List.mem_append_left _ (List.mem_of_getElem? (i := 2) rfl))) (by decide +kernel)) (goodIn_sub (fun _ h => List.mem_cons_of_mem _ (List.mem_append_right _ (List.mem_append_right _ (List.mem_append_left _ h)))) good_v_fX11_isBit)) rfl rfl rfl (by decide +kernel) ⟨Nat.le_of_ble_eq_true rfl, Nat.le_of_ble_eq_true rfl⟩) (ps_RO (wc := []) hK hP [] rfl) rfl rfl hl.1 rfl (lv_room (Nat.le_of_ble_eq_true rfl)) dX11_does_10 ⟨Nat.le_of_ble_eq_true rfl, Nat.le_of_ble_eq_true rfl⟩) hS hA hP (fun r5 u6 H locs hw7 hP hS => ?_)
    rcases hw7 with ⟨rfl, hw7_0⟩ | ⟨rfl, hw7_0⟩
    · refine lv_if_eq (tgt := 23) hx hb dX11_does_13 (by decide) (fun c8 => absurd c8 (by decide)) (fun _ => ?_)
      refine lv_iload_n hx hb dX11_does_16 rfl (lv_at hl 3 rfl) ?_
      refine ro_i (va_runS (As := [.int p2]) (rest := []) ⟨hx, hb, hml, hown, hts⟩ (k_fX11_isBit l g cI cJ cB cZ cL p2 ip2 H.size hzp2) (va_cwS 1 hts (goodIn_app (g_3 (List.mem_cons_of_mem _ (List.mem_append_left _ (List.mem_of_getElem? (i := 3) rfl))) (List.mem_cons_of_mem _ (List.mem_append_left _ (List.mem_of_getElem? (i := 4) rfl))) (List.mem_cons_of_mem _ (List.mem_append_left _ (List.mem_of_getElem? (i := 2) rfl))) (by decide +kernel)) (goodIn_sub (fun _ h => List.mem_cons_of_mem _ (List.mem_append_right _ (List.mem_append_right _ (List.mem_append_left _ h)))) good_v_fX11_isBit)) rfl rfl rfl (by decide +kernel) ⟨Nat.le_of_ble_eq_true rfl, Nat.le_of_ble_eq_true rfl⟩) (ps_RO (wc := []) hK hP [] rfl) rfl rfl hl.1 rfl (lv_room (Nat.le_of_ble_eq_true rfl)) dX11_does_17 ⟨Nat.le_of_ble_eq_true rfl, Nat.le_of_ble_eq_true rfl⟩) hS hA hP (fun r9 u10 H locs hw11 hP hS => ?_)
      rcases hw11 with ⟨rfl, hw11_0⟩ | ⟨rfl, hw11_0⟩
      · refine lv_if_ne (tgt := 26) hx hb dX11_does_20 (by decide) (fun _ => ?_) (fun c12 => absurd c12 (by decide))
        refine lv_iload_n hx hb dX11_does_26 rfl (lv_at hl 1 rfl) ?_
        refine lv_iload_n hx hb dX11_does_27 rfl (lv_at hl 2 rfl) ?_
        refine lv_iconst (v := 2) hx hb dX11_does_28 (by decide) ?_
        refine lv_iload_n hx hb dX11_does_29 rfl (lv_at hl 3 rfl) ?_
        refine lv_imul hx hb dX11_does_30 ?_
        refine lv_iadd hx hb dX11_does_31 ?_
        refine lv_ishr hx hb dX11_does_32 ?_
        refine lv_iconst (v := 1) hx hb dX11_does_33 (by decide) ?_
        refine lv_iand hx hb dX11_does_34 ?_
        exact W.iret (v := ((p0 >>> ((p1 + (2 * p2)) &&& (31 : Int32))) &&& 1)) hx hb hr (fun t ht hW => ⟨⟨((p0 >>> ((p1 + (2 * p2)) &&& (31 : Int32))) &&& 1), (), rfl, (if_pos ⟨⟨by omega, by omega⟩, ⟨by omega, by omega⟩, ⟨by omega, by omega⟩⟩).symm, trivial⟩, hS.F ht⟩) hS.2.2 dX11_does_35
      · refine lv_if_ne (tgt := 26) hx hb dX11_does_20 (by decide) (fun c13 => absurd c13 (by decide)) (fun _ => ?_)
        refine lv_bipush (v := (-2)) hx hb dX11_does_23 (by decide) ?_
        exact W.iret (v := (-2)) hx hb hr (fun t ht hW => ⟨⟨(-2), (), rfl, (if_neg (by omega)).symm, trivial⟩, hS.F ht⟩) hS.2.2 dX11_does_25
    · refine lv_if_eq (tgt := 23) hx hb dX11_does_13 (by decide) (fun _ => ?_) (fun c14 => absurd c14 (by decide))
      refine lv_bipush (v := (-2)) hx hb dX11_does_23 (by decide) ?_
      exact W.iret (v := (-2)) hx hb hr (fun t ht hW => ⟨⟨(-2), (), rfl, (if_neg (by omega)).symm, trivial⟩, hS.F ht⟩) hS.2.2 dX11_does_25
  · refine lv_if_eq (tgt := 23) hx hb dX11_does_6 (by decide) (fun _ => ?_) (fun c15 => absurd c15 (by decide))
    refine lv_bipush (v := (-2)) hx hb dX11_does_23 (by decide) ?_
    exact W.iret (v := (-2)) hx hb hr (fun t ht hW => ⟨⟨(-2), (), rfl, (if_neg (by omega)).symm, trivial⟩, hS.F ht⟩) hS.2.2 dX11_does_25
def v_fX12_in : List Cond := .code yX12_in cX12_in 6 (some .boolean) :: (([] : List Cond) ++ ([] : List Cond))
theorem good_v_fX12_in : v_fX12_in.all goodWord = true := ga_c (by decide +kernel) (ga_a (by decide +kernel) rfl)
set_option maxHeartbeats 4000000 in
set_option maxRecDepth 100000 in
theorem k_fX12_in (l : Launch) (g : va_G) (cI cJ cB cZ cL : ClassId) (p0 : Int64) (p1 : Int64) (p2 : Int64) (ip0 : Int) (ip1 : Int) (ip2 : Int) (sz : Nat) (hzp0 : p0.toInt = ip0) (hzp1 : p1.toInt = ip1) (hzp2 : p2.toInt = ip2) : Met l yX12_in v_fX12_in ({ frames := 0, cells := 0, slots := 0, locals := 0 }) (va_Pc [.long p0, .long p1, .long p2] (pRO g (tyT cI cJ cB cZ cL) [] sz)) (va_Qi (fun (r : Int32) (u : Unit) => (r = 1 ∧ ip1 ≤ ip0 ∧ ip0 ≤ ip2) ∨ (r = 0 ∧ ¬ (ip1 ≤ ip0 ∧ ip0 ≤ ip2))) (fun (_ : Unit) (_ : State) => True) (va_A [] sz)) 0 0 (va_A [] sz) := by
  refine Met.ofW (cc := cX12_in) (maxL := 6) (ret := (some .boolean)) (by decide) rfl ?_
  intro p e s m args below meth c s₁ B hml hv
  obtain ⟨rfl, hsz, hP, hK⟩ := hv
  have hx := B.exec
  have hb := B.bytes
  have hr := B.returns
  have hts := atoms_spec (ws := v_fX12_in) B.pre
  have hown : s.vm.findClass RX12 = some m.cls := findClass_of_methodNamed B.named
  have hlocks := B.notSynchronized
  subst hsz
  generalize hAe : (va_A [] s.heap.size) = A
  have hA : ∀ q : Nat, s.heap.size ≤ q → A q := fun q h => by rw [← hAe]; exact Or.inr h
  have hS : va_S A s.heap s.heap [] := va_S.rf
  have hl := lv_entry ([.long p0, .long p1, .long p2]) (n := 6) (Nat.le_of_ble_eq_true rfl)
  rw [lg_entry_eq]
  generalize (lg_sl ([.long p0, .long p1, .long p2]) ++ List.replicate (6 - (lg_sl ([.long p0, .long p1, .long p2])).length) Slot.unset).toArray = ls at hl ⊢
  have hl : lv_has ls 6 [(0, .long p0), (2, .long p1), (4, .long p2)] := hl
  have hP : va_P g vwCl [] s.heap := hP
  refine lv_lload_n hx hb dX12_in_0 rfl (lv_at hl 0 rfl) ?_
  refine lv_lload_n hx hb dX12_in_1 rfl (lv_at hl 1 rfl) ?_
  refine W.lcmp hx hb dX12_in_2 ?_
  refine lv_if_lt (tgt := 17) hx hb dX12_in_3 (by decide) (fun c1 => ?_) (fun c1 => ?_)
  · have f2 := (show ip0 < ip1 from y_lt hzp0 hzp1 c1)
    refine lv_iconst (v := 0) hx hb dX12_in_17 (by decide) ?_
    exact W.zret (v := 0) hx hb hr rfl (fun t ht hW => ⟨⟨0, (), rfl, Or.inr ⟨rfl, by omega⟩, trivial⟩, hS.F ht⟩) hS.2.2 dX12_in_18
  · have f2 := (show ip1 ≤ ip0 from y_nlt hzp0 hzp1 c1)
    refine lv_lload_n hx hb dX12_in_6 rfl (lv_at hl 0 rfl) ?_
    refine lv_lload hx hb dX12_in_7 (lv_at hl 2 rfl) ?_
    refine W.lcmp hx hb dX12_in_9 ?_
    refine lv_if_gt (tgt := 17) hx hb dX12_in_10 (by decide) (fun c3 => ?_) (fun c3 => ?_)
    · have f4 := (show ip2 < ip0 from y_gt hzp0 hzp2 c3)
      refine lv_iconst (v := 0) hx hb dX12_in_17 (by decide) ?_
      exact W.zret (v := 0) hx hb hr rfl (fun t ht hW => ⟨⟨0, (), rfl, Or.inr ⟨rfl, by omega⟩, trivial⟩, hS.F ht⟩) hS.2.2 dX12_in_18
    · have f4 := (show ip0 ≤ ip2 from y_ngt hzp0 hzp2 c3)
      refine lv_iconst (v := 1) hx hb dX12_in_13 (by decide) ?_
      refine lv_goto (tgt := 18) hx hb dX12_in_14 (by decide) ?_
      exact W.zret (v := 1) hx hb hr rfl (fun t ht hW => ⟨⟨1, (), rfl, Or.inl ⟨rfl, by omega⟩, trivial⟩, hS.F ht⟩) hS.2.2 dX12_in_18
def v_fX12_does : List Cond := .code yX12_does cX12_does 4 (some .int) :: (([.fieldLink RX12 107 "CardsAtYuleModel" "thrown" "I", .constantLong RX12 286 (15), .methodLink RX12 112 yX12_in, .static yX12_in, .initialized RX12] : List Cond) ++ (v_fX12_in ++ (wsX120 ++ ([] : List Cond))))
theorem good_v_fX12_does : v_fX12_does.all goodWord = true := ga_c (by decide +kernel) (ga_a (by decide +kernel) (ga_a good_v_fX12_in (ga_a good_wsX120 rfl)))
set_option maxHeartbeats 4000000 in
set_option maxRecDepth 100000 in
theorem k_fX12_does (l : Launch) (g : va_G) (cI cJ cB cZ cL : ClassId) (mo : Nat) (m_a : Nat → Nat) (m_thrown : Int32) (m_taped : Int32) (m_at : Int32) (m_token : Int32) (m_place : Int32) (m_value : Int32) (m_word : Int64) (m_bad : Int32) (m_badPlace : Int32) (m_fault : Int32) (m_faultPlace : Int32) (m_will : Int32) (m_forgot : Int32) (m_x : Int64) (m_any : Int64) (m_bothSend : Int64) (m_meanCards : Int64) (m_bestSum : Int32) (m_fitMany : Int32) (m_fitFirst : Int64) (m_fitSecond : Int64) (vb : Int32) (vr : Int32) (vc : Int32) (vf : Int32) (p0 : Int32) (p1 : Int32) (p2 : Int32) (ip0 : Int) (ip1 : Int) (ip2 : Int) (sz : Nat) (hzp0 : p0.toInt = ip0) (hzp1 : p1.toInt = ip1) (hzp2 : p2.toInt = ip2) : Met l yX12_does v_fX12_does ({ frames := 1, cells := 0, slots := 0, locals := 25 }) (va_Pc [.ref mo, .int p0, .int p1, .int p2] (pRW g (tyT cI cJ cB cZ cL) [(mo, .inr (11, mG m_a m_thrown m_taped m_at m_token m_place m_value m_word m_bad m_badPlace m_fault m_faultPlace (-1) m_will m_forgot 0 m_x vb vr vc vf m_any m_bothSend m_meanCards m_bestSum m_fitMany m_fitFirst m_fitSecond))] sz)) (va_Qi (fun (r : Int32) (u : Unit) => r = doesV p0 p1 p2 ip0 ip1 ip2) (fun (_ : Unit) (t : State) => bRW g (tyT cI cJ cB cZ cL) (va_A [(mo, .inr (11, mG m_a m_thrown m_taped m_at m_token m_place m_value m_word m_bad m_badPlace m_fault m_faultPlace (-1) m_will m_forgot 0 m_x vb vr vc vf m_any m_bothSend m_meanCards m_bestSum m_fitMany m_fitFirst m_fitSecond))] sz) [(mo, .inr (11, mG m_a 0 m_taped m_at m_token m_place m_value m_word m_bad m_badPlace m_fault m_faultPlace (-1) m_will m_forgot 0 m_x vb vr vc vf m_any m_bothSend m_meanCards m_bestSum m_fitMany m_fitFirst m_fitSecond))] t) (va_A [(mo, .inr (11, mG m_a m_thrown m_taped m_at m_token m_place m_value m_word m_bad m_badPlace m_fault m_faultPlace (-1) m_will m_forgot 0 m_x vb vr vc vf m_any m_bothSend m_meanCards m_bestSum m_fitMany m_fitFirst m_fitSecond))] sz)) 0 0 (va_A [(mo, .inr (11, mG m_a m_thrown m_taped m_at m_token m_place m_value m_word m_bad m_badPlace m_fault m_faultPlace (-1) m_will m_forgot 0 m_x vb vr vc vf m_any m_bothSend m_meanCards m_bestSum m_fitMany m_fitFirst m_fitSecond))] sz) := by
  refine Met.ofW (cc := cX12_does) (maxL := 4) (ret := (some .int)) (by decide) rfl ?_
  intro p e s m args below meth c s₁ B hml hv
  obtain ⟨rfl, hsz, hP, hK, hD0⟩ := hv
  have hx := B.exec
  have hb := B.bytes
  have hr := B.returns
  have hts := atoms_spec (ws := v_fX12_does) B.pre
  have hown : s.vm.findClass RX12 = some m.cls := findClass_of_methodNamed B.named
  have hlocks := B.notSynchronized
  subst hsz
  have iX12 : ∀ w ∈ wsX120, w ∈ v_fX12_does := (fun _ h => List.mem_cons_of_mem _ (List.mem_append_right _ (List.mem_append_right _ (List.mem_append_left _ h))))
  have hD := hD0.self (sz := s.heap.size)
  generalize hAe : (va_A [(mo, .inr (11, mG m_a m_thrown m_taped m_at m_token m_place m_value m_word m_bad m_badPlace m_fault m_faultPlace (-1) m_will m_forgot 0 m_x vb vr vc vf m_any m_bothSend m_meanCards m_bestSum m_fitMany m_fitFirst m_fitSecond))] s.heap.size) = A at hD ⊢
  have hA : ∀ q : Nat, s.heap.size ≤ q → A q := fun q h => by rw [← hAe]; exact Or.inr h
  have hS : va_S A s.heap s.heap [] := va_S.rf
  have hl := lv_entry ([.ref mo, .int p0, .int p1, .int p2]) (n := 4) (Nat.le_of_ble_eq_true rfl)
  rw [lg_entry_eq]
  generalize (lg_sl ([.ref mo, .int p0, .int p1, .int p2]) ++ List.replicate (4 - (lg_sl ([.ref mo, .int p0, .int p1, .int p2])).length) Slot.unset).toArray = ls at hl ⊢
  have hl : lv_has ls 4 [(0, .ref mo), (1, .int p0), (2, .int p1), (3, .int p2)] := hl
  have hP : va_P g vwCl [(mo, .inr (11, mG m_a m_thrown m_taped m_at m_token m_place m_value m_word m_bad m_badPlace m_fault m_faultPlace (-1) m_will m_forgot 0 m_x vb vr vc vf m_any m_bothSend m_meanCards m_bestSum m_fitMany m_fitFirst m_fitSecond))] s.heap := hP
  refine lv_aload_n hx hb dX12_does_0 rfl (lv_at hl 0 rfl) ?_
  refine lv_iconst (v := 0) hx hb dX12_does_1 (by decide) ?_
  refine va_put (D := g) (ci := 11) (v := .int 0) (ty := .int) (C := RX12) (T := TX12) (N := 56) hx hb hts iX12 tyX12 tyX12_ok nmX12 hown hK hP hD hS 0 rfl rfl 0 (by decide) (hts (.fieldLink RX12 107 "CardsAtYuleModel" "thrown" "I") (List.mem_cons_of_mem _ (List.mem_append_left _ (List.mem_of_getElem? (i := 0) rfl)))) (fun _ h9 => h9) rfl (by decide +kernel) rfl rfl (Nat.le_of_ble_eq_true rfl) dX12_does_2 (fun H locs hP hD hS => ?_)
  have hP : va_P g vwCl [(mo, .inr (11, mG m_a 0 m_taped m_at m_token m_place m_value m_word m_bad m_badPlace m_fault m_faultPlace (-1) m_will m_forgot 0 m_x vb vr vc vf m_any m_bothSend m_meanCards m_bestSum m_fitMany m_fitFirst m_fitSecond))] H := hP
  have hD : va_D A [(mo, .inr (11, mG m_a 0 m_taped m_at m_token m_place m_value m_word m_bad m_badPlace m_fault m_faultPlace (-1) m_will m_forgot 0 m_x vb vr vc vf m_any m_bothSend m_meanCards m_bestSum m_fitMany m_fitFirst m_fitSecond))] := hD
  refine lv_iload_n hx hb dX12_does_5 rfl (lv_at hl 1 rfl) ?_
  refine lv_i2l (v := p0.toInt64) hx hb dX12_does_6 rfl ?_
  refine lv_lconst (v := 0) hx hb dX12_does_7 (by decide) ?_
  refine lv_ldc2 (v := 15) hx hb hown (hts (.constantLong RX12 286 (15)) (List.mem_cons_of_mem _ (List.mem_append_left _ (List.mem_of_getElem? (i := 1) rfl)))) dX12_does_8 ?_
  refine ro_i (va_runS (As := [.long p0.toInt64, .long 0, .long 15]) (rest := []) ⟨hx, hb, hml, hown, hts⟩ (k_fX12_in l g cI cJ cB cZ cL p0.toInt64 0 15 ip0 0 15 H.size (z_i2l hzp0) rfl rfl) (va_cwS 3 hts (goodIn_app (g_3 (List.mem_cons_of_mem _ (List.mem_append_left _ (List.mem_of_getElem? (i := 2) rfl))) (List.mem_cons_of_mem _ (List.mem_append_left _ (List.mem_of_getElem? (i := 3) rfl))) (List.mem_cons_of_mem _ (List.mem_append_left _ (List.mem_of_getElem? (i := 4) rfl))) (by decide +kernel)) (goodIn_sub (fun _ h => List.mem_cons_of_mem _ (List.mem_append_right _ (List.mem_append_left _ h))) good_v_fX12_in)) rfl rfl rfl (by decide +kernel) ⟨Nat.le_of_ble_eq_true rfl, Nat.le_of_ble_eq_true rfl⟩) (ps_RO (wc := []) hK hP [] rfl) rfl rfl hl.1 rfl (lv_room (Nat.le_of_ble_eq_true rfl)) dX12_does_11 ⟨Nat.le_of_ble_eq_true rfl, Nat.le_of_ble_eq_true rfl⟩) hS hA hP (fun r1 u2 H locs hw3 hP hS => ?_)
  rcases hw3 with ⟨rfl, hw3_0⟩ | ⟨rfl, hw3_0⟩
  · refine lv_if_eq (tgt := 49) hx hb dX12_does_14 (by decide) (fun c4 => absurd c4 (by decide)) (fun _ => ?_)
    refine lv_iload_n hx hb dX12_does_17 rfl (lv_at hl 2 rfl) ?_
    refine lv_i2l (v := p1.toInt64) hx hb dX12_does_18 rfl ?_
    refine lv_lconst (v := 0) hx hb dX12_does_19 (by decide) ?_
    refine lv_lconst (v := 1) hx hb dX12_does_20 (by decide) ?_
    refine ro_i (va_runS (As := [.long p1.toInt64, .long 0, .long 1]) (rest := []) ⟨hx, hb, hml, hown, hts⟩ (k_fX12_in l g cI cJ cB cZ cL p1.toInt64 0 1 ip1 0 1 H.size (z_i2l hzp1) rfl rfl) (va_cwS 3 hts (goodIn_app (g_3 (List.mem_cons_of_mem _ (List.mem_append_left _ (List.mem_of_getElem? (i := 2) rfl))) (List.mem_cons_of_mem _ (List.mem_append_left _ (List.mem_of_getElem? (i := 3) rfl))) (List.mem_cons_of_mem _ (List.mem_append_left _ (List.mem_of_getElem? (i := 4) rfl))) (by decide +kernel)) (goodIn_sub (fun _ h => List.mem_cons_of_mem _ (List.mem_append_right _ (List.mem_append_left _ h))) good_v_fX12_in)) rfl rfl rfl (by decide +kernel) ⟨Nat.le_of_ble_eq_true rfl, Nat.le_of_ble_eq_true rfl⟩) (ps_RO (wc := []) hK hP [] rfl) rfl rfl hl.1 rfl (lv_room (Nat.le_of_ble_eq_true rfl)) dX12_does_21 ⟨Nat.le_of_ble_eq_true rfl, Nat.le_of_ble_eq_true rfl⟩) hS hA hP (fun r5 u6 H locs hw7 hP hS => ?_)
    rcases hw7 with ⟨rfl, hw7_0⟩ | ⟨rfl, hw7_0⟩
    · refine lv_if_eq (tgt := 49) hx hb dX12_does_24 (by decide) (fun c8 => absurd c8 (by decide)) (fun _ => ?_)
      refine lv_iload_n hx hb dX12_does_27 rfl (lv_at hl 3 rfl) ?_
      refine lv_i2l (v := p2.toInt64) hx hb dX12_does_28 rfl ?_
      refine lv_lconst (v := 0) hx hb dX12_does_29 (by decide) ?_
      refine lv_lconst (v := 1) hx hb dX12_does_30 (by decide) ?_
      refine ro_i (va_runS (As := [.long p2.toInt64, .long 0, .long 1]) (rest := []) ⟨hx, hb, hml, hown, hts⟩ (k_fX12_in l g cI cJ cB cZ cL p2.toInt64 0 1 ip2 0 1 H.size (z_i2l hzp2) rfl rfl) (va_cwS 3 hts (goodIn_app (g_3 (List.mem_cons_of_mem _ (List.mem_append_left _ (List.mem_of_getElem? (i := 2) rfl))) (List.mem_cons_of_mem _ (List.mem_append_left _ (List.mem_of_getElem? (i := 3) rfl))) (List.mem_cons_of_mem _ (List.mem_append_left _ (List.mem_of_getElem? (i := 4) rfl))) (by decide +kernel)) (goodIn_sub (fun _ h => List.mem_cons_of_mem _ (List.mem_append_right _ (List.mem_append_left _ h))) good_v_fX12_in)) rfl rfl rfl (by decide +kernel) ⟨Nat.le_of_ble_eq_true rfl, Nat.le_of_ble_eq_true rfl⟩) (ps_RO (wc := []) hK hP [] rfl) rfl rfl hl.1 rfl (lv_room (Nat.le_of_ble_eq_true rfl)) dX12_does_31 ⟨Nat.le_of_ble_eq_true rfl, Nat.le_of_ble_eq_true rfl⟩) hS hA hP (fun r9 u10 H locs hw11 hP hS => ?_)
      rcases hw11 with ⟨rfl, hw11_0⟩ | ⟨rfl, hw11_0⟩
      · refine lv_if_eq (tgt := 49) hx hb dX12_does_34 (by decide) (fun c12 => absurd c12 (by decide)) (fun _ => ?_)
        refine lv_iload_n hx hb dX12_does_37 rfl (lv_at hl 1 rfl) ?_
        refine lv_iload_n hx hb dX12_does_38 rfl (lv_at hl 2 rfl) ?_
        refine lv_iconst (v := 2) hx hb dX12_does_39 (by decide) ?_
        refine lv_iload_n hx hb dX12_does_40 rfl (lv_at hl 3 rfl) ?_
        refine lv_imul hx hb dX12_does_41 ?_
        refine lv_iadd hx hb dX12_does_42 ?_
        refine lv_ishr hx hb dX12_does_43 ?_
        refine lv_iconst (v := 1) hx hb dX12_does_44 (by decide) ?_
        refine lv_iand hx hb dX12_does_45 ?_
        refine lv_goto (tgt := 51) hx hb dX12_does_46 (by decide) ?_
        have hP9 := hP.sub (ws' := [(mo, .inr (11, mG m_a 0 m_taped m_at m_token m_place m_value m_word m_bad m_badPlace m_fault m_faultPlace (-1) m_will m_forgot 0 m_x vb vr vc vf m_any m_bothSend m_meanCards m_bestSum m_fitMany m_fitFirst m_fitSecond))]) [0] rfl
        have hD9 := hD.sub (ws' := [(mo, .inr (11, mG m_a 0 m_taped m_at m_token m_place m_value m_word m_bad m_badPlace m_fault m_faultPlace (-1) m_will m_forgot 0 m_x vb vr vc vf m_any m_bothSend m_meanCards m_bestSum m_fitMany m_fitFirst m_fitSecond))]) [0] (by decide) rfl
        exact W.iret (v := ((p0 >>> ((p1 + (2 * p2)) &&& (31 : Int32))) &&& 1)) hx hb hr (fun t ht hW => ⟨⟨((p0 >>> ((p1 + (2 * p2)) &&& (31 : Int32))) &&& 1), (), rfl, (if_pos ⟨⟨by omega, by omega⟩, ⟨by omega, by omega⟩, ⟨by omega, by omega⟩⟩).symm, by rw [ht]; exact hP9, va_K.moved hW.alike hK, hD9⟩, hS.F ht⟩) hS.2.2 dX12_does_51
      · refine lv_if_eq (tgt := 49) hx hb dX12_does_34 (by decide) (fun _ => ?_) (fun c13 => absurd c13 (by decide))
        refine lv_bipush (v := (-2)) hx hb dX12_does_49 (by decide) ?_
        have hP9 := hP.sub (ws' := [(mo, .inr (11, mG m_a 0 m_taped m_at m_token m_place m_value m_word m_bad m_badPlace m_fault m_faultPlace (-1) m_will m_forgot 0 m_x vb vr vc vf m_any m_bothSend m_meanCards m_bestSum m_fitMany m_fitFirst m_fitSecond))]) [0] rfl
        have hD9 := hD.sub (ws' := [(mo, .inr (11, mG m_a 0 m_taped m_at m_token m_place m_value m_word m_bad m_badPlace m_fault m_faultPlace (-1) m_will m_forgot 0 m_x vb vr vc vf m_any m_bothSend m_meanCards m_bestSum m_fitMany m_fitFirst m_fitSecond))]) [0] (by decide) rfl
        exact W.iret (v := (-2)) hx hb hr (fun t ht hW => ⟨⟨(-2), (), rfl, (if_neg (by omega)).symm, by rw [ht]; exact hP9, va_K.moved hW.alike hK, hD9⟩, hS.F ht⟩) hS.2.2 dX12_does_51
    · refine lv_if_eq (tgt := 49) hx hb dX12_does_24 (by decide) (fun _ => ?_) (fun c14 => absurd c14 (by decide))
      refine lv_bipush (v := (-2)) hx hb dX12_does_49 (by decide) ?_
      have hP9 := hP.sub (ws' := [(mo, .inr (11, mG m_a 0 m_taped m_at m_token m_place m_value m_word m_bad m_badPlace m_fault m_faultPlace (-1) m_will m_forgot 0 m_x vb vr vc vf m_any m_bothSend m_meanCards m_bestSum m_fitMany m_fitFirst m_fitSecond))]) [0] rfl
      have hD9 := hD.sub (ws' := [(mo, .inr (11, mG m_a 0 m_taped m_at m_token m_place m_value m_word m_bad m_badPlace m_fault m_faultPlace (-1) m_will m_forgot 0 m_x vb vr vc vf m_any m_bothSend m_meanCards m_bestSum m_fitMany m_fitFirst m_fitSecond))]) [0] (by decide) rfl
      exact W.iret (v := (-2)) hx hb hr (fun t ht hW => ⟨⟨(-2), (), rfl, (if_neg (by omega)).symm, by rw [ht]; exact hP9, va_K.moved hW.alike hK, hD9⟩, hS.F ht⟩) hS.2.2 dX12_does_51
  · refine lv_if_eq (tgt := 49) hx hb dX12_does_14 (by decide) (fun _ => ?_) (fun c15 => absurd c15 (by decide))
    refine lv_bipush (v := (-2)) hx hb dX12_does_49 (by decide) ?_
    have hP9 := hP.sub (ws' := [(mo, .inr (11, mG m_a 0 m_taped m_at m_token m_place m_value m_word m_bad m_badPlace m_fault m_faultPlace (-1) m_will m_forgot 0 m_x vb vr vc vf m_any m_bothSend m_meanCards m_bestSum m_fitMany m_fitFirst m_fitSecond))]) [0] rfl
    have hD9 := hD.sub (ws' := [(mo, .inr (11, mG m_a 0 m_taped m_at m_token m_place m_value m_word m_bad m_badPlace m_fault m_faultPlace (-1) m_will m_forgot 0 m_x vb vr vc vf m_any m_bothSend m_meanCards m_bestSum m_fitMany m_fitFirst m_fitSecond))]) [0] (by decide) rfl
    exact W.iret (v := (-2)) hx hb hr (fun t ht hW => ⟨⟨(-2), (), rfl, (if_neg (by omega)).symm, by rw [ht]; exact hP9, va_K.moved hW.alike hK, hD9⟩, hS.F ht⟩) hS.2.2 dX12_does_51
def v_fJ7_fill_53178_16 : List Cond := .code yJ7_fill_53178 cJ7_fill_53178 4 none :: (([] : List Cond) ++ ([] : List Cond))
theorem good_v_fJ7_fill_53178_16 : v_fJ7_fill_53178_16.all goodWord = true := ga_c (by decide +kernel) (ga_a (by decide +kernel) rfl)
set_option maxHeartbeats 4000000 in
set_option maxRecDepth 100000 in
theorem k_fJ7_fill_53178_16 (l : Launch) (g : va_G) (cI cJ cB cZ cL : ClassId) (ar : Nat) (f0 : Nat → Int32) (v0 : Int32) (sz : Nat)  : Met l yJ7_fill_53178 v_fJ7_fill_53178_16 ({ frames := 0, cells := 0, slots := 0, locals := 0 }) (va_Pc [.ref ar, .int v0] (pRW g (tyT cI cJ cB cZ cL) [(ar, .inl (cI, 16, .inl f0))] sz)) (va_Qv (fun (u : Nat → Int32) => match u with | f1 => ∀ k, k < 16 → f1 k = v0) (fun (u : Nat → Int32) (t : State) => bRW g (tyT cI cJ cB cZ cL) (va_A [(ar, .inl (cI, 16, .inl f0))] sz) (match u with | f1 => [(ar, .inl (cI, 16, .inl f1))]) t) (va_A [(ar, .inl (cI, 16, .inl f0))] sz)) 0 0 (va_A [(ar, .inl (cI, 16, .inl f0))] sz) := by
  refine Met.ofW (cc := cJ7_fill_53178) (maxL := 4) (ret := none) (by decide) rfl ?_
  intro p e s m args below meth c s₁ B hml hv
  obtain ⟨rfl, hsz, hP, hK, hD0⟩ := hv
  have hx := B.exec
  have hb := B.bytes
  have hr := B.returns
  have hts := atoms_spec (ws := v_fJ7_fill_53178_16) B.pre
  have hown : s.vm.findClass RJ7 = some m.cls := findClass_of_methodNamed B.named
  have hlocks := B.notSynchronized
  subst hsz
  have hD := hD0.self (sz := s.heap.size)
  generalize hAe : (va_A [(ar, .inl (cI, 16, .inl f0))] s.heap.size) = A at hD ⊢
  have hA : ∀ q : Nat, s.heap.size ≤ q → A q := fun q h => by rw [← hAe]; exact Or.inr h
  have hS : va_S A s.heap s.heap [] := va_S.rf
  have hl := lv_entry ([.ref ar, .int v0]) (n := 4) (Nat.le_of_ble_eq_true rfl)
  rw [lg_entry_eq]
  generalize (lg_sl ([.ref ar, .int v0]) ++ List.replicate (4 - (lg_sl ([.ref ar, .int v0])).length) Slot.unset).toArray = ls at hl ⊢
  have hl : lv_has ls 4 [(0, .ref ar), (1, .int v0)] := hl
  have hP : va_P g vwCl [(ar, .inl (cI, 16, .inl f0))] s.heap := hP
  refine lv_iconst (v := 0) hx hb dJ7_fill_53178_0 (by decide) ?_
  refine lv_istore_n (lv' := [(2, .int 0), (0, .ref ar), (1, .int v0)]) hx hb dJ7_fill_53178_1 rfl hl (by decide) rfl (fun ls hl => ?_)
  refine lv_aload_n hx hb dJ7_fill_53178_2 rfl (lv_at hl 1 rfl) ?_
  refine va_alen (D := g) hx hb hK hP 0 0 rfl rfl (v := 16) rfl dJ7_fill_53178_3 ?_
  refine lv_istore_n (lv' := [(3, .int 16), (2, .int 0), (0, .ref ar), (1, .int v0)]) hx hb dJ7_fill_53178_4 rfl hl (by decide) rfl (fun ls hl => ?_)
  have lp3 : ∀ (n1 : Nat) (i : Nat) (f : Nat → Int32) (H : Heap) (locs : List Loc) (ls : Array Slot), 16 - i < n1 → (i ≤ 16) → (∀ k, k < i → f k = v0) → va_P g vwCl [(ar, .inl (cI, 16, .inl f))] H → va_D A [(ar, .inl (cI, 16, .inl f))] → va_S A s.heap H locs → lv_has ls 4 [(0, .ref ar), (1, .int v0), (2, .int (nI i)), (3, .int 16)] → W p l e (headSpec v_fJ7_fill_53178_16 ({ frames := 0, cells := 0, slots := 0, locals := 0 })).room s m ([.ref ar, .int v0] : List Value).toArray below meth c H locs 0 0 (MQ below (va_Qv (fun (u : Nat → Int32) => match u with | f1 => ∀ k, k < 16 → f1 k = v0) (fun (u : Nat → Int32) (t : State) => bRW g (tyT cI cJ cB cZ cL) A (match u with | f1 => [(ar, .inl (cI, 16, .inl f1))]) t) A) ([.ref ar, .int v0] : List Value).toArray s 0 0 A) (F0 m 5 ls []) := by
    intro n1
    induction n1 with
    | zero => exact fun i f H locs ls hn => absurd hn (Nat.not_lt_zero _)
    | succ n1 ih2 =>
      intro i f H locs ls hn hi hf hP hD hS hl
      refine lv_iload_n hx hb dJ7_fill_53178_5 rfl (lv_at hl 2 rfl) ?_
      refine lv_iload_n hx hb dJ7_fill_53178_6 rfl (lv_at hl 3 rfl) ?_
      refine lv_icmp_ge (tgt := 20) hx hb dJ7_fill_53178_7 (by decide) (fun c4 => ?_) (fun c4 => ?_)
      · have f5 := (show 16 ≤ (i : Int) from z_le rfl (nI_toInt (n := i) (by omega)) c4)
        have hP9 := hP.sub (ws' := [(ar, .inl (cI, 16, .inl f))]) [0] rfl
        have hD9 := hD.sub (ws' := [(ar, .inl (cI, 16, .inl f))]) [0] (by decide) rfl
        exact W.vret hx hb hr (fun t ht hW => ⟨⟨f, rfl, (fun k hk => hf k (by omega)), by rw [ht]; exact hP9, va_K.moved hW.alike hK, hD9⟩, hS.F ht⟩) hS.2.2 dJ7_fill_53178_20
      · have f5 := (show (i : Int) < 16 from z_nle rfl (nI_toInt (n := i) (by omega)) c4)
        refine lv_aload_n hx hb dJ7_fill_53178_10 rfl (lv_at hl 0 rfl) ?_
        refine lv_iload_n hx hb dJ7_fill_53178_11 rfl (lv_at hl 2 rfl) ?_
        refine lv_iload_n hx hb dJ7_fill_53178_12 rfl (lv_at hl 1 rfl) ?_
        refine va_iast (D := g) hx hb hK hP hD hS 0 0 rfl rfl (vp_in_nI (n := i) (by omega) (by decide)) dJ7_fill_53178_13 (fun H locs hP hD hS => ?_)
        rw [nI_clamp (n := i) (by omega)] at hP hD
        have hP : va_P g vwCl [(ar, .inl (cI, 16, .inl (upd f i v0)))] H := hP
        have hD : va_D A [(ar, .inl (cI, 16, .inl (upd f i v0)))] := hD
        refine lv_iinc (v := (nI (i + 1))) (lv' := [(2, .int (nI (i + 1))), (0, .ref ar), (1, .int v0), (3, .int 16)]) hx hb dJ7_fill_53178_14 hl (k := 2) rfl (nI_add i 1) (by decide) rfl (fun ls hl => ?_)
        refine lv_goto (tgt := 5) hx hb dJ7_fill_53178_17 (by decide) ?_
        exact ih2 (i + 1) (upd f i v0) _ _ _ (by omega) (by omega) (fill_s hf (fun k => rfl)) (hP.sub [0] rfl) (hD.sub [0] (by decide) rfl) hS (lv_sub hl [1, 2, 0, 3] rfl)
  exact lp3 _ 0 f0 _ _ _ (Nat.lt_succ_self _) (Nat.zero_le _) (fun k hk => absurd hk (Nat.not_lt_zero _)) (hP.sub [0] rfl) (hD.sub [0] (by decide) rfl) hS (lv_sub hl [2, 3, 1, 0] rfl)
def v_fJ6_bitCount_0 : List Cond := .code yJ6_bitCount_0f7a4 cJ6_bitCount_0f7a4 1 (some .int) :: (([.constant RJ6 265 (1431655765), .constant RJ6 266 (858993459), .constant RJ6 267 (252645135)] : List Cond) ++ ([] : List Cond))
theorem good_v_fJ6_bitCount_0 : v_fJ6_bitCount_0.all goodWord = true := ga_c (by decide +kernel) (ga_a (by decide +kernel) rfl)
set_option maxHeartbeats 4000000 in
set_option maxRecDepth 100000 in
theorem k_fJ6_bitCount_0 (l : Launch) (g : va_G) (cI cJ cB cZ cL : ClassId)  (sz : Nat)  : Met l yJ6_bitCount_0f7a4 v_fJ6_bitCount_0 ({ frames := 0, cells := 0, slots := 0, locals := 0 }) (va_Pc [.int 0] (pRO g (tyT cI cJ cB cZ cL) [] sz)) (va_Qi (fun (r : Int32) (u : Unit) => r = 0) (fun (_ : Unit) (_ : State) => True) (va_A [] sz)) 0 0 (va_A [] sz) := by
  refine Met.ofW (cc := cJ6_bitCount_0f7a4) (maxL := 1) (ret := (some .int)) (by decide) rfl ?_
  intro p e s m args below meth c s₁ B hml hv
  obtain ⟨rfl, hsz, hP, hK⟩ := hv
  have hx := B.exec
  have hb := B.bytes
  have hr := B.returns
  have hts := atoms_spec (ws := v_fJ6_bitCount_0) B.pre
  have hown : s.vm.findClass RJ6 = some m.cls := findClass_of_methodNamed B.named
  have hlocks := B.notSynchronized
  subst hsz
  generalize hAe : (va_A [] s.heap.size) = A
  have hA : ∀ q : Nat, s.heap.size ≤ q → A q := fun q h => by rw [← hAe]; exact Or.inr h
  have hS : va_S A s.heap s.heap [] := va_S.rf
  have hl := lv_entry ([.int 0]) (n := 1) (Nat.le_of_ble_eq_true rfl)
  rw [lg_entry_eq]
  generalize (lg_sl ([.int 0]) ++ List.replicate (1 - (lg_sl ([.int 0])).length) Slot.unset).toArray = ls at hl ⊢
  have hl : lv_has ls 1 [(0, .int 0)] := hl
  have hP : va_P g vwCl [] s.heap := hP
  refine lv_iload_n hx hb dJ6_bitCount_0f7a4_0 rfl (lv_at hl 0 rfl) ?_
  refine lv_iload_n hx hb dJ6_bitCount_0f7a4_1 rfl (lv_at hl 0 rfl) ?_
  refine lv_iconst (v := 1) hx hb dJ6_bitCount_0f7a4_2 (by decide) ?_
  refine lv_iushr (v := 0) hx hb dJ6_bitCount_0f7a4_3 (by decide) ?_
  refine lv_ldcw (v := 1431655765) hx hb hown (hts (.constant RJ6 265 (1431655765)) (List.mem_cons_of_mem _ (List.mem_append_left _ (List.mem_of_getElem? (i := 0) rfl)))) dJ6_bitCount_0f7a4_4 ?_
  refine lv_iand hx hb dJ6_bitCount_0f7a4_7 ?_
  refine lv_topi (nm_r (e' := 0) (by decide) ?_)
  refine lv_isub hx hb dJ6_bitCount_0f7a4_8 ?_
  refine lv_topi (nm_r (e' := 0) (by decide) ?_)
  refine lv_istore_n (lv' := [(0, .int 0)]) hx hb dJ6_bitCount_0f7a4_9 rfl hl (by decide) rfl (fun ls hl => ?_)
  refine lv_iload_n hx hb dJ6_bitCount_0f7a4_10 rfl (lv_at hl 0 rfl) ?_
  refine lv_ldcw (v := 858993459) hx hb hown (hts (.constant RJ6 266 (858993459)) (List.mem_cons_of_mem _ (List.mem_append_left _ (List.mem_of_getElem? (i := 1) rfl)))) dJ6_bitCount_0f7a4_11 ?_
  refine lv_iand hx hb dJ6_bitCount_0f7a4_14 ?_
  refine lv_topi (nm_r (e' := 0) (by decide) ?_)
  refine lv_iload_n hx hb dJ6_bitCount_0f7a4_15 rfl (lv_at hl 0 rfl) ?_
  refine lv_iconst (v := 2) hx hb dJ6_bitCount_0f7a4_16 (by decide) ?_
  refine lv_iushr (v := 0) hx hb dJ6_bitCount_0f7a4_17 (by decide) ?_
  refine lv_ldcw (v := 858993459) hx hb hown (hts (.constant RJ6 266 (858993459)) (List.mem_cons_of_mem _ (List.mem_append_left _ (List.mem_of_getElem? (i := 1) rfl)))) dJ6_bitCount_0f7a4_18 ?_
  refine lv_iand hx hb dJ6_bitCount_0f7a4_21 ?_
  refine lv_topi (nm_r (e' := 0) (by decide) ?_)
  refine lv_iadd hx hb dJ6_bitCount_0f7a4_22 ?_
  refine lv_topi (nm_r (e' := 0) (by decide) ?_)
  refine lv_istore_n (lv' := [(0, .int 0)]) hx hb dJ6_bitCount_0f7a4_23 rfl hl (by decide) rfl (fun ls hl => ?_)
  refine lv_iload_n hx hb dJ6_bitCount_0f7a4_24 rfl (lv_at hl 0 rfl) ?_
  refine lv_iload_n hx hb dJ6_bitCount_0f7a4_25 rfl (lv_at hl 0 rfl) ?_
  refine lv_iconst (v := 4) hx hb dJ6_bitCount_0f7a4_26 (by decide) ?_
  refine lv_iushr (v := 0) hx hb dJ6_bitCount_0f7a4_27 (by decide) ?_
  refine lv_iadd hx hb dJ6_bitCount_0f7a4_28 ?_
  refine lv_topi (nm_r (e' := 0) (by decide) ?_)
  refine lv_ldcw (v := 252645135) hx hb hown (hts (.constant RJ6 267 (252645135)) (List.mem_cons_of_mem _ (List.mem_append_left _ (List.mem_of_getElem? (i := 2) rfl)))) dJ6_bitCount_0f7a4_29 ?_
  refine lv_iand hx hb dJ6_bitCount_0f7a4_32 ?_
  refine lv_topi (nm_r (e' := 0) (by decide) ?_)
  refine lv_istore_n (lv' := [(0, .int 0)]) hx hb dJ6_bitCount_0f7a4_33 rfl hl (by decide) rfl (fun ls hl => ?_)
  refine lv_iload_n hx hb dJ6_bitCount_0f7a4_34 rfl (lv_at hl 0 rfl) ?_
  refine lv_iload_n hx hb dJ6_bitCount_0f7a4_35 rfl (lv_at hl 0 rfl) ?_
  refine lv_bipush (v := 8) hx hb dJ6_bitCount_0f7a4_36 (by decide) ?_
  refine lv_iushr (v := 0) hx hb dJ6_bitCount_0f7a4_38 (by decide) ?_
  refine lv_iadd hx hb dJ6_bitCount_0f7a4_39 ?_
  refine lv_topi (nm_r (e' := 0) (by decide) ?_)
  refine lv_istore_n (lv' := [(0, .int 0)]) hx hb dJ6_bitCount_0f7a4_40 rfl hl (by decide) rfl (fun ls hl => ?_)
  refine lv_iload_n hx hb dJ6_bitCount_0f7a4_41 rfl (lv_at hl 0 rfl) ?_
  refine lv_iload_n hx hb dJ6_bitCount_0f7a4_42 rfl (lv_at hl 0 rfl) ?_
  refine lv_bipush (v := 16) hx hb dJ6_bitCount_0f7a4_43 (by decide) ?_
  refine lv_iushr (v := 0) hx hb dJ6_bitCount_0f7a4_45 (by decide) ?_
  refine lv_iadd hx hb dJ6_bitCount_0f7a4_46 ?_
  refine lv_topi (nm_r (e' := 0) (by decide) ?_)
  refine lv_istore_n (lv' := [(0, .int 0)]) hx hb dJ6_bitCount_0f7a4_47 rfl hl (by decide) rfl (fun ls hl => ?_)
  refine lv_iload_n hx hb dJ6_bitCount_0f7a4_48 rfl (lv_at hl 0 rfl) ?_
  refine lv_bipush (v := 63) hx hb dJ6_bitCount_0f7a4_49 (by decide) ?_
  refine lv_iand hx hb dJ6_bitCount_0f7a4_51 ?_
  refine lv_topi (nm_r (e' := 0) (by decide) ?_)
  exact W.iret (v := 0) hx hb hr (fun t ht hW => ⟨⟨0, (), rfl, rfl, trivial⟩, hS.F ht⟩) hS.2.2 dJ6_bitCount_0f7a4_52
def v_fJ6_bitCount_1 : List Cond := .code yJ6_bitCount_0f7a4 cJ6_bitCount_0f7a4 1 (some .int) :: (([.constant RJ6 265 (1431655765), .constant RJ6 266 (858993459), .constant RJ6 267 (252645135)] : List Cond) ++ ([] : List Cond))
theorem good_v_fJ6_bitCount_1 : v_fJ6_bitCount_1.all goodWord = true := ga_c (by decide +kernel) (ga_a (by decide +kernel) rfl)
set_option maxHeartbeats 4000000 in
set_option maxRecDepth 100000 in
theorem k_fJ6_bitCount_1 (l : Launch) (g : va_G) (cI cJ cB cZ cL : ClassId)  (sz : Nat)  : Met l yJ6_bitCount_0f7a4 v_fJ6_bitCount_1 ({ frames := 0, cells := 0, slots := 0, locals := 0 }) (va_Pc [.int 1] (pRO g (tyT cI cJ cB cZ cL) [] sz)) (va_Qi (fun (r : Int32) (u : Unit) => r = 1) (fun (_ : Unit) (_ : State) => True) (va_A [] sz)) 0 0 (va_A [] sz) := by
  refine Met.ofW (cc := cJ6_bitCount_0f7a4) (maxL := 1) (ret := (some .int)) (by decide) rfl ?_
  intro p e s m args below meth c s₁ B hml hv
  obtain ⟨rfl, hsz, hP, hK⟩ := hv
  have hx := B.exec
  have hb := B.bytes
  have hr := B.returns
  have hts := atoms_spec (ws := v_fJ6_bitCount_1) B.pre
  have hown : s.vm.findClass RJ6 = some m.cls := findClass_of_methodNamed B.named
  have hlocks := B.notSynchronized
  subst hsz
  generalize hAe : (va_A [] s.heap.size) = A
  have hA : ∀ q : Nat, s.heap.size ≤ q → A q := fun q h => by rw [← hAe]; exact Or.inr h
  have hS : va_S A s.heap s.heap [] := va_S.rf
  have hl := lv_entry ([.int 1]) (n := 1) (Nat.le_of_ble_eq_true rfl)
  rw [lg_entry_eq]
  generalize (lg_sl ([.int 1]) ++ List.replicate (1 - (lg_sl ([.int 1])).length) Slot.unset).toArray = ls at hl ⊢
  have hl : lv_has ls 1 [(0, .int 1)] := hl
  have hP : va_P g vwCl [] s.heap := hP
  refine lv_iload_n hx hb dJ6_bitCount_0f7a4_0 rfl (lv_at hl 0 rfl) ?_
  refine lv_iload_n hx hb dJ6_bitCount_0f7a4_1 rfl (lv_at hl 0 rfl) ?_
  refine lv_iconst (v := 1) hx hb dJ6_bitCount_0f7a4_2 (by decide) ?_
  refine lv_iushr (v := 0) hx hb dJ6_bitCount_0f7a4_3 (by decide) ?_
  refine lv_ldcw (v := 1431655765) hx hb hown (hts (.constant RJ6 265 (1431655765)) (List.mem_cons_of_mem _ (List.mem_append_left _ (List.mem_of_getElem? (i := 0) rfl)))) dJ6_bitCount_0f7a4_4 ?_
  refine lv_iand hx hb dJ6_bitCount_0f7a4_7 ?_
  refine lv_topi (nm_r (e' := 0) (by decide) ?_)
  refine lv_isub hx hb dJ6_bitCount_0f7a4_8 ?_
  refine lv_topi (nm_r (e' := 1) (by decide) ?_)
  refine lv_istore_n (lv' := [(0, .int 1)]) hx hb dJ6_bitCount_0f7a4_9 rfl hl (by decide) rfl (fun ls hl => ?_)
  refine lv_iload_n hx hb dJ6_bitCount_0f7a4_10 rfl (lv_at hl 0 rfl) ?_
  refine lv_ldcw (v := 858993459) hx hb hown (hts (.constant RJ6 266 (858993459)) (List.mem_cons_of_mem _ (List.mem_append_left _ (List.mem_of_getElem? (i := 1) rfl)))) dJ6_bitCount_0f7a4_11 ?_
  refine lv_iand hx hb dJ6_bitCount_0f7a4_14 ?_
  refine lv_topi (nm_r (e' := 1) (by decide) ?_)
  refine lv_iload_n hx hb dJ6_bitCount_0f7a4_15 rfl (lv_at hl 0 rfl) ?_
  refine lv_iconst (v := 2) hx hb dJ6_bitCount_0f7a4_16 (by decide) ?_
  refine lv_iushr (v := 0) hx hb dJ6_bitCount_0f7a4_17 (by decide) ?_
  refine lv_ldcw (v := 858993459) hx hb hown (hts (.constant RJ6 266 (858993459)) (List.mem_cons_of_mem _ (List.mem_append_left _ (List.mem_of_getElem? (i := 1) rfl)))) dJ6_bitCount_0f7a4_18 ?_
  refine lv_iand hx hb dJ6_bitCount_0f7a4_21 ?_
  refine lv_topi (nm_r (e' := 0) (by decide) ?_)
  refine lv_iadd hx hb dJ6_bitCount_0f7a4_22 ?_
  refine lv_topi (nm_r (e' := 1) (by decide) ?_)
  refine lv_istore_n (lv' := [(0, .int 1)]) hx hb dJ6_bitCount_0f7a4_23 rfl hl (by decide) rfl (fun ls hl => ?_)
  refine lv_iload_n hx hb dJ6_bitCount_0f7a4_24 rfl (lv_at hl 0 rfl) ?_
  refine lv_iload_n hx hb dJ6_bitCount_0f7a4_25 rfl (lv_at hl 0 rfl) ?_
  refine lv_iconst (v := 4) hx hb dJ6_bitCount_0f7a4_26 (by decide) ?_
  refine lv_iushr (v := 0) hx hb dJ6_bitCount_0f7a4_27 (by decide) ?_
  refine lv_iadd hx hb dJ6_bitCount_0f7a4_28 ?_
  refine lv_topi (nm_r (e' := 1) (by decide) ?_)
  refine lv_ldcw (v := 252645135) hx hb hown (hts (.constant RJ6 267 (252645135)) (List.mem_cons_of_mem _ (List.mem_append_left _ (List.mem_of_getElem? (i := 2) rfl)))) dJ6_bitCount_0f7a4_29 ?_
  refine lv_iand hx hb dJ6_bitCount_0f7a4_32 ?_
  refine lv_topi (nm_r (e' := 1) (by decide) ?_)
  refine lv_istore_n (lv' := [(0, .int 1)]) hx hb dJ6_bitCount_0f7a4_33 rfl hl (by decide) rfl (fun ls hl => ?_)
  refine lv_iload_n hx hb dJ6_bitCount_0f7a4_34 rfl (lv_at hl 0 rfl) ?_
  refine lv_iload_n hx hb dJ6_bitCount_0f7a4_35 rfl (lv_at hl 0 rfl) ?_
  refine lv_bipush (v := 8) hx hb dJ6_bitCount_0f7a4_36 (by decide) ?_
  refine lv_iushr (v := 0) hx hb dJ6_bitCount_0f7a4_38 (by decide) ?_
  refine lv_iadd hx hb dJ6_bitCount_0f7a4_39 ?_
  refine lv_topi (nm_r (e' := 1) (by decide) ?_)
  refine lv_istore_n (lv' := [(0, .int 1)]) hx hb dJ6_bitCount_0f7a4_40 rfl hl (by decide) rfl (fun ls hl => ?_)
  refine lv_iload_n hx hb dJ6_bitCount_0f7a4_41 rfl (lv_at hl 0 rfl) ?_
  refine lv_iload_n hx hb dJ6_bitCount_0f7a4_42 rfl (lv_at hl 0 rfl) ?_
  refine lv_bipush (v := 16) hx hb dJ6_bitCount_0f7a4_43 (by decide) ?_
  refine lv_iushr (v := 0) hx hb dJ6_bitCount_0f7a4_45 (by decide) ?_
  refine lv_iadd hx hb dJ6_bitCount_0f7a4_46 ?_
  refine lv_topi (nm_r (e' := 1) (by decide) ?_)
  refine lv_istore_n (lv' := [(0, .int 1)]) hx hb dJ6_bitCount_0f7a4_47 rfl hl (by decide) rfl (fun ls hl => ?_)
  refine lv_iload_n hx hb dJ6_bitCount_0f7a4_48 rfl (lv_at hl 0 rfl) ?_
  refine lv_bipush (v := 63) hx hb dJ6_bitCount_0f7a4_49 (by decide) ?_
  refine lv_iand hx hb dJ6_bitCount_0f7a4_51 ?_
  refine lv_topi (nm_r (e' := 1) (by decide) ?_)
  exact W.iret (v := 1) hx hb hr (fun t ht hW => ⟨⟨1, (), rfl, rfl, trivial⟩, hS.F ht⟩) hS.2.2 dJ6_bitCount_0f7a4_52
def v_fJ6_bitCount_2 : List Cond := .code yJ6_bitCount_0f7a4 cJ6_bitCount_0f7a4 1 (some .int) :: (([.constant RJ6 265 (1431655765), .constant RJ6 266 (858993459), .constant RJ6 267 (252645135)] : List Cond) ++ ([] : List Cond))
theorem good_v_fJ6_bitCount_2 : v_fJ6_bitCount_2.all goodWord = true := ga_c (by decide +kernel) (ga_a (by decide +kernel) rfl)
set_option maxHeartbeats 4000000 in
set_option maxRecDepth 100000 in
theorem k_fJ6_bitCount_2 (l : Launch) (g : va_G) (cI cJ cB cZ cL : ClassId)  (sz : Nat)  : Met l yJ6_bitCount_0f7a4 v_fJ6_bitCount_2 ({ frames := 0, cells := 0, slots := 0, locals := 0 }) (va_Pc [.int 2] (pRO g (tyT cI cJ cB cZ cL) [] sz)) (va_Qi (fun (r : Int32) (u : Unit) => r = 1) (fun (_ : Unit) (_ : State) => True) (va_A [] sz)) 0 0 (va_A [] sz) := by
  refine Met.ofW (cc := cJ6_bitCount_0f7a4) (maxL := 1) (ret := (some .int)) (by decide) rfl ?_
  intro p e s m args below meth c s₁ B hml hv
  obtain ⟨rfl, hsz, hP, hK⟩ := hv
  have hx := B.exec
  have hb := B.bytes
  have hr := B.returns
  have hts := atoms_spec (ws := v_fJ6_bitCount_2) B.pre
  have hown : s.vm.findClass RJ6 = some m.cls := findClass_of_methodNamed B.named
  have hlocks := B.notSynchronized
  subst hsz
  generalize hAe : (va_A [] s.heap.size) = A
  have hA : ∀ q : Nat, s.heap.size ≤ q → A q := fun q h => by rw [← hAe]; exact Or.inr h
  have hS : va_S A s.heap s.heap [] := va_S.rf
  have hl := lv_entry ([.int 2]) (n := 1) (Nat.le_of_ble_eq_true rfl)
  rw [lg_entry_eq]
  generalize (lg_sl ([.int 2]) ++ List.replicate (1 - (lg_sl ([.int 2])).length) Slot.unset).toArray = ls at hl ⊢
  have hl : lv_has ls 1 [(0, .int 2)] := hl
  have hP : va_P g vwCl [] s.heap := hP
  refine lv_iload_n hx hb dJ6_bitCount_0f7a4_0 rfl (lv_at hl 0 rfl) ?_
  refine lv_iload_n hx hb dJ6_bitCount_0f7a4_1 rfl (lv_at hl 0 rfl) ?_
  refine lv_iconst (v := 1) hx hb dJ6_bitCount_0f7a4_2 (by decide) ?_
  refine lv_iushr (v := 1) hx hb dJ6_bitCount_0f7a4_3 (by decide) ?_
  refine lv_ldcw (v := 1431655765) hx hb hown (hts (.constant RJ6 265 (1431655765)) (List.mem_cons_of_mem _ (List.mem_append_left _ (List.mem_of_getElem? (i := 0) rfl)))) dJ6_bitCount_0f7a4_4 ?_
  refine lv_iand hx hb dJ6_bitCount_0f7a4_7 ?_
  refine lv_topi (nm_r (e' := 1) (by decide) ?_)
  refine lv_isub hx hb dJ6_bitCount_0f7a4_8 ?_
  refine lv_topi (nm_r (e' := 1) (by decide) ?_)
  refine lv_istore_n (lv' := [(0, .int 1)]) hx hb dJ6_bitCount_0f7a4_9 rfl hl (by decide) rfl (fun ls hl => ?_)
  refine lv_iload_n hx hb dJ6_bitCount_0f7a4_10 rfl (lv_at hl 0 rfl) ?_
  refine lv_ldcw (v := 858993459) hx hb hown (hts (.constant RJ6 266 (858993459)) (List.mem_cons_of_mem _ (List.mem_append_left _ (List.mem_of_getElem? (i := 1) rfl)))) dJ6_bitCount_0f7a4_11 ?_
  refine lv_iand hx hb dJ6_bitCount_0f7a4_14 ?_
  refine lv_topi (nm_r (e' := 1) (by decide) ?_)
  refine lv_iload_n hx hb dJ6_bitCount_0f7a4_15 rfl (lv_at hl 0 rfl) ?_
  refine lv_iconst (v := 2) hx hb dJ6_bitCount_0f7a4_16 (by decide) ?_
  refine lv_iushr (v := 0) hx hb dJ6_bitCount_0f7a4_17 (by decide) ?_
  refine lv_ldcw (v := 858993459) hx hb hown (hts (.constant RJ6 266 (858993459)) (List.mem_cons_of_mem _ (List.mem_append_left _ (List.mem_of_getElem? (i := 1) rfl)))) dJ6_bitCount_0f7a4_18 ?_
  refine lv_iand hx hb dJ6_bitCount_0f7a4_21 ?_
  refine lv_topi (nm_r (e' := 0) (by decide) ?_)
  refine lv_iadd hx hb dJ6_bitCount_0f7a4_22 ?_
  refine lv_topi (nm_r (e' := 1) (by decide) ?_)
  refine lv_istore_n (lv' := [(0, .int 1)]) hx hb dJ6_bitCount_0f7a4_23 rfl hl (by decide) rfl (fun ls hl => ?_)
  refine lv_iload_n hx hb dJ6_bitCount_0f7a4_24 rfl (lv_at hl 0 rfl) ?_
  refine lv_iload_n hx hb dJ6_bitCount_0f7a4_25 rfl (lv_at hl 0 rfl) ?_
  refine lv_iconst (v := 4) hx hb dJ6_bitCount_0f7a4_26 (by decide) ?_
  refine lv_iushr (v := 0) hx hb dJ6_bitCount_0f7a4_27 (by decide) ?_
  refine lv_iadd hx hb dJ6_bitCount_0f7a4_28 ?_
  refine lv_topi (nm_r (e' := 1) (by decide) ?_)
  refine lv_ldcw (v := 252645135) hx hb hown (hts (.constant RJ6 267 (252645135)) (List.mem_cons_of_mem _ (List.mem_append_left _ (List.mem_of_getElem? (i := 2) rfl)))) dJ6_bitCount_0f7a4_29 ?_
  refine lv_iand hx hb dJ6_bitCount_0f7a4_32 ?_
  refine lv_topi (nm_r (e' := 1) (by decide) ?_)
  refine lv_istore_n (lv' := [(0, .int 1)]) hx hb dJ6_bitCount_0f7a4_33 rfl hl (by decide) rfl (fun ls hl => ?_)
  refine lv_iload_n hx hb dJ6_bitCount_0f7a4_34 rfl (lv_at hl 0 rfl) ?_
  refine lv_iload_n hx hb dJ6_bitCount_0f7a4_35 rfl (lv_at hl 0 rfl) ?_
  refine lv_bipush (v := 8) hx hb dJ6_bitCount_0f7a4_36 (by decide) ?_
  refine lv_iushr (v := 0) hx hb dJ6_bitCount_0f7a4_38 (by decide) ?_
  refine lv_iadd hx hb dJ6_bitCount_0f7a4_39 ?_
  refine lv_topi (nm_r (e' := 1) (by decide) ?_)
  refine lv_istore_n (lv' := [(0, .int 1)]) hx hb dJ6_bitCount_0f7a4_40 rfl hl (by decide) rfl (fun ls hl => ?_)
  refine lv_iload_n hx hb dJ6_bitCount_0f7a4_41 rfl (lv_at hl 0 rfl) ?_
  refine lv_iload_n hx hb dJ6_bitCount_0f7a4_42 rfl (lv_at hl 0 rfl) ?_
  refine lv_bipush (v := 16) hx hb dJ6_bitCount_0f7a4_43 (by decide) ?_
  refine lv_iushr (v := 0) hx hb dJ6_bitCount_0f7a4_45 (by decide) ?_
  refine lv_iadd hx hb dJ6_bitCount_0f7a4_46 ?_
  refine lv_topi (nm_r (e' := 1) (by decide) ?_)
  refine lv_istore_n (lv' := [(0, .int 1)]) hx hb dJ6_bitCount_0f7a4_47 rfl hl (by decide) rfl (fun ls hl => ?_)
  refine lv_iload_n hx hb dJ6_bitCount_0f7a4_48 rfl (lv_at hl 0 rfl) ?_
  refine lv_bipush (v := 63) hx hb dJ6_bitCount_0f7a4_49 (by decide) ?_
  refine lv_iand hx hb dJ6_bitCount_0f7a4_51 ?_
  refine lv_topi (nm_r (e' := 1) (by decide) ?_)
  exact W.iret (v := 1) hx hb hr (fun t ht hW => ⟨⟨1, (), rfl, rfl, trivial⟩, hS.F ht⟩) hS.2.2 dJ6_bitCount_0f7a4_52
def v_fJ6_bitCount_3 : List Cond := .code yJ6_bitCount_0f7a4 cJ6_bitCount_0f7a4 1 (some .int) :: (([.constant RJ6 265 (1431655765), .constant RJ6 266 (858993459), .constant RJ6 267 (252645135)] : List Cond) ++ ([] : List Cond))
theorem good_v_fJ6_bitCount_3 : v_fJ6_bitCount_3.all goodWord = true := ga_c (by decide +kernel) (ga_a (by decide +kernel) rfl)
set_option maxHeartbeats 4000000 in
set_option maxRecDepth 100000 in
theorem k_fJ6_bitCount_3 (l : Launch) (g : va_G) (cI cJ cB cZ cL : ClassId)  (sz : Nat)  : Met l yJ6_bitCount_0f7a4 v_fJ6_bitCount_3 ({ frames := 0, cells := 0, slots := 0, locals := 0 }) (va_Pc [.int 3] (pRO g (tyT cI cJ cB cZ cL) [] sz)) (va_Qi (fun (r : Int32) (u : Unit) => r = 2) (fun (_ : Unit) (_ : State) => True) (va_A [] sz)) 0 0 (va_A [] sz) := by
  refine Met.ofW (cc := cJ6_bitCount_0f7a4) (maxL := 1) (ret := (some .int)) (by decide) rfl ?_
  intro p e s m args below meth c s₁ B hml hv
  obtain ⟨rfl, hsz, hP, hK⟩ := hv
  have hx := B.exec
  have hb := B.bytes
  have hr := B.returns
  have hts := atoms_spec (ws := v_fJ6_bitCount_3) B.pre
  have hown : s.vm.findClass RJ6 = some m.cls := findClass_of_methodNamed B.named
  have hlocks := B.notSynchronized
  subst hsz
  generalize hAe : (va_A [] s.heap.size) = A
  have hA : ∀ q : Nat, s.heap.size ≤ q → A q := fun q h => by rw [← hAe]; exact Or.inr h
  have hS : va_S A s.heap s.heap [] := va_S.rf
  have hl := lv_entry ([.int 3]) (n := 1) (Nat.le_of_ble_eq_true rfl)
  rw [lg_entry_eq]
  generalize (lg_sl ([.int 3]) ++ List.replicate (1 - (lg_sl ([.int 3])).length) Slot.unset).toArray = ls at hl ⊢
  have hl : lv_has ls 1 [(0, .int 3)] := hl
  have hP : va_P g vwCl [] s.heap := hP
  refine lv_iload_n hx hb dJ6_bitCount_0f7a4_0 rfl (lv_at hl 0 rfl) ?_
  refine lv_iload_n hx hb dJ6_bitCount_0f7a4_1 rfl (lv_at hl 0 rfl) ?_
  refine lv_iconst (v := 1) hx hb dJ6_bitCount_0f7a4_2 (by decide) ?_
  refine lv_iushr (v := 1) hx hb dJ6_bitCount_0f7a4_3 (by decide) ?_
  refine lv_ldcw (v := 1431655765) hx hb hown (hts (.constant RJ6 265 (1431655765)) (List.mem_cons_of_mem _ (List.mem_append_left _ (List.mem_of_getElem? (i := 0) rfl)))) dJ6_bitCount_0f7a4_4 ?_
  refine lv_iand hx hb dJ6_bitCount_0f7a4_7 ?_
  refine lv_topi (nm_r (e' := 1) (by decide) ?_)
  refine lv_isub hx hb dJ6_bitCount_0f7a4_8 ?_
  refine lv_topi (nm_r (e' := 2) (by decide) ?_)
  refine lv_istore_n (lv' := [(0, .int 2)]) hx hb dJ6_bitCount_0f7a4_9 rfl hl (by decide) rfl (fun ls hl => ?_)
  refine lv_iload_n hx hb dJ6_bitCount_0f7a4_10 rfl (lv_at hl 0 rfl) ?_
  refine lv_ldcw (v := 858993459) hx hb hown (hts (.constant RJ6 266 (858993459)) (List.mem_cons_of_mem _ (List.mem_append_left _ (List.mem_of_getElem? (i := 1) rfl)))) dJ6_bitCount_0f7a4_11 ?_
  refine lv_iand hx hb dJ6_bitCount_0f7a4_14 ?_
  refine lv_topi (nm_r (e' := 2) (by decide) ?_)
  refine lv_iload_n hx hb dJ6_bitCount_0f7a4_15 rfl (lv_at hl 0 rfl) ?_
  refine lv_iconst (v := 2) hx hb dJ6_bitCount_0f7a4_16 (by decide) ?_
  refine lv_iushr (v := 0) hx hb dJ6_bitCount_0f7a4_17 (by decide) ?_
  refine lv_ldcw (v := 858993459) hx hb hown (hts (.constant RJ6 266 (858993459)) (List.mem_cons_of_mem _ (List.mem_append_left _ (List.mem_of_getElem? (i := 1) rfl)))) dJ6_bitCount_0f7a4_18 ?_
  refine lv_iand hx hb dJ6_bitCount_0f7a4_21 ?_
  refine lv_topi (nm_r (e' := 0) (by decide) ?_)
  refine lv_iadd hx hb dJ6_bitCount_0f7a4_22 ?_
  refine lv_topi (nm_r (e' := 2) (by decide) ?_)
  refine lv_istore_n (lv' := [(0, .int 2)]) hx hb dJ6_bitCount_0f7a4_23 rfl hl (by decide) rfl (fun ls hl => ?_)
  refine lv_iload_n hx hb dJ6_bitCount_0f7a4_24 rfl (lv_at hl 0 rfl) ?_
  refine lv_iload_n hx hb dJ6_bitCount_0f7a4_25 rfl (lv_at hl 0 rfl) ?_
  refine lv_iconst (v := 4) hx hb dJ6_bitCount_0f7a4_26 (by decide) ?_
  refine lv_iushr (v := 0) hx hb dJ6_bitCount_0f7a4_27 (by decide) ?_
  refine lv_iadd hx hb dJ6_bitCount_0f7a4_28 ?_
  refine lv_topi (nm_r (e' := 2) (by decide) ?_)
  refine lv_ldcw (v := 252645135) hx hb hown (hts (.constant RJ6 267 (252645135)) (List.mem_cons_of_mem _ (List.mem_append_left _ (List.mem_of_getElem? (i := 2) rfl)))) dJ6_bitCount_0f7a4_29 ?_
  refine lv_iand hx hb dJ6_bitCount_0f7a4_32 ?_
  refine lv_topi (nm_r (e' := 2) (by decide) ?_)
  refine lv_istore_n (lv' := [(0, .int 2)]) hx hb dJ6_bitCount_0f7a4_33 rfl hl (by decide) rfl (fun ls hl => ?_)
  refine lv_iload_n hx hb dJ6_bitCount_0f7a4_34 rfl (lv_at hl 0 rfl) ?_
  refine lv_iload_n hx hb dJ6_bitCount_0f7a4_35 rfl (lv_at hl 0 rfl) ?_
  refine lv_bipush (v := 8) hx hb dJ6_bitCount_0f7a4_36 (by decide) ?_
  refine lv_iushr (v := 0) hx hb dJ6_bitCount_0f7a4_38 (by decide) ?_
  refine lv_iadd hx hb dJ6_bitCount_0f7a4_39 ?_
  refine lv_topi (nm_r (e' := 2) (by decide) ?_)
  refine lv_istore_n (lv' := [(0, .int 2)]) hx hb dJ6_bitCount_0f7a4_40 rfl hl (by decide) rfl (fun ls hl => ?_)
  refine lv_iload_n hx hb dJ6_bitCount_0f7a4_41 rfl (lv_at hl 0 rfl) ?_
  refine lv_iload_n hx hb dJ6_bitCount_0f7a4_42 rfl (lv_at hl 0 rfl) ?_
  refine lv_bipush (v := 16) hx hb dJ6_bitCount_0f7a4_43 (by decide) ?_
  refine lv_iushr (v := 0) hx hb dJ6_bitCount_0f7a4_45 (by decide) ?_
  refine lv_iadd hx hb dJ6_bitCount_0f7a4_46 ?_
  refine lv_topi (nm_r (e' := 2) (by decide) ?_)
  refine lv_istore_n (lv' := [(0, .int 2)]) hx hb dJ6_bitCount_0f7a4_47 rfl hl (by decide) rfl (fun ls hl => ?_)
  refine lv_iload_n hx hb dJ6_bitCount_0f7a4_48 rfl (lv_at hl 0 rfl) ?_
  refine lv_bipush (v := 63) hx hb dJ6_bitCount_0f7a4_49 (by decide) ?_
  refine lv_iand hx hb dJ6_bitCount_0f7a4_51 ?_
  refine lv_topi (nm_r (e' := 2) (by decide) ?_)
  exact W.iret (v := 2) hx hb hr (fun t ht hW => ⟨⟨2, (), rfl, rfl, trivial⟩, hS.F ht⟩) hS.2.2 dJ6_bitCount_0f7a4_52
def v_fX10_firsts : List Cond := .code yX10_firsts cX10_firsts 3 (some .int) :: (([] : List Cond) ++ ([] : List Cond))
theorem good_v_fX10_firsts : v_fX10_firsts.all goodWord = true := ga_c (by decide +kernel) (ga_a (by decide +kernel) rfl)
set_option maxHeartbeats 4000000 in
set_option maxRecDepth 100000 in
theorem k_fX10_firsts (l : Launch) (g : va_G) (cI cJ cB cZ cL : ClassId) (p0 : Int32) (p1 : Int32) (p2 : Int32) (sz : Nat)  : Met l yX10_firsts v_fX10_firsts ({ frames := 0, cells := 0, slots := 0, locals := 0 }) (va_Pc [.int p0, .int p1, .int p2] (pRO g (tyT cI cJ cB cZ cL) [] sz)) (va_Qi (fun (r : Int32) (u : Unit) => r = Yfirsts p0 p1 p2) (fun (_ : Unit) (_ : State) => True) (va_A [] sz)) 0 0 (va_A [] sz) := by
  refine Met.ofW (cc := cX10_firsts) (maxL := 3) (ret := (some .int)) (by decide) rfl ?_
  intro p e s m args below meth c s₁ B hml hv
  obtain ⟨rfl, hsz, hP, hK⟩ := hv
  have hx := B.exec
  have hb := B.bytes
  have hr := B.returns
  have hts := atoms_spec (ws := v_fX10_firsts) B.pre
  have hown : s.vm.findClass RX10 = some m.cls := findClass_of_methodNamed B.named
  have hlocks := B.notSynchronized
  subst hsz
  generalize hAe : (va_A [] s.heap.size) = A
  have hA : ∀ q : Nat, s.heap.size ≤ q → A q := fun q h => by rw [← hAe]; exact Or.inr h
  have hS : va_S A s.heap s.heap [] := va_S.rf
  have hl := lv_entry ([.int p0, .int p1, .int p2]) (n := 3) (Nat.le_of_ble_eq_true rfl)
  rw [lg_entry_eq]
  generalize (lg_sl ([.int p0, .int p1, .int p2]) ++ List.replicate (3 - (lg_sl ([.int p0, .int p1, .int p2])).length) Slot.unset).toArray = ls at hl ⊢
  have hl : lv_has ls 3 [(0, .int p0), (1, .int p1), (2, .int p2)] := hl
  have hP : va_P g vwCl [] s.heap := hP
  refine lv_iload_n hx hb dX10_firsts_0 rfl (lv_at hl 0 rfl) ?_
  refine lv_iload_n hx hb dX10_firsts_1 rfl (lv_at hl 2 rfl) ?_
  refine lv_iconst (v := 3) hx hb dX10_firsts_2 (by decide) ?_
  refine lv_iand hx hb dX10_firsts_3 ?_
  refine lv_ishr hx hb dX10_firsts_4 ?_
  refine lv_iconst (v := 1) hx hb dX10_firsts_5 (by decide) ?_
  refine lv_iand hx hb dX10_firsts_6 ?_
  refine lv_iload_n hx hb dX10_firsts_7 rfl (lv_at hl 1 rfl) ?_
  refine lv_iload_n hx hb dX10_firsts_8 rfl (lv_at hl 2 rfl) ?_
  refine lv_iconst (v := 2) hx hb dX10_firsts_9 (by decide) ?_
  refine lv_ishr hx hb dX10_firsts_10 ?_
  refine lv_iconst (v := 3) hx hb dX10_firsts_11 (by decide) ?_
  refine lv_iand hx hb dX10_firsts_12 ?_
  refine lv_ishr hx hb dX10_firsts_13 ?_
  refine lv_iconst (v := 1) hx hb dX10_firsts_14 (by decide) ?_
  refine lv_iand hx hb dX10_firsts_15 ?_
  refine lv_iconst (v := 1) hx hb dX10_firsts_16 (by decide) ?_
  refine lv_ishl hx hb dX10_firsts_17 ?_
  refine lv_ior hx hb dX10_firsts_18 ?_
  exact W.iret (v := (((p0 >>> ((p2 &&& 3) &&& (31 : Int32))) &&& 1) ||| (((p1 >>> (((p2 >>> (2 &&& (31 : Int32))) &&& 3) &&& (31 : Int32))) &&& 1) <<< (1 &&& (31 : Int32))))) hx hb hr (fun t ht hW => ⟨⟨(((p0 >>> ((p2 &&& 3) &&& (31 : Int32))) &&& 1) ||| (((p1 >>> (((p2 >>> (2 &&& (31 : Int32))) &&& 3) &&& (31 : Int32))) &&& 1) <<< (1 &&& (31 : Int32)))), (), rfl, rfl, trivial⟩, hS.F ht⟩) hS.2.2 dX10_firsts_19
def v_fX10_returning : List Cond := .code yX10_returning cX10_returning 2 (some .int) :: (([] : List Cond) ++ ([] : List Cond))
theorem good_v_fX10_returning : v_fX10_returning.all goodWord = true := ga_c (by decide +kernel) (ga_a (by decide +kernel) rfl)
set_option maxHeartbeats 4000000 in
set_option maxRecDepth 100000 in
theorem k_fX10_returning (l : Launch) (g : va_G) (cI cJ cB cZ cL : ClassId) (p0 : Int32) (p1 : Int32) (sz : Nat)  : Met l yX10_returning v_fX10_returning ({ frames := 0, cells := 0, slots := 0, locals := 0 }) (va_Pc [.int p0, .int p1] (pRO g (tyT cI cJ cB cZ cL) [] sz)) (va_Qi (fun (r : Int32) (u : Unit) => r = Yreturning p0 p1) (fun (_ : Unit) (_ : State) => True) (va_A [] sz)) 0 0 (va_A [] sz) := by
  refine Met.ofW (cc := cX10_returning) (maxL := 2) (ret := (some .int)) (by decide) rfl ?_
  intro p e s m args below meth c s₁ B hml hv
  obtain ⟨rfl, hsz, hP, hK⟩ := hv
  have hx := B.exec
  have hb := B.bytes
  have hr := B.returns
  have hts := atoms_spec (ws := v_fX10_returning) B.pre
  have hown : s.vm.findClass RX10 = some m.cls := findClass_of_methodNamed B.named
  have hlocks := B.notSynchronized
  subst hsz
  generalize hAe : (va_A [] s.heap.size) = A
  have hA : ∀ q : Nat, s.heap.size ≤ q → A q := fun q h => by rw [← hAe]; exact Or.inr h
  have hS : va_S A s.heap s.heap [] := va_S.rf
  have hl := lv_entry ([.int p0, .int p1]) (n := 2) (Nat.le_of_ble_eq_true rfl)
  rw [lg_entry_eq]
  generalize (lg_sl ([.int p0, .int p1]) ++ List.replicate (2 - (lg_sl ([.int p0, .int p1])).length) Slot.unset).toArray = ls at hl ⊢
  have hl : lv_has ls 2 [(0, .int p0), (1, .int p1)] := hl
  have hP : va_P g vwCl [] s.heap := hP
  refine lv_iload_n hx hb dX10_returning_0 rfl (lv_at hl 0 rfl) ?_
  refine lv_iconst (v := 4) hx hb dX10_returning_1 (by decide) ?_
  refine lv_ishr hx hb dX10_returning_2 ?_
  refine lv_iconst (v := 1) hx hb dX10_returning_3 (by decide) ?_
  refine lv_iand hx hb dX10_returning_4 ?_
  refine lv_iload_n hx hb dX10_returning_5 rfl (lv_at hl 1 rfl) ?_
  refine lv_iconst (v := 4) hx hb dX10_returning_6 (by decide) ?_
  refine lv_ishr hx hb dX10_returning_7 ?_
  refine lv_iconst (v := 1) hx hb dX10_returning_8 (by decide) ?_
  refine lv_iand hx hb dX10_returning_9 ?_
  refine lv_iconst (v := 1) hx hb dX10_returning_10 (by decide) ?_
  refine lv_ishl hx hb dX10_returning_11 ?_
  refine lv_ior hx hb dX10_returning_12 ?_
  exact W.iret (v := (((p0 >>> (4 &&& (31 : Int32))) &&& 1) ||| (((p1 >>> (4 &&& (31 : Int32))) &&& 1) <<< (1 &&& (31 : Int32))))) hx hb hr (fun t ht hW => ⟨⟨(((p0 >>> (4 &&& (31 : Int32))) &&& 1) ||| (((p1 >>> (4 &&& (31 : Int32))) &&& 1) <<< (1 &&& (31 : Int32)))), (), rfl, rfl, trivial⟩, hS.F ht⟩) hS.2.2 dX10_returning_13
def v_fX10_backs : List Cond := .code yX10_backs cX10_backs 4 (some .int) :: (([] : List Cond) ++ ([] : List Cond))
theorem good_v_fX10_backs : v_fX10_backs.all goodWord = true := ga_c (by decide +kernel) (ga_a (by decide +kernel) rfl)
set_option maxHeartbeats 4000000 in
set_option maxRecDepth 100000 in
theorem k_fX10_backs (l : Launch) (g : va_G) (cI cJ cB cZ cL : ClassId) (p0 : Int32) (p1 : Int32) (p2 : Int32) (sz : Nat)  : Met l yX10_backs v_fX10_backs ({ frames := 0, cells := 0, slots := 0, locals := 0 }) (va_Pc [.int p0, .int p1, .int p2] (pRO g (tyT cI cJ cB cZ cL) [] sz)) (va_Qi (fun (r : Int32) (u : Unit) => r = Ybacks p0 p1 p2) (fun (_ : Unit) (_ : State) => True) (va_A [] sz)) 0 0 (va_A [] sz) := by
  refine Met.ofW (cc := cX10_backs) (maxL := 4) (ret := (some .int)) (by decide) rfl ?_
  intro p e s m args below meth c s₁ B hml hv
  obtain ⟨rfl, hsz, hP, hK⟩ := hv
  have hx := B.exec
  have hb := B.bytes
  have hr := B.returns
  have hts := atoms_spec (ws := v_fX10_backs) B.pre
  have hown : s.vm.findClass RX10 = some m.cls := findClass_of_methodNamed B.named
  have hlocks := B.notSynchronized
  subst hsz
  generalize hAe : (va_A [] s.heap.size) = A
  have hA : ∀ q : Nat, s.heap.size ≤ q → A q := fun q h => by rw [← hAe]; exact Or.inr h
  have hS : va_S A s.heap s.heap [] := va_S.rf
  have hl := lv_entry ([.int p0, .int p1, .int p2]) (n := 4) (Nat.le_of_ble_eq_true rfl)
  rw [lg_entry_eq]
  generalize (lg_sl ([.int p0, .int p1, .int p2]) ++ List.replicate (4 - (lg_sl ([.int p0, .int p1, .int p2])).length) Slot.unset).toArray = ls at hl ⊢
  have hl : lv_has ls 4 [(0, .int p0), (1, .int p1), (2, .int p2)] := hl
  have hP : va_P g vwCl [] s.heap := hP
  refine lv_iload_n hx hb dX10_backs_0 rfl (lv_at hl 0 rfl) ?_
  refine lv_iload_n hx hb dX10_backs_1 rfl (lv_at hl 2 rfl) ?_
  refine lv_iand hx hb dX10_backs_2 ?_
  refine lv_istore_n (lv' := [(3, .int (p0 &&& p2)), (0, .int p0), (1, .int p1), (2, .int p2)]) hx hb dX10_backs_3 rfl hl (by decide) rfl (fun ls hl => ?_)
  refine lv_iload_n hx hb dX10_backs_4 rfl (lv_at hl 1 rfl) ?_
  refine lv_iconst (v := (-1)) hx hb dX10_backs_5 (by decide) ?_
  refine lv_ixor hx hb dX10_backs_6 ?_
  refine lv_iload_n hx hb dX10_backs_7 rfl (lv_at hl 2 rfl) ?_
  refine lv_iand hx hb dX10_backs_8 ?_
  refine lv_iload_n hx hb dX10_backs_9 rfl (lv_at hl 0 rfl) ?_
  refine lv_iconst (v := 1) hx hb dX10_backs_10 (by decide) ?_
  refine lv_iand hx hb dX10_backs_11 ?_
  refine lv_iconst (v := 1) hx hb dX10_backs_12 (by decide) ?_
  refine lv_ishl hx hb dX10_backs_13 ?_
  refine lv_iload_n hx hb dX10_backs_14 rfl (lv_at hl 0 rfl) ?_
  refine lv_iconst (v := 1) hx hb dX10_backs_15 (by decide) ?_
  refine lv_ishr hx hb dX10_backs_16 ?_
  refine lv_ior hx hb dX10_backs_17 ?_
  refine lv_iand hx hb dX10_backs_18 ?_
  exact W.iret (v := (((p0 ^^^ (-1)) &&& p1) &&& ((((p0 &&& p2) &&& 1) <<< (1 &&& (31 : Int32))) ||| ((p0 &&& p2) >>> (1 &&& (31 : Int32)))))) hx hb hr (fun t ht hW => ⟨⟨(((p0 ^^^ (-1)) &&& p1) &&& ((((p0 &&& p2) &&& 1) <<< (1 &&& (31 : Int32))) ||| ((p0 &&& p2) >>> (1 &&& (31 : Int32))))), (), rfl, rfl, trivial⟩, hS.F ht⟩) hS.2.2 dX10_backs_19
def v_fX10_swapped : List Cond := .code yX10_swapped cX10_swapped 1 (some .int) :: (([] : List Cond) ++ ([] : List Cond))
theorem good_v_fX10_swapped : v_fX10_swapped.all goodWord = true := ga_c (by decide +kernel) (ga_a (by decide +kernel) rfl)
set_option maxHeartbeats 4000000 in
set_option maxRecDepth 100000 in
theorem k_fX10_swapped (l : Launch) (g : va_G) (cI cJ cB cZ cL : ClassId) (p0 : Int32) (sz : Nat)  : Met l yX10_swapped v_fX10_swapped ({ frames := 0, cells := 0, slots := 0, locals := 0 }) (va_Pc [.int p0] (pRO g (tyT cI cJ cB cZ cL) [] sz)) (va_Qi (fun (r : Int32) (u : Unit) => r = Yswapped p0) (fun (_ : Unit) (_ : State) => True) (va_A [] sz)) 0 0 (va_A [] sz) := by
  refine Met.ofW (cc := cX10_swapped) (maxL := 1) (ret := (some .int)) (by decide) rfl ?_
  intro p e s m args below meth c s₁ B hml hv
  obtain ⟨rfl, hsz, hP, hK⟩ := hv
  have hx := B.exec
  have hb := B.bytes
  have hr := B.returns
  have hts := atoms_spec (ws := v_fX10_swapped) B.pre
  have hown : s.vm.findClass RX10 = some m.cls := findClass_of_methodNamed B.named
  have hlocks := B.notSynchronized
  subst hsz
  generalize hAe : (va_A [] s.heap.size) = A
  have hA : ∀ q : Nat, s.heap.size ≤ q → A q := fun q h => by rw [← hAe]; exact Or.inr h
  have hS : va_S A s.heap s.heap [] := va_S.rf
  have hl := lv_entry ([.int p0]) (n := 1) (Nat.le_of_ble_eq_true rfl)
  rw [lg_entry_eq]
  generalize (lg_sl ([.int p0]) ++ List.replicate (1 - (lg_sl ([.int p0])).length) Slot.unset).toArray = ls at hl ⊢
  have hl : lv_has ls 1 [(0, .int p0)] := hl
  have hP : va_P g vwCl [] s.heap := hP
  refine lv_iload_n hx hb dX10_swapped_0 rfl (lv_at hl 0 rfl) ?_
  refine lv_iconst (v := 1) hx hb dX10_swapped_1 (by decide) ?_
  refine lv_iand hx hb dX10_swapped_2 ?_
  refine lv_iconst (v := 1) hx hb dX10_swapped_3 (by decide) ?_
  refine lv_ishl hx hb dX10_swapped_4 ?_
  refine lv_iload_n hx hb dX10_swapped_5 rfl (lv_at hl 0 rfl) ?_
  refine lv_iconst (v := 1) hx hb dX10_swapped_6 (by decide) ?_
  refine lv_ishr hx hb dX10_swapped_7 ?_
  refine lv_iconst (v := 1) hx hb dX10_swapped_8 (by decide) ?_
  refine lv_iand hx hb dX10_swapped_9 ?_
  refine lv_ior hx hb dX10_swapped_10 ?_
  exact W.iret (v := (((p0 &&& 1) <<< (1 &&& (31 : Int32))) ||| ((p0 >>> (1 &&& (31 : Int32))) &&& 1))) hx hb hr (fun t ht hW => ⟨⟨(((p0 &&& 1) <<< (1 &&& (31 : Int32))) ||| ((p0 >>> (1 &&& (31 : Int32))) &&& 1)), (), rfl, rfl, trivial⟩, hS.F ht⟩) hS.2.2 dX10_swapped_11
def v_fX10_after : List Cond := .code yX10_after cX10_after 2 (some .int) :: (([] : List Cond) ++ ([] : List Cond))
theorem good_v_fX10_after : v_fX10_after.all goodWord = true := ga_c (by decide +kernel) (ga_a (by decide +kernel) rfl)
set_option maxHeartbeats 4000000 in
set_option maxRecDepth 100000 in
theorem k_fX10_after (l : Launch) (g : va_G) (cI cJ cB cZ cL : ClassId) (p0 : Int32) (p1 : Int32) (sz : Nat)  : Met l yX10_after v_fX10_after ({ frames := 0, cells := 0, slots := 0, locals := 0 }) (va_Pc [.int p0, .int p1] (pRO g (tyT cI cJ cB cZ cL) [] sz)) (va_Qi (fun (r : Int32) (u : Unit) => r = Yafter p0 p1) (fun (_ : Unit) (_ : State) => True) (va_A [] sz)) 0 0 (va_A [] sz) := by
  refine Met.ofW (cc := cX10_after) (maxL := 2) (ret := (some .int)) (by decide) rfl ?_
  intro p e s m args below meth c s₁ B hml hv
  obtain ⟨rfl, hsz, hP, hK⟩ := hv
  have hx := B.exec
  have hb := B.bytes
  have hr := B.returns
  have hts := atoms_spec (ws := v_fX10_after) B.pre
  have hown : s.vm.findClass RX10 = some m.cls := findClass_of_methodNamed B.named
  have hlocks := B.notSynchronized
  subst hsz
  generalize hAe : (va_A [] s.heap.size) = A
  have hA : ∀ q : Nat, s.heap.size ≤ q → A q := fun q h => by rw [← hAe]; exact Or.inr h
  have hS : va_S A s.heap s.heap [] := va_S.rf
  have hl := lv_entry ([.int p0, .int p1]) (n := 2) (Nat.le_of_ble_eq_true rfl)
  rw [lg_entry_eq]
  generalize (lg_sl ([.int p0, .int p1]) ++ List.replicate (2 - (lg_sl ([.int p0, .int p1])).length) Slot.unset).toArray = ls at hl ⊢
  have hl : lv_has ls 2 [(0, .int p0), (1, .int p1)] := hl
  have hP : va_P g vwCl [] s.heap := hP
  refine lv_iload_n hx hb dX10_after_0 rfl (lv_at hl 0 rfl) ?_
  refine lv_iconst (v := 5) hx hb dX10_after_1 (by decide) ?_
  refine lv_iand hx hb dX10_after_2 ?_
  refine lv_iconst (v := 1) hx hb dX10_after_3 (by decide) ?_
  refine lv_ishl hx hb dX10_after_4 ?_
  refine lv_iload_n hx hb dX10_after_5 rfl (lv_at hl 1 rfl) ?_
  refine lv_iconst (v := 1) hx hb dX10_after_6 (by decide) ?_
  refine lv_iand hx hb dX10_after_7 ?_
  refine lv_ior hx hb dX10_after_8 ?_
  refine lv_iload_n hx hb dX10_after_9 rfl (lv_at hl 1 rfl) ?_
  refine lv_iconst (v := 2) hx hb dX10_after_10 (by decide) ?_
  refine lv_iand hx hb dX10_after_11 ?_
  refine lv_iconst (v := 1) hx hb dX10_after_12 (by decide) ?_
  refine lv_ishl hx hb dX10_after_13 ?_
  refine lv_ior hx hb dX10_after_14 ?_
  exact W.iret (v := ((((p0 &&& 5) <<< (1 &&& (31 : Int32))) ||| (p1 &&& 1)) ||| ((p1 &&& 2) <<< (1 &&& (31 : Int32))))) hx hb hr (fun t ht hW => ⟨⟨((((p0 &&& 5) <<< (1 &&& (31 : Int32))) ||| (p1 &&& 1)) ||| ((p1 &&& 2) <<< (1 &&& (31 : Int32)))), (), rfl, rfl, trivial⟩, hS.F ht⟩) hS.2.2 dX10_after_15
def v_fX3_sentIn : List Cond := .code yX3_sentIn cX3_sentIn 4 (some .int) :: (([.fieldLink RX3 15 "CardsAtYule$Fate" "rule0" "I", .fieldLink RX3 19 "CardsAtYule$Fate" "rule1" "I", .methodLink RX3 61 yX10_firsts, .static yX10_firsts, .initialized RX10, .methodLink RX3 67 yX10_returning, .static yX10_returning, .methodLink RX3 70 yX10_backs, .static yX10_backs] : List Cond) ++ (v_fX10_firsts ++ (v_fX10_returning ++ (v_fX10_backs ++ (wsX30 ++ ([] : List Cond))))))
theorem good_v_fX3_sentIn : v_fX3_sentIn.all goodWord = true := ga_c (by decide +kernel) (ga_a (by decide +kernel) (ga_a good_v_fX10_firsts (ga_a good_v_fX10_returning (ga_a good_v_fX10_backs (ga_a good_wsX30 rfl)))))
set_option maxHeartbeats 4000000 in
set_option maxRecDepth 100000 in
theorem k_fX3_sentIn (l : Launch) (g : va_G) (cI cJ cB cZ cL : ClassId) (fa : Nat) (fy : Nat) (vb : Int32) (vl : Int32) (vc : Int32) (vr : Int32) (v0 : Int32) (v1 : Int32) (p0 : Int32) (p1 : Int32) (sz : Nat)  : Met l yX3_sentIn v_fX3_sentIn ({ frames := 1, cells := 0, slots := 0, locals := 23 }) (va_Pc [.ref fa, .int p0, .int p1] (pRO g (tyT cI cJ cB cZ cL) [(fa, .inr (3, [.int vb, .int vl, .int vc, .int vr, .int v0, .int v1, .ref fy]))] sz)) (va_Qi (fun (r : Int32) (u : Unit) => r = Fsent v0 v1 p0 p1) (fun (_ : Unit) (_ : State) => True) (va_A [] sz)) 0 0 (va_A [] sz) := by
  refine Met.ofW (cc := cX3_sentIn) (maxL := 4) (ret := (some .int)) (by decide) rfl ?_
  intro p e s m args below meth c s₁ B hml hv
  obtain ⟨rfl, hsz, hP, hK⟩ := hv
  have hx := B.exec
  have hb := B.bytes
  have hr := B.returns
  have hts := atoms_spec (ws := v_fX3_sentIn) B.pre
  have hown : s.vm.findClass RX3 = some m.cls := findClass_of_methodNamed B.named
  have hlocks := B.notSynchronized
  subst hsz
  have iX3 : ∀ w ∈ wsX30, w ∈ v_fX3_sentIn := (fun _ h => List.mem_cons_of_mem _ (List.mem_append_right _ (List.mem_append_right _ (List.mem_append_right _ (List.mem_append_right _ (List.mem_append_left _ h))))))
  generalize hAe : (va_A [] s.heap.size) = A
  have hA : ∀ q : Nat, s.heap.size ≤ q → A q := fun q h => by rw [← hAe]; exact Or.inr h
  have hS : va_S A s.heap s.heap [] := va_S.rf
  have hl := lv_entry ([.ref fa, .int p0, .int p1]) (n := 4) (Nat.le_of_ble_eq_true rfl)
  rw [lg_entry_eq]
  generalize (lg_sl ([.ref fa, .int p0, .int p1]) ++ List.replicate (4 - (lg_sl ([.ref fa, .int p0, .int p1])).length) Slot.unset).toArray = ls at hl ⊢
  have hl : lv_has ls 4 [(0, .ref fa), (1, .int p0), (2, .int p1)] := hl
  have hP : va_P g vwCl [(fa, .inr (3, [.int vb, .int vl, .int vc, .int vr, .int v0, .int v1, .ref fy]))] s.heap := hP
  refine lv_aload_n hx hb dX3_sentIn_0 rfl (lv_at hl 0 rfl) ?_
  refine va_get (D := g) (ci := 3) (v := .int v0) (C := RX3) (T := TX3) (N := 7) hx hb hts iX3 hown hK hP 0 rfl rfl 4 (by decide) (hts (.fieldLink RX3 15 "CardsAtYule$Fate" "rule0" "I") (List.mem_cons_of_mem _ (List.mem_append_left _ (List.mem_of_getElem? (i := 0) rfl)))) (fun _ h9 => h9) rfl dX3_sentIn_1 ?_
  refine lv_aload_n hx hb dX3_sentIn_4 rfl (lv_at hl 0 rfl) ?_
  refine va_get (D := g) (ci := 3) (v := .int v1) (C := RX3) (T := TX3) (N := 7) hx hb hts iX3 hown hK hP 0 rfl rfl 5 (by decide) (hts (.fieldLink RX3 19 "CardsAtYule$Fate" "rule1" "I") (List.mem_cons_of_mem _ (List.mem_append_left _ (List.mem_of_getElem? (i := 1) rfl)))) (fun _ h9 => h9) rfl dX3_sentIn_5 ?_
  refine lv_iload_n hx hb dX3_sentIn_8 rfl (lv_at hl 1 rfl) ?_
  refine ro_i (va_runS (As := [.int v0, .int v1, .int p0]) (rest := []) ⟨hx, hb, hml, hown, hts⟩ (k_fX10_firsts l g cI cJ cB cZ cL v0 v1 p0 s.heap.size ) (va_cwS 3 hts (goodIn_app (g_3 (List.mem_cons_of_mem _ (List.mem_append_left _ (List.mem_of_getElem? (i := 2) rfl))) (List.mem_cons_of_mem _ (List.mem_append_left _ (List.mem_of_getElem? (i := 3) rfl))) (List.mem_cons_of_mem _ (List.mem_append_left _ (List.mem_of_getElem? (i := 4) rfl))) (by decide +kernel)) (goodIn_sub (fun _ h => List.mem_cons_of_mem _ (List.mem_append_right _ (List.mem_append_left _ h))) good_v_fX10_firsts)) rfl rfl rfl (by decide +kernel) ⟨Nat.le_of_ble_eq_true rfl, Nat.le_of_ble_eq_true rfl⟩) (ps_RO (wc := []) hK hP [] rfl) rfl rfl hl.1 rfl (lv_room (Nat.le_of_ble_eq_true rfl)) dX3_sentIn_9 ⟨Nat.le_of_ble_eq_true rfl, Nat.le_of_ble_eq_true rfl⟩) hS hA hP (fun r1 u2 H locs hw3 hP hS => ?_)
  subst hw3
  refine lv_istore_n (lv' := [(3, .int (Yfirsts v0 v1 p0)), (0, .ref fa), (1, .int p0), (2, .int p1)]) hx hb dX3_sentIn_12 rfl hl (by decide) rfl (fun ls hl => ?_)
  refine lv_iload_n hx hb dX3_sentIn_13 rfl (lv_at hl 0 rfl) ?_
  refine lv_iload_n hx hb dX3_sentIn_14 rfl (lv_at hl 0 rfl) ?_
  refine lv_aload_n hx hb dX3_sentIn_15 rfl (lv_at hl 1 rfl) ?_
  refine va_get (D := g) (ci := 3) (v := .int v0) (C := RX3) (T := TX3) (N := 7) hx hb hts iX3 hown hK hP 0 rfl rfl 4 (by decide) (hts (.fieldLink RX3 15 "CardsAtYule$Fate" "rule0" "I") (List.mem_cons_of_mem _ (List.mem_append_left _ (List.mem_of_getElem? (i := 0) rfl)))) (fun _ h9 => h9) rfl dX3_sentIn_16 ?_
  refine lv_aload_n hx hb dX3_sentIn_19 rfl (lv_at hl 1 rfl) ?_
  refine va_get (D := g) (ci := 3) (v := .int v1) (C := RX3) (T := TX3) (N := 7) hx hb hts iX3 hown hK hP 0 rfl rfl 5 (by decide) (hts (.fieldLink RX3 19 "CardsAtYule$Fate" "rule1" "I") (List.mem_cons_of_mem _ (List.mem_append_left _ (List.mem_of_getElem? (i := 1) rfl)))) (fun _ h9 => h9) rfl dX3_sentIn_20 ?_
  refine ro_i (va_runS (As := [.int v0, .int v1]) (rest := [.int (Yfirsts v0 v1 p0), .int (Yfirsts v0 v1 p0)]) ⟨hx, hb, hml, hown, hts⟩ (k_fX10_returning l g cI cJ cB cZ cL v0 v1 H.size ) (va_cwS 2 hts (goodIn_app (g_3 (List.mem_cons_of_mem _ (List.mem_append_left _ (List.mem_of_getElem? (i := 5) rfl))) (List.mem_cons_of_mem _ (List.mem_append_left _ (List.mem_of_getElem? (i := 6) rfl))) (List.mem_cons_of_mem _ (List.mem_append_left _ (List.mem_of_getElem? (i := 4) rfl))) (by decide +kernel)) (goodIn_sub (fun _ h => List.mem_cons_of_mem _ (List.mem_append_right _ (List.mem_append_right _ (List.mem_append_left _ h)))) good_v_fX10_returning)) rfl rfl rfl (by decide +kernel) ⟨Nat.le_of_ble_eq_true rfl, Nat.le_of_ble_eq_true rfl⟩) (ps_RO (wc := []) hK hP [] rfl) rfl rfl hl.1 rfl (lv_room (Nat.le_of_ble_eq_true rfl)) dX3_sentIn_23 ⟨Nat.le_of_ble_eq_true rfl, Nat.le_of_ble_eq_true rfl⟩) hS hA hP (fun r4 u5 H locs hw6 hP hS => ?_)
  subst hw6
  refine lv_iload_n hx hb dX3_sentIn_26 rfl (lv_at hl 3 rfl) ?_
  refine ro_i (va_runS (As := [.int (Yfirsts v0 v1 p0), .int (Yreturning v0 v1), .int p1]) (rest := [.int (Yfirsts v0 v1 p0)]) ⟨hx, hb, hml, hown, hts⟩ (k_fX10_backs l g cI cJ cB cZ cL (Yfirsts v0 v1 p0) (Yreturning v0 v1) p1 H.size ) (va_cwS 3 hts (goodIn_app (g_3 (List.mem_cons_of_mem _ (List.mem_append_left _ (List.mem_of_getElem? (i := 7) rfl))) (List.mem_cons_of_mem _ (List.mem_append_left _ (List.mem_of_getElem? (i := 8) rfl))) (List.mem_cons_of_mem _ (List.mem_append_left _ (List.mem_of_getElem? (i := 4) rfl))) (by decide +kernel)) (goodIn_sub (fun _ h => List.mem_cons_of_mem _ (List.mem_append_right _ (List.mem_append_right _ (List.mem_append_right _ (List.mem_append_left _ h))))) good_v_fX10_backs)) rfl rfl rfl (by decide +kernel) ⟨Nat.le_of_ble_eq_true rfl, Nat.le_of_ble_eq_true rfl⟩) (ps_RO (wc := []) hK hP [] rfl) rfl rfl hl.1 rfl (lv_room (Nat.le_of_ble_eq_true rfl)) dX3_sentIn_27 ⟨Nat.le_of_ble_eq_true rfl, Nat.le_of_ble_eq_true rfl⟩) hS hA hP (fun r7 u8 H locs hw9 hP hS => ?_)
  subst hw9
  refine lv_ior hx hb dX3_sentIn_30 ?_
  exact W.iret (v := ((Yfirsts v0 v1 p0) ||| (Ybacks (Yfirsts v0 v1 p0) (Yreturning v0 v1) p1))) hx hb hr (fun t ht hW => ⟨⟨((Yfirsts v0 v1 p0) ||| (Ybacks (Yfirsts v0 v1 p0) (Yreturning v0 v1) p1)), (), rfl, rfl, trivial⟩, hS.F ht⟩) hS.2.2 dX3_sentIn_31
def v_fX3_next : List Cond := .code yX3_next cX3_next 3 (some .int) :: (([.methodLink RX3 44 yX3_sentIn, .instanceMethod yX3_sentIn, .selects RX3 yX3_sentIn yX3_sentIn, .initialized RX3, .methodLink RX3 73 yX10_swapped, .static yX10_swapped, .initialized RX10, .methodLink RX3 76 yX10_after, .static yX10_after] : List Cond) ++ (v_fX3_sentIn ++ (v_fX10_swapped ++ (v_fX10_after ++ ([] : List Cond)))))
theorem good_v_fX3_next : v_fX3_next.all goodWord = true := ga_c (by decide +kernel) (ga_a (by decide +kernel) (ga_a good_v_fX3_sentIn (ga_a good_v_fX10_swapped (ga_a good_v_fX10_after rfl))))
set_option maxHeartbeats 4000000 in
set_option maxRecDepth 100000 in
theorem k_fX3_next (l : Launch) (g : va_G) (cI cJ cB cZ cL : ClassId) (fa : Nat) (fy : Nat) (vb : Int32) (vl : Int32) (vc : Int32) (vr : Int32) (v0 : Int32) (v1 : Int32) (p0 : Int32) (p1 : Int32) (sz : Nat)  : Met l yX3_next v_fX3_next ({ frames := 2, cells := 0, slots := 0, locals := 46 }) (va_Pc [.ref fa, .int p0, .int p1] (pRO g (tyT cI cJ cB cZ cL) [(fa, .inr (3, [.int vb, .int vl, .int vc, .int vr, .int v0, .int v1, .ref fy]))] sz)) (va_Qi (fun (r : Int32) (u : Unit) => r = Fnext v0 v1 p0 p1) (fun (_ : Unit) (_ : State) => True) (va_A [] sz)) 0 0 (va_A [] sz) := by
  refine Met.ofW (cc := cX3_next) (maxL := 3) (ret := (some .int)) (by decide) rfl ?_
  intro p e s m args below meth c s₁ B hml hv
  obtain ⟨rfl, hsz, hP, hK⟩ := hv
  have hx := B.exec
  have hb := B.bytes
  have hr := B.returns
  have hts := atoms_spec (ws := v_fX3_next) B.pre
  have hown : s.vm.findClass RX3 = some m.cls := findClass_of_methodNamed B.named
  have hlocks := B.notSynchronized
  subst hsz
  generalize hAe : (va_A [] s.heap.size) = A
  have hA : ∀ q : Nat, s.heap.size ≤ q → A q := fun q h => by rw [← hAe]; exact Or.inr h
  have hS : va_S A s.heap s.heap [] := va_S.rf
  have hl := lv_entry ([.ref fa, .int p0, .int p1]) (n := 3) (Nat.le_of_ble_eq_true rfl)
  rw [lg_entry_eq]
  generalize (lg_sl ([.ref fa, .int p0, .int p1]) ++ List.replicate (3 - (lg_sl ([.ref fa, .int p0, .int p1])).length) Slot.unset).toArray = ls at hl ⊢
  have hl : lv_has ls 3 [(0, .ref fa), (1, .int p0), (2, .int p1)] := hl
  have hP : va_P g vwCl [(fa, .inr (3, [.int vb, .int vl, .int vc, .int vr, .int v0, .int v1, .ref fy]))] s.heap := hP
  refine lv_iload_n hx hb dX3_next_0 rfl (lv_at hl 1 rfl) ?_
  refine lv_aload_n hx hb dX3_next_1 rfl (lv_at hl 0 rfl) ?_
  refine lv_iload_n hx hb dX3_next_2 rfl (lv_at hl 1 rfl) ?_
  refine lv_iload_n hx hb dX3_next_3 rfl (lv_at hl 2 rfl) ?_
  refine ro_i (va_runV (As := [.int p0, .int p1]) (rest := [.int p0]) ⟨hx, hb, hml, hown, hts⟩ (k_fX3_sentIn l g cI cJ cB cZ cL fa fy vb vl vc vr v0 v1 p0 p1 s.heap.size ) (cwV 2 hts (goodIn_app (g_4 (List.mem_cons_of_mem _ (List.mem_append_left _ (List.mem_of_getElem? (i := 0) rfl))) (List.mem_cons_of_mem _ (List.mem_append_left _ (List.mem_of_getElem? (i := 1) rfl))) (List.mem_cons_of_mem _ (List.mem_append_left _ (List.mem_of_getElem? (i := 2) rfl))) (List.mem_cons_of_mem _ (List.mem_append_left _ (List.mem_of_getElem? (i := 3) rfl))) (by decide +kernel)) (goodIn_sub (fun _ h => List.mem_cons_of_mem _ (List.mem_append_right _ (List.mem_append_left _ h))) good_v_fX3_sentIn)) rfl rfl rfl (by decide +kernel) ⟨Nat.le_of_ble_eq_true rfl, Nat.le_of_ble_eq_true rfl⟩) (pv_RO (q := (RX3, TX3, 7)) (ci := 3) (q0 := 0) (wc := [(fa, .inr (3, [.int vb, .int vl, .int vc, .int vr, .int v0, .int v1, .ref fy]))]) hK hP [0] rfl rfl rfl) rfl rfl hl.1 rfl (lv_room (Nat.le_of_ble_eq_true rfl)) dX3_next_4 ⟨Nat.le_of_ble_eq_true rfl, Nat.le_of_ble_eq_true rfl⟩) hS hA hP (fun r1 u2 H locs hw3 hP hS => ?_)
  subst hw3
  refine lv_iload_n hx hb dX3_next_7 rfl (lv_at hl 2 rfl) ?_
  refine lv_iand hx hb dX3_next_8 ?_
  refine ro_i (va_runS (As := [.int ((Fsent v0 v1 p0 p1) &&& p1)]) (rest := [.int p0]) ⟨hx, hb, hml, hown, hts⟩ (k_fX10_swapped l g cI cJ cB cZ cL ((Fsent v0 v1 p0 p1) &&& p1) H.size ) (va_cwS 1 hts (goodIn_app (g_3 (List.mem_cons_of_mem _ (List.mem_append_left _ (List.mem_of_getElem? (i := 4) rfl))) (List.mem_cons_of_mem _ (List.mem_append_left _ (List.mem_of_getElem? (i := 5) rfl))) (List.mem_cons_of_mem _ (List.mem_append_left _ (List.mem_of_getElem? (i := 6) rfl))) (by decide +kernel)) (goodIn_sub (fun _ h => List.mem_cons_of_mem _ (List.mem_append_right _ (List.mem_append_right _ (List.mem_append_left _ h)))) good_v_fX10_swapped)) rfl rfl rfl (by decide +kernel) ⟨Nat.le_of_ble_eq_true rfl, Nat.le_of_ble_eq_true rfl⟩) (ps_RO (wc := []) hK hP [] rfl) rfl rfl hl.1 rfl (lv_room (Nat.le_of_ble_eq_true rfl)) dX3_next_9 ⟨Nat.le_of_ble_eq_true rfl, Nat.le_of_ble_eq_true rfl⟩) hS hA hP (fun r4 u5 H locs hw6 hP hS => ?_)
  subst hw6
  refine ro_i (va_runS (As := [.int p0, .int (Yswapped ((Fsent v0 v1 p0 p1) &&& p1))]) (rest := []) ⟨hx, hb, hml, hown, hts⟩ (k_fX10_after l g cI cJ cB cZ cL p0 (Yswapped ((Fsent v0 v1 p0 p1) &&& p1)) H.size ) (va_cwS 2 hts (goodIn_app (g_3 (List.mem_cons_of_mem _ (List.mem_append_left _ (List.mem_of_getElem? (i := 7) rfl))) (List.mem_cons_of_mem _ (List.mem_append_left _ (List.mem_of_getElem? (i := 8) rfl))) (List.mem_cons_of_mem _ (List.mem_append_left _ (List.mem_of_getElem? (i := 6) rfl))) (by decide +kernel)) (goodIn_sub (fun _ h => List.mem_cons_of_mem _ (List.mem_append_right _ (List.mem_append_right _ (List.mem_append_right _ (List.mem_append_left _ h))))) good_v_fX10_after)) rfl rfl rfl (by decide +kernel) ⟨Nat.le_of_ble_eq_true rfl, Nat.le_of_ble_eq_true rfl⟩) (ps_RO (wc := []) hK hP [] rfl) rfl rfl hl.1 rfl (lv_room (Nat.le_of_ble_eq_true rfl)) dX3_next_12 ⟨Nat.le_of_ble_eq_true rfl, Nat.le_of_ble_eq_true rfl⟩) hS hA hP (fun r7 u8 H locs hw9 hP hS => ?_)
  subst hw9
  exact W.iret (v := (Yafter p0 (Yswapped ((Fsent v0 v1 p0 p1) &&& p1)))) hx hb hr (fun t ht hW => ⟨⟨(Yafter p0 (Yswapped ((Fsent v0 v1 p0 p1) &&& p1))), (), rfl, rfl, trivial⟩, hS.F ht⟩) hS.2.2 dX3_next_15
abbrev v_fJ6_bc : List Cond := v_fJ6_bitCount_0
theorem good_v_fJ6_bc : v_fJ6_bc.all goodWord = true := good_v_fJ6_bitCount_0
theorem k_fJ6_bc (l : Launch) (g : va_G) (cI cJ cB cZ cL : ClassId) (n : Nat) (sz : Nat) (hn : n < 4) : Met l yJ6_bitCount_0f7a4 v_fJ6_bc ({ frames := 0, cells := 0, slots := 0, locals := 0 }) (va_Pc [.int (nI n)] (pRO g (tyT cI cJ cB cZ cL) [] sz)) (va_Qi (fun (r : Int32) (u : Unit) => r = nI (n % 2 + n / 2)) (fun (_ : Unit) (_ : State) => True) (va_A [] sz)) 0 0 (va_A [] sz) := by
  match n, hn with
  | 0, _ => exact k_fJ6_bitCount_0 l g cI cJ cB cZ cL sz
  | 1, _ => exact k_fJ6_bitCount_1 l g cI cJ cB cZ cL sz
  | 2, _ => exact k_fJ6_bitCount_2 l g cI cJ cB cZ cL sz
  | 3, _ => exact k_fJ6_bitCount_3 l g cI cJ cB cZ cL sz
  | n + 4, h => exact absurd h (by omega)
def v_fX3_find : List Cond := .code yX3_find cX3_find 7 none :: (([.fieldLink RX3 15 "CardsAtYule$Fate" "rule0" "I", .fieldLink RX3 19 "CardsAtYule$Fate" "rule1" "I", .fieldLink RX3 9 "CardsAtYule$Fate" "yearOf" "[I", .methodLink RX3 22 yJ7_fill_53178, .static yJ7_fill_53178, .initialized RJ7, .fieldLink RX3 32 "CardsAtYule$Fate" "round" "I", .fieldLink RX3 35 "CardsAtYule$Fate" "begins" "I", .fieldLink RX3 38 "CardsAtYule$Fate" "length" "I", .fieldLink RX3 41 "CardsAtYule$Fate" "cards" "I", .methodLink RX3 44 yX3_sentIn, .instanceMethod yX3_sentIn, .selects RX3 yX3_sentIn yX3_sentIn, .initialized RX3, .methodLink RX3 47 yJ6_bitCount_0f7a4, .static yJ6_bitCount_0f7a4, .initialized RJ6, .methodLink RX3 28 yX3_next, .instanceMethod yX3_next, .selects RX3 yX3_next yX3_next] : List Cond) ++ (v_fJ7_fill_53178_16 ++ (v_fX3_sentIn ++ (v_fJ6_bc ++ (v_fX3_next ++ (wsX30 ++ ([] : List Cond)))))))
theorem good_v_fX3_find : v_fX3_find.all goodWord = true := ga_c (by decide +kernel) (ga_a (by decide +kernel) (ga_a good_v_fJ7_fill_53178_16 (ga_a good_v_fX3_sentIn (ga_a good_v_fJ6_bc (ga_a good_v_fX3_next (ga_a good_wsX30 rfl))))))
set_option maxHeartbeats 4000000 in
set_option maxRecDepth 100000 in
theorem k_fX3_find (l : Launch) (g : va_G) (cI cJ cB cZ cL : ClassId) (fa : Nat) (fy : Nat) (vb : Int32) (vl : Int32) (vc : Int32) (vr : Int32) (v0 : Int32) (v1 : Int32) (f0 : Nat → Int32) (ra : Nat) (rb : Nat) (js : Nat) (sz : Nat) (hra : ra < 32) (hrb : rb < 32) (hjs : js < 16) : Met l yX3_find v_fX3_find ({ frames := 3, cells := 0, slots := 0, locals := 68 }) (va_Pc [.ref fa, .int (nI ra), .int (nI rb), .int (nI js)] (pRW g (tyT cI cJ cB cZ cL) [(fa, .inr (3, [.int vb, .int vl, .int vc, .int vr, .int v0, .int v1, .ref fy])), (fy, .inl (cI, 16, .inl f0))] sz)) (va_Qv (fun (u : (Nat → Int32) × Int32 × Int32 × Int32 × Int32) => match u with | (f1, wb, wl, wc, wr) => wb = nI (fJ ra rb js) ∧ wl = nI (fL ra rb js) ∧ wc = nI (fC ra rb js) ∧ ir wr.toInt 0 15) (fun (u : (Nat → Int32) × Int32 × Int32 × Int32 × Int32) (t : State) => bRW g (tyT cI cJ cB cZ cL) (va_A [(fa, .inr (3, [.int vb, .int vl, .int vc, .int vr, .int v0, .int v1, .ref fy])), (fy, .inl (cI, 16, .inl f0))] sz) (match u with | (f1, wb, wl, wc, wr) => [(fa, .inr (3, [.int wb, .int wl, .int wc, .int wr, .int (nI ra), .int (nI rb), .ref fy])), (fy, .inl (cI, 16, .inl f1))]) t) (va_A [(fa, .inr (3, [.int vb, .int vl, .int vc, .int vr, .int v0, .int v1, .ref fy])), (fy, .inl (cI, 16, .inl f0))] sz)) 0 0 (va_A [(fa, .inr (3, [.int vb, .int vl, .int vc, .int vr, .int v0, .int v1, .ref fy])), (fy, .inl (cI, 16, .inl f0))] sz) := by
  refine Met.ofW (cc := cX3_find) (maxL := 7) (ret := none) (by decide) rfl ?_
  intro p e s m args below meth c s₁ B hml hv
  obtain ⟨rfl, hsz, hP, hK, hD0⟩ := hv
  have hx := B.exec
  have hb := B.bytes
  have hr := B.returns
  have hts := atoms_spec (ws := v_fX3_find) B.pre
  have hown : s.vm.findClass RX3 = some m.cls := findClass_of_methodNamed B.named
  have hlocks := B.notSynchronized
  subst hsz
  have iX3 : ∀ w ∈ wsX30, w ∈ v_fX3_find := (fun _ h => List.mem_cons_of_mem _ (List.mem_append_right _ (List.mem_append_right _ (List.mem_append_right _ (List.mem_append_right _ (List.mem_append_right _ (List.mem_append_left _ h)))))))
  have hD := hD0.self (sz := s.heap.size)
  generalize hAe : (va_A [(fa, .inr (3, [.int vb, .int vl, .int vc, .int vr, .int v0, .int v1, .ref fy])), (fy, .inl (cI, 16, .inl f0))] s.heap.size) = A at hD ⊢
  have hA : ∀ q : Nat, s.heap.size ≤ q → A q := fun q h => by rw [← hAe]; exact Or.inr h
  have hS : va_S A s.heap s.heap [] := va_S.rf
  have hl := lv_entry ([.ref fa, .int (nI ra), .int (nI rb), .int (nI js)]) (n := 7) (Nat.le_of_ble_eq_true rfl)
  rw [lg_entry_eq]
  generalize (lg_sl ([.ref fa, .int (nI ra), .int (nI rb), .int (nI js)]) ++ List.replicate (7 - (lg_sl ([.ref fa, .int (nI ra), .int (nI rb), .int (nI js)])).length) Slot.unset).toArray = ls at hl ⊢
  have hl : lv_has ls 7 [(0, .ref fa), (1, .int (nI ra)), (2, .int (nI rb)), (3, .int (nI js))] := hl
  have hP : va_P g vwCl [(fa, .inr (3, [.int vb, .int vl, .int vc, .int vr, .int v0, .int v1, .ref fy])), (fy, .inl (cI, 16, .inl f0))] s.heap := hP
  refine lv_aload_n hx hb dX3_find_0 rfl (lv_at hl 0 rfl) ?_
  refine lv_iload_n hx hb dX3_find_1 rfl (lv_at hl 1 rfl) ?_
  refine va_put (D := g) (ci := 3) (v := .int (nI ra)) (ty := .int) (C := RX3) (T := TX3) (N := 7) hx hb hts iX3 tyX3 tyX3_ok nmX3 hown hK hP hD hS 0 rfl rfl 4 (by decide) (hts (.fieldLink RX3 15 "CardsAtYule$Fate" "rule0" "I") (List.mem_cons_of_mem _ (List.mem_append_left _ (List.mem_of_getElem? (i := 0) rfl)))) (fun _ h9 => h9) rfl (by decide +kernel) rfl rfl (Nat.le_of_ble_eq_true rfl) dX3_find_2 (fun H locs hP hD hS => ?_)
  have hP : va_P g vwCl [(fa, .inr (3, [.int vb, .int vl, .int vc, .int vr, .int (nI ra), .int v1, .ref fy])), (fy, .inl (cI, 16, .inl f0))] H := hP
  have hD : va_D A [(fa, .inr (3, [.int vb, .int vl, .int vc, .int vr, .int (nI ra), .int v1, .ref fy])), (fy, .inl (cI, 16, .inl f0))] := hD
  refine lv_aload_n hx hb dX3_find_5 rfl (lv_at hl 0 rfl) ?_
  refine lv_iload_n hx hb dX3_find_6 rfl (lv_at hl 2 rfl) ?_
  refine va_put (D := g) (ci := 3) (v := .int (nI rb)) (ty := .int) (C := RX3) (T := TX3) (N := 7) hx hb hts iX3 tyX3 tyX3_ok nmX3 hown hK hP hD hS 0 rfl rfl 5 (by decide) (hts (.fieldLink RX3 19 "CardsAtYule$Fate" "rule1" "I") (List.mem_cons_of_mem _ (List.mem_append_left _ (List.mem_of_getElem? (i := 1) rfl)))) (fun _ h9 => h9) rfl (by decide +kernel) rfl rfl (Nat.le_of_ble_eq_true rfl) dX3_find_7 (fun H locs hP hD hS => ?_)
  have hP : va_P g vwCl [(fa, .inr (3, [.int vb, .int vl, .int vc, .int vr, .int (nI ra), .int (nI rb), .ref fy])), (fy, .inl (cI, 16, .inl f0))] H := hP
  have hD : va_D A [(fa, .inr (3, [.int vb, .int vl, .int vc, .int vr, .int (nI ra), .int (nI rb), .ref fy])), (fy, .inl (cI, 16, .inl f0))] := hD
  refine lv_aload_n hx hb dX3_find_10 rfl (lv_at hl 0 rfl) ?_
  refine va_get (D := g) (ci := 3) (v := .ref fy) (C := RX3) (T := TX3) (N := 7) hx hb hts iX3 hown hK hP 0 rfl rfl 6 (by decide) (hts (.fieldLink RX3 9 "CardsAtYule$Fate" "yearOf" "[I") (List.mem_cons_of_mem _ (List.mem_append_left _ (List.mem_of_getElem? (i := 2) rfl)))) (fun _ h9 => h9) rfl dX3_find_11 ?_
  refine lv_iconst (v := (-1)) hx hb dX3_find_14 (by decide) ?_
  refine rw_v (wr := [(fa, .inr (3, [.int vb, .int vl, .int vc, .int vr, .int (nI ra), .int (nI rb), .ref fy]))]) (va_runS (As := [.ref fy, .int (-1)]) (rest := []) ⟨hx, hb, hml, hown, hts⟩ (k_fJ7_fill_53178_16 l g cI cJ cB cZ cL fy f0 (-1) H.size ) (va_cwS 2 hts (goodIn_app (g_3 (List.mem_cons_of_mem _ (List.mem_append_left _ (List.mem_of_getElem? (i := 3) rfl))) (List.mem_cons_of_mem _ (List.mem_append_left _ (List.mem_of_getElem? (i := 4) rfl))) (List.mem_cons_of_mem _ (List.mem_append_left _ (List.mem_of_getElem? (i := 5) rfl))) (by decide +kernel)) (goodIn_sub (fun _ h => List.mem_cons_of_mem _ (List.mem_append_right _ (List.mem_append_left _ h))) good_v_fJ7_fill_53178_16)) rfl rfl rfl (by decide +kernel) ⟨Nat.le_of_ble_eq_true rfl, Nat.le_of_ble_eq_true rfl⟩) (ps_RW (wc := [(fy, .inl (cI, 16, .inl f0))]) hK hP hD [1] (by decide) rfl) rfl rfl hl.1 rfl (lv_room (Nat.le_of_ble_eq_true rfl)) dX3_find_15 ⟨Nat.le_of_ble_eq_true rfl, Nat.le_of_ble_eq_true rfl⟩) hS hA hP hD [1] [0] rfl rfl (by decide) (by decide) (fun u2 H locs hw3 hP hD hS => ?_)
  generalize u2 = u_f14 at hw3 hP hD
  try dsimp only at hw3
  have hP : va_P g vwCl [(fa, .inr (3, [.int vb, .int vl, .int vc, .int vr, .int (nI ra), .int (nI rb), .ref fy])), (fy, .inl (cI, 16, .inl u_f14))] H := hP
  have hD : va_D A [(fa, .inr (3, [.int vb, .int vl, .int vc, .int vr, .int (nI ra), .int (nI rb), .ref fy])), (fy, .inl (cI, 16, .inl u_f14))] := hD
  refine lv_iload_n hx hb dX3_find_18 rfl (lv_at hl 3 rfl) ?_
  refine lv_istore (lv' := [(4, .int (nI js)), (0, .ref fa), (1, .int (nI ra)), (2, .int (nI rb)), (3, .int (nI js))]) hx hb dX3_find_19 hl (by decide) rfl (fun ls hl => ?_)
  refine lv_iconst (v := 0) hx hb dX3_find_21 (by decide) ?_
  refine lv_istore (lv' := [(5, .int 0), (4, .int (nI js)), (0, .ref fa), (1, .int (nI ra)), (2, .int (nI rb)), (3, .int (nI js))]) hx hb dX3_find_22 hl (by decide) rfl (fun ls hl => ?_)
  have lp7 : ∀ (n5 : Nat) (k : Nat) (f : Nat → Int32) (H : Heap) (locs : List Loc) (ls : Array Slot), 17 - k < n5 → (k ≤ 16) → (DS ra rb js k) → (CM ra rb js k f) → va_P g vwCl [(fa, .inr (3, [.int vb, .int vl, .int vc, .int vr, .int (nI ra), .int (nI rb), .ref fy])), (fy, .inl (cI, 16, .inl f))] H → va_D A [(fa, .inr (3, [.int vb, .int vl, .int vc, .int vr, .int (nI ra), .int (nI rb), .ref fy])), (fy, .inl (cI, 16, .inl f))] → va_S A s.heap H locs → lv_has ls 7 [(0, .ref fa), (1, .int (nI ra)), (2, .int (nI rb)), (3, .int (nI js)), (4, .int (nI (pt ra rb js k))), (5, .int (nI k))] → W p l e (headSpec v_fX3_find ({ frames := 3, cells := 0, slots := 0, locals := 68 })).room s m ([.ref fa, .int (nI ra), .int (nI rb), .int (nI js)] : List Value).toArray below meth c H locs 0 0 (MQ below (va_Qv (fun (u : (Nat → Int32) × Int32 × Int32 × Int32 × Int32) => match u with | (f1, wb, wl, wc, wr) => wb = nI (fJ ra rb js) ∧ wl = nI (fL ra rb js) ∧ wc = nI (fC ra rb js) ∧ ir wr.toInt 0 15) (fun (u : (Nat → Int32) × Int32 × Int32 × Int32 × Int32) (t : State) => bRW g (tyT cI cJ cB cZ cL) A (match u with | (f1, wb, wl, wc, wr) => [(fa, .inr (3, [.int wb, .int wl, .int wc, .int wr, .int (nI ra), .int (nI rb), .ref fy])), (fy, .inl (cI, 16, .inl f1))]) t) A) ([.ref fa, .int (nI ra), .int (nI rb), .int (nI js)] : List Value).toArray s 0 0 A) (F0 m 24 ls []) := by
    intro n5
    induction n5 with
    | zero => exact fun k f H locs ls hn => absurd hn (Nat.not_lt_zero _)
    | succ n5 ih6 =>
      intro k f H locs ls hn hk hds hcm hP hD hS hl
      have hpt := pt_lt (a := ra) (b := rb) hjs k
      refine lv_iload hx hb dX3_find_24 (lv_at hl 5 rfl) ?_
      refine lv_bipush (v := 16) hx hb dX3_find_26 (by decide) ?_
      refine lv_icmp_ge (tgt := 66) hx hb dX3_find_28 (by decide) (fun c8 => ?_) (fun c8 => ?_)
      · have f9 := (show 16 ≤ (k : Int) from z_le rfl (nI_toInt (n := k) (by omega)) c8)
        refine lv_aload_n hx hb dX3_find_66 rfl (lv_at hl 0 rfl) ?_
        refine lv_iload hx hb dX3_find_67 (lv_at hl 4 rfl) ?_
        refine va_put (D := g) (ci := 3) (v := .int (nI (pt ra rb js k))) (ty := .int) (C := RX3) (T := TX3) (N := 7) hx hb hts iX3 tyX3 tyX3_ok nmX3 hown hK hP hD hS 0 rfl rfl 3 (by decide) (hts (.fieldLink RX3 32 "CardsAtYule$Fate" "round" "I") (List.mem_cons_of_mem _ (List.mem_append_left _ (List.mem_of_getElem? (i := 6) rfl)))) (fun _ h9 => h9) rfl (by decide +kernel) rfl rfl (Nat.le_of_ble_eq_true rfl) dX3_find_69 (fun H locs hP hD hS => ?_)
        have hP : va_P g vwCl [(fa, .inr (3, [.int vb, .int vl, .int vc, .int (nI (pt ra rb js k)), .int (nI ra), .int (nI rb), .ref fy])), (fy, .inl (cI, 16, .inl f))] H := hP
        have hD : va_D A [(fa, .inr (3, [.int vb, .int vl, .int vc, .int (nI (pt ra rb js k)), .int (nI ra), .int (nI rb), .ref fy])), (fy, .inl (cI, 16, .inl f))] := hD
        refine lv_aload_n hx hb dX3_find_72 rfl (lv_at hl 0 rfl) ?_
        refine lv_aload_n hx hb dX3_find_73 rfl (lv_at hl 0 rfl) ?_
        refine va_get (D := g) (ci := 3) (v := .ref fy) (C := RX3) (T := TX3) (N := 7) hx hb hts iX3 hown hK hP 0 rfl rfl 6 (by decide) (hts (.fieldLink RX3 9 "CardsAtYule$Fate" "yearOf" "[I") (List.mem_cons_of_mem _ (List.mem_append_left _ (List.mem_of_getElem? (i := 2) rfl)))) (fun _ h9 => h9) rfl dX3_find_74 ?_
        refine lv_iload hx hb dX3_find_77 (lv_at hl 4 rfl) ?_
        refine va_iald (D := g) hx hb hK hP 1 0 rfl rfl (vp_in_nI (n := pt ra rb js k) (by omega) (by decide)) dX3_find_79 ?_
        obtain ⟨j2, hj2, hpj2, hfj2⟩ : ∃ j2, j2 < k ∧ pt ra rb js j2 = pt ra rb js k ∧ f (pt ra rb js k) = nI j2 := by
          rcases hcm _ hpt with h | ⟨h, -⟩
          · exact h
          · exfalso
            first | exact h _ hj hpj | (have hr9 := DS_room hjs hds h; omega)
        refine lv_topi (nm_r (e' := nI j2) (by rw [nI_clamp (n := pt ra rb js k) (by omega)]; exact hfj2) ?_)
        refine va_put (D := g) (ci := 3) (v := .int (nI j2)) (ty := .int) (C := RX3) (T := TX3) (N := 7) hx hb hts iX3 tyX3 tyX3_ok nmX3 hown hK hP hD hS 0 rfl rfl 0 (by decide) (hts (.fieldLink RX3 35 "CardsAtYule$Fate" "begins" "I") (List.mem_cons_of_mem _ (List.mem_append_left _ (List.mem_of_getElem? (i := 7) rfl)))) (fun _ h9 => h9) rfl (by decide +kernel) rfl rfl (Nat.le_of_ble_eq_true rfl) dX3_find_80 (fun H locs hP hD hS => ?_)
        have hP : va_P g vwCl [(fa, .inr (3, [.int (nI j2), .int vl, .int vc, .int (nI (pt ra rb js k)), .int (nI ra), .int (nI rb), .ref fy])), (fy, .inl (cI, 16, .inl f))] H := hP
        have hD : va_D A [(fa, .inr (3, [.int (nI j2), .int vl, .int vc, .int (nI (pt ra rb js k)), .int (nI ra), .int (nI rb), .ref fy])), (fy, .inl (cI, 16, .inl f))] := hD
        refine lv_aload_n hx hb dX3_find_83 rfl (lv_at hl 0 rfl) ?_
        refine lv_iload hx hb dX3_find_84 (lv_at hl 5 rfl) ?_
        refine lv_aload_n hx hb dX3_find_86 rfl (lv_at hl 0 rfl) ?_
        refine va_get (D := g) (ci := 3) (v := .int (nI j2)) (C := RX3) (T := TX3) (N := 7) hx hb hts iX3 hown hK hP 0 rfl rfl 0 (by decide) (hts (.fieldLink RX3 35 "CardsAtYule$Fate" "begins" "I") (List.mem_cons_of_mem _ (List.mem_append_left _ (List.mem_of_getElem? (i := 7) rfl)))) (fun _ h9 => h9) rfl dX3_find_87 ?_
        refine lv_isub hx hb dX3_find_90 ?_
        refine lv_topi (nm_r (e' := (nI (k - j2))) (pk_sub (a := k) (b := j2) (by omega)) ?_)
        refine va_put (D := g) (ci := 3) (v := .int (nI (k - j2))) (ty := .int) (C := RX3) (T := TX3) (N := 7) hx hb hts iX3 tyX3 tyX3_ok nmX3 hown hK hP hD hS 0 rfl rfl 1 (by decide) (hts (.fieldLink RX3 38 "CardsAtYule$Fate" "length" "I") (List.mem_cons_of_mem _ (List.mem_append_left _ (List.mem_of_getElem? (i := 8) rfl)))) (fun _ h9 => h9) rfl (by decide +kernel) rfl rfl (Nat.le_of_ble_eq_true rfl) dX3_find_91 (fun H locs hP hD hS => ?_)
        have hP : va_P g vwCl [(fa, .inr (3, [.int (nI j2), .int (nI (k - j2)), .int vc, .int (nI (pt ra rb js k)), .int (nI ra), .int (nI rb), .ref fy])), (fy, .inl (cI, 16, .inl f))] H := hP
        have hD : va_D A [(fa, .inr (3, [.int (nI j2), .int (nI (k - j2)), .int vc, .int (nI (pt ra rb js k)), .int (nI ra), .int (nI rb), .ref fy])), (fy, .inl (cI, 16, .inl f))] := hD
        refine lv_aload_n hx hb dX3_find_94 rfl (lv_at hl 0 rfl) ?_
        refine lv_iconst (v := 0) hx hb dX3_find_95 (by decide) ?_
        refine va_put (D := g) (ci := 3) (v := .int 0) (ty := .int) (C := RX3) (T := TX3) (N := 7) hx hb hts iX3 tyX3 tyX3_ok nmX3 hown hK hP hD hS 0 rfl rfl 2 (by decide) (hts (.fieldLink RX3 41 "CardsAtYule$Fate" "cards" "I") (List.mem_cons_of_mem _ (List.mem_append_left _ (List.mem_of_getElem? (i := 9) rfl)))) (fun _ h9 => h9) rfl (by decide +kernel) rfl rfl (Nat.le_of_ble_eq_true rfl) dX3_find_96 (fun H locs hP hD hS => ?_)
        have hP : va_P g vwCl [(fa, .inr (3, [.int (nI j2), .int (nI (k - j2)), .int 0, .int (nI (pt ra rb js k)), .int (nI ra), .int (nI rb), .ref fy])), (fy, .inl (cI, 16, .inl f))] H := hP
        have hD : va_D A [(fa, .inr (3, [.int (nI j2), .int (nI (k - j2)), .int 0, .int (nI (pt ra rb js k)), .int (nI ra), .int (nI rb), .ref fy])), (fy, .inl (cI, 16, .inl f))] := hD
        refine lv_iconst (v := 0) hx hb dX3_find_99 (by decide) ?_
        refine lv_istore (lv' := [(6, .int 0), (0, .ref fa), (1, .int (nI ra)), (2, .int (nI rb)), (3, .int (nI js)), (4, .int (nI (pt ra rb js k))), (5, .int (nI k))]) hx hb dX3_find_100 hl (by decide) rfl (fun ls hl => ?_)
        have lp12 : ∀ (n10 : Nat) (i : Nat) (H : Heap) (locs : List Loc) (ls : Array Slot), (k - j2) - i < n10 → (i ≤ k - j2) → va_P g vwCl [(fa, .inr (3, [.int (nI j2), .int (nI (k - j2)), .int (nI (sm (fun t => sc ra rb (pt ra rb js (k + t))) i)), .int (nI (pt ra rb js k)), .int (nI ra), .int (nI rb), .ref fy])), (fy, .inl (cI, 16, .inl f))] H → va_D A [(fa, .inr (3, [.int (nI j2), .int (nI (k - j2)), .int (nI (sm (fun t => sc ra rb (pt ra rb js (k + t))) i)), .int (nI (pt ra rb js k)), .int (nI ra), .int (nI rb), .ref fy])), (fy, .inl (cI, 16, .inl f))] → va_S A s.heap H locs → lv_has ls 7 [(0, .ref fa), (4, .int (nI (pt ra rb js (k + i)))), (6, .int (nI i))] → W p l e (headSpec v_fX3_find ({ frames := 3, cells := 0, slots := 0, locals := 68 })).room s m ([.ref fa, .int (nI ra), .int (nI rb), .int (nI js)] : List Value).toArray below meth c H locs 0 0 (MQ below (va_Qv (fun (u : (Nat → Int32) × Int32 × Int32 × Int32 × Int32) => match u with | (f1, wb, wl, wc, wr) => wb = nI (fJ ra rb js) ∧ wl = nI (fL ra rb js) ∧ wc = nI (fC ra rb js) ∧ ir wr.toInt 0 15) (fun (u : (Nat → Int32) × Int32 × Int32 × Int32 × Int32) (t : State) => bRW g (tyT cI cJ cB cZ cL) A (match u with | (f1, wb, wl, wc, wr) => [(fa, .inr (3, [.int wb, .int wl, .int wc, .int wr, .int (nI ra), .int (nI rb), .ref fy])), (fy, .inl (cI, 16, .inl f1))]) t) A) ([.ref fa, .int (nI ra), .int (nI rb), .int (nI js)] : List Value).toArray s 0 0 A) (F0 m 102 ls []) := by
          intro n10
          induction n10 with
          | zero => exact fun i H locs ls hn => absurd hn (Nat.not_lt_zero _)
          | succ n10 ih11 =>
            intro i H locs ls hn hi hP hD hS hl
            have hsm := sm_le (f := (fun t => sc ra rb (pt ra rb js (k + t)))) (c := 2) (fun q => sc_le _ _ _) i
            refine lv_iload hx hb dX3_find_102 (lv_at hl 2 rfl) ?_
            refine lv_aload_n hx hb dX3_find_104 rfl (lv_at hl 0 rfl) ?_
            refine va_get (D := g) (ci := 3) (v := .int (nI (k - j2))) (C := RX3) (T := TX3) (N := 7) hx hb hts iX3 hown hK hP 0 rfl rfl 1 (by decide) (hts (.fieldLink RX3 38 "CardsAtYule$Fate" "length" "I") (List.mem_cons_of_mem _ (List.mem_append_left _ (List.mem_of_getElem? (i := 8) rfl)))) (fun _ h9 => h9) rfl dX3_find_105 ?_
            refine lv_icmp_ge (tgt := 145) hx hb dX3_find_108 (by decide) (fun c13 => ?_) (fun c13 => ?_)
            · have f14 := (show ((k - j2 : Nat) : Int) ≤ (i : Int) from z_le (nI_toInt (n := k - j2) (by omega)) (nI_toInt (n := i) (by omega)) c13)
              have hP9 := hP.sub (ws' := [(fa, .inr (3, [.int (nI j2), .int (nI (k - j2)), .int (nI (sm (fun t => sc ra rb (pt ra rb js (k + t))) i)), .int (nI (pt ra rb js k)), .int (nI ra), .int (nI rb), .ref fy])), (fy, .inl (cI, 16, .inl f))]) [0, 1] rfl
              have hD9 := hD.sub (ws' := [(fa, .inr (3, [.int (nI j2), .int (nI (k - j2)), .int (nI (sm (fun t => sc ra rb (pt ra rb js (k + t))) i)), .int (nI (pt ra rb js k)), .int (nI ra), .int (nI rb), .ref fy])), (fy, .inl (cI, 16, .inl f))]) [0, 1] (by decide) rfl
              exact W.vret hx hb hr (fun t ht hW => ⟨⟨(f, (nI j2), (nI (k - j2)), (nI (sm (fun t => sc ra rb (pt ra rb js (k + t))) i)), (nI (pt ra rb js k))), rfl, ⟨congrArg nI (fP_eq (⟨hj2, hpj2, hds⟩ : FT ra rb js j2 k)).1.symm, congrArg nI (fL_eq (⟨hj2, hpj2, hds⟩ : FT ra rb js j2 k)).symm, congrArg nI (by rw [fC_eq (⟨hj2, hpj2, hds⟩ : FT ra rb js j2 k), show i = k - j2 from by omega]), by have h9 := pt_lt (a := ra) (b := rb) hjs k; exact ⟨by rw [nI_toInt (by omega)]; omega, by rw [nI_toInt (by omega)]; omega⟩⟩, by rw [ht]; exact hP9, va_K.moved hW.alike hK, hD9⟩, hS.F ht⟩) hS.2.2 dX3_find_145
            · have f14 := (show (i : Int) < ((k - j2 : Nat) : Int) from z_nle (nI_toInt (n := k - j2) (by omega)) (nI_toInt (n := i) (by omega)) c13)
              refine lv_aload_n hx hb dX3_find_111 rfl (lv_at hl 0 rfl) ?_
              refine lv_dup hx hb dX3_find_112 rfl ?_
              refine va_get (D := g) (ci := 3) (v := .int (nI (sm (fun t => sc ra rb (pt ra rb js (k + t))) i))) (C := RX3) (T := TX3) (N := 7) hx hb hts iX3 hown hK hP 0 rfl rfl 2 (by decide) (hts (.fieldLink RX3 41 "CardsAtYule$Fate" "cards" "I") (List.mem_cons_of_mem _ (List.mem_append_left _ (List.mem_of_getElem? (i := 9) rfl)))) (fun _ h9 => h9) rfl dX3_find_113 ?_
              refine lv_aload_n hx hb dX3_find_116 rfl (lv_at hl 0 rfl) ?_
              refine lv_iload hx hb dX3_find_117 (lv_at hl 1 rfl) ?_
              refine lv_iconst (v := 3) hx hb dX3_find_119 (by decide) ?_
              refine ro_i (va_runV (As := [.int (nI (pt ra rb js (k + i))), .int 3]) (rest := [.int (nI (sm (fun t => sc ra rb (pt ra rb js (k + t))) i)), .ref fa]) ⟨hx, hb, hml, hown, hts⟩ (k_fX3_sentIn l g cI cJ cB cZ cL fa fy (nI j2) (nI (k - j2)) (nI (sm (fun t => sc ra rb (pt ra rb js (k + t))) i)) (nI (pt ra rb js k)) (nI ra) (nI rb) (nI (pt ra rb js (k + i))) 3 H.size ) (cwV 2 hts (goodIn_app (g_4 (List.mem_cons_of_mem _ (List.mem_append_left _ (List.mem_of_getElem? (i := 10) rfl))) (List.mem_cons_of_mem _ (List.mem_append_left _ (List.mem_of_getElem? (i := 11) rfl))) (List.mem_cons_of_mem _ (List.mem_append_left _ (List.mem_of_getElem? (i := 12) rfl))) (List.mem_cons_of_mem _ (List.mem_append_left _ (List.mem_of_getElem? (i := 13) rfl))) (by decide +kernel)) (goodIn_sub (fun _ h => List.mem_cons_of_mem _ (List.mem_append_right _ (List.mem_append_right _ (List.mem_append_left _ h)))) good_v_fX3_sentIn)) rfl rfl rfl (by decide +kernel) ⟨Nat.le_of_ble_eq_true rfl, Nat.le_of_ble_eq_true rfl⟩) (pv_RO (q := (RX3, TX3, 7)) (ci := 3) (q0 := 0) (wc := [(fa, .inr (3, [.int (nI j2), .int (nI (k - j2)), .int (nI (sm (fun t => sc ra rb (pt ra rb js (k + t))) i)), .int (nI (pt ra rb js k)), .int (nI ra), .int (nI rb), .ref fy]))]) hK hP [0] rfl rfl rfl) rfl rfl hl.1 rfl (lv_room (Nat.le_of_ble_eq_true rfl)) dX3_find_120 ⟨Nat.le_of_ble_eq_true rfl, Nat.le_of_ble_eq_true rfl⟩) hS hA hP (fun r15 u16 H locs hw17 hP hS => ?_)
              subst hw17
              refine lv_topi (nm_r (e' := nI (sA ra rb (pt ra rb js (k + i)) + 2 * zB ra rb (pt ra rb js (k + i)))) (Fsent_n hra hrb (pt_lt hjs _)) ?_)
              have hsa := sA_le ra rb (pt ra rb js (k + i))
              have hsb := zB_le ra rb (pt ra rb js (k + i))
              refine ro_i (va_runS (As := [.int (nI (sA ra rb (pt ra rb js (k + i)) + 2 * zB ra rb (pt ra rb js (k + i))))]) (rest := [.int (nI (sm (fun t => sc ra rb (pt ra rb js (k + t))) i)), .ref fa]) ⟨hx, hb, hml, hown, hts⟩ (k_fJ6_bc l g cI cJ cB cZ cL (sA ra rb (pt ra rb js (k + i)) + 2 * zB ra rb (pt ra rb js (k + i))) H.size (by omega)) (va_cwS 1 hts (goodIn_app (g_3 (List.mem_cons_of_mem _ (List.mem_append_left _ (List.mem_of_getElem? (i := 14) rfl))) (List.mem_cons_of_mem _ (List.mem_append_left _ (List.mem_of_getElem? (i := 15) rfl))) (List.mem_cons_of_mem _ (List.mem_append_left _ (List.mem_of_getElem? (i := 16) rfl))) (by decide +kernel)) (goodIn_sub (fun _ h => List.mem_cons_of_mem _ (List.mem_append_right _ (List.mem_append_right _ (List.mem_append_right _ (List.mem_append_left _ h))))) good_v_fJ6_bc)) rfl rfl rfl (by decide +kernel) ⟨Nat.le_of_ble_eq_true rfl, Nat.le_of_ble_eq_true rfl⟩) (ps_RO (wc := []) hK hP [] rfl) rfl rfl hl.1 rfl (lv_room (Nat.le_of_ble_eq_true rfl)) dX3_find_123 ⟨Nat.le_of_ble_eq_true rfl, Nat.le_of_ble_eq_true rfl⟩) hS hA hP (fun r18 u19 H locs hw20 hP hS => ?_)
              subst hw20
              refine lv_topi (nm_r (e' := nI (sc ra rb (pt ra rb js (k + i)))) (congrArg nI (by unfold sc; omega)) ?_)
              refine lv_iadd hx hb dX3_find_126 ?_
              refine lv_topi (nm_r (e' := (nI ((sm (fun t => sc ra rb (pt ra rb js (k + t))) i) + (sc ra rb (pt ra rb js (k + i)))))) (nI_add (sm (fun t => sc ra rb (pt ra rb js (k + t))) i) (sc ra rb (pt ra rb js (k + i)))) ?_)
              refine va_put (D := g) (ci := 3) (v := .int (nI ((sm (fun t => sc ra rb (pt ra rb js (k + t))) i) + (sc ra rb (pt ra rb js (k + i)))))) (ty := .int) (C := RX3) (T := TX3) (N := 7) hx hb hts iX3 tyX3 tyX3_ok nmX3 hown hK hP hD hS 0 rfl rfl 2 (by decide) (hts (.fieldLink RX3 41 "CardsAtYule$Fate" "cards" "I") (List.mem_cons_of_mem _ (List.mem_append_left _ (List.mem_of_getElem? (i := 9) rfl)))) (fun _ h9 => h9) rfl (by decide +kernel) rfl rfl (Nat.le_of_ble_eq_true rfl) dX3_find_127 (fun H locs hP hD hS => ?_)
              have hP : va_P g vwCl [(fa, .inr (3, [.int (nI j2), .int (nI (k - j2)), .int (nI ((sm (fun t => sc ra rb (pt ra rb js (k + t))) i) + (sc ra rb (pt ra rb js (k + i))))), .int (nI (pt ra rb js k)), .int (nI ra), .int (nI rb), .ref fy])), (fy, .inl (cI, 16, .inl f))] H := hP
              have hD : va_D A [(fa, .inr (3, [.int (nI j2), .int (nI (k - j2)), .int (nI ((sm (fun t => sc ra rb (pt ra rb js (k + t))) i) + (sc ra rb (pt ra rb js (k + i))))), .int (nI (pt ra rb js k)), .int (nI ra), .int (nI rb), .ref fy])), (fy, .inl (cI, 16, .inl f))] := hD
              refine lv_aload_n hx hb dX3_find_130 rfl (lv_at hl 0 rfl) ?_
              refine lv_iload hx hb dX3_find_131 (lv_at hl 1 rfl) ?_
              refine lv_iconst (v := 3) hx hb dX3_find_133 (by decide) ?_
              refine ro_i (va_runV (As := [.int (nI (pt ra rb js (k + i))), .int 3]) (rest := []) ⟨hx, hb, hml, hown, hts⟩ (k_fX3_next l g cI cJ cB cZ cL fa fy (nI j2) (nI (k - j2)) (nI ((sm (fun t => sc ra rb (pt ra rb js (k + t))) i) + (sc ra rb (pt ra rb js (k + i))))) (nI (pt ra rb js k)) (nI ra) (nI rb) (nI (pt ra rb js (k + i))) 3 H.size ) (cwV 2 hts (goodIn_app (g_4 (List.mem_cons_of_mem _ (List.mem_append_left _ (List.mem_of_getElem? (i := 17) rfl))) (List.mem_cons_of_mem _ (List.mem_append_left _ (List.mem_of_getElem? (i := 18) rfl))) (List.mem_cons_of_mem _ (List.mem_append_left _ (List.mem_of_getElem? (i := 19) rfl))) (List.mem_cons_of_mem _ (List.mem_append_left _ (List.mem_of_getElem? (i := 13) rfl))) (by decide +kernel)) (goodIn_sub (fun _ h => List.mem_cons_of_mem _ (List.mem_append_right _ (List.mem_append_right _ (List.mem_append_right _ (List.mem_append_right _ (List.mem_append_left _ h)))))) good_v_fX3_next)) rfl rfl rfl (by decide +kernel) ⟨Nat.le_of_ble_eq_true rfl, Nat.le_of_ble_eq_true rfl⟩) (pv_RO (q := (RX3, TX3, 7)) (ci := 3) (q0 := 0) (wc := [(fa, .inr (3, [.int (nI j2), .int (nI (k - j2)), .int (nI ((sm (fun t => sc ra rb (pt ra rb js (k + t))) i) + (sc ra rb (pt ra rb js (k + i))))), .int (nI (pt ra rb js k)), .int (nI ra), .int (nI rb), .ref fy]))]) hK hP [0] rfl rfl rfl) rfl rfl hl.1 rfl (lv_room (Nat.le_of_ble_eq_true rfl)) dX3_find_134 ⟨Nat.le_of_ble_eq_true rfl, Nat.le_of_ble_eq_true rfl⟩) hS hA hP (fun r21 u22 H locs hw23 hP hS => ?_)
              subst hw23
              refine lv_topi (nm_r (e' := nI (pt ra rb js (k + i + 1))) (Fnext_n hra hrb (pt_lt hjs _)) ?_)
              refine lv_istore (lv' := [(4, .int (nI (pt ra rb js (k + i + 1)))), (0, .ref fa), (6, .int (nI i))]) hx hb dX3_find_137 hl (by decide) rfl (fun ls hl => ?_)
              refine lv_iinc (v := (nI (i + 1))) (lv' := [(6, .int (nI (i + 1))), (4, .int (nI (pt ra rb js (k + i + 1)))), (0, .ref fa)]) hx hb dX3_find_139 hl (k := 2) rfl (nI_add i 1) (by decide) rfl (fun ls hl => ?_)
              refine lv_goto (tgt := 102) hx hb dX3_find_142 (by decide) ?_
              exact ih11 (i + 1) _ _ _ (by omega) (by omega) (hP.sub [0, 1] rfl) (hD.sub [0, 1] (by decide) rfl) hS (lv_sub hl [2, 1, 0] rfl)
        exact lp12 _ 0 _ _ _ (Nat.lt_succ_self _) (Nat.zero_le _) (hP.sub [0, 1] rfl) (hD.sub [0, 1] (by decide) rfl) hS (lv_sub hl [1, 5, 0] rfl)
      · have f9 := (show (k : Int) < 16 from z_nle rfl (nI_toInt (n := k) (by omega)) c8)
        refine lv_aload_n hx hb dX3_find_31 rfl (lv_at hl 0 rfl) ?_
        refine va_get (D := g) (ci := 3) (v := .ref fy) (C := RX3) (T := TX3) (N := 7) hx hb hts iX3 hown hK hP 0 rfl rfl 6 (by decide) (hts (.fieldLink RX3 9 "CardsAtYule$Fate" "yearOf" "[I") (List.mem_cons_of_mem _ (List.mem_append_left _ (List.mem_of_getElem? (i := 2) rfl)))) (fun _ h9 => h9) rfl dX3_find_32 ?_
        refine lv_iload hx hb dX3_find_35 (lv_at hl 4 rfl) ?_
        refine va_iald (D := g) hx hb hK hP 1 0 rfl rfl (vp_in_nI (n := pt ra rb js k) (by omega) (by decide)) dX3_find_37 ?_
        rcases hcm _ hpt with ⟨j, hj, hpj, hfj⟩ | ⟨hno, hfm⟩
        · refine lv_topi (nm_r (e' := nI j) (by rw [nI_clamp (n := pt ra rb js k) (by omega)]; exact hfj) ?_)
          refine lv_iconst (v := (-1)) hx hb dX3_find_38 (by decide) ?_
          refine lv_icmp_ne (tgt := 66) hx hb dX3_find_39 (by decide) (fun c24 => ?_) (fun c24 => by exfalso; have f25 := (show (j : Int) = (-1) from z_eq (nI_toInt (n := j) (by omega)) rfl c24); omega)
          have f25 := (show (j : Int) ≠ (-1) from z_ne (nI_toInt (n := j) (by omega)) rfl c24)
          refine lv_aload_n hx hb dX3_find_66 rfl (lv_at hl 0 rfl) ?_
          refine lv_iload hx hb dX3_find_67 (lv_at hl 4 rfl) ?_
          refine va_put (D := g) (ci := 3) (v := .int (nI (pt ra rb js k))) (ty := .int) (C := RX3) (T := TX3) (N := 7) hx hb hts iX3 tyX3 tyX3_ok nmX3 hown hK hP hD hS 0 rfl rfl 3 (by decide) (hts (.fieldLink RX3 32 "CardsAtYule$Fate" "round" "I") (List.mem_cons_of_mem _ (List.mem_append_left _ (List.mem_of_getElem? (i := 6) rfl)))) (fun _ h9 => h9) rfl (by decide +kernel) rfl rfl (Nat.le_of_ble_eq_true rfl) dX3_find_69 (fun H locs hP hD hS => ?_)
          have hP : va_P g vwCl [(fa, .inr (3, [.int vb, .int vl, .int vc, .int (nI (pt ra rb js k)), .int (nI ra), .int (nI rb), .ref fy])), (fy, .inl (cI, 16, .inl f))] H := hP
          have hD : va_D A [(fa, .inr (3, [.int vb, .int vl, .int vc, .int (nI (pt ra rb js k)), .int (nI ra), .int (nI rb), .ref fy])), (fy, .inl (cI, 16, .inl f))] := hD
          refine lv_aload_n hx hb dX3_find_72 rfl (lv_at hl 0 rfl) ?_
          refine lv_aload_n hx hb dX3_find_73 rfl (lv_at hl 0 rfl) ?_
          refine va_get (D := g) (ci := 3) (v := .ref fy) (C := RX3) (T := TX3) (N := 7) hx hb hts iX3 hown hK hP 0 rfl rfl 6 (by decide) (hts (.fieldLink RX3 9 "CardsAtYule$Fate" "yearOf" "[I") (List.mem_cons_of_mem _ (List.mem_append_left _ (List.mem_of_getElem? (i := 2) rfl)))) (fun _ h9 => h9) rfl dX3_find_74 ?_
          refine lv_iload hx hb dX3_find_77 (lv_at hl 4 rfl) ?_
          refine va_iald (D := g) hx hb hK hP 1 0 rfl rfl (vp_in_nI (n := pt ra rb js k) (by omega) (by decide)) dX3_find_79 ?_
          obtain ⟨j2, hj2, hpj2, hfj2⟩ : ∃ j2, j2 < k ∧ pt ra rb js j2 = pt ra rb js k ∧ f (pt ra rb js k) = nI j2 := by
            rcases hcm _ hpt with h | ⟨h, -⟩
            · exact h
            · exfalso
              first | exact h _ hj hpj | (have hr9 := DS_room hjs hds h; omega)
          refine lv_topi (nm_r (e' := nI j2) (by rw [nI_clamp (n := pt ra rb js k) (by omega)]; exact hfj2) ?_)
          refine va_put (D := g) (ci := 3) (v := .int (nI j2)) (ty := .int) (C := RX3) (T := TX3) (N := 7) hx hb hts iX3 tyX3 tyX3_ok nmX3 hown hK hP hD hS 0 rfl rfl 0 (by decide) (hts (.fieldLink RX3 35 "CardsAtYule$Fate" "begins" "I") (List.mem_cons_of_mem _ (List.mem_append_left _ (List.mem_of_getElem? (i := 7) rfl)))) (fun _ h9 => h9) rfl (by decide +kernel) rfl rfl (Nat.le_of_ble_eq_true rfl) dX3_find_80 (fun H locs hP hD hS => ?_)
          have hP : va_P g vwCl [(fa, .inr (3, [.int (nI j2), .int vl, .int vc, .int (nI (pt ra rb js k)), .int (nI ra), .int (nI rb), .ref fy])), (fy, .inl (cI, 16, .inl f))] H := hP
          have hD : va_D A [(fa, .inr (3, [.int (nI j2), .int vl, .int vc, .int (nI (pt ra rb js k)), .int (nI ra), .int (nI rb), .ref fy])), (fy, .inl (cI, 16, .inl f))] := hD
          refine lv_aload_n hx hb dX3_find_83 rfl (lv_at hl 0 rfl) ?_
          refine lv_iload hx hb dX3_find_84 (lv_at hl 5 rfl) ?_
          refine lv_aload_n hx hb dX3_find_86 rfl (lv_at hl 0 rfl) ?_
          refine va_get (D := g) (ci := 3) (v := .int (nI j2)) (C := RX3) (T := TX3) (N := 7) hx hb hts iX3 hown hK hP 0 rfl rfl 0 (by decide) (hts (.fieldLink RX3 35 "CardsAtYule$Fate" "begins" "I") (List.mem_cons_of_mem _ (List.mem_append_left _ (List.mem_of_getElem? (i := 7) rfl)))) (fun _ h9 => h9) rfl dX3_find_87 ?_
          refine lv_isub hx hb dX3_find_90 ?_
          refine lv_topi (nm_r (e' := (nI (k - j2))) (pk_sub (a := k) (b := j2) (by omega)) ?_)
          refine va_put (D := g) (ci := 3) (v := .int (nI (k - j2))) (ty := .int) (C := RX3) (T := TX3) (N := 7) hx hb hts iX3 tyX3 tyX3_ok nmX3 hown hK hP hD hS 0 rfl rfl 1 (by decide) (hts (.fieldLink RX3 38 "CardsAtYule$Fate" "length" "I") (List.mem_cons_of_mem _ (List.mem_append_left _ (List.mem_of_getElem? (i := 8) rfl)))) (fun _ h9 => h9) rfl (by decide +kernel) rfl rfl (Nat.le_of_ble_eq_true rfl) dX3_find_91 (fun H locs hP hD hS => ?_)
          have hP : va_P g vwCl [(fa, .inr (3, [.int (nI j2), .int (nI (k - j2)), .int vc, .int (nI (pt ra rb js k)), .int (nI ra), .int (nI rb), .ref fy])), (fy, .inl (cI, 16, .inl f))] H := hP
          have hD : va_D A [(fa, .inr (3, [.int (nI j2), .int (nI (k - j2)), .int vc, .int (nI (pt ra rb js k)), .int (nI ra), .int (nI rb), .ref fy])), (fy, .inl (cI, 16, .inl f))] := hD
          refine lv_aload_n hx hb dX3_find_94 rfl (lv_at hl 0 rfl) ?_
          refine lv_iconst (v := 0) hx hb dX3_find_95 (by decide) ?_
          refine va_put (D := g) (ci := 3) (v := .int 0) (ty := .int) (C := RX3) (T := TX3) (N := 7) hx hb hts iX3 tyX3 tyX3_ok nmX3 hown hK hP hD hS 0 rfl rfl 2 (by decide) (hts (.fieldLink RX3 41 "CardsAtYule$Fate" "cards" "I") (List.mem_cons_of_mem _ (List.mem_append_left _ (List.mem_of_getElem? (i := 9) rfl)))) (fun _ h9 => h9) rfl (by decide +kernel) rfl rfl (Nat.le_of_ble_eq_true rfl) dX3_find_96 (fun H locs hP hD hS => ?_)
          have hP : va_P g vwCl [(fa, .inr (3, [.int (nI j2), .int (nI (k - j2)), .int 0, .int (nI (pt ra rb js k)), .int (nI ra), .int (nI rb), .ref fy])), (fy, .inl (cI, 16, .inl f))] H := hP
          have hD : va_D A [(fa, .inr (3, [.int (nI j2), .int (nI (k - j2)), .int 0, .int (nI (pt ra rb js k)), .int (nI ra), .int (nI rb), .ref fy])), (fy, .inl (cI, 16, .inl f))] := hD
          refine lv_iconst (v := 0) hx hb dX3_find_99 (by decide) ?_
          refine lv_istore (lv' := [(6, .int 0), (0, .ref fa), (1, .int (nI ra)), (2, .int (nI rb)), (3, .int (nI js)), (4, .int (nI (pt ra rb js k))), (5, .int (nI k))]) hx hb dX3_find_100 hl (by decide) rfl (fun ls hl => ?_)
          have lp28 : ∀ (n26 : Nat) (i : Nat) (H : Heap) (locs : List Loc) (ls : Array Slot), (k - j2) - i < n26 → (i ≤ k - j2) → va_P g vwCl [(fa, .inr (3, [.int (nI j2), .int (nI (k - j2)), .int (nI (sm (fun t => sc ra rb (pt ra rb js (k + t))) i)), .int (nI (pt ra rb js k)), .int (nI ra), .int (nI rb), .ref fy])), (fy, .inl (cI, 16, .inl f))] H → va_D A [(fa, .inr (3, [.int (nI j2), .int (nI (k - j2)), .int (nI (sm (fun t => sc ra rb (pt ra rb js (k + t))) i)), .int (nI (pt ra rb js k)), .int (nI ra), .int (nI rb), .ref fy])), (fy, .inl (cI, 16, .inl f))] → va_S A s.heap H locs → lv_has ls 7 [(0, .ref fa), (4, .int (nI (pt ra rb js (k + i)))), (6, .int (nI i))] → W p l e (headSpec v_fX3_find ({ frames := 3, cells := 0, slots := 0, locals := 68 })).room s m ([.ref fa, .int (nI ra), .int (nI rb), .int (nI js)] : List Value).toArray below meth c H locs 0 0 (MQ below (va_Qv (fun (u : (Nat → Int32) × Int32 × Int32 × Int32 × Int32) => match u with | (f1, wb, wl, wc, wr) => wb = nI (fJ ra rb js) ∧ wl = nI (fL ra rb js) ∧ wc = nI (fC ra rb js) ∧ ir wr.toInt 0 15) (fun (u : (Nat → Int32) × Int32 × Int32 × Int32 × Int32) (t : State) => bRW g (tyT cI cJ cB cZ cL) A (match u with | (f1, wb, wl, wc, wr) => [(fa, .inr (3, [.int wb, .int wl, .int wc, .int wr, .int (nI ra), .int (nI rb), .ref fy])), (fy, .inl (cI, 16, .inl f1))]) t) A) ([.ref fa, .int (nI ra), .int (nI rb), .int (nI js)] : List Value).toArray s 0 0 A) (F0 m 102 ls []) := by
            intro n26
            induction n26 with
            | zero => exact fun i H locs ls hn => absurd hn (Nat.not_lt_zero _)
            | succ n26 ih27 =>
              intro i H locs ls hn hi hP hD hS hl
              have hsm := sm_le (f := (fun t => sc ra rb (pt ra rb js (k + t)))) (c := 2) (fun q => sc_le _ _ _) i
              refine lv_iload hx hb dX3_find_102 (lv_at hl 2 rfl) ?_
              refine lv_aload_n hx hb dX3_find_104 rfl (lv_at hl 0 rfl) ?_
              refine va_get (D := g) (ci := 3) (v := .int (nI (k - j2))) (C := RX3) (T := TX3) (N := 7) hx hb hts iX3 hown hK hP 0 rfl rfl 1 (by decide) (hts (.fieldLink RX3 38 "CardsAtYule$Fate" "length" "I") (List.mem_cons_of_mem _ (List.mem_append_left _ (List.mem_of_getElem? (i := 8) rfl)))) (fun _ h9 => h9) rfl dX3_find_105 ?_
              refine lv_icmp_ge (tgt := 145) hx hb dX3_find_108 (by decide) (fun c29 => ?_) (fun c29 => ?_)
              · have f30 := (show ((k - j2 : Nat) : Int) ≤ (i : Int) from z_le (nI_toInt (n := k - j2) (by omega)) (nI_toInt (n := i) (by omega)) c29)
                have hP9 := hP.sub (ws' := [(fa, .inr (3, [.int (nI j2), .int (nI (k - j2)), .int (nI (sm (fun t => sc ra rb (pt ra rb js (k + t))) i)), .int (nI (pt ra rb js k)), .int (nI ra), .int (nI rb), .ref fy])), (fy, .inl (cI, 16, .inl f))]) [0, 1] rfl
                have hD9 := hD.sub (ws' := [(fa, .inr (3, [.int (nI j2), .int (nI (k - j2)), .int (nI (sm (fun t => sc ra rb (pt ra rb js (k + t))) i)), .int (nI (pt ra rb js k)), .int (nI ra), .int (nI rb), .ref fy])), (fy, .inl (cI, 16, .inl f))]) [0, 1] (by decide) rfl
                exact W.vret hx hb hr (fun t ht hW => ⟨⟨(f, (nI j2), (nI (k - j2)), (nI (sm (fun t => sc ra rb (pt ra rb js (k + t))) i)), (nI (pt ra rb js k))), rfl, ⟨congrArg nI (fP_eq (⟨hj2, hpj2, hds⟩ : FT ra rb js j2 k)).1.symm, congrArg nI (fL_eq (⟨hj2, hpj2, hds⟩ : FT ra rb js j2 k)).symm, congrArg nI (by rw [fC_eq (⟨hj2, hpj2, hds⟩ : FT ra rb js j2 k), show i = k - j2 from by omega]), by have h9 := pt_lt (a := ra) (b := rb) hjs k; exact ⟨by rw [nI_toInt (by omega)]; omega, by rw [nI_toInt (by omega)]; omega⟩⟩, by rw [ht]; exact hP9, va_K.moved hW.alike hK, hD9⟩, hS.F ht⟩) hS.2.2 dX3_find_145
              · have f30 := (show (i : Int) < ((k - j2 : Nat) : Int) from z_nle (nI_toInt (n := k - j2) (by omega)) (nI_toInt (n := i) (by omega)) c29)
                refine lv_aload_n hx hb dX3_find_111 rfl (lv_at hl 0 rfl) ?_
                refine lv_dup hx hb dX3_find_112 rfl ?_
                refine va_get (D := g) (ci := 3) (v := .int (nI (sm (fun t => sc ra rb (pt ra rb js (k + t))) i))) (C := RX3) (T := TX3) (N := 7) hx hb hts iX3 hown hK hP 0 rfl rfl 2 (by decide) (hts (.fieldLink RX3 41 "CardsAtYule$Fate" "cards" "I") (List.mem_cons_of_mem _ (List.mem_append_left _ (List.mem_of_getElem? (i := 9) rfl)))) (fun _ h9 => h9) rfl dX3_find_113 ?_
                refine lv_aload_n hx hb dX3_find_116 rfl (lv_at hl 0 rfl) ?_
                refine lv_iload hx hb dX3_find_117 (lv_at hl 1 rfl) ?_
                refine lv_iconst (v := 3) hx hb dX3_find_119 (by decide) ?_
                refine ro_i (va_runV (As := [.int (nI (pt ra rb js (k + i))), .int 3]) (rest := [.int (nI (sm (fun t => sc ra rb (pt ra rb js (k + t))) i)), .ref fa]) ⟨hx, hb, hml, hown, hts⟩ (k_fX3_sentIn l g cI cJ cB cZ cL fa fy (nI j2) (nI (k - j2)) (nI (sm (fun t => sc ra rb (pt ra rb js (k + t))) i)) (nI (pt ra rb js k)) (nI ra) (nI rb) (nI (pt ra rb js (k + i))) 3 H.size ) (cwV 2 hts (goodIn_app (g_4 (List.mem_cons_of_mem _ (List.mem_append_left _ (List.mem_of_getElem? (i := 10) rfl))) (List.mem_cons_of_mem _ (List.mem_append_left _ (List.mem_of_getElem? (i := 11) rfl))) (List.mem_cons_of_mem _ (List.mem_append_left _ (List.mem_of_getElem? (i := 12) rfl))) (List.mem_cons_of_mem _ (List.mem_append_left _ (List.mem_of_getElem? (i := 13) rfl))) (by decide +kernel)) (goodIn_sub (fun _ h => List.mem_cons_of_mem _ (List.mem_append_right _ (List.mem_append_right _ (List.mem_append_left _ h)))) good_v_fX3_sentIn)) rfl rfl rfl (by decide +kernel) ⟨Nat.le_of_ble_eq_true rfl, Nat.le_of_ble_eq_true rfl⟩) (pv_RO (q := (RX3, TX3, 7)) (ci := 3) (q0 := 0) (wc := [(fa, .inr (3, [.int (nI j2), .int (nI (k - j2)), .int (nI (sm (fun t => sc ra rb (pt ra rb js (k + t))) i)), .int (nI (pt ra rb js k)), .int (nI ra), .int (nI rb), .ref fy]))]) hK hP [0] rfl rfl rfl) rfl rfl hl.1 rfl (lv_room (Nat.le_of_ble_eq_true rfl)) dX3_find_120 ⟨Nat.le_of_ble_eq_true rfl, Nat.le_of_ble_eq_true rfl⟩) hS hA hP (fun r31 u32 H locs hw33 hP hS => ?_)
                subst hw33
                refine lv_topi (nm_r (e' := nI (sA ra rb (pt ra rb js (k + i)) + 2 * zB ra rb (pt ra rb js (k + i)))) (Fsent_n hra hrb (pt_lt hjs _)) ?_)
                have hsa := sA_le ra rb (pt ra rb js (k + i))
                have hsb := zB_le ra rb (pt ra rb js (k + i))
                refine ro_i (va_runS (As := [.int (nI (sA ra rb (pt ra rb js (k + i)) + 2 * zB ra rb (pt ra rb js (k + i))))]) (rest := [.int (nI (sm (fun t => sc ra rb (pt ra rb js (k + t))) i)), .ref fa]) ⟨hx, hb, hml, hown, hts⟩ (k_fJ6_bc l g cI cJ cB cZ cL (sA ra rb (pt ra rb js (k + i)) + 2 * zB ra rb (pt ra rb js (k + i))) H.size (by omega)) (va_cwS 1 hts (goodIn_app (g_3 (List.mem_cons_of_mem _ (List.mem_append_left _ (List.mem_of_getElem? (i := 14) rfl))) (List.mem_cons_of_mem _ (List.mem_append_left _ (List.mem_of_getElem? (i := 15) rfl))) (List.mem_cons_of_mem _ (List.mem_append_left _ (List.mem_of_getElem? (i := 16) rfl))) (by decide +kernel)) (goodIn_sub (fun _ h => List.mem_cons_of_mem _ (List.mem_append_right _ (List.mem_append_right _ (List.mem_append_right _ (List.mem_append_left _ h))))) good_v_fJ6_bc)) rfl rfl rfl (by decide +kernel) ⟨Nat.le_of_ble_eq_true rfl, Nat.le_of_ble_eq_true rfl⟩) (ps_RO (wc := []) hK hP [] rfl) rfl rfl hl.1 rfl (lv_room (Nat.le_of_ble_eq_true rfl)) dX3_find_123 ⟨Nat.le_of_ble_eq_true rfl, Nat.le_of_ble_eq_true rfl⟩) hS hA hP (fun r34 u35 H locs hw36 hP hS => ?_)
                subst hw36
                refine lv_topi (nm_r (e' := nI (sc ra rb (pt ra rb js (k + i)))) (congrArg nI (by unfold sc; omega)) ?_)
                refine lv_iadd hx hb dX3_find_126 ?_
                refine lv_topi (nm_r (e' := (nI ((sm (fun t => sc ra rb (pt ra rb js (k + t))) i) + (sc ra rb (pt ra rb js (k + i)))))) (nI_add (sm (fun t => sc ra rb (pt ra rb js (k + t))) i) (sc ra rb (pt ra rb js (k + i)))) ?_)
                refine va_put (D := g) (ci := 3) (v := .int (nI ((sm (fun t => sc ra rb (pt ra rb js (k + t))) i) + (sc ra rb (pt ra rb js (k + i)))))) (ty := .int) (C := RX3) (T := TX3) (N := 7) hx hb hts iX3 tyX3 tyX3_ok nmX3 hown hK hP hD hS 0 rfl rfl 2 (by decide) (hts (.fieldLink RX3 41 "CardsAtYule$Fate" "cards" "I") (List.mem_cons_of_mem _ (List.mem_append_left _ (List.mem_of_getElem? (i := 9) rfl)))) (fun _ h9 => h9) rfl (by decide +kernel) rfl rfl (Nat.le_of_ble_eq_true rfl) dX3_find_127 (fun H locs hP hD hS => ?_)
                have hP : va_P g vwCl [(fa, .inr (3, [.int (nI j2), .int (nI (k - j2)), .int (nI ((sm (fun t => sc ra rb (pt ra rb js (k + t))) i) + (sc ra rb (pt ra rb js (k + i))))), .int (nI (pt ra rb js k)), .int (nI ra), .int (nI rb), .ref fy])), (fy, .inl (cI, 16, .inl f))] H := hP
                have hD : va_D A [(fa, .inr (3, [.int (nI j2), .int (nI (k - j2)), .int (nI ((sm (fun t => sc ra rb (pt ra rb js (k + t))) i) + (sc ra rb (pt ra rb js (k + i))))), .int (nI (pt ra rb js k)), .int (nI ra), .int (nI rb), .ref fy])), (fy, .inl (cI, 16, .inl f))] := hD
                refine lv_aload_n hx hb dX3_find_130 rfl (lv_at hl 0 rfl) ?_
                refine lv_iload hx hb dX3_find_131 (lv_at hl 1 rfl) ?_
                refine lv_iconst (v := 3) hx hb dX3_find_133 (by decide) ?_
                refine ro_i (va_runV (As := [.int (nI (pt ra rb js (k + i))), .int 3]) (rest := []) ⟨hx, hb, hml, hown, hts⟩ (k_fX3_next l g cI cJ cB cZ cL fa fy (nI j2) (nI (k - j2)) (nI ((sm (fun t => sc ra rb (pt ra rb js (k + t))) i) + (sc ra rb (pt ra rb js (k + i))))) (nI (pt ra rb js k)) (nI ra) (nI rb) (nI (pt ra rb js (k + i))) 3 H.size ) (cwV 2 hts (goodIn_app (g_4 (List.mem_cons_of_mem _ (List.mem_append_left _ (List.mem_of_getElem? (i := 17) rfl))) (List.mem_cons_of_mem _ (List.mem_append_left _ (List.mem_of_getElem? (i := 18) rfl))) (List.mem_cons_of_mem _ (List.mem_append_left _ (List.mem_of_getElem? (i := 19) rfl))) (List.mem_cons_of_mem _ (List.mem_append_left _ (List.mem_of_getElem? (i := 13) rfl))) (by decide +kernel)) (goodIn_sub (fun _ h => List.mem_cons_of_mem _ (List.mem_append_right _ (List.mem_append_right _ (List.mem_append_right _ (List.mem_append_right _ (List.mem_append_left _ h)))))) good_v_fX3_next)) rfl rfl rfl (by decide +kernel) ⟨Nat.le_of_ble_eq_true rfl, Nat.le_of_ble_eq_true rfl⟩) (pv_RO (q := (RX3, TX3, 7)) (ci := 3) (q0 := 0) (wc := [(fa, .inr (3, [.int (nI j2), .int (nI (k - j2)), .int (nI ((sm (fun t => sc ra rb (pt ra rb js (k + t))) i) + (sc ra rb (pt ra rb js (k + i))))), .int (nI (pt ra rb js k)), .int (nI ra), .int (nI rb), .ref fy]))]) hK hP [0] rfl rfl rfl) rfl rfl hl.1 rfl (lv_room (Nat.le_of_ble_eq_true rfl)) dX3_find_134 ⟨Nat.le_of_ble_eq_true rfl, Nat.le_of_ble_eq_true rfl⟩) hS hA hP (fun r37 u38 H locs hw39 hP hS => ?_)
                subst hw39
                refine lv_topi (nm_r (e' := nI (pt ra rb js (k + i + 1))) (Fnext_n hra hrb (pt_lt hjs _)) ?_)
                refine lv_istore (lv' := [(4, .int (nI (pt ra rb js (k + i + 1)))), (0, .ref fa), (6, .int (nI i))]) hx hb dX3_find_137 hl (by decide) rfl (fun ls hl => ?_)
                refine lv_iinc (v := (nI (i + 1))) (lv' := [(6, .int (nI (i + 1))), (4, .int (nI (pt ra rb js (k + i + 1)))), (0, .ref fa)]) hx hb dX3_find_139 hl (k := 2) rfl (nI_add i 1) (by decide) rfl (fun ls hl => ?_)
                refine lv_goto (tgt := 102) hx hb dX3_find_142 (by decide) ?_
                exact ih27 (i + 1) _ _ _ (by omega) (by omega) (hP.sub [0, 1] rfl) (hD.sub [0, 1] (by decide) rfl) hS (lv_sub hl [2, 1, 0] rfl)
          exact lp28 _ 0 _ _ _ (Nat.lt_succ_self _) (Nat.zero_le _) (hP.sub [0, 1] rfl) (hD.sub [0, 1] (by decide) rfl) hS (lv_sub hl [1, 5, 0] rfl)
        · refine lv_topi (nm_r (e' := (-1)) (by rw [nI_clamp (n := pt ra rb js k) (by omega)]; exact hfm) ?_)
          refine lv_iconst (v := (-1)) hx hb dX3_find_38 (by decide) ?_
          refine lv_icmp_ne (tgt := 66) hx hb dX3_find_39 (by decide) (fun c40 => absurd c40 (by decide)) (fun _ => ?_)
          refine lv_aload_n hx hb dX3_find_42 rfl (lv_at hl 0 rfl) ?_
          refine va_get (D := g) (ci := 3) (v := .ref fy) (C := RX3) (T := TX3) (N := 7) hx hb hts iX3 hown hK hP 0 rfl rfl 6 (by decide) (hts (.fieldLink RX3 9 "CardsAtYule$Fate" "yearOf" "[I") (List.mem_cons_of_mem _ (List.mem_append_left _ (List.mem_of_getElem? (i := 2) rfl)))) (fun _ h9 => h9) rfl dX3_find_43 ?_
          refine lv_iload hx hb dX3_find_46 (lv_at hl 4 rfl) ?_
          refine lv_iload hx hb dX3_find_48 (lv_at hl 5 rfl) ?_
          refine va_iast (D := g) hx hb hK hP hD hS 1 0 rfl rfl (vp_in_nI (n := pt ra rb js k) (by omega) (by decide)) dX3_find_50 (fun H locs hP hD hS => ?_)
          rw [nI_clamp (n := pt ra rb js k) (by omega)] at hP hD
          have hP : va_P g vwCl [(fa, .inr (3, [.int vb, .int vl, .int vc, .int vr, .int (nI ra), .int (nI rb), .ref fy])), (fy, .inl (cI, 16, .inl (upd f (pt ra rb js k) (nI k))))] H := hP
          have hD : va_D A [(fa, .inr (3, [.int vb, .int vl, .int vc, .int vr, .int (nI ra), .int (nI rb), .ref fy])), (fy, .inl (cI, 16, .inl (upd f (pt ra rb js k) (nI k))))] := hD
          refine lv_iinc (v := (nI (k + 1))) (lv' := [(5, .int (nI (k + 1))), (0, .ref fa), (1, .int (nI ra)), (2, .int (nI rb)), (3, .int (nI js)), (4, .int (nI (pt ra rb js k)))]) hx hb dX3_find_51 hl (k := 5) rfl (nI_add k 1) (by decide) rfl (fun ls hl => ?_)
          refine lv_aload_n hx hb dX3_find_54 rfl (lv_at hl 1 rfl) ?_
          refine lv_iload hx hb dX3_find_55 (lv_at hl 5 rfl) ?_
          refine lv_iconst (v := 3) hx hb dX3_find_57 (by decide) ?_
          refine ro_i (va_runV (As := [.int (nI (pt ra rb js k)), .int 3]) (rest := []) ⟨hx, hb, hml, hown, hts⟩ (k_fX3_next l g cI cJ cB cZ cL fa fy vb vl vc vr (nI ra) (nI rb) (nI (pt ra rb js k)) 3 H.size ) (cwV 2 hts (goodIn_app (g_4 (List.mem_cons_of_mem _ (List.mem_append_left _ (List.mem_of_getElem? (i := 17) rfl))) (List.mem_cons_of_mem _ (List.mem_append_left _ (List.mem_of_getElem? (i := 18) rfl))) (List.mem_cons_of_mem _ (List.mem_append_left _ (List.mem_of_getElem? (i := 19) rfl))) (List.mem_cons_of_mem _ (List.mem_append_left _ (List.mem_of_getElem? (i := 13) rfl))) (by decide +kernel)) (goodIn_sub (fun _ h => List.mem_cons_of_mem _ (List.mem_append_right _ (List.mem_append_right _ (List.mem_append_right _ (List.mem_append_right _ (List.mem_append_left _ h)))))) good_v_fX3_next)) rfl rfl rfl (by decide +kernel) ⟨Nat.le_of_ble_eq_true rfl, Nat.le_of_ble_eq_true rfl⟩) (pv_RO (q := (RX3, TX3, 7)) (ci := 3) (q0 := 0) (wc := [(fa, .inr (3, [.int vb, .int vl, .int vc, .int vr, .int (nI ra), .int (nI rb), .ref fy]))]) hK hP [0] rfl rfl rfl) rfl rfl hl.1 rfl (lv_room (Nat.le_of_ble_eq_true rfl)) dX3_find_58 ⟨Nat.le_of_ble_eq_true rfl, Nat.le_of_ble_eq_true rfl⟩) hS hA hP (fun r41 u42 H locs hw43 hP hS => ?_)
          subst hw43
          refine lv_topi (nm_r (e' := nI (pt ra rb js (k + 1))) (Fnext_n hra hrb (pt_lt hjs _)) ?_)
          refine lv_istore (lv' := [(4, .int (nI (pt ra rb js (k + 1)))), (5, .int (nI (k + 1))), (0, .ref fa), (1, .int (nI ra)), (2, .int (nI rb)), (3, .int (nI js))]) hx hb dX3_find_61 hl (by decide) rfl (fun ls hl => ?_)
          refine lv_goto (tgt := 24) hx hb dX3_find_63 (by decide) ?_
          exact ih6 (k + 1) (upd f (pt ra rb js k) (nI k)) _ _ _ (by omega) (by omega) (DS_s hds hno) (CM_s hcm hno (fun t => rfl)) (hP.sub [0, 1] rfl) (hD.sub [0, 1] (by decide) rfl) hS (lv_sub hl [2, 3, 4, 5, 0, 1] rfl)
  exact lp7 _ 0 u_f14 _ _ _ (Nat.lt_succ_self _) (Nat.zero_le _) DS_0 (CM_0 hw3) (hP.sub [0, 1] rfl) (hD.sub [0, 1] (by decide) rfl) hS (lv_sub hl [2, 3, 4, 5, 1, 0] rfl)
def v_fX3_kind : List Cond := .code yX3_kind cX3_kind 1 (some .int) :: (([.fieldLink RX3 41 "CardsAtYule$Fate" "cards" "I", .fieldLink RX3 38 "CardsAtYule$Fate" "length" "I"] : List Cond) ++ (wsX30 ++ ([] : List Cond)))
theorem good_v_fX3_kind : v_fX3_kind.all goodWord = true := ga_c (by decide +kernel) (ga_a (by decide +kernel) (ga_a good_wsX30 rfl))
set_option maxHeartbeats 4000000 in
set_option maxRecDepth 100000 in
theorem k_fX3_kind (l : Launch) (g : va_G) (cI cJ cB cZ cL : ClassId) (fa : Nat) (fy : Nat) (nb : Nat) (nl : Nat) (nc : Nat) (vr : Int32) (v0 : Int32) (v1 : Int32) (sz : Nat) (hnl : nl ≤ 16) (hnc : nc ≤ 32) : Met l yX3_kind v_fX3_kind ({ frames := 0, cells := 0, slots := 0, locals := 0 }) (va_Pc [.ref fa] (pRO g (tyT cI cJ cB cZ cL) [(fa, .inr (3, [.int (nI nb), .int (nI nl), .int (nI nc), .int vr, .int v0, .int v1, .ref fy]))] sz)) (va_Qi (fun (r : Int32) (u : Unit) => r = nI (kd nc nl)) (fun (_ : Unit) (_ : State) => True) (va_A [] sz)) 0 0 (va_A [] sz) := by
  refine Met.ofW (cc := cX3_kind) (maxL := 1) (ret := (some .int)) (by decide) rfl ?_
  intro p e s m args below meth c s₁ B hml hv
  obtain ⟨rfl, hsz, hP, hK⟩ := hv
  have hx := B.exec
  have hb := B.bytes
  have hr := B.returns
  have hts := atoms_spec (ws := v_fX3_kind) B.pre
  have hown : s.vm.findClass RX3 = some m.cls := findClass_of_methodNamed B.named
  have hlocks := B.notSynchronized
  subst hsz
  have iX3 : ∀ w ∈ wsX30, w ∈ v_fX3_kind := (fun _ h => List.mem_cons_of_mem _ (List.mem_append_right _ (List.mem_append_left _ h)))
  generalize hAe : (va_A [] s.heap.size) = A
  have hA : ∀ q : Nat, s.heap.size ≤ q → A q := fun q h => by rw [← hAe]; exact Or.inr h
  have hS : va_S A s.heap s.heap [] := va_S.rf
  have hl := lv_entry ([.ref fa]) (n := 1) (Nat.le_of_ble_eq_true rfl)
  rw [lg_entry_eq]
  generalize (lg_sl ([.ref fa]) ++ List.replicate (1 - (lg_sl ([.ref fa])).length) Slot.unset).toArray = ls at hl ⊢
  have hl : lv_has ls 1 [(0, .ref fa)] := hl
  have hP : va_P g vwCl [(fa, .inr (3, [.int (nI nb), .int (nI nl), .int (nI nc), .int vr, .int v0, .int v1, .ref fy]))] s.heap := hP
  refine lv_aload_n hx hb dX3_kind_0 rfl (lv_at hl 0 rfl) ?_
  refine va_get (D := g) (ci := 3) (v := .int (nI nc)) (C := RX3) (T := TX3) (N := 7) hx hb hts iX3 hown hK hP 0 rfl rfl 2 (by decide) (hts (.fieldLink RX3 41 "CardsAtYule$Fate" "cards" "I") (List.mem_cons_of_mem _ (List.mem_append_left _ (List.mem_of_getElem? (i := 0) rfl)))) (fun _ h9 => h9) rfl dX3_kind_1 ?_
  refine lv_if_ne (tgt := 9) hx hb dX3_kind_4 (by decide) (fun c1 => ?_) (fun c1 => ?_)
  · have f2 := (show (nc : Int) ≠ 0 from z_ne (nI_toInt (n := nc) (by omega)) rfl c1)
    refine lv_aload_n hx hb dX3_kind_9 rfl (lv_at hl 0 rfl) ?_
    refine va_get (D := g) (ci := 3) (v := .int (nI nc)) (C := RX3) (T := TX3) (N := 7) hx hb hts iX3 hown hK hP 0 rfl rfl 2 (by decide) (hts (.fieldLink RX3 41 "CardsAtYule$Fate" "cards" "I") (List.mem_cons_of_mem _ (List.mem_append_left _ (List.mem_of_getElem? (i := 0) rfl)))) (fun _ h9 => h9) rfl dX3_kind_10 ?_
    refine lv_iconst (v := 2) hx hb dX3_kind_13 (by decide) ?_
    refine lv_aload_n hx hb dX3_kind_14 rfl (lv_at hl 0 rfl) ?_
    refine va_get (D := g) (ci := 3) (v := .int (nI nl)) (C := RX3) (T := TX3) (N := 7) hx hb hts iX3 hown hK hP 0 rfl rfl 1 (by decide) (hts (.fieldLink RX3 38 "CardsAtYule$Fate" "length" "I") (List.mem_cons_of_mem _ (List.mem_append_left _ (List.mem_of_getElem? (i := 1) rfl)))) (fun _ h9 => h9) rfl dX3_kind_15 ?_
    refine lv_imul hx hb dX3_kind_18 ?_
    refine lv_topi (nm_r (e' := (nI (2 * nl))) (pk_mul 2 nl) ?_)
    refine lv_icmp_ne (tgt := 26) hx hb dX3_kind_19 (by decide) (fun c3 => ?_) (fun c3 => ?_)
    · have f4 := (show (nc : Int) ≠ ((2 * nl : Nat) : Int) from z_ne (nI_toInt (n := nc) (by omega)) (nI_toInt (n := 2 * nl) (by omega)) c3)
      refine lv_iconst (v := 2) hx hb dX3_kind_26 (by decide) ?_
      exact W.iret (v := 2) hx hb hr (fun t ht hW => ⟨⟨2, (), rfl, (kd_2 (by omega) (by omega)), trivial⟩, hS.F ht⟩) hS.2.2 dX3_kind_27
    · have f4 := (show (nc : Int) = ((2 * nl : Nat) : Int) from z_eq (nI_toInt (n := nc) (by omega)) (nI_toInt (n := 2 * nl) (by omega)) c3)
      refine lv_iconst (v := 1) hx hb dX3_kind_22 (by decide) ?_
      refine lv_goto (tgt := 27) hx hb dX3_kind_23 (by decide) ?_
      exact W.iret (v := 1) hx hb hr (fun t ht hW => ⟨⟨1, (), rfl, (kd_1 (by omega) (by omega)), trivial⟩, hS.F ht⟩) hS.2.2 dX3_kind_27
  · have f2 := (show (nc : Int) = 0 from z_eq (nI_toInt (n := nc) (by omega)) rfl c1)
    refine lv_iconst (v := 0) hx hb dX3_kind_7 (by decide) ?_
    exact W.iret (v := 0) hx hb hr (fun t ht hW => ⟨⟨0, (), rfl, (kd_0 (by omega)), trivial⟩, hS.F ht⟩) hS.2.2 dX3_kind_8
def v_fX3_tell : List Cond := .code yX3_tell cX3_tell 2 (some .int) :: (([.methodLink RX3 53 yX3_kind, .instanceMethod yX3_kind, .selects RX3 yX3_kind yX3_kind, .initialized RX3, .fieldLink RX3 35 "CardsAtYule$Fate" "begins" "I", .fieldLink RX3 38 "CardsAtYule$Fate" "length" "I", .fieldLink RX3 41 "CardsAtYule$Fate" "cards" "I"] : List Cond) ++ (v_fX3_kind ++ (wsX30 ++ ([] : List Cond))))
theorem good_v_fX3_tell : v_fX3_tell.all goodWord = true := ga_c (by decide +kernel) (ga_a (by decide +kernel) (ga_a good_v_fX3_kind (ga_a good_wsX30 rfl)))
set_option maxHeartbeats 4000000 in
set_option maxRecDepth 100000 in
theorem k_fX3_tell (l : Launch) (g : va_G) (cI cJ cB cZ cL : ClassId) (fa : Nat) (fy : Nat) (nb : Nat) (nl : Nat) (nc : Nat) (vr : Int32) (v0 : Int32) (v1 : Int32) (p0 : Int32) (ip0 : Int) (sz : Nat) (hzp0 : p0.toInt = ip0) (hnl : nl ≤ 16) (hnc : nc ≤ 32) : Met l yX3_tell v_fX3_tell ({ frames := 1, cells := 0, slots := 0, locals := 20 }) (va_Pc [.ref fa, .int p0] (pRO g (tyT cI cJ cB cZ cL) [(fa, .inr (3, [.int (nI nb), .int (nI nl), .int (nI nc), .int vr, .int v0, .int v1, .ref fy]))] sz)) (va_Qi (fun (r : Int32) (u : Unit) => r = tellV nb nl nc ip0) (fun (_ : Unit) (_ : State) => True) (va_A [] sz)) 0 0 (va_A [] sz) := by
  refine Met.ofW (cc := cX3_tell) (maxL := 2) (ret := (some .int)) (by decide) rfl ?_
  intro p e s m args below meth c s₁ B hml hv
  obtain ⟨rfl, hsz, hP, hK⟩ := hv
  have hx := B.exec
  have hb := B.bytes
  have hr := B.returns
  have hts := atoms_spec (ws := v_fX3_tell) B.pre
  have hown : s.vm.findClass RX3 = some m.cls := findClass_of_methodNamed B.named
  have hlocks := B.notSynchronized
  subst hsz
  have iX3 : ∀ w ∈ wsX30, w ∈ v_fX3_tell := (fun _ h => List.mem_cons_of_mem _ (List.mem_append_right _ (List.mem_append_right _ (List.mem_append_left _ h))))
  generalize hAe : (va_A [] s.heap.size) = A
  have hA : ∀ q : Nat, s.heap.size ≤ q → A q := fun q h => by rw [← hAe]; exact Or.inr h
  have hS : va_S A s.heap s.heap [] := va_S.rf
  have hl := lv_entry ([.ref fa, .int p0]) (n := 2) (Nat.le_of_ble_eq_true rfl)
  rw [lg_entry_eq]
  generalize (lg_sl ([.ref fa, .int p0]) ++ List.replicate (2 - (lg_sl ([.ref fa, .int p0])).length) Slot.unset).toArray = ls at hl ⊢
  have hl : lv_has ls 2 [(0, .ref fa), (1, .int p0)] := hl
  have hP : va_P g vwCl [(fa, .inr (3, [.int (nI nb), .int (nI nl), .int (nI nc), .int vr, .int v0, .int v1, .ref fy]))] s.heap := hP
  refine lv_iload_n hx hb dX3_tell_0 rfl (lv_at hl 1 rfl) ?_
  have hz1 : (p0.toInt < 0 ∨ 2 < p0.toInt) ∨ p0 = 0 ∨ p0 = 1 ∨ p0 = 2 := tsw_0_2 p0
  rcases hz1 with hz1 | rfl | rfl | rfl
  · refine lv_tableOut (tgt := 43) hx hb dX3_tell_1 hz1 (by decide) ?_
    refine lv_aload_n hx hb dX3_tell_43 rfl (lv_at hl 0 rfl) ?_
    refine ro_i (va_runV (As := []) (rest := []) ⟨hx, hb, hml, hown, hts⟩ (k_fX3_kind l g cI cJ cB cZ cL fa fy nb nl nc vr v0 v1 s.heap.size (by omega) (by omega)) (cwV 0 hts (goodIn_app (g_4 (List.mem_cons_of_mem _ (List.mem_append_left _ (List.mem_of_getElem? (i := 0) rfl))) (List.mem_cons_of_mem _ (List.mem_append_left _ (List.mem_of_getElem? (i := 1) rfl))) (List.mem_cons_of_mem _ (List.mem_append_left _ (List.mem_of_getElem? (i := 2) rfl))) (List.mem_cons_of_mem _ (List.mem_append_left _ (List.mem_of_getElem? (i := 3) rfl))) (by decide +kernel)) (goodIn_sub (fun _ h => List.mem_cons_of_mem _ (List.mem_append_right _ (List.mem_append_left _ h))) good_v_fX3_kind)) rfl rfl rfl (by decide +kernel) ⟨Nat.le_of_ble_eq_true rfl, Nat.le_of_ble_eq_true rfl⟩) (pv_RO (q := (RX3, TX3, 7)) (ci := 3) (q0 := 0) (wc := [(fa, .inr (3, [.int (nI nb), .int (nI nl), .int (nI nc), .int vr, .int v0, .int v1, .ref fy]))]) hK hP [0] rfl rfl rfl) rfl rfl hl.1 rfl (lv_room (Nat.le_of_ble_eq_true rfl)) dX3_tell_44 ⟨Nat.le_of_ble_eq_true rfl, Nat.le_of_ble_eq_true rfl⟩) hS hA hP (fun r2 u3 H locs hw4 hP hS => ?_)
    subst hw4
    exact W.iret (v := (nI (kd nc nl))) hx hb hr (fun t ht hW => ⟨⟨(nI (kd nc nl)), (), rfl, (by unfold tellV; rw [if_neg (by rw [← hzp0]; omega), if_neg (by rw [← hzp0]; omega), if_neg (by rw [← hzp0]; omega)]), trivial⟩, hS.F ht⟩) hS.2.2 dX3_tell_47
  · have f5 : ip0 = 0 := hzp0.symm
    refine lv_tableIn (off := 27) (tgt := 28) hx hb dX3_tell_1 (by decide) (by decide) (by decide) (by decide) ?_
    refine lv_aload_n hx hb dX3_tell_28 rfl (lv_at hl 0 rfl) ?_
    refine va_get (D := g) (ci := 3) (v := .int (nI nb)) (C := RX3) (T := TX3) (N := 7) hx hb hts iX3 hown hK hP 0 rfl rfl 0 (by decide) (hts (.fieldLink RX3 35 "CardsAtYule$Fate" "begins" "I") (List.mem_cons_of_mem _ (List.mem_append_left _ (List.mem_of_getElem? (i := 4) rfl)))) (fun _ h9 => h9) rfl dX3_tell_29 ?_
    exact W.iret (v := (nI nb)) hx hb hr (fun t ht hW => ⟨⟨(nI nb), (), rfl, (by unfold tellV; rw [if_pos (by omega)]), trivial⟩, hS.F ht⟩) hS.2.2 dX3_tell_32
  · have f6 : ip0 = 1 := hzp0.symm
    refine lv_tableIn (off := 32) (tgt := 33) hx hb dX3_tell_1 (by decide) (by decide) (by decide) (by decide) ?_
    refine lv_aload_n hx hb dX3_tell_33 rfl (lv_at hl 0 rfl) ?_
    refine va_get (D := g) (ci := 3) (v := .int (nI nl)) (C := RX3) (T := TX3) (N := 7) hx hb hts iX3 hown hK hP 0 rfl rfl 1 (by decide) (hts (.fieldLink RX3 38 "CardsAtYule$Fate" "length" "I") (List.mem_cons_of_mem _ (List.mem_append_left _ (List.mem_of_getElem? (i := 5) rfl)))) (fun _ h9 => h9) rfl dX3_tell_34 ?_
    exact W.iret (v := (nI nl)) hx hb hr (fun t ht hW => ⟨⟨(nI nl), (), rfl, (by unfold tellV; rw [if_neg (by omega), if_pos (by omega)]), trivial⟩, hS.F ht⟩) hS.2.2 dX3_tell_37
  · have f7 : ip0 = 2 := hzp0.symm
    refine lv_tableIn (off := 37) (tgt := 38) hx hb dX3_tell_1 (by decide) (by decide) (by decide) (by decide) ?_
    refine lv_aload_n hx hb dX3_tell_38 rfl (lv_at hl 0 rfl) ?_
    refine va_get (D := g) (ci := 3) (v := .int (nI nc)) (C := RX3) (T := TX3) (N := 7) hx hb hts iX3 hown hK hP 0 rfl rfl 2 (by decide) (hts (.fieldLink RX3 41 "CardsAtYule$Fate" "cards" "I") (List.mem_cons_of_mem _ (List.mem_append_left _ (List.mem_of_getElem? (i := 6) rfl)))) (fun _ h9 => h9) rfl dX3_tell_39 ?_
    exact W.iret (v := (nI nc)) hx hb hr (fun t ht hW => ⟨⟨(nI nc), (), rfl, (by unfold tellV; rw [if_neg (by omega), if_neg (by omega), if_pos (by omega)]), trivial⟩, hS.F ht⟩) hS.2.2 dX3_tell_42
def v_fX11_areRules : List Cond := .code yX11_areRules cX11_areRules 2 (some .boolean) :: (([.methodLink RX11 148 yX11_isBelow, .static yX11_isBelow, .initialized RX11] : List Cond) ++ (v_fX11_isBelow ++ ([] : List Cond)))
theorem good_v_fX11_areRules : v_fX11_areRules.all goodWord = true := ga_c (by decide +kernel) (ga_a (by decide +kernel) (ga_a good_v_fX11_isBelow rfl))
set_option maxHeartbeats 4000000 in
set_option maxRecDepth 100000 in
theorem k_fX11_areRules (l : Launch) (g : va_G) (cI cJ cB cZ cL : ClassId) (p0 : Int32) (p1 : Int32) (ip0 : Int) (ip1 : Int) (sz : Nat) (hzp0 : p0.toInt = ip0) (hzp1 : p1.toInt = ip1) : Met l yX11_areRules v_fX11_areRules ({ frames := 1, cells := 0, slots := 0, locals := 21 }) (va_Pc [.int p0, .int p1] (pRO g (tyT cI cJ cB cZ cL) [] sz)) (va_Qi (fun (r : Int32) (u : Unit) => (r = 1 ∧ (0 ≤ ip0 ∧ ip0 < 32) ∧ (0 ≤ ip1 ∧ ip1 < 32)) ∨ (r = 0 ∧ ¬ ((0 ≤ ip0 ∧ ip0 < 32) ∧ (0 ≤ ip1 ∧ ip1 < 32)))) (fun (_ : Unit) (_ : State) => True) (va_A [] sz)) 0 0 (va_A [] sz) := by
  refine Met.ofW (cc := cX11_areRules) (maxL := 2) (ret := (some .boolean)) (by decide) rfl ?_
  intro p e s m args below meth c s₁ B hml hv
  obtain ⟨rfl, hsz, hP, hK⟩ := hv
  have hx := B.exec
  have hb := B.bytes
  have hr := B.returns
  have hts := atoms_spec (ws := v_fX11_areRules) B.pre
  have hown : s.vm.findClass RX11 = some m.cls := findClass_of_methodNamed B.named
  have hlocks := B.notSynchronized
  subst hsz
  generalize hAe : (va_A [] s.heap.size) = A
  have hA : ∀ q : Nat, s.heap.size ≤ q → A q := fun q h => by rw [← hAe]; exact Or.inr h
  have hS : va_S A s.heap s.heap [] := va_S.rf
  have hl := lv_entry ([.int p0, .int p1]) (n := 2) (Nat.le_of_ble_eq_true rfl)
  rw [lg_entry_eq]
  generalize (lg_sl ([.int p0, .int p1]) ++ List.replicate (2 - (lg_sl ([.int p0, .int p1])).length) Slot.unset).toArray = ls at hl ⊢
  have hl : lv_has ls 2 [(0, .int p0), (1, .int p1)] := hl
  have hP : va_P g vwCl [] s.heap := hP
  refine lv_iload_n hx hb dX11_areRules_0 rfl (lv_at hl 0 rfl) ?_
  refine lv_bipush (v := 32) hx hb dX11_areRules_1 (by decide) ?_
  refine ro_i (va_runS (As := [.int p0, .int 32]) (rest := []) ⟨hx, hb, hml, hown, hts⟩ (k_fX11_isBelow l g cI cJ cB cZ cL p0 32 ip0 32 s.heap.size hzp0 rfl) (va_cwS 2 hts (goodIn_app (g_3 (List.mem_cons_of_mem _ (List.mem_append_left _ (List.mem_of_getElem? (i := 0) rfl))) (List.mem_cons_of_mem _ (List.mem_append_left _ (List.mem_of_getElem? (i := 1) rfl))) (List.mem_cons_of_mem _ (List.mem_append_left _ (List.mem_of_getElem? (i := 2) rfl))) (by decide +kernel)) (goodIn_sub (fun _ h => List.mem_cons_of_mem _ (List.mem_append_right _ (List.mem_append_left _ h))) good_v_fX11_isBelow)) rfl rfl rfl (by decide +kernel) ⟨Nat.le_of_ble_eq_true rfl, Nat.le_of_ble_eq_true rfl⟩) (ps_RO (wc := []) hK hP [] rfl) rfl rfl hl.1 rfl (lv_room (Nat.le_of_ble_eq_true rfl)) dX11_areRules_3 ⟨Nat.le_of_ble_eq_true rfl, Nat.le_of_ble_eq_true rfl⟩) hS hA hP (fun r1 u2 H locs hw3 hP hS => ?_)
  rcases hw3 with ⟨rfl, hw3_0, hw3_1⟩ | ⟨rfl, hw3_0⟩
  · refine lv_if_eq (tgt := 22) hx hb dX11_areRules_6 (by decide) (fun c4 => absurd c4 (by decide)) (fun _ => ?_)
    refine lv_iload_n hx hb dX11_areRules_9 rfl (lv_at hl 1 rfl) ?_
    refine lv_bipush (v := 32) hx hb dX11_areRules_10 (by decide) ?_
    refine ro_i (va_runS (As := [.int p1, .int 32]) (rest := []) ⟨hx, hb, hml, hown, hts⟩ (k_fX11_isBelow l g cI cJ cB cZ cL p1 32 ip1 32 H.size hzp1 rfl) (va_cwS 2 hts (goodIn_app (g_3 (List.mem_cons_of_mem _ (List.mem_append_left _ (List.mem_of_getElem? (i := 0) rfl))) (List.mem_cons_of_mem _ (List.mem_append_left _ (List.mem_of_getElem? (i := 1) rfl))) (List.mem_cons_of_mem _ (List.mem_append_left _ (List.mem_of_getElem? (i := 2) rfl))) (by decide +kernel)) (goodIn_sub (fun _ h => List.mem_cons_of_mem _ (List.mem_append_right _ (List.mem_append_left _ h))) good_v_fX11_isBelow)) rfl rfl rfl (by decide +kernel) ⟨Nat.le_of_ble_eq_true rfl, Nat.le_of_ble_eq_true rfl⟩) (ps_RO (wc := []) hK hP [] rfl) rfl rfl hl.1 rfl (lv_room (Nat.le_of_ble_eq_true rfl)) dX11_areRules_12 ⟨Nat.le_of_ble_eq_true rfl, Nat.le_of_ble_eq_true rfl⟩) hS hA hP (fun r5 u6 H locs hw7 hP hS => ?_)
    rcases hw7 with ⟨rfl, hw7_0, hw7_1⟩ | ⟨rfl, hw7_0⟩
    · refine lv_if_eq (tgt := 22) hx hb dX11_areRules_15 (by decide) (fun c8 => absurd c8 (by decide)) (fun _ => ?_)
      refine lv_iconst (v := 1) hx hb dX11_areRules_18 (by decide) ?_
      refine lv_goto (tgt := 23) hx hb dX11_areRules_19 (by decide) ?_
      exact W.zret (v := 1) hx hb hr rfl (fun t ht hW => ⟨⟨1, (), rfl, Or.inl ⟨rfl, by omega, by omega⟩, trivial⟩, hS.F ht⟩) hS.2.2 dX11_areRules_23
    · refine lv_if_eq (tgt := 22) hx hb dX11_areRules_15 (by decide) (fun _ => ?_) (fun c9 => absurd c9 (by decide))
      refine lv_iconst (v := 0) hx hb dX11_areRules_22 (by decide) ?_
      exact W.zret (v := 0) hx hb hr rfl (fun t ht hW => ⟨⟨0, (), rfl, Or.inr ⟨rfl, by omega⟩, trivial⟩, hS.F ht⟩) hS.2.2 dX11_areRules_23
  · refine lv_if_eq (tgt := 22) hx hb dX11_areRules_6 (by decide) (fun _ => ?_) (fun c10 => absurd c10 (by decide))
    refine lv_iconst (v := 0) hx hb dX11_areRules_22 (by decide) ?_
    exact W.zret (v := 0) hx hb hr rfl (fun t ht hW => ⟨⟨0, (), rfl, Or.inr ⟨rfl, by omega⟩, trivial⟩, hS.F ht⟩) hS.2.2 dX11_areRules_23
def v_fX11_fate : List Cond := .code yX11_fate cX11_fate 5 (some .int) :: (([.methodLink RX11 232 yX11_areRules, .static yX11_areRules, .initialized RX11, .methodLink RX11 148 yX11_isBelow, .static yX11_isBelow, .fieldLink RX11 44 "CardsAtYule" "fates" "LCardsAtYule$Fate;", .methodLink RX11 235 yX3_find, .instanceMethod yX3_find, .selects RX3 yX3_find yX3_find, .initialized RX3, .methodLink RX11 239 yX3_tell, .instanceMethod yX3_tell, .selects RX3 yX3_tell yX3_tell] : List Cond) ++ (v_fX11_areRules ++ (v_fX11_isBelow ++ (v_fX3_find ++ (v_fX3_tell ++ (wsX110 ++ ([] : List Cond)))))))
theorem good_v_fX11_fate : v_fX11_fate.all goodWord = true := ga_c (by decide +kernel) (ga_a (by decide +kernel) (ga_a good_v_fX11_areRules (ga_a good_v_fX11_isBelow (ga_a good_v_fX3_find (ga_a good_v_fX3_tell (ga_a good_wsX110 rfl))))))
set_option maxHeartbeats 4000000 in
set_option maxRecDepth 100000 in
theorem k_fX11_fate (l : Launch) (g : va_G) (cI cJ cB cZ cL : ClassId) (x : Nat) (x_tape : Nat) (x_land : Nat) (x_images : Nat) (x_book : Nat) (x_course : Nat) (x_fates : Nat) (x_chances : Nat) (x_will : Nat) (x_slots : Nat) (x_seen : Nat) (x_drawn : Nat) (x_fates_yearOf : Nat) (vb : Int32) (vl : Int32) (vc : Int32) (vr : Int32) (v0 : Int32) (v1 : Int32) (f0 : Nat → Int32) (p0 : Int32) (p1 : Int32) (p2 : Int32) (p3 : Int32) (ip0 : Int) (ip1 : Int) (ip2 : Int) (ip3 : Int) (sz : Nat) (hzp0 : p0.toInt = ip0) (hzp1 : p1.toInt = ip1) (hzp2 : p2.toInt = ip2) (hzp3 : p3.toInt = ip3) (hvr : ir vr.toInt 0 15) : Met l yX11_fate v_fX11_fate ({ frames := 4, cells := 0, slots := 0, locals := 94 }) (va_Pc [.ref x, .int p0, .int p1, .int p2, .int p3] (pRW g (tyT cI cJ cB cZ cL) [(x, .inr (10, [.ref x_tape, .ref x_land, .ref x_images, .ref x_book, .ref x_course, .ref x_fates, .ref x_chances, .ref x_will, .ref x_slots, .ref x_seen, .ref x_drawn])), (x_fates, .inr (3, [.int vb, .int vl, .int vc, .int vr, .int v0, .int v1, .ref x_fates_yearOf])), (x_fates_yearOf, .inl (cI, 16, .inl f0))] sz)) (va_Qi (fun (r : Int32) (u : (Nat → Int32) × Int32 × Int32 × Int32 × Int32 × Int32 × Int32) => match u with | (f1, wb, wl, wc, wr, w0, w1) => ((r = (-2) ∧ ¬ ((0 ≤ ip0 ∧ ip0 < 32) ∧ (0 ≤ ip1 ∧ ip1 < 32) ∧ (0 ≤ ip2 ∧ ip2 < 16) ∧ (0 ≤ ip3 ∧ ip3 < 4))) ∨ (((0 ≤ ip0 ∧ ip0 < 32) ∧ (0 ≤ ip1 ∧ ip1 < 32) ∧ (0 ≤ ip2 ∧ ip2 < 16) ∧ (0 ≤ ip3 ∧ ip3 < 4)) ∧ r = tellV (fJ ip0.toNat ip1.toNat ip2.toNat) (fL ip0.toNat ip1.toNat ip2.toNat) (fC ip0.toNat ip1.toNat ip2.toNat) ip3)) ∧ ir wr.toInt 0 15) (fun (u : (Nat → Int32) × Int32 × Int32 × Int32 × Int32 × Int32 × Int32) (t : State) => bRW g (tyT cI cJ cB cZ cL) (va_A [(x, .inr (10, [.ref x_tape, .ref x_land, .ref x_images, .ref x_book, .ref x_course, .ref x_fates, .ref x_chances, .ref x_will, .ref x_slots, .ref x_seen, .ref x_drawn])), (x_fates, .inr (3, [.int vb, .int vl, .int vc, .int vr, .int v0, .int v1, .ref x_fates_yearOf])), (x_fates_yearOf, .inl (cI, 16, .inl f0))] sz) (match u with | (f1, wb, wl, wc, wr, w0, w1) => [(x, .inr (10, [.ref x_tape, .ref x_land, .ref x_images, .ref x_book, .ref x_course, .ref x_fates, .ref x_chances, .ref x_will, .ref x_slots, .ref x_seen, .ref x_drawn])), (x_fates, .inr (3, [.int wb, .int wl, .int wc, .int wr, .int w0, .int w1, .ref x_fates_yearOf])), (x_fates_yearOf, .inl (cI, 16, .inl f1))]) t) (va_A [(x, .inr (10, [.ref x_tape, .ref x_land, .ref x_images, .ref x_book, .ref x_course, .ref x_fates, .ref x_chances, .ref x_will, .ref x_slots, .ref x_seen, .ref x_drawn])), (x_fates, .inr (3, [.int vb, .int vl, .int vc, .int vr, .int v0, .int v1, .ref x_fates_yearOf])), (x_fates_yearOf, .inl (cI, 16, .inl f0))] sz)) 0 0 (va_A [(x, .inr (10, [.ref x_tape, .ref x_land, .ref x_images, .ref x_book, .ref x_course, .ref x_fates, .ref x_chances, .ref x_will, .ref x_slots, .ref x_seen, .ref x_drawn])), (x_fates, .inr (3, [.int vb, .int vl, .int vc, .int vr, .int v0, .int v1, .ref x_fates_yearOf])), (x_fates_yearOf, .inl (cI, 16, .inl f0))] sz) := by
  refine Met.ofW (cc := cX11_fate) (maxL := 5) (ret := (some .int)) (by decide) rfl ?_
  intro p e s m args below meth c s₁ B hml hv
  obtain ⟨rfl, hsz, hP, hK, hD0⟩ := hv
  have hx := B.exec
  have hb := B.bytes
  have hr := B.returns
  have hts := atoms_spec (ws := v_fX11_fate) B.pre
  have hown : s.vm.findClass RX11 = some m.cls := findClass_of_methodNamed B.named
  have hlocks := B.notSynchronized
  subst hsz
  have iX11 : ∀ w ∈ wsX110, w ∈ v_fX11_fate := (fun _ h => List.mem_cons_of_mem _ (List.mem_append_right _ (List.mem_append_right _ (List.mem_append_right _ (List.mem_append_right _ (List.mem_append_right _ (List.mem_append_left _ h)))))))
  have hD := hD0.self (sz := s.heap.size)
  generalize hAe : (va_A [(x, .inr (10, [.ref x_tape, .ref x_land, .ref x_images, .ref x_book, .ref x_course, .ref x_fates, .ref x_chances, .ref x_will, .ref x_slots, .ref x_seen, .ref x_drawn])), (x_fates, .inr (3, [.int vb, .int vl, .int vc, .int vr, .int v0, .int v1, .ref x_fates_yearOf])), (x_fates_yearOf, .inl (cI, 16, .inl f0))] s.heap.size) = A at hD ⊢
  have hA : ∀ q : Nat, s.heap.size ≤ q → A q := fun q h => by rw [← hAe]; exact Or.inr h
  have hS : va_S A s.heap s.heap [] := va_S.rf
  have hl := lv_entry ([.ref x, .int p0, .int p1, .int p2, .int p3]) (n := 5) (Nat.le_of_ble_eq_true rfl)
  rw [lg_entry_eq]
  generalize (lg_sl ([.ref x, .int p0, .int p1, .int p2, .int p3]) ++ List.replicate (5 - (lg_sl ([.ref x, .int p0, .int p1, .int p2, .int p3])).length) Slot.unset).toArray = ls at hl ⊢
  have hl : lv_has ls 5 [(0, .ref x), (1, .int p0), (2, .int p1), (3, .int p2), (4, .int p3)] := hl
  have hP : va_P g vwCl [(x, .inr (10, [.ref x_tape, .ref x_land, .ref x_images, .ref x_book, .ref x_course, .ref x_fates, .ref x_chances, .ref x_will, .ref x_slots, .ref x_seen, .ref x_drawn])), (x_fates, .inr (3, [.int vb, .int vl, .int vc, .int vr, .int v0, .int v1, .ref x_fates_yearOf])), (x_fates_yearOf, .inl (cI, 16, .inl f0))] s.heap := hP
  refine lv_iload_n hx hb dX11_fate_0 rfl (lv_at hl 1 rfl) ?_
  refine lv_iload_n hx hb dX11_fate_1 rfl (lv_at hl 2 rfl) ?_
  refine ro_i (va_runS (As := [.int p0, .int p1]) (rest := []) ⟨hx, hb, hml, hown, hts⟩ (k_fX11_areRules l g cI cJ cB cZ cL p0 p1 ip0 ip1 s.heap.size hzp0 hzp1) (va_cwS 2 hts (goodIn_app (g_3 (List.mem_cons_of_mem _ (List.mem_append_left _ (List.mem_of_getElem? (i := 0) rfl))) (List.mem_cons_of_mem _ (List.mem_append_left _ (List.mem_of_getElem? (i := 1) rfl))) (List.mem_cons_of_mem _ (List.mem_append_left _ (List.mem_of_getElem? (i := 2) rfl))) (by decide +kernel)) (goodIn_sub (fun _ h => List.mem_cons_of_mem _ (List.mem_append_right _ (List.mem_append_left _ h))) good_v_fX11_areRules)) rfl rfl rfl (by decide +kernel) ⟨Nat.le_of_ble_eq_true rfl, Nat.le_of_ble_eq_true rfl⟩) (ps_RO (wc := []) hK hP [] rfl) rfl rfl hl.1 rfl (lv_room (Nat.le_of_ble_eq_true rfl)) dX11_fate_2 ⟨Nat.le_of_ble_eq_true rfl, Nat.le_of_ble_eq_true rfl⟩) hS hA hP (fun r1 u2 H locs hw3 hP hS => ?_)
  rcases hw3 with ⟨rfl, hw3_0, hw3_1⟩ | ⟨rfl, hw3_0⟩
  · refine lv_if_eq (tgt := 26) hx hb dX11_fate_5 (by decide) (fun c4 => absurd c4 (by decide)) (fun _ => ?_)
    refine lv_iload_n hx hb dX11_fate_8 rfl (lv_at hl 3 rfl) ?_
    refine lv_bipush (v := 16) hx hb dX11_fate_9 (by decide) ?_
    refine ro_i (va_runS (As := [.int p2, .int 16]) (rest := []) ⟨hx, hb, hml, hown, hts⟩ (k_fX11_isBelow l g cI cJ cB cZ cL p2 16 ip2 16 H.size hzp2 rfl) (va_cwS 2 hts (goodIn_app (g_3 (List.mem_cons_of_mem _ (List.mem_append_left _ (List.mem_of_getElem? (i := 3) rfl))) (List.mem_cons_of_mem _ (List.mem_append_left _ (List.mem_of_getElem? (i := 4) rfl))) (List.mem_cons_of_mem _ (List.mem_append_left _ (List.mem_of_getElem? (i := 2) rfl))) (by decide +kernel)) (goodIn_sub (fun _ h => List.mem_cons_of_mem _ (List.mem_append_right _ (List.mem_append_right _ (List.mem_append_left _ h)))) good_v_fX11_isBelow)) rfl rfl rfl (by decide +kernel) ⟨Nat.le_of_ble_eq_true rfl, Nat.le_of_ble_eq_true rfl⟩) (ps_RO (wc := []) hK hP [] rfl) rfl rfl hl.1 rfl (lv_room (Nat.le_of_ble_eq_true rfl)) dX11_fate_11 ⟨Nat.le_of_ble_eq_true rfl, Nat.le_of_ble_eq_true rfl⟩) hS hA hP (fun r5 u6 H locs hw7 hP hS => ?_)
    rcases hw7 with ⟨rfl, hw7_0, hw7_1⟩ | ⟨rfl, hw7_0⟩
    · refine lv_if_eq (tgt := 26) hx hb dX11_fate_14 (by decide) (fun c8 => absurd c8 (by decide)) (fun _ => ?_)
      refine lv_iload hx hb dX11_fate_17 (lv_at hl 4 rfl) ?_
      refine lv_iconst (v := 4) hx hb dX11_fate_19 (by decide) ?_
      refine ro_i (va_runS (As := [.int p3, .int 4]) (rest := []) ⟨hx, hb, hml, hown, hts⟩ (k_fX11_isBelow l g cI cJ cB cZ cL p3 4 ip3 4 H.size hzp3 rfl) (va_cwS 2 hts (goodIn_app (g_3 (List.mem_cons_of_mem _ (List.mem_append_left _ (List.mem_of_getElem? (i := 3) rfl))) (List.mem_cons_of_mem _ (List.mem_append_left _ (List.mem_of_getElem? (i := 4) rfl))) (List.mem_cons_of_mem _ (List.mem_append_left _ (List.mem_of_getElem? (i := 2) rfl))) (by decide +kernel)) (goodIn_sub (fun _ h => List.mem_cons_of_mem _ (List.mem_append_right _ (List.mem_append_right _ (List.mem_append_left _ h)))) good_v_fX11_isBelow)) rfl rfl rfl (by decide +kernel) ⟨Nat.le_of_ble_eq_true rfl, Nat.le_of_ble_eq_true rfl⟩) (ps_RO (wc := []) hK hP [] rfl) rfl rfl hl.1 rfl (lv_room (Nat.le_of_ble_eq_true rfl)) dX11_fate_20 ⟨Nat.le_of_ble_eq_true rfl, Nat.le_of_ble_eq_true rfl⟩) hS hA hP (fun r9 u10 H locs hw11 hP hS => ?_)
      rcases hw11 with ⟨rfl, hw11_0, hw11_1⟩ | ⟨rfl, hw11_0⟩
      · refine lv_if_ne (tgt := 29) hx hb dX11_fate_23 (by decide) (fun _ => ?_) (fun c12 => absurd c12 (by decide))
        obtain ⟨ra, hra, rfl⟩ : ∃ ra : Nat, ra < 32 ∧ p0 = nI ra := natz hzp0 (by omega) (by omega) (by decide)
        have hIra : (ra : Int) = ip0 := by rw [← hzp0]; exact (nI_toInt (by omega)).symm
        obtain ⟨rb, hrb, rfl⟩ : ∃ rb : Nat, rb < 32 ∧ p1 = nI rb := natz hzp1 (by omega) (by omega) (by decide)
        have hIrb : (rb : Int) = ip1 := by rw [← hzp1]; exact (nI_toInt (by omega)).symm
        obtain ⟨js, hjs, rfl⟩ : ∃ js : Nat, js < 16 ∧ p2 = nI js := natz hzp2 (by omega) (by omega) (by decide)
        have hIjs : (js : Int) = ip2 := by rw [← hzp2]; exact (nI_toInt (by omega)).symm
        refine lv_aload_n hx hb dX11_fate_29 rfl (lv_at hl 0 rfl) ?_
        refine va_get (D := g) (ci := 10) (v := .ref x_fates) (C := RX11) (T := TX11) (N := 11) hx hb hts iX11 hown hK hP 0 rfl rfl 5 (by decide) (hts (.fieldLink RX11 44 "CardsAtYule" "fates" "LCardsAtYule$Fate;") (List.mem_cons_of_mem _ (List.mem_append_left _ (List.mem_of_getElem? (i := 5) rfl)))) (fun _ h9 => h9) rfl dX11_fate_30 ?_
        refine lv_iload_n hx hb dX11_fate_33 rfl (lv_at hl 1 rfl) ?_
        refine lv_iload_n hx hb dX11_fate_34 rfl (lv_at hl 2 rfl) ?_
        refine lv_iload_n hx hb dX11_fate_35 rfl (lv_at hl 3 rfl) ?_
        refine rw_v (wr := [(x, .inr (10, [.ref x_tape, .ref x_land, .ref x_images, .ref x_book, .ref x_course, .ref x_fates, .ref x_chances, .ref x_will, .ref x_slots, .ref x_seen, .ref x_drawn]))]) (va_runV (As := [.int (nI ra), .int (nI rb), .int (nI js)]) (rest := []) ⟨hx, hb, hml, hown, hts⟩ (k_fX3_find l g cI cJ cB cZ cL x_fates x_fates_yearOf vb vl vc vr v0 v1 f0 ra rb js H.size (by omega) (by omega) (by omega)) (cwV 3 hts (goodIn_app (g_4 (List.mem_cons_of_mem _ (List.mem_append_left _ (List.mem_of_getElem? (i := 6) rfl))) (List.mem_cons_of_mem _ (List.mem_append_left _ (List.mem_of_getElem? (i := 7) rfl))) (List.mem_cons_of_mem _ (List.mem_append_left _ (List.mem_of_getElem? (i := 8) rfl))) (List.mem_cons_of_mem _ (List.mem_append_left _ (List.mem_of_getElem? (i := 9) rfl))) (by decide +kernel)) (goodIn_sub (fun _ h => List.mem_cons_of_mem _ (List.mem_append_right _ (List.mem_append_right _ (List.mem_append_right _ (List.mem_append_left _ h))))) good_v_fX3_find)) rfl rfl rfl (by decide +kernel) ⟨Nat.le_of_ble_eq_true rfl, Nat.le_of_ble_eq_true rfl⟩) (pv_RW (q := (RX3, TX3, 7)) (ci := 3) (q0 := 0) (wc := [(x_fates, .inr (3, [.int vb, .int vl, .int vc, .int vr, .int v0, .int v1, .ref x_fates_yearOf])), (x_fates_yearOf, .inl (cI, 16, .inl f0))]) hK hP hD [1, 2] (by decide) rfl rfl rfl) rfl rfl hl.1 rfl (lv_room (Nat.le_of_ble_eq_true rfl)) dX11_fate_36 ⟨Nat.le_of_ble_eq_true rfl, Nat.le_of_ble_eq_true rfl⟩) hS hA hP hD [1, 2] [0] rfl rfl (by decide) (by decide) (fun u14 H locs hw15 hP hD hS => ?_)
        obtain ⟨u_f116, u_wb17, u_wl18, u_wc19, u_wr20⟩ := u14
        try dsimp only at hw15
        have hP : va_P g vwCl [(x, .inr (10, [.ref x_tape, .ref x_land, .ref x_images, .ref x_book, .ref x_course, .ref x_fates, .ref x_chances, .ref x_will, .ref x_slots, .ref x_seen, .ref x_drawn])), (x_fates, .inr (3, [.int u_wb17, .int u_wl18, .int u_wc19, .int u_wr20, .int (nI ra), .int (nI rb), .ref x_fates_yearOf])), (x_fates_yearOf, .inl (cI, 16, .inl u_f116))] H := hP
        have hD : va_D A [(x, .inr (10, [.ref x_tape, .ref x_land, .ref x_images, .ref x_book, .ref x_course, .ref x_fates, .ref x_chances, .ref x_will, .ref x_slots, .ref x_seen, .ref x_drawn])), (x_fates, .inr (3, [.int u_wb17, .int u_wl18, .int u_wc19, .int u_wr20, .int (nI ra), .int (nI rb), .ref x_fates_yearOf])), (x_fates_yearOf, .inl (cI, 16, .inl u_f116))] := hD
        obtain ⟨rfl, rfl, rfl, hq21⟩ := hw15
        have hP : va_P g vwCl [(x, .inr (10, [.ref x_tape, .ref x_land, .ref x_images, .ref x_book, .ref x_course, .ref x_fates, .ref x_chances, .ref x_will, .ref x_slots, .ref x_seen, .ref x_drawn])), (x_fates, .inr (3, [.int (nI (fJ ra rb js)), .int (nI (fL ra rb js)), .int (nI (fC ra rb js)), .int u_wr20, .int (nI ra), .int (nI rb), .ref x_fates_yearOf])), (x_fates_yearOf, .inl (cI, 16, .inl u_f116))] H := hP
        have hD : va_D A [(x, .inr (10, [.ref x_tape, .ref x_land, .ref x_images, .ref x_book, .ref x_course, .ref x_fates, .ref x_chances, .ref x_will, .ref x_slots, .ref x_seen, .ref x_drawn])), (x_fates, .inr (3, [.int (nI (fJ ra rb js)), .int (nI (fL ra rb js)), .int (nI (fC ra rb js)), .int u_wr20, .int (nI ra), .int (nI rb), .ref x_fates_yearOf])), (x_fates_yearOf, .inl (cI, 16, .inl u_f116))] := hD
        have hb22 := fL_le (a := ra) (b := rb) (s := js) (by omega)
        have hb22c := fC_le (a := ra) (b := rb) (s := js) (by omega)
        have hb22j := fJ_le (a := ra) (b := rb) (s := js) (by omega)
        refine lv_aload_n hx hb dX11_fate_39 rfl (lv_at hl 0 rfl) ?_
        refine va_get (D := g) (ci := 10) (v := .ref x_fates) (C := RX11) (T := TX11) (N := 11) hx hb hts iX11 hown hK hP 0 rfl rfl 5 (by decide) (hts (.fieldLink RX11 44 "CardsAtYule" "fates" "LCardsAtYule$Fate;") (List.mem_cons_of_mem _ (List.mem_append_left _ (List.mem_of_getElem? (i := 5) rfl)))) (fun _ h9 => h9) rfl dX11_fate_40 ?_
        refine lv_iload hx hb dX11_fate_43 (lv_at hl 4 rfl) ?_
        refine ro_i (va_runV (As := [.int p3]) (rest := []) ⟨hx, hb, hml, hown, hts⟩ (k_fX3_tell l g cI cJ cB cZ cL x_fates x_fates_yearOf (fJ ra rb js) (fL ra rb js) (fC ra rb js) u_wr20 (nI ra) (nI rb) p3 ip3 H.size hzp3 (by omega) (by omega)) (cwV 1 hts (goodIn_app (g_4 (List.mem_cons_of_mem _ (List.mem_append_left _ (List.mem_of_getElem? (i := 10) rfl))) (List.mem_cons_of_mem _ (List.mem_append_left _ (List.mem_of_getElem? (i := 11) rfl))) (List.mem_cons_of_mem _ (List.mem_append_left _ (List.mem_of_getElem? (i := 12) rfl))) (List.mem_cons_of_mem _ (List.mem_append_left _ (List.mem_of_getElem? (i := 9) rfl))) (by decide +kernel)) (goodIn_sub (fun _ h => List.mem_cons_of_mem _ (List.mem_append_right _ (List.mem_append_right _ (List.mem_append_right _ (List.mem_append_right _ (List.mem_append_left _ h)))))) good_v_fX3_tell)) rfl rfl rfl (by decide +kernel) ⟨Nat.le_of_ble_eq_true rfl, Nat.le_of_ble_eq_true rfl⟩) (pv_RO (q := (RX3, TX3, 7)) (ci := 3) (q0 := 0) (wc := [(x_fates, .inr (3, [.int (nI (fJ ra rb js)), .int (nI (fL ra rb js)), .int (nI (fC ra rb js)), .int u_wr20, .int (nI ra), .int (nI rb), .ref x_fates_yearOf]))]) hK hP [1] rfl rfl rfl) rfl rfl hl.1 rfl (lv_room (Nat.le_of_ble_eq_true rfl)) dX11_fate_45 ⟨Nat.le_of_ble_eq_true rfl, Nat.le_of_ble_eq_true rfl⟩) hS hA hP (fun r23 u24 H locs hw25 hP hS => ?_)
        subst hw25
        have hP9 := hP.sub (ws' := [(x, .inr (10, [.ref x_tape, .ref x_land, .ref x_images, .ref x_book, .ref x_course, .ref x_fates, .ref x_chances, .ref x_will, .ref x_slots, .ref x_seen, .ref x_drawn])), (x_fates, .inr (3, [.int (nI (fJ ra rb js)), .int (nI (fL ra rb js)), .int (nI (fC ra rb js)), .int u_wr20, .int (nI ra), .int (nI rb), .ref x_fates_yearOf])), (x_fates_yearOf, .inl (cI, 16, .inl u_f116))]) [0, 1, 2] rfl
        have hD9 := hD.sub (ws' := [(x, .inr (10, [.ref x_tape, .ref x_land, .ref x_images, .ref x_book, .ref x_course, .ref x_fates, .ref x_chances, .ref x_will, .ref x_slots, .ref x_seen, .ref x_drawn])), (x_fates, .inr (3, [.int (nI (fJ ra rb js)), .int (nI (fL ra rb js)), .int (nI (fC ra rb js)), .int u_wr20, .int (nI ra), .int (nI rb), .ref x_fates_yearOf])), (x_fates_yearOf, .inl (cI, 16, .inl u_f116))]) [0, 1, 2] (by decide) rfl
        exact W.iret (v := (tellV (fJ ra rb js) (fL ra rb js) (fC ra rb js) ip3)) hx hb hr (fun t ht hW => ⟨⟨(tellV (fJ ra rb js) (fL ra rb js) (fC ra rb js) ip3), (u_f116, (nI (fJ ra rb js)), (nI (fL ra rb js)), (nI (fC ra rb js)), u_wr20, (nI ra), (nI rb)), rfl, ⟨Or.inr ⟨⟨by omega, by omega, by omega, by omega⟩, by rw [show ip0.toNat = ra from by omega]; rw [show ip1.toNat = rb from by omega]; rw [show ip2.toNat = js from by omega]⟩, hq21⟩, by rw [ht]; exact hP9, va_K.moved hW.alike hK, hD9⟩, hS.F ht⟩) hS.2.2 dX11_fate_48
      · refine lv_if_ne (tgt := 29) hx hb dX11_fate_23 (by decide) (fun c26 => absurd c26 (by decide)) (fun _ => ?_)
        refine lv_bipush (v := (-2)) hx hb dX11_fate_26 (by decide) ?_
        have hP9 := hP.sub (ws' := [(x, .inr (10, [.ref x_tape, .ref x_land, .ref x_images, .ref x_book, .ref x_course, .ref x_fates, .ref x_chances, .ref x_will, .ref x_slots, .ref x_seen, .ref x_drawn])), (x_fates, .inr (3, [.int vb, .int vl, .int vc, .int vr, .int v0, .int v1, .ref x_fates_yearOf])), (x_fates_yearOf, .inl (cI, 16, .inl f0))]) [0, 1, 2] rfl
        have hD9 := hD.sub (ws' := [(x, .inr (10, [.ref x_tape, .ref x_land, .ref x_images, .ref x_book, .ref x_course, .ref x_fates, .ref x_chances, .ref x_will, .ref x_slots, .ref x_seen, .ref x_drawn])), (x_fates, .inr (3, [.int vb, .int vl, .int vc, .int vr, .int v0, .int v1, .ref x_fates_yearOf])), (x_fates_yearOf, .inl (cI, 16, .inl f0))]) [0, 1, 2] (by decide) rfl
        exact W.iret (v := (-2)) hx hb hr (fun t ht hW => ⟨⟨(-2), (f0, vb, vl, vc, vr, v0, v1), rfl, ⟨Or.inl ⟨rfl, by omega⟩, hvr⟩, by rw [ht]; exact hP9, va_K.moved hW.alike hK, hD9⟩, hS.F ht⟩) hS.2.2 dX11_fate_28
    · refine lv_if_eq (tgt := 26) hx hb dX11_fate_14 (by decide) (fun _ => ?_) (fun c27 => absurd c27 (by decide))
      refine lv_bipush (v := (-2)) hx hb dX11_fate_26 (by decide) ?_
      have hP9 := hP.sub (ws' := [(x, .inr (10, [.ref x_tape, .ref x_land, .ref x_images, .ref x_book, .ref x_course, .ref x_fates, .ref x_chances, .ref x_will, .ref x_slots, .ref x_seen, .ref x_drawn])), (x_fates, .inr (3, [.int vb, .int vl, .int vc, .int vr, .int v0, .int v1, .ref x_fates_yearOf])), (x_fates_yearOf, .inl (cI, 16, .inl f0))]) [0, 1, 2] rfl
      have hD9 := hD.sub (ws' := [(x, .inr (10, [.ref x_tape, .ref x_land, .ref x_images, .ref x_book, .ref x_course, .ref x_fates, .ref x_chances, .ref x_will, .ref x_slots, .ref x_seen, .ref x_drawn])), (x_fates, .inr (3, [.int vb, .int vl, .int vc, .int vr, .int v0, .int v1, .ref x_fates_yearOf])), (x_fates_yearOf, .inl (cI, 16, .inl f0))]) [0, 1, 2] (by decide) rfl
      exact W.iret (v := (-2)) hx hb hr (fun t ht hW => ⟨⟨(-2), (f0, vb, vl, vc, vr, v0, v1), rfl, ⟨Or.inl ⟨rfl, by omega⟩, hvr⟩, by rw [ht]; exact hP9, va_K.moved hW.alike hK, hD9⟩, hS.F ht⟩) hS.2.2 dX11_fate_28
  · refine lv_if_eq (tgt := 26) hx hb dX11_fate_5 (by decide) (fun _ => ?_) (fun c28 => absurd c28 (by decide))
    refine lv_bipush (v := (-2)) hx hb dX11_fate_26 (by decide) ?_
    have hP9 := hP.sub (ws' := [(x, .inr (10, [.ref x_tape, .ref x_land, .ref x_images, .ref x_book, .ref x_course, .ref x_fates, .ref x_chances, .ref x_will, .ref x_slots, .ref x_seen, .ref x_drawn])), (x_fates, .inr (3, [.int vb, .int vl, .int vc, .int vr, .int v0, .int v1, .ref x_fates_yearOf])), (x_fates_yearOf, .inl (cI, 16, .inl f0))]) [0, 1, 2] rfl
    have hD9 := hD.sub (ws' := [(x, .inr (10, [.ref x_tape, .ref x_land, .ref x_images, .ref x_book, .ref x_course, .ref x_fates, .ref x_chances, .ref x_will, .ref x_slots, .ref x_seen, .ref x_drawn])), (x_fates, .inr (3, [.int vb, .int vl, .int vc, .int vr, .int v0, .int v1, .ref x_fates_yearOf])), (x_fates_yearOf, .inl (cI, 16, .inl f0))]) [0, 1, 2] (by decide) rfl
    exact W.iret (v := (-2)) hx hb hr (fun t ht hW => ⟨⟨(-2), (f0, vb, vl, vc, vr, v0, v1), rfl, ⟨Or.inl ⟨rfl, by omega⟩, hvr⟩, by rw [ht]; exact hP9, va_K.moved hW.alike hK, hD9⟩, hS.F ht⟩) hS.2.2 dX11_fate_28
def v_fX11_basin : List Cond := .code yX11_basin cX11_basin 6 (some .int) :: (([.methodLink RX11 232 yX11_areRules, .static yX11_areRules, .initialized RX11, .methodLink RX11 148 yX11_isBelow, .static yX11_isBelow, .fieldLink RX11 44 "CardsAtYule" "fates" "LCardsAtYule$Fate;", .methodLink RX11 235 yX3_find, .instanceMethod yX3_find, .selects RX3 yX3_find yX3_find, .initialized RX3, .methodLink RX11 246 yX3_kind, .instanceMethod yX3_kind, .selects RX3 yX3_kind yX3_kind] : List Cond) ++ (v_fX11_areRules ++ (v_fX11_isBelow ++ (v_fX3_find ++ (v_fX3_kind ++ (wsX110 ++ ([] : List Cond)))))))
theorem good_v_fX11_basin : v_fX11_basin.all goodWord = true := ga_c (by decide +kernel) (ga_a (by decide +kernel) (ga_a good_v_fX11_areRules (ga_a good_v_fX11_isBelow (ga_a good_v_fX3_find (ga_a good_v_fX3_kind (ga_a good_wsX110 rfl))))))
set_option maxHeartbeats 4000000 in
set_option maxRecDepth 100000 in
theorem k_fX11_basin (l : Launch) (g : va_G) (cI cJ cB cZ cL : ClassId) (x : Nat) (x_tape : Nat) (x_land : Nat) (x_images : Nat) (x_book : Nat) (x_course : Nat) (x_fates : Nat) (x_chances : Nat) (x_will : Nat) (x_slots : Nat) (x_seen : Nat) (x_drawn : Nat) (x_fates_yearOf : Nat) (vb : Int32) (vl : Int32) (vc : Int32) (vr : Int32) (v0 : Int32) (v1 : Int32) (f0 : Nat → Int32) (p0 : Int32) (p1 : Int32) (p2 : Int32) (ip0 : Int) (ip1 : Int) (ip2 : Int) (sz : Nat) (hzp0 : p0.toInt = ip0) (hzp1 : p1.toInt = ip1) (hzp2 : p2.toInt = ip2) (hvr : ir vr.toInt 0 15) : Met l yX11_basin v_fX11_basin ({ frames := 4, cells := 0, slots := 0, locals := 94 }) (va_Pc [.ref x, .int p0, .int p1, .int p2] (pRW g (tyT cI cJ cB cZ cL) [(x, .inr (10, [.ref x_tape, .ref x_land, .ref x_images, .ref x_book, .ref x_course, .ref x_fates, .ref x_chances, .ref x_will, .ref x_slots, .ref x_seen, .ref x_drawn])), (x_fates, .inr (3, [.int vb, .int vl, .int vc, .int vr, .int v0, .int v1, .ref x_fates_yearOf])), (x_fates_yearOf, .inl (cI, 16, .inl f0))] sz)) (va_Qi (fun (r : Int32) (u : (Nat → Int32) × Int32 × Int32 × Int32 × Int32 × Int32 × Int32) => match u with | (f1, wb, wl, wc, wr, w0, w1) => ((r = (-2) ∧ ¬ ((0 ≤ ip0 ∧ ip0 < 32) ∧ (0 ≤ ip1 ∧ ip1 < 32) ∧ (0 ≤ ip2 ∧ ip2 < 3))) ∨ (((0 ≤ ip0 ∧ ip0 < 32) ∧ (0 ≤ ip1 ∧ ip1 < 32) ∧ (0 ≤ ip2 ∧ ip2 < 3)) ∧ r = nI (cP (fun t => ((fK ip0.toNat ip1.toNat t : Nat) : Int) = ip2) 16))) ∧ ir wr.toInt 0 15) (fun (u : (Nat → Int32) × Int32 × Int32 × Int32 × Int32 × Int32 × Int32) (t : State) => bRW g (tyT cI cJ cB cZ cL) (va_A [(x, .inr (10, [.ref x_tape, .ref x_land, .ref x_images, .ref x_book, .ref x_course, .ref x_fates, .ref x_chances, .ref x_will, .ref x_slots, .ref x_seen, .ref x_drawn])), (x_fates, .inr (3, [.int vb, .int vl, .int vc, .int vr, .int v0, .int v1, .ref x_fates_yearOf])), (x_fates_yearOf, .inl (cI, 16, .inl f0))] sz) (match u with | (f1, wb, wl, wc, wr, w0, w1) => [(x, .inr (10, [.ref x_tape, .ref x_land, .ref x_images, .ref x_book, .ref x_course, .ref x_fates, .ref x_chances, .ref x_will, .ref x_slots, .ref x_seen, .ref x_drawn])), (x_fates, .inr (3, [.int wb, .int wl, .int wc, .int wr, .int w0, .int w1, .ref x_fates_yearOf])), (x_fates_yearOf, .inl (cI, 16, .inl f1))]) t) (va_A [(x, .inr (10, [.ref x_tape, .ref x_land, .ref x_images, .ref x_book, .ref x_course, .ref x_fates, .ref x_chances, .ref x_will, .ref x_slots, .ref x_seen, .ref x_drawn])), (x_fates, .inr (3, [.int vb, .int vl, .int vc, .int vr, .int v0, .int v1, .ref x_fates_yearOf])), (x_fates_yearOf, .inl (cI, 16, .inl f0))] sz)) 0 0 (va_A [(x, .inr (10, [.ref x_tape, .ref x_land, .ref x_images, .ref x_book, .ref x_course, .ref x_fates, .ref x_chances, .ref x_will, .ref x_slots, .ref x_seen, .ref x_drawn])), (x_fates, .inr (3, [.int vb, .int vl, .int vc, .int vr, .int v0, .int v1, .ref x_fates_yearOf])), (x_fates_yearOf, .inl (cI, 16, .inl f0))] sz) := by
  refine Met.ofW (cc := cX11_basin) (maxL := 6) (ret := (some .int)) (by decide) rfl ?_
  intro p e s m args below meth c s₁ B hml hv
  obtain ⟨rfl, hsz, hP, hK, hD0⟩ := hv
  have hx := B.exec
  have hb := B.bytes
  have hr := B.returns
  have hts := atoms_spec (ws := v_fX11_basin) B.pre
  have hown : s.vm.findClass RX11 = some m.cls := findClass_of_methodNamed B.named
  have hlocks := B.notSynchronized
  subst hsz
  have iX11 : ∀ w ∈ wsX110, w ∈ v_fX11_basin := (fun _ h => List.mem_cons_of_mem _ (List.mem_append_right _ (List.mem_append_right _ (List.mem_append_right _ (List.mem_append_right _ (List.mem_append_right _ (List.mem_append_left _ h)))))))
  have hD := hD0.self (sz := s.heap.size)
  generalize hAe : (va_A [(x, .inr (10, [.ref x_tape, .ref x_land, .ref x_images, .ref x_book, .ref x_course, .ref x_fates, .ref x_chances, .ref x_will, .ref x_slots, .ref x_seen, .ref x_drawn])), (x_fates, .inr (3, [.int vb, .int vl, .int vc, .int vr, .int v0, .int v1, .ref x_fates_yearOf])), (x_fates_yearOf, .inl (cI, 16, .inl f0))] s.heap.size) = A at hD ⊢
  have hA : ∀ q : Nat, s.heap.size ≤ q → A q := fun q h => by rw [← hAe]; exact Or.inr h
  have hS : va_S A s.heap s.heap [] := va_S.rf
  have hl := lv_entry ([.ref x, .int p0, .int p1, .int p2]) (n := 6) (Nat.le_of_ble_eq_true rfl)
  rw [lg_entry_eq]
  generalize (lg_sl ([.ref x, .int p0, .int p1, .int p2]) ++ List.replicate (6 - (lg_sl ([.ref x, .int p0, .int p1, .int p2])).length) Slot.unset).toArray = ls at hl ⊢
  have hl : lv_has ls 6 [(0, .ref x), (1, .int p0), (2, .int p1), (3, .int p2)] := hl
  have hP : va_P g vwCl [(x, .inr (10, [.ref x_tape, .ref x_land, .ref x_images, .ref x_book, .ref x_course, .ref x_fates, .ref x_chances, .ref x_will, .ref x_slots, .ref x_seen, .ref x_drawn])), (x_fates, .inr (3, [.int vb, .int vl, .int vc, .int vr, .int v0, .int v1, .ref x_fates_yearOf])), (x_fates_yearOf, .inl (cI, 16, .inl f0))] s.heap := hP
  refine lv_iload_n hx hb dX11_basin_0 rfl (lv_at hl 1 rfl) ?_
  refine lv_iload_n hx hb dX11_basin_1 rfl (lv_at hl 2 rfl) ?_
  refine ro_i (va_runS (As := [.int p0, .int p1]) (rest := []) ⟨hx, hb, hml, hown, hts⟩ (k_fX11_areRules l g cI cJ cB cZ cL p0 p1 ip0 ip1 s.heap.size hzp0 hzp1) (va_cwS 2 hts (goodIn_app (g_3 (List.mem_cons_of_mem _ (List.mem_append_left _ (List.mem_of_getElem? (i := 0) rfl))) (List.mem_cons_of_mem _ (List.mem_append_left _ (List.mem_of_getElem? (i := 1) rfl))) (List.mem_cons_of_mem _ (List.mem_append_left _ (List.mem_of_getElem? (i := 2) rfl))) (by decide +kernel)) (goodIn_sub (fun _ h => List.mem_cons_of_mem _ (List.mem_append_right _ (List.mem_append_left _ h))) good_v_fX11_areRules)) rfl rfl rfl (by decide +kernel) ⟨Nat.le_of_ble_eq_true rfl, Nat.le_of_ble_eq_true rfl⟩) (ps_RO (wc := []) hK hP [] rfl) rfl rfl hl.1 rfl (lv_room (Nat.le_of_ble_eq_true rfl)) dX11_basin_2 ⟨Nat.le_of_ble_eq_true rfl, Nat.le_of_ble_eq_true rfl⟩) hS hA hP (fun r1 u2 H locs hw3 hP hS => ?_)
  rcases hw3 with ⟨rfl, hw3_0, hw3_1⟩ | ⟨rfl, hw3_0⟩
  · refine lv_if_eq (tgt := 16) hx hb dX11_basin_5 (by decide) (fun c4 => absurd c4 (by decide)) (fun _ => ?_)
    refine lv_iload_n hx hb dX11_basin_8 rfl (lv_at hl 3 rfl) ?_
    refine lv_iconst (v := 3) hx hb dX11_basin_9 (by decide) ?_
    refine ro_i (va_runS (As := [.int p2, .int 3]) (rest := []) ⟨hx, hb, hml, hown, hts⟩ (k_fX11_isBelow l g cI cJ cB cZ cL p2 3 ip2 3 H.size hzp2 rfl) (va_cwS 2 hts (goodIn_app (g_3 (List.mem_cons_of_mem _ (List.mem_append_left _ (List.mem_of_getElem? (i := 3) rfl))) (List.mem_cons_of_mem _ (List.mem_append_left _ (List.mem_of_getElem? (i := 4) rfl))) (List.mem_cons_of_mem _ (List.mem_append_left _ (List.mem_of_getElem? (i := 2) rfl))) (by decide +kernel)) (goodIn_sub (fun _ h => List.mem_cons_of_mem _ (List.mem_append_right _ (List.mem_append_right _ (List.mem_append_left _ h)))) good_v_fX11_isBelow)) rfl rfl rfl (by decide +kernel) ⟨Nat.le_of_ble_eq_true rfl, Nat.le_of_ble_eq_true rfl⟩) (ps_RO (wc := []) hK hP [] rfl) rfl rfl hl.1 rfl (lv_room (Nat.le_of_ble_eq_true rfl)) dX11_basin_10 ⟨Nat.le_of_ble_eq_true rfl, Nat.le_of_ble_eq_true rfl⟩) hS hA hP (fun r5 u6 H locs hw7 hP hS => ?_)
    rcases hw7 with ⟨rfl, hw7_0, hw7_1⟩ | ⟨rfl, hw7_0⟩
    · refine lv_if_ne (tgt := 19) hx hb dX11_basin_13 (by decide) (fun _ => ?_) (fun c8 => absurd c8 (by decide))
      obtain ⟨ra, hra, rfl⟩ : ∃ ra : Nat, ra < 32 ∧ p0 = nI ra := natz hzp0 (by omega) (by omega) (by decide)
      have hIra : (ra : Int) = ip0 := by rw [← hzp0]; exact (nI_toInt (by omega)).symm
      obtain ⟨rb, hrb, rfl⟩ : ∃ rb : Nat, rb < 32 ∧ p1 = nI rb := natz hzp1 (by omega) (by omega) (by decide)
      have hIrb : (rb : Int) = ip1 := by rw [← hzp1]; exact (nI_toInt (by omega)).symm
      refine lv_iconst (v := 0) hx hb dX11_basin_19 (by decide) ?_
      refine lv_istore (lv' := [(4, .int 0), (0, .ref x), (1, .int (nI ra)), (2, .int (nI rb)), (3, .int p2)]) hx hb dX11_basin_20 hl (by decide) rfl (fun ls hl => ?_)
      refine lv_iconst (v := 0) hx hb dX11_basin_22 (by decide) ?_
      refine lv_istore (lv' := [(5, .int 0), (4, .int 0), (0, .ref x), (1, .int (nI ra)), (2, .int (nI rb)), (3, .int p2)]) hx hb dX11_basin_23 hl (by decide) rfl (fun ls hl => ?_)
      have lp11 : ∀ (n9 : Nat) (n : Nat) (i : Nat) (f : Nat → Int32) (vb : Int32) (vl : Int32) (vc : Int32) (vr : Int32) (v0 : Int32) (v1 : Int32) (H : Heap) (locs : List Loc) (ls : Array Slot), 16 - i < n9 → (i ≤ 16) → (n ≤ i) → (n = cP (fun t => ((fK ra rb t : Nat) : Int) = ip2) i) → (ir vr.toInt 0 15) → va_P g vwCl [(x, .inr (10, [.ref x_tape, .ref x_land, .ref x_images, .ref x_book, .ref x_course, .ref x_fates, .ref x_chances, .ref x_will, .ref x_slots, .ref x_seen, .ref x_drawn])), (x_fates, .inr (3, [.int vb, .int vl, .int vc, .int vr, .int v0, .int v1, .ref x_fates_yearOf])), (x_fates_yearOf, .inl (cI, 16, .inl f))] H → va_D A [(x, .inr (10, [.ref x_tape, .ref x_land, .ref x_images, .ref x_book, .ref x_course, .ref x_fates, .ref x_chances, .ref x_will, .ref x_slots, .ref x_seen, .ref x_drawn])), (x_fates, .inr (3, [.int vb, .int vl, .int vc, .int vr, .int v0, .int v1, .ref x_fates_yearOf])), (x_fates_yearOf, .inl (cI, 16, .inl f))] → va_S A s.heap H locs → lv_has ls 6 [(0, .ref x), (1, .int (nI ra)), (2, .int (nI rb)), (3, .int p2), (4, .int (nI n)), (5, .int (nI i))] → W p l e (headSpec v_fX11_basin ({ frames := 4, cells := 0, slots := 0, locals := 94 })).room s m ([.ref x, .int (nI ra), .int (nI rb), .int p2] : List Value).toArray below meth c H locs 0 0 (MQ below (va_Qi (fun (r : Int32) (u : (Nat → Int32) × Int32 × Int32 × Int32 × Int32 × Int32 × Int32) => match u with | (f1, wb, wl, wc, wr, w0, w1) => ((r = (-2) ∧ ¬ ((0 ≤ ip0 ∧ ip0 < 32) ∧ (0 ≤ ip1 ∧ ip1 < 32) ∧ (0 ≤ ip2 ∧ ip2 < 3))) ∨ (((0 ≤ ip0 ∧ ip0 < 32) ∧ (0 ≤ ip1 ∧ ip1 < 32) ∧ (0 ≤ ip2 ∧ ip2 < 3)) ∧ r = nI (cP (fun t => ((fK ip0.toNat ip1.toNat t : Nat) : Int) = ip2) 16))) ∧ ir wr.toInt 0 15) (fun (u : (Nat → Int32) × Int32 × Int32 × Int32 × Int32 × Int32 × Int32) (t : State) => bRW g (tyT cI cJ cB cZ cL) A (match u with | (f1, wb, wl, wc, wr, w0, w1) => [(x, .inr (10, [.ref x_tape, .ref x_land, .ref x_images, .ref x_book, .ref x_course, .ref x_fates, .ref x_chances, .ref x_will, .ref x_slots, .ref x_seen, .ref x_drawn])), (x_fates, .inr (3, [.int wb, .int wl, .int wc, .int wr, .int w0, .int w1, .ref x_fates_yearOf])), (x_fates_yearOf, .inl (cI, 16, .inl f1))]) t) A) ([.ref x, .int (nI ra), .int (nI rb), .int p2] : List Value).toArray s 0 0 A) (F0 m 25 ls []) := by
        intro n9
        induction n9 with
        | zero => exact fun n i f vb vl vc vr v0 v1 H locs ls hn => absurd hn (Nat.not_lt_zero _)
        | succ n9 ih10 =>
          intro n i f vb vl vc vr v0 v1 H locs ls hn hi hnn hcn hvr hP hD hS hl
          refine lv_iload hx hb dX11_basin_25 (lv_at hl 5 rfl) ?_
          refine lv_bipush (v := 16) hx hb dX11_basin_27 (by decide) ?_
          refine lv_icmp_ge (tgt := 63) hx hb dX11_basin_29 (by decide) (fun c12 => ?_) (fun c12 => ?_)
          · have f13 := (show 16 ≤ (i : Int) from z_le rfl (nI_toInt (n := i) (by omega)) c12)
            refine lv_iload hx hb dX11_basin_63 (lv_at hl 4 rfl) ?_
            have hP9 := hP.sub (ws' := [(x, .inr (10, [.ref x_tape, .ref x_land, .ref x_images, .ref x_book, .ref x_course, .ref x_fates, .ref x_chances, .ref x_will, .ref x_slots, .ref x_seen, .ref x_drawn])), (x_fates, .inr (3, [.int vb, .int vl, .int vc, .int vr, .int v0, .int v1, .ref x_fates_yearOf])), (x_fates_yearOf, .inl (cI, 16, .inl f))]) [0, 1, 2] rfl
            have hD9 := hD.sub (ws' := [(x, .inr (10, [.ref x_tape, .ref x_land, .ref x_images, .ref x_book, .ref x_course, .ref x_fates, .ref x_chances, .ref x_will, .ref x_slots, .ref x_seen, .ref x_drawn])), (x_fates, .inr (3, [.int vb, .int vl, .int vc, .int vr, .int v0, .int v1, .ref x_fates_yearOf])), (x_fates_yearOf, .inl (cI, 16, .inl f))]) [0, 1, 2] (by decide) rfl
            exact W.iret (v := (nI n)) hx hb hr (fun t ht hW => ⟨⟨(nI n), (f, vb, vl, vc, vr, v0, v1), rfl, ⟨Or.inr ⟨⟨by omega, by omega, by omega⟩, by rw [show ip0.toNat = ra from by omega]; rw [show ip1.toNat = rb from by omega]; rw [hcn, show i = 16 from by omega]⟩, hvr⟩, by rw [ht]; exact hP9, va_K.moved hW.alike hK, hD9⟩, hS.F ht⟩) hS.2.2 dX11_basin_65
          · have f13 := (show (i : Int) < 16 from z_nle rfl (nI_toInt (n := i) (by omega)) c12)
            refine lv_aload_n hx hb dX11_basin_32 rfl (lv_at hl 0 rfl) ?_
            refine va_get (D := g) (ci := 10) (v := .ref x_fates) (C := RX11) (T := TX11) (N := 11) hx hb hts iX11 hown hK hP 0 rfl rfl 5 (by decide) (hts (.fieldLink RX11 44 "CardsAtYule" "fates" "LCardsAtYule$Fate;") (List.mem_cons_of_mem _ (List.mem_append_left _ (List.mem_of_getElem? (i := 5) rfl)))) (fun _ h9 => h9) rfl dX11_basin_33 ?_
            refine lv_iload_n hx hb dX11_basin_36 rfl (lv_at hl 1 rfl) ?_
            refine lv_iload_n hx hb dX11_basin_37 rfl (lv_at hl 2 rfl) ?_
            refine lv_iload hx hb dX11_basin_38 (lv_at hl 5 rfl) ?_
            refine rw_v (wr := [(x, .inr (10, [.ref x_tape, .ref x_land, .ref x_images, .ref x_book, .ref x_course, .ref x_fates, .ref x_chances, .ref x_will, .ref x_slots, .ref x_seen, .ref x_drawn]))]) (va_runV (As := [.int (nI ra), .int (nI rb), .int (nI i)]) (rest := []) ⟨hx, hb, hml, hown, hts⟩ (k_fX3_find l g cI cJ cB cZ cL x_fates x_fates_yearOf vb vl vc vr v0 v1 f ra rb i H.size (by omega) (by omega) (by omega)) (cwV 3 hts (goodIn_app (g_4 (List.mem_cons_of_mem _ (List.mem_append_left _ (List.mem_of_getElem? (i := 6) rfl))) (List.mem_cons_of_mem _ (List.mem_append_left _ (List.mem_of_getElem? (i := 7) rfl))) (List.mem_cons_of_mem _ (List.mem_append_left _ (List.mem_of_getElem? (i := 8) rfl))) (List.mem_cons_of_mem _ (List.mem_append_left _ (List.mem_of_getElem? (i := 9) rfl))) (by decide +kernel)) (goodIn_sub (fun _ h => List.mem_cons_of_mem _ (List.mem_append_right _ (List.mem_append_right _ (List.mem_append_right _ (List.mem_append_left _ h))))) good_v_fX3_find)) rfl rfl rfl (by decide +kernel) ⟨Nat.le_of_ble_eq_true rfl, Nat.le_of_ble_eq_true rfl⟩) (pv_RW (q := (RX3, TX3, 7)) (ci := 3) (q0 := 0) (wc := [(x_fates, .inr (3, [.int vb, .int vl, .int vc, .int vr, .int v0, .int v1, .ref x_fates_yearOf])), (x_fates_yearOf, .inl (cI, 16, .inl f))]) hK hP hD [1, 2] (by decide) rfl rfl rfl) rfl rfl hl.1 rfl (lv_room (Nat.le_of_ble_eq_true rfl)) dX11_basin_40 ⟨Nat.le_of_ble_eq_true rfl, Nat.le_of_ble_eq_true rfl⟩) hS hA hP hD [1, 2] [0] rfl rfl (by decide) (by decide) (fun u15 H locs hw16 hP hD hS => ?_)
            obtain ⟨u_f117, u_wb18, u_wl19, u_wc20, u_wr21⟩ := u15
            try dsimp only at hw16
            have hP : va_P g vwCl [(x, .inr (10, [.ref x_tape, .ref x_land, .ref x_images, .ref x_book, .ref x_course, .ref x_fates, .ref x_chances, .ref x_will, .ref x_slots, .ref x_seen, .ref x_drawn])), (x_fates, .inr (3, [.int u_wb18, .int u_wl19, .int u_wc20, .int u_wr21, .int (nI ra), .int (nI rb), .ref x_fates_yearOf])), (x_fates_yearOf, .inl (cI, 16, .inl u_f117))] H := hP
            have hD : va_D A [(x, .inr (10, [.ref x_tape, .ref x_land, .ref x_images, .ref x_book, .ref x_course, .ref x_fates, .ref x_chances, .ref x_will, .ref x_slots, .ref x_seen, .ref x_drawn])), (x_fates, .inr (3, [.int u_wb18, .int u_wl19, .int u_wc20, .int u_wr21, .int (nI ra), .int (nI rb), .ref x_fates_yearOf])), (x_fates_yearOf, .inl (cI, 16, .inl u_f117))] := hD
            obtain ⟨rfl, rfl, rfl, hq22⟩ := hw16
            have hP : va_P g vwCl [(x, .inr (10, [.ref x_tape, .ref x_land, .ref x_images, .ref x_book, .ref x_course, .ref x_fates, .ref x_chances, .ref x_will, .ref x_slots, .ref x_seen, .ref x_drawn])), (x_fates, .inr (3, [.int (nI (fJ ra rb i)), .int (nI (fL ra rb i)), .int (nI (fC ra rb i)), .int u_wr21, .int (nI ra), .int (nI rb), .ref x_fates_yearOf])), (x_fates_yearOf, .inl (cI, 16, .inl u_f117))] H := hP
            have hD : va_D A [(x, .inr (10, [.ref x_tape, .ref x_land, .ref x_images, .ref x_book, .ref x_course, .ref x_fates, .ref x_chances, .ref x_will, .ref x_slots, .ref x_seen, .ref x_drawn])), (x_fates, .inr (3, [.int (nI (fJ ra rb i)), .int (nI (fL ra rb i)), .int (nI (fC ra rb i)), .int u_wr21, .int (nI ra), .int (nI rb), .ref x_fates_yearOf])), (x_fates_yearOf, .inl (cI, 16, .inl u_f117))] := hD
            have hb23 := fL_le (a := ra) (b := rb) (s := i) (by omega)
            have hb23c := fC_le (a := ra) (b := rb) (s := i) (by omega)
            have hb23j := fJ_le (a := ra) (b := rb) (s := i) (by omega)
            refine lv_aload_n hx hb dX11_basin_43 rfl (lv_at hl 0 rfl) ?_
            refine va_get (D := g) (ci := 10) (v := .ref x_fates) (C := RX11) (T := TX11) (N := 11) hx hb hts iX11 hown hK hP 0 rfl rfl 5 (by decide) (hts (.fieldLink RX11 44 "CardsAtYule" "fates" "LCardsAtYule$Fate;") (List.mem_cons_of_mem _ (List.mem_append_left _ (List.mem_of_getElem? (i := 5) rfl)))) (fun _ h9 => h9) rfl dX11_basin_44 ?_
            refine ro_i (va_runV (As := []) (rest := []) ⟨hx, hb, hml, hown, hts⟩ (k_fX3_kind l g cI cJ cB cZ cL x_fates x_fates_yearOf (fJ ra rb i) (fL ra rb i) (fC ra rb i) u_wr21 (nI ra) (nI rb) H.size (by omega) (by omega)) (cwV 0 hts (goodIn_app (g_4 (List.mem_cons_of_mem _ (List.mem_append_left _ (List.mem_of_getElem? (i := 10) rfl))) (List.mem_cons_of_mem _ (List.mem_append_left _ (List.mem_of_getElem? (i := 11) rfl))) (List.mem_cons_of_mem _ (List.mem_append_left _ (List.mem_of_getElem? (i := 12) rfl))) (List.mem_cons_of_mem _ (List.mem_append_left _ (List.mem_of_getElem? (i := 9) rfl))) (by decide +kernel)) (goodIn_sub (fun _ h => List.mem_cons_of_mem _ (List.mem_append_right _ (List.mem_append_right _ (List.mem_append_right _ (List.mem_append_right _ (List.mem_append_left _ h)))))) good_v_fX3_kind)) rfl rfl rfl (by decide +kernel) ⟨Nat.le_of_ble_eq_true rfl, Nat.le_of_ble_eq_true rfl⟩) (pv_RO (q := (RX3, TX3, 7)) (ci := 3) (q0 := 0) (wc := [(x_fates, .inr (3, [.int (nI (fJ ra rb i)), .int (nI (fL ra rb i)), .int (nI (fC ra rb i)), .int u_wr21, .int (nI ra), .int (nI rb), .ref x_fates_yearOf]))]) hK hP [1] rfl rfl rfl) rfl rfl hl.1 rfl (lv_room (Nat.le_of_ble_eq_true rfl)) dX11_basin_47 ⟨Nat.le_of_ble_eq_true rfl, Nat.le_of_ble_eq_true rfl⟩) hS hA hP (fun r24 u25 H locs hw26 hP hS => ?_)
            subst hw26
            refine lv_topi (nm_r (e' := nI (fK ra rb i)) rfl ?_)
            have hk9 := fK_le ra rb i
            refine lv_iload_n hx hb dX11_basin_50 rfl (lv_at hl 3 rfl) ?_
            refine lv_icmp_ne (tgt := 57) hx hb dX11_basin_51 (by decide) (fun c27 => ?_) (fun c27 => ?_)
            · have f28 := (show ((fK ra rb i : Nat) : Int) ≠ ip2 from z_ne (nI_toInt (n := fK ra rb i) (by omega)) hzp2 c27)
              refine lv_iinc (v := (nI (i + 1))) (lv' := [(5, .int (nI (i + 1))), (0, .ref x), (1, .int (nI ra)), (2, .int (nI rb)), (3, .int p2), (4, .int (nI n))]) hx hb dX11_basin_57 hl (k := 5) rfl (nI_add i 1) (by decide) rfl (fun ls hl => ?_)
              refine lv_goto (tgt := 25) hx hb dX11_basin_60 (by decide) ?_
              exact ih10 n (i + 1) _ (nI (fJ ra rb i)) (nI (fL ra rb i)) (nI (fC ra rb i)) u_wr21 (nI ra) (nI rb) _ _ _ (by omega) (by omega) (by omega) (by rw [hcn]; exact cP_f (p := (fun t => ((fK ra rb t : Nat) : Int) = ip2)) (by omega)) hq22 (hP.sub [0, 1, 2] rfl) (hD.sub [0, 1, 2] (by decide) rfl) hS (lv_sub hl [1, 2, 3, 4, 5, 0] rfl)
            · have f28 := (show ((fK ra rb i : Nat) : Int) = ip2 from z_eq (nI_toInt (n := fK ra rb i) (by omega)) hzp2 c27)
              refine lv_iinc (v := (nI (n + 1))) (lv' := [(4, .int (nI (n + 1))), (0, .ref x), (1, .int (nI ra)), (2, .int (nI rb)), (3, .int p2), (5, .int (nI i))]) hx hb dX11_basin_54 hl (k := 4) rfl (nI_add n 1) (by decide) rfl (fun ls hl => ?_)
              refine lv_iinc (v := (nI (i + 1))) (lv' := [(5, .int (nI (i + 1))), (4, .int (nI (n + 1))), (0, .ref x), (1, .int (nI ra)), (2, .int (nI rb)), (3, .int p2)]) hx hb dX11_basin_57 hl (k := 5) rfl (nI_add i 1) (by decide) rfl (fun ls hl => ?_)
              refine lv_goto (tgt := 25) hx hb dX11_basin_60 (by decide) ?_
              exact ih10 (n + 1) (i + 1) _ (nI (fJ ra rb i)) (nI (fL ra rb i)) (nI (fC ra rb i)) u_wr21 (nI ra) (nI rb) _ _ _ (by omega) (by omega) (by omega) (by rw [hcn]; exact cP_t (p := (fun t => ((fK ra rb t : Nat) : Int) = ip2)) (by omega)) hq22 (hP.sub [0, 1, 2] rfl) (hD.sub [0, 1, 2] (by decide) rfl) hS (lv_sub hl [2, 3, 4, 5, 1, 0] rfl)
      exact lp11 _ 0 0 _ vb vl vc vr v0 v1 _ _ _ (Nat.lt_succ_self _) (Nat.zero_le _) (Nat.le_refl _) rfl hvr (hP.sub [0, 1, 2] rfl) (hD.sub [0, 1, 2] (by decide) rfl) hS (lv_sub hl [2, 3, 4, 5, 1, 0] rfl)
    · refine lv_if_ne (tgt := 19) hx hb dX11_basin_13 (by decide) (fun c29 => absurd c29 (by decide)) (fun _ => ?_)
      refine lv_bipush (v := (-2)) hx hb dX11_basin_16 (by decide) ?_
      have hP9 := hP.sub (ws' := [(x, .inr (10, [.ref x_tape, .ref x_land, .ref x_images, .ref x_book, .ref x_course, .ref x_fates, .ref x_chances, .ref x_will, .ref x_slots, .ref x_seen, .ref x_drawn])), (x_fates, .inr (3, [.int vb, .int vl, .int vc, .int vr, .int v0, .int v1, .ref x_fates_yearOf])), (x_fates_yearOf, .inl (cI, 16, .inl f0))]) [0, 1, 2] rfl
      have hD9 := hD.sub (ws' := [(x, .inr (10, [.ref x_tape, .ref x_land, .ref x_images, .ref x_book, .ref x_course, .ref x_fates, .ref x_chances, .ref x_will, .ref x_slots, .ref x_seen, .ref x_drawn])), (x_fates, .inr (3, [.int vb, .int vl, .int vc, .int vr, .int v0, .int v1, .ref x_fates_yearOf])), (x_fates_yearOf, .inl (cI, 16, .inl f0))]) [0, 1, 2] (by decide) rfl
      exact W.iret (v := (-2)) hx hb hr (fun t ht hW => ⟨⟨(-2), (f0, vb, vl, vc, vr, v0, v1), rfl, ⟨Or.inl ⟨rfl, by omega⟩, hvr⟩, by rw [ht]; exact hP9, va_K.moved hW.alike hK, hD9⟩, hS.F ht⟩) hS.2.2 dX11_basin_18
  · refine lv_if_eq (tgt := 16) hx hb dX11_basin_5 (by decide) (fun _ => ?_) (fun c30 => absurd c30 (by decide))
    refine lv_bipush (v := (-2)) hx hb dX11_basin_16 (by decide) ?_
    have hP9 := hP.sub (ws' := [(x, .inr (10, [.ref x_tape, .ref x_land, .ref x_images, .ref x_book, .ref x_course, .ref x_fates, .ref x_chances, .ref x_will, .ref x_slots, .ref x_seen, .ref x_drawn])), (x_fates, .inr (3, [.int vb, .int vl, .int vc, .int vr, .int v0, .int v1, .ref x_fates_yearOf])), (x_fates_yearOf, .inl (cI, 16, .inl f0))]) [0, 1, 2] rfl
    have hD9 := hD.sub (ws' := [(x, .inr (10, [.ref x_tape, .ref x_land, .ref x_images, .ref x_book, .ref x_course, .ref x_fates, .ref x_chances, .ref x_will, .ref x_slots, .ref x_seen, .ref x_drawn])), (x_fates, .inr (3, [.int vb, .int vl, .int vc, .int vr, .int v0, .int v1, .ref x_fates_yearOf])), (x_fates_yearOf, .inl (cI, 16, .inl f0))]) [0, 1, 2] (by decide) rfl
    exact W.iret (v := (-2)) hx hb hr (fun t ht hW => ⟨⟨(-2), (f0, vb, vl, vc, vr, v0, v1), rfl, ⟨Or.inl ⟨rfl, by omega⟩, hvr⟩, by rw [ht]; exact hP9, va_K.moved hW.alike hK, hD9⟩, hS.F ht⟩) hS.2.2 dX11_basin_18
def v_fX11_longest : List Cond := .code yX11_longest cX11_longest 5 (some .int) :: (([.methodLink RX11 232 yX11_areRules, .static yX11_areRules, .initialized RX11, .fieldLink RX11 44 "CardsAtYule" "fates" "LCardsAtYule$Fate;", .methodLink RX11 235 yX3_find, .instanceMethod yX3_find, .selects RX3 yX3_find yX3_find, .initialized RX3, .fieldLink RX11 250 "CardsAtYule$Fate" "length" "I", .methodLink RX11 251 Lib.Math.max.name, .static Lib.Math.max.name, .initialized "java/lang/Math", .code Lib.Math.max.name Lib.Math.max.code 2 (some .int)] : List Cond) ++ (v_fX11_areRules ++ (v_fX3_find ++ (wsX110 ++ (wsX30 ++ ([] : List Cond))))))
theorem good_v_fX11_longest : v_fX11_longest.all goodWord = true := ga_c (by decide +kernel) (ga_a (by decide +kernel) (ga_a good_v_fX11_areRules (ga_a good_v_fX3_find (ga_a good_wsX110 (ga_a good_wsX30 rfl)))))
set_option maxHeartbeats 4000000 in
set_option maxRecDepth 100000 in
theorem k_fX11_longest (l : Launch) (g : va_G) (cI cJ cB cZ cL : ClassId) (x : Nat) (x_tape : Nat) (x_land : Nat) (x_images : Nat) (x_book : Nat) (x_course : Nat) (x_fates : Nat) (x_chances : Nat) (x_will : Nat) (x_slots : Nat) (x_seen : Nat) (x_drawn : Nat) (x_fates_yearOf : Nat) (vb : Int32) (vl : Int32) (vc : Int32) (vr : Int32) (v0 : Int32) (v1 : Int32) (f0 : Nat → Int32) (p0 : Int32) (p1 : Int32) (ip0 : Int) (ip1 : Int) (sz : Nat) (hzp0 : p0.toInt = ip0) (hzp1 : p1.toInt = ip1) (hvr : ir vr.toInt 0 15) : Met l yX11_longest v_fX11_longest ({ frames := 4, cells := 0, slots := 0, locals := 94 }) (va_Pc [.ref x, .int p0, .int p1] (pRW g (tyT cI cJ cB cZ cL) [(x, .inr (10, [.ref x_tape, .ref x_land, .ref x_images, .ref x_book, .ref x_course, .ref x_fates, .ref x_chances, .ref x_will, .ref x_slots, .ref x_seen, .ref x_drawn])), (x_fates, .inr (3, [.int vb, .int vl, .int vc, .int vr, .int v0, .int v1, .ref x_fates_yearOf])), (x_fates_yearOf, .inl (cI, 16, .inl f0))] sz)) (va_Qi (fun (r : Int32) (u : (Nat → Int32) × Int32 × Int32 × Int32 × Int32 × Int32 × Int32) => match u with | (f1, wb, wl, wc, wr, w0, w1) => ((r = (-2) ∧ ¬ ((0 ≤ ip0 ∧ ip0 < 32) ∧ (0 ≤ ip1 ∧ ip1 < 32))) ∨ (((0 ≤ ip0 ∧ ip0 < 32) ∧ (0 ≤ ip1 ∧ ip1 < 32)) ∧ r = nI (mx (fun t => fL ip0.toNat ip1.toNat t) 16))) ∧ ir wr.toInt 0 15) (fun (u : (Nat → Int32) × Int32 × Int32 × Int32 × Int32 × Int32 × Int32) (t : State) => bRW g (tyT cI cJ cB cZ cL) (va_A [(x, .inr (10, [.ref x_tape, .ref x_land, .ref x_images, .ref x_book, .ref x_course, .ref x_fates, .ref x_chances, .ref x_will, .ref x_slots, .ref x_seen, .ref x_drawn])), (x_fates, .inr (3, [.int vb, .int vl, .int vc, .int vr, .int v0, .int v1, .ref x_fates_yearOf])), (x_fates_yearOf, .inl (cI, 16, .inl f0))] sz) (match u with | (f1, wb, wl, wc, wr, w0, w1) => [(x, .inr (10, [.ref x_tape, .ref x_land, .ref x_images, .ref x_book, .ref x_course, .ref x_fates, .ref x_chances, .ref x_will, .ref x_slots, .ref x_seen, .ref x_drawn])), (x_fates, .inr (3, [.int wb, .int wl, .int wc, .int wr, .int w0, .int w1, .ref x_fates_yearOf])), (x_fates_yearOf, .inl (cI, 16, .inl f1))]) t) (va_A [(x, .inr (10, [.ref x_tape, .ref x_land, .ref x_images, .ref x_book, .ref x_course, .ref x_fates, .ref x_chances, .ref x_will, .ref x_slots, .ref x_seen, .ref x_drawn])), (x_fates, .inr (3, [.int vb, .int vl, .int vc, .int vr, .int v0, .int v1, .ref x_fates_yearOf])), (x_fates_yearOf, .inl (cI, 16, .inl f0))] sz)) 0 0 (va_A [(x, .inr (10, [.ref x_tape, .ref x_land, .ref x_images, .ref x_book, .ref x_course, .ref x_fates, .ref x_chances, .ref x_will, .ref x_slots, .ref x_seen, .ref x_drawn])), (x_fates, .inr (3, [.int vb, .int vl, .int vc, .int vr, .int v0, .int v1, .ref x_fates_yearOf])), (x_fates_yearOf, .inl (cI, 16, .inl f0))] sz) := by
  refine Met.ofW (cc := cX11_longest) (maxL := 5) (ret := (some .int)) (by decide) rfl ?_
  intro p e s m args below meth c s₁ B hml hv
  obtain ⟨rfl, hsz, hP, hK, hD0⟩ := hv
  have hx := B.exec
  have hb := B.bytes
  have hr := B.returns
  have hts := atoms_spec (ws := v_fX11_longest) B.pre
  have hown : s.vm.findClass RX11 = some m.cls := findClass_of_methodNamed B.named
  have hlocks := B.notSynchronized
  subst hsz
  have iX11 : ∀ w ∈ wsX110, w ∈ v_fX11_longest := (fun _ h => List.mem_cons_of_mem _ (List.mem_append_right _ (List.mem_append_right _ (List.mem_append_right _ (List.mem_append_left _ h)))))
  have iX3 : ∀ w ∈ wsX30, w ∈ v_fX11_longest := (fun _ h => List.mem_cons_of_mem _ (List.mem_append_right _ (List.mem_append_right _ (List.mem_append_right _ (List.mem_append_right _ (List.mem_append_left _ h))))))
  have hD := hD0.self (sz := s.heap.size)
  generalize hAe : (va_A [(x, .inr (10, [.ref x_tape, .ref x_land, .ref x_images, .ref x_book, .ref x_course, .ref x_fates, .ref x_chances, .ref x_will, .ref x_slots, .ref x_seen, .ref x_drawn])), (x_fates, .inr (3, [.int vb, .int vl, .int vc, .int vr, .int v0, .int v1, .ref x_fates_yearOf])), (x_fates_yearOf, .inl (cI, 16, .inl f0))] s.heap.size) = A at hD ⊢
  have hA : ∀ q : Nat, s.heap.size ≤ q → A q := fun q h => by rw [← hAe]; exact Or.inr h
  have hS : va_S A s.heap s.heap [] := va_S.rf
  have hl := lv_entry ([.ref x, .int p0, .int p1]) (n := 5) (Nat.le_of_ble_eq_true rfl)
  rw [lg_entry_eq]
  generalize (lg_sl ([.ref x, .int p0, .int p1]) ++ List.replicate (5 - (lg_sl ([.ref x, .int p0, .int p1])).length) Slot.unset).toArray = ls at hl ⊢
  have hl : lv_has ls 5 [(0, .ref x), (1, .int p0), (2, .int p1)] := hl
  have hP : va_P g vwCl [(x, .inr (10, [.ref x_tape, .ref x_land, .ref x_images, .ref x_book, .ref x_course, .ref x_fates, .ref x_chances, .ref x_will, .ref x_slots, .ref x_seen, .ref x_drawn])), (x_fates, .inr (3, [.int vb, .int vl, .int vc, .int vr, .int v0, .int v1, .ref x_fates_yearOf])), (x_fates_yearOf, .inl (cI, 16, .inl f0))] s.heap := hP
  refine lv_iload_n hx hb dX11_longest_0 rfl (lv_at hl 1 rfl) ?_
  refine lv_iload_n hx hb dX11_longest_1 rfl (lv_at hl 2 rfl) ?_
  refine ro_i (va_runS (As := [.int p0, .int p1]) (rest := []) ⟨hx, hb, hml, hown, hts⟩ (k_fX11_areRules l g cI cJ cB cZ cL p0 p1 ip0 ip1 s.heap.size hzp0 hzp1) (va_cwS 2 hts (goodIn_app (g_3 (List.mem_cons_of_mem _ (List.mem_append_left _ (List.mem_of_getElem? (i := 0) rfl))) (List.mem_cons_of_mem _ (List.mem_append_left _ (List.mem_of_getElem? (i := 1) rfl))) (List.mem_cons_of_mem _ (List.mem_append_left _ (List.mem_of_getElem? (i := 2) rfl))) (by decide +kernel)) (goodIn_sub (fun _ h => List.mem_cons_of_mem _ (List.mem_append_right _ (List.mem_append_left _ h))) good_v_fX11_areRules)) rfl rfl rfl (by decide +kernel) ⟨Nat.le_of_ble_eq_true rfl, Nat.le_of_ble_eq_true rfl⟩) (ps_RO (wc := []) hK hP [] rfl) rfl rfl hl.1 rfl (lv_room (Nat.le_of_ble_eq_true rfl)) dX11_longest_2 ⟨Nat.le_of_ble_eq_true rfl, Nat.le_of_ble_eq_true rfl⟩) hS hA hP (fun r1 u2 H locs hw3 hP hS => ?_)
  rcases hw3 with ⟨rfl, hw3_0, hw3_1⟩ | ⟨rfl, hw3_0⟩
  · refine lv_if_ne (tgt := 11) hx hb dX11_longest_5 (by decide) (fun _ => ?_) (fun c4 => absurd c4 (by decide))
    obtain ⟨ra, hra, rfl⟩ : ∃ ra : Nat, ra < 32 ∧ p0 = nI ra := natz hzp0 (by omega) (by omega) (by decide)
    have hIra : (ra : Int) = ip0 := by rw [← hzp0]; exact (nI_toInt (by omega)).symm
    obtain ⟨rb, hrb, rfl⟩ : ∃ rb : Nat, rb < 32 ∧ p1 = nI rb := natz hzp1 (by omega) (by omega) (by decide)
    have hIrb : (rb : Int) = ip1 := by rw [← hzp1]; exact (nI_toInt (by omega)).symm
    refine lv_iconst (v := 0) hx hb dX11_longest_11 (by decide) ?_
    refine lv_istore_n (lv' := [(3, .int 0), (0, .ref x), (1, .int (nI ra)), (2, .int (nI rb))]) hx hb dX11_longest_12 rfl hl (by decide) rfl (fun ls hl => ?_)
    refine lv_iconst (v := 0) hx hb dX11_longest_13 (by decide) ?_
    refine lv_istore (lv' := [(4, .int 0), (3, .int 0), (0, .ref x), (1, .int (nI ra)), (2, .int (nI rb))]) hx hb dX11_longest_14 hl (by decide) rfl (fun ls hl => ?_)
    have lp7 : ∀ (n5 : Nat) (n : Nat) (i : Nat) (f : Nat → Int32) (vb : Int32) (vl : Int32) (vc : Int32) (vr : Int32) (v0 : Int32) (v1 : Int32) (H : Heap) (locs : List Loc) (ls : Array Slot), 16 - i < n5 → (i ≤ 16) → (n ≤ 16) → (n = mx (fun t => fL ra rb t) i) → (ir vr.toInt 0 15) → va_P g vwCl [(x, .inr (10, [.ref x_tape, .ref x_land, .ref x_images, .ref x_book, .ref x_course, .ref x_fates, .ref x_chances, .ref x_will, .ref x_slots, .ref x_seen, .ref x_drawn])), (x_fates, .inr (3, [.int vb, .int vl, .int vc, .int vr, .int v0, .int v1, .ref x_fates_yearOf])), (x_fates_yearOf, .inl (cI, 16, .inl f))] H → va_D A [(x, .inr (10, [.ref x_tape, .ref x_land, .ref x_images, .ref x_book, .ref x_course, .ref x_fates, .ref x_chances, .ref x_will, .ref x_slots, .ref x_seen, .ref x_drawn])), (x_fates, .inr (3, [.int vb, .int vl, .int vc, .int vr, .int v0, .int v1, .ref x_fates_yearOf])), (x_fates_yearOf, .inl (cI, 16, .inl f))] → va_S A s.heap H locs → lv_has ls 5 [(0, .ref x), (1, .int (nI ra)), (2, .int (nI rb)), (3, .int (nI n)), (4, .int (nI i))] → W p l e (headSpec v_fX11_longest ({ frames := 4, cells := 0, slots := 0, locals := 94 })).room s m ([.ref x, .int (nI ra), .int (nI rb)] : List Value).toArray below meth c H locs 0 0 (MQ below (va_Qi (fun (r : Int32) (u : (Nat → Int32) × Int32 × Int32 × Int32 × Int32 × Int32 × Int32) => match u with | (f1, wb, wl, wc, wr, w0, w1) => ((r = (-2) ∧ ¬ ((0 ≤ ip0 ∧ ip0 < 32) ∧ (0 ≤ ip1 ∧ ip1 < 32))) ∨ (((0 ≤ ip0 ∧ ip0 < 32) ∧ (0 ≤ ip1 ∧ ip1 < 32)) ∧ r = nI (mx (fun t => fL ip0.toNat ip1.toNat t) 16))) ∧ ir wr.toInt 0 15) (fun (u : (Nat → Int32) × Int32 × Int32 × Int32 × Int32 × Int32 × Int32) (t : State) => bRW g (tyT cI cJ cB cZ cL) A (match u with | (f1, wb, wl, wc, wr, w0, w1) => [(x, .inr (10, [.ref x_tape, .ref x_land, .ref x_images, .ref x_book, .ref x_course, .ref x_fates, .ref x_chances, .ref x_will, .ref x_slots, .ref x_seen, .ref x_drawn])), (x_fates, .inr (3, [.int wb, .int wl, .int wc, .int wr, .int w0, .int w1, .ref x_fates_yearOf])), (x_fates_yearOf, .inl (cI, 16, .inl f1))]) t) A) ([.ref x, .int (nI ra), .int (nI rb)] : List Value).toArray s 0 0 A) (F0 m 16 ls []) := by
      intro n5
      induction n5 with
      | zero => exact fun n i f vb vl vc vr v0 v1 H locs ls hn => absurd hn (Nat.not_lt_zero _)
      | succ n5 ih6 =>
        intro n i f vb vl vc vr v0 v1 H locs ls hn hi hnn hcn hvr hP hD hS hl
        refine lv_iload hx hb dX11_longest_16 (lv_at hl 4 rfl) ?_
        refine lv_bipush (v := 16) hx hb dX11_longest_18 (by decide) ?_
        refine lv_icmp_ge (tgt := 52) hx hb dX11_longest_20 (by decide) (fun c8 => ?_) (fun c8 => ?_)
        · have f9 := (show 16 ≤ (i : Int) from z_le rfl (nI_toInt (n := i) (by omega)) c8)
          refine lv_iload_n hx hb dX11_longest_52 rfl (lv_at hl 3 rfl) ?_
          have hP9 := hP.sub (ws' := [(x, .inr (10, [.ref x_tape, .ref x_land, .ref x_images, .ref x_book, .ref x_course, .ref x_fates, .ref x_chances, .ref x_will, .ref x_slots, .ref x_seen, .ref x_drawn])), (x_fates, .inr (3, [.int vb, .int vl, .int vc, .int vr, .int v0, .int v1, .ref x_fates_yearOf])), (x_fates_yearOf, .inl (cI, 16, .inl f))]) [0, 1, 2] rfl
          have hD9 := hD.sub (ws' := [(x, .inr (10, [.ref x_tape, .ref x_land, .ref x_images, .ref x_book, .ref x_course, .ref x_fates, .ref x_chances, .ref x_will, .ref x_slots, .ref x_seen, .ref x_drawn])), (x_fates, .inr (3, [.int vb, .int vl, .int vc, .int vr, .int v0, .int v1, .ref x_fates_yearOf])), (x_fates_yearOf, .inl (cI, 16, .inl f))]) [0, 1, 2] (by decide) rfl
          exact W.iret (v := (nI n)) hx hb hr (fun t ht hW => ⟨⟨(nI n), (f, vb, vl, vc, vr, v0, v1), rfl, ⟨Or.inr ⟨⟨by omega, by omega⟩, by rw [show ip0.toNat = ra from by omega]; rw [show ip1.toNat = rb from by omega]; rw [hcn, show i = 16 from by omega]⟩, hvr⟩, by rw [ht]; exact hP9, va_K.moved hW.alike hK, hD9⟩, hS.F ht⟩) hS.2.2 dX11_longest_53
        · have f9 := (show (i : Int) < 16 from z_nle rfl (nI_toInt (n := i) (by omega)) c8)
          refine lv_aload_n hx hb dX11_longest_23 rfl (lv_at hl 0 rfl) ?_
          refine va_get (D := g) (ci := 10) (v := .ref x_fates) (C := RX11) (T := TX11) (N := 11) hx hb hts iX11 hown hK hP 0 rfl rfl 5 (by decide) (hts (.fieldLink RX11 44 "CardsAtYule" "fates" "LCardsAtYule$Fate;") (List.mem_cons_of_mem _ (List.mem_append_left _ (List.mem_of_getElem? (i := 3) rfl)))) (fun _ h9 => h9) rfl dX11_longest_24 ?_
          refine lv_iload_n hx hb dX11_longest_27 rfl (lv_at hl 1 rfl) ?_
          refine lv_iload_n hx hb dX11_longest_28 rfl (lv_at hl 2 rfl) ?_
          refine lv_iload hx hb dX11_longest_29 (lv_at hl 4 rfl) ?_
          refine rw_v (wr := [(x, .inr (10, [.ref x_tape, .ref x_land, .ref x_images, .ref x_book, .ref x_course, .ref x_fates, .ref x_chances, .ref x_will, .ref x_slots, .ref x_seen, .ref x_drawn]))]) (va_runV (As := [.int (nI ra), .int (nI rb), .int (nI i)]) (rest := []) ⟨hx, hb, hml, hown, hts⟩ (k_fX3_find l g cI cJ cB cZ cL x_fates x_fates_yearOf vb vl vc vr v0 v1 f ra rb i H.size (by omega) (by omega) (by omega)) (cwV 3 hts (goodIn_app (g_4 (List.mem_cons_of_mem _ (List.mem_append_left _ (List.mem_of_getElem? (i := 4) rfl))) (List.mem_cons_of_mem _ (List.mem_append_left _ (List.mem_of_getElem? (i := 5) rfl))) (List.mem_cons_of_mem _ (List.mem_append_left _ (List.mem_of_getElem? (i := 6) rfl))) (List.mem_cons_of_mem _ (List.mem_append_left _ (List.mem_of_getElem? (i := 7) rfl))) (by decide +kernel)) (goodIn_sub (fun _ h => List.mem_cons_of_mem _ (List.mem_append_right _ (List.mem_append_right _ (List.mem_append_left _ h)))) good_v_fX3_find)) rfl rfl rfl (by decide +kernel) ⟨Nat.le_of_ble_eq_true rfl, Nat.le_of_ble_eq_true rfl⟩) (pv_RW (q := (RX3, TX3, 7)) (ci := 3) (q0 := 0) (wc := [(x_fates, .inr (3, [.int vb, .int vl, .int vc, .int vr, .int v0, .int v1, .ref x_fates_yearOf])), (x_fates_yearOf, .inl (cI, 16, .inl f))]) hK hP hD [1, 2] (by decide) rfl rfl rfl) rfl rfl hl.1 rfl (lv_room (Nat.le_of_ble_eq_true rfl)) dX11_longest_31 ⟨Nat.le_of_ble_eq_true rfl, Nat.le_of_ble_eq_true rfl⟩) hS hA hP hD [1, 2] [0] rfl rfl (by decide) (by decide) (fun u11 H locs hw12 hP hD hS => ?_)
          obtain ⟨u_f113, u_wb14, u_wl15, u_wc16, u_wr17⟩ := u11
          try dsimp only at hw12
          have hP : va_P g vwCl [(x, .inr (10, [.ref x_tape, .ref x_land, .ref x_images, .ref x_book, .ref x_course, .ref x_fates, .ref x_chances, .ref x_will, .ref x_slots, .ref x_seen, .ref x_drawn])), (x_fates, .inr (3, [.int u_wb14, .int u_wl15, .int u_wc16, .int u_wr17, .int (nI ra), .int (nI rb), .ref x_fates_yearOf])), (x_fates_yearOf, .inl (cI, 16, .inl u_f113))] H := hP
          have hD : va_D A [(x, .inr (10, [.ref x_tape, .ref x_land, .ref x_images, .ref x_book, .ref x_course, .ref x_fates, .ref x_chances, .ref x_will, .ref x_slots, .ref x_seen, .ref x_drawn])), (x_fates, .inr (3, [.int u_wb14, .int u_wl15, .int u_wc16, .int u_wr17, .int (nI ra), .int (nI rb), .ref x_fates_yearOf])), (x_fates_yearOf, .inl (cI, 16, .inl u_f113))] := hD
          obtain ⟨rfl, rfl, rfl, hq18⟩ := hw12
          have hP : va_P g vwCl [(x, .inr (10, [.ref x_tape, .ref x_land, .ref x_images, .ref x_book, .ref x_course, .ref x_fates, .ref x_chances, .ref x_will, .ref x_slots, .ref x_seen, .ref x_drawn])), (x_fates, .inr (3, [.int (nI (fJ ra rb i)), .int (nI (fL ra rb i)), .int (nI (fC ra rb i)), .int u_wr17, .int (nI ra), .int (nI rb), .ref x_fates_yearOf])), (x_fates_yearOf, .inl (cI, 16, .inl u_f113))] H := hP
          have hD : va_D A [(x, .inr (10, [.ref x_tape, .ref x_land, .ref x_images, .ref x_book, .ref x_course, .ref x_fates, .ref x_chances, .ref x_will, .ref x_slots, .ref x_seen, .ref x_drawn])), (x_fates, .inr (3, [.int (nI (fJ ra rb i)), .int (nI (fL ra rb i)), .int (nI (fC ra rb i)), .int u_wr17, .int (nI ra), .int (nI rb), .ref x_fates_yearOf])), (x_fates_yearOf, .inl (cI, 16, .inl u_f113))] := hD
          have hb19 := fL_le (a := ra) (b := rb) (s := i) (by omega)
          have hb19c := fC_le (a := ra) (b := rb) (s := i) (by omega)
          have hb19j := fJ_le (a := ra) (b := rb) (s := i) (by omega)
          refine lv_iload_n hx hb dX11_longest_34 rfl (lv_at hl 3 rfl) ?_
          refine lv_aload_n hx hb dX11_longest_35 rfl (lv_at hl 0 rfl) ?_
          refine va_get (D := g) (ci := 10) (v := .ref x_fates) (C := RX11) (T := TX11) (N := 11) hx hb hts iX11 hown hK hP 0 rfl rfl 5 (by decide) (hts (.fieldLink RX11 44 "CardsAtYule" "fates" "LCardsAtYule$Fate;") (List.mem_cons_of_mem _ (List.mem_append_left _ (List.mem_of_getElem? (i := 3) rfl)))) (fun _ h9 => h9) rfl dX11_longest_36 ?_
          refine va_get (D := g) (ci := 3) (v := .int (nI (fL ra rb i))) (C := RX3) (T := TX3) (N := 7) hx hb hts iX3 hown hK hP 1 rfl rfl 1 (by decide) (hts (.fieldLink RX11 250 "CardsAtYule$Fate" "length" "I") (List.mem_cons_of_mem _ (List.mem_append_left _ (List.mem_of_getElem? (i := 8) rfl)))) (fun _ h9 => h9) rfl dX11_longest_39 ?_
          refine va_mmax hx hb (hml.trans hl.1.symm) hown (hts (.methodLink RX11 251 Lib.Math.max.name) (List.mem_cons_of_mem _ (List.mem_append_left _ (List.mem_of_getElem? (i := 9) rfl)))) (hts (.static Lib.Math.max.name) (List.mem_cons_of_mem _ (List.mem_append_left _ (List.mem_of_getElem? (i := 10) rfl)))) (hts (.initialized "java/lang/Math") (List.mem_cons_of_mem _ (List.mem_append_left _ (List.mem_of_getElem? (i := 11) rfl)))) (hts (.code Lib.Math.max.name Lib.Math.max.code 2 (some .int)) (List.mem_cons_of_mem _ (List.mem_append_left _ (List.mem_of_getElem? (i := 12) rfl)))) (Nat.le_of_ble_eq_true rfl) (Nat.le_of_ble_eq_true rfl) (Nat.le_of_ble_eq_true rfl) (Nat.le_of_ble_eq_true rfl) dX11_longest_42 ?_
          refine lv_topi (nm_r (e' := nI (max n (fL ra rb i))) (nI_max (by omega) (by omega)) ?_)
          refine lv_istore_n (lv' := [(3, .int (nI (max n (fL ra rb i)))), (0, .ref x), (1, .int (nI ra)), (2, .int (nI rb)), (4, .int (nI i))]) hx hb dX11_longest_45 rfl hl (by decide) rfl (fun ls hl => ?_)
          refine lv_iinc (v := (nI (i + 1))) (lv' := [(4, .int (nI (i + 1))), (3, .int (nI (max n (fL ra rb i)))), (0, .ref x), (1, .int (nI ra)), (2, .int (nI rb))]) hx hb dX11_longest_46 hl (k := 4) rfl (nI_add i 1) (by decide) rfl (fun ls hl => ?_)
          refine lv_goto (tgt := 16) hx hb dX11_longest_49 (by decide) ?_
          exact ih6 (max n (fL ra rb i)) (i + 1) _ (nI (fJ ra rb i)) (nI (fL ra rb i)) (nI (fC ra rb i)) u_wr17 (nI ra) (nI rb) _ _ _ (by omega) (by omega) (Nat.max_le.mpr ⟨by omega, by omega⟩) (by rw [hcn]; rfl) hq18 (hP.sub [0, 1, 2] rfl) (hD.sub [0, 1, 2] (by decide) rfl) hS (lv_sub hl [2, 3, 4, 1, 0] rfl)
    exact lp7 _ 0 0 _ vb vl vc vr v0 v1 _ _ _ (Nat.lt_succ_self _) (Nat.zero_le _) (Nat.zero_le _) rfl hvr (hP.sub [0, 1, 2] rfl) (hD.sub [0, 1, 2] (by decide) rfl) hS (lv_sub hl [2, 3, 4, 1, 0] rfl)
  · refine lv_if_ne (tgt := 11) hx hb dX11_longest_5 (by decide) (fun c20 => absurd c20 (by decide)) (fun _ => ?_)
    refine lv_bipush (v := (-2)) hx hb dX11_longest_8 (by decide) ?_
    have hP9 := hP.sub (ws' := [(x, .inr (10, [.ref x_tape, .ref x_land, .ref x_images, .ref x_book, .ref x_course, .ref x_fates, .ref x_chances, .ref x_will, .ref x_slots, .ref x_seen, .ref x_drawn])), (x_fates, .inr (3, [.int vb, .int vl, .int vc, .int vr, .int v0, .int v1, .ref x_fates_yearOf])), (x_fates_yearOf, .inl (cI, 16, .inl f0))]) [0, 1, 2] rfl
    have hD9 := hD.sub (ws' := [(x, .inr (10, [.ref x_tape, .ref x_land, .ref x_images, .ref x_book, .ref x_course, .ref x_fates, .ref x_chances, .ref x_will, .ref x_slots, .ref x_seen, .ref x_drawn])), (x_fates, .inr (3, [.int vb, .int vl, .int vc, .int vr, .int v0, .int v1, .ref x_fates_yearOf])), (x_fates_yearOf, .inl (cI, 16, .inl f0))]) [0, 1, 2] (by decide) rfl
    exact W.iret (v := (-2)) hx hb hr (fun t ht hW => ⟨⟨(-2), (f0, vb, vl, vc, vr, v0, v1), rfl, ⟨Or.inl ⟨rfl, by omega⟩, hvr⟩, by rw [ht]; exact hP9, va_K.moved hW.alike hK, hD9⟩, hS.F ht⟩) hS.2.2 dX11_longest_10
def v_fX3_everDies : List Cond := .code yX3_everDies cX3_everDies 4 (some .boolean) :: (([.methodLink RX3 57 yX3_find, .instanceMethod yX3_find, .selects RX3 yX3_find yX3_find, .initialized RX3, .methodLink RX3 53 yX3_kind, .instanceMethod yX3_kind, .selects RX3 yX3_kind yX3_kind] : List Cond) ++ (v_fX3_find ++ (v_fX3_kind ++ ([] : List Cond))))
theorem good_v_fX3_everDies : v_fX3_everDies.all goodWord = true := ga_c (by decide +kernel) (ga_a (by decide +kernel) (ga_a good_v_fX3_find (ga_a good_v_fX3_kind rfl)))
set_option maxHeartbeats 4000000 in
set_option maxRecDepth 100000 in
theorem k_fX3_everDies (l : Launch) (g : va_G) (cI cJ cB cZ cL : ClassId) (fa : Nat) (fy : Nat) (vb : Int32) (vl : Int32) (vc : Int32) (vr : Int32) (v0 : Int32) (v1 : Int32) (f0 : Nat → Int32) (ra : Nat) (rb : Nat) (sz : Nat) (hra : ra < 32) (hrb : rb < 32) (hvr : ir vr.toInt 0 15) : Met l yX3_everDies v_fX3_everDies ({ frames := 4, cells := 0, slots := 0, locals := 94 }) (va_Pc [.ref fa, .int (nI ra), .int (nI rb)] (pRW g (tyT cI cJ cB cZ cL) [(fa, .inr (3, [.int vb, .int vl, .int vc, .int vr, .int v0, .int v1, .ref fy])), (fy, .inl (cI, 16, .inl f0))] sz)) (va_Qi (fun (r : Int32) (u : (Nat → Int32) × Int32 × Int32 × Int32 × Int32 × Int32 × Int32) => match u with | (f1, wb, wl, wc, wr, w0, w1) => (r = 1 ∧ (dy ra rb ∧ ir wr.toInt 0 15)) ∨ (r = 0 ∧ ((¬ dy ra rb) ∧ ir wr.toInt 0 15))) (fun (u : (Nat → Int32) × Int32 × Int32 × Int32 × Int32 × Int32 × Int32) (t : State) => bRW g (tyT cI cJ cB cZ cL) (va_A [(fa, .inr (3, [.int vb, .int vl, .int vc, .int vr, .int v0, .int v1, .ref fy])), (fy, .inl (cI, 16, .inl f0))] sz) (match u with | (f1, wb, wl, wc, wr, w0, w1) => [(fa, .inr (3, [.int wb, .int wl, .int wc, .int wr, .int w0, .int w1, .ref fy])), (fy, .inl (cI, 16, .inl f1))]) t) (va_A [(fa, .inr (3, [.int vb, .int vl, .int vc, .int vr, .int v0, .int v1, .ref fy])), (fy, .inl (cI, 16, .inl f0))] sz)) 0 0 (va_A [(fa, .inr (3, [.int vb, .int vl, .int vc, .int vr, .int v0, .int v1, .ref fy])), (fy, .inl (cI, 16, .inl f0))] sz) := by
  refine Met.ofW (cc := cX3_everDies) (maxL := 4) (ret := (some .boolean)) (by decide) rfl ?_
  intro p e s m args below meth c s₁ B hml hv
  obtain ⟨rfl, hsz, hP, hK, hD0⟩ := hv
  have hx := B.exec
  have hb := B.bytes
  have hr := B.returns
  have hts := atoms_spec (ws := v_fX3_everDies) B.pre
  have hown : s.vm.findClass RX3 = some m.cls := findClass_of_methodNamed B.named
  have hlocks := B.notSynchronized
  subst hsz
  have hD := hD0.self (sz := s.heap.size)
  generalize hAe : (va_A [(fa, .inr (3, [.int vb, .int vl, .int vc, .int vr, .int v0, .int v1, .ref fy])), (fy, .inl (cI, 16, .inl f0))] s.heap.size) = A at hD ⊢
  have hA : ∀ q : Nat, s.heap.size ≤ q → A q := fun q h => by rw [← hAe]; exact Or.inr h
  have hS : va_S A s.heap s.heap [] := va_S.rf
  have hl := lv_entry ([.ref fa, .int (nI ra), .int (nI rb)]) (n := 4) (Nat.le_of_ble_eq_true rfl)
  rw [lg_entry_eq]
  generalize (lg_sl ([.ref fa, .int (nI ra), .int (nI rb)]) ++ List.replicate (4 - (lg_sl ([.ref fa, .int (nI ra), .int (nI rb)])).length) Slot.unset).toArray = ls at hl ⊢
  have hl : lv_has ls 4 [(0, .ref fa), (1, .int (nI ra)), (2, .int (nI rb))] := hl
  have hP : va_P g vwCl [(fa, .inr (3, [.int vb, .int vl, .int vc, .int vr, .int v0, .int v1, .ref fy])), (fy, .inl (cI, 16, .inl f0))] s.heap := hP
  refine lv_iconst (v := 0) hx hb dX3_everDies_0 (by decide) ?_
  refine lv_istore_n (lv' := [(3, .int 0), (0, .ref fa), (1, .int (nI ra)), (2, .int (nI rb))]) hx hb dX3_everDies_1 rfl hl (by decide) rfl (fun ls hl => ?_)
  have lp3 : ∀ (n1 : Nat) (i : Nat) (f : Nat → Int32) (xvb : Int32) (xvl : Int32) (xvc : Int32) (xvr : Int32) (xv0 : Int32) (xv1 : Int32) (H : Heap) (locs : List Loc) (ls : Array Slot), 16 - i < n1 → (i ≤ 16) → (∀ t, t < i → fK ra rb t ≠ 0) → (ir xvr.toInt 0 15) → va_P g vwCl [(fa, .inr (3, [.int xvb, .int xvl, .int xvc, .int xvr, .int xv0, .int xv1, .ref fy])), (fy, .inl (cI, 16, .inl f))] H → va_D A [(fa, .inr (3, [.int xvb, .int xvl, .int xvc, .int xvr, .int xv0, .int xv1, .ref fy])), (fy, .inl (cI, 16, .inl f))] → va_S A s.heap H locs → lv_has ls 4 [(0, .ref fa), (1, .int (nI ra)), (2, .int (nI rb)), (3, .int (nI i))] → W p l e (headSpec v_fX3_everDies ({ frames := 4, cells := 0, slots := 0, locals := 94 })).room s m ([.ref fa, .int (nI ra), .int (nI rb)] : List Value).toArray below meth c H locs 0 0 (MQ below (va_Qi (fun (r : Int32) (u : (Nat → Int32) × Int32 × Int32 × Int32 × Int32 × Int32 × Int32) => match u with | (f1, wb, wl, wc, wr, w0, w1) => (r = 1 ∧ (dy ra rb ∧ ir wr.toInt 0 15)) ∨ (r = 0 ∧ ((¬ dy ra rb) ∧ ir wr.toInt 0 15))) (fun (u : (Nat → Int32) × Int32 × Int32 × Int32 × Int32 × Int32 × Int32) (t : State) => bRW g (tyT cI cJ cB cZ cL) A (match u with | (f1, wb, wl, wc, wr, w0, w1) => [(fa, .inr (3, [.int wb, .int wl, .int wc, .int wr, .int w0, .int w1, .ref fy])), (fy, .inl (cI, 16, .inl f1))]) t) A) ([.ref fa, .int (nI ra), .int (nI rb)] : List Value).toArray s 0 0 A) (F0 m 2 ls []) := by
    intro n1
    induction n1 with
    | zero => exact fun i f xvb xvl xvc xvr xv0 xv1 H locs ls hn => absurd hn (Nat.not_lt_zero _)
    | succ n1 ih2 =>
      intro i f xvb xvl xvc xvr xv0 xv1 H locs ls hn hi hno hxr hP hD hS hl
      refine lv_iload_n hx hb dX3_everDies_2 rfl (lv_at hl 3 rfl) ?_
      refine lv_bipush (v := 16) hx hb dX3_everDies_3 (by decide) ?_
      refine lv_icmp_ge (tgt := 30) hx hb dX3_everDies_5 (by decide) (fun c4 => ?_) (fun c4 => ?_)
      · have f5 := (show 16 ≤ (i : Int) from z_le rfl (nI_toInt (n := i) (by omega)) c4)
        refine lv_iconst (v := 0) hx hb dX3_everDies_30 (by decide) ?_
        have hP9 := hP.sub (ws' := [(fa, .inr (3, [.int xvb, .int xvl, .int xvc, .int xvr, .int xv0, .int xv1, .ref fy])), (fy, .inl (cI, 16, .inl f))]) [0, 1] rfl
        have hD9 := hD.sub (ws' := [(fa, .inr (3, [.int xvb, .int xvl, .int xvc, .int xvr, .int xv0, .int xv1, .ref fy])), (fy, .inl (cI, 16, .inl f))]) [0, 1] (by decide) rfl
        exact W.zret (v := 0) hx hb hr rfl (fun t ht hW => ⟨⟨0, (f, xvb, xvl, xvc, xvr, xv0, xv1), rfl, Or.inr ⟨rfl, (fun ⟨t, ht, e⟩ => hno t (by omega) e), hxr⟩, by rw [ht]; exact hP9, va_K.moved hW.alike hK, hD9⟩, hS.F ht⟩) hS.2.2 dX3_everDies_31
      · have f5 := (show (i : Int) < 16 from z_nle rfl (nI_toInt (n := i) (by omega)) c4)
        refine lv_aload_n hx hb dX3_everDies_8 rfl (lv_at hl 0 rfl) ?_
        refine lv_iload_n hx hb dX3_everDies_9 rfl (lv_at hl 1 rfl) ?_
        refine lv_iload_n hx hb dX3_everDies_10 rfl (lv_at hl 2 rfl) ?_
        refine lv_iload_n hx hb dX3_everDies_11 rfl (lv_at hl 3 rfl) ?_
        refine rw_v (wr := []) (va_runV (As := [.int (nI ra), .int (nI rb), .int (nI i)]) (rest := []) ⟨hx, hb, hml, hown, hts⟩ (k_fX3_find l g cI cJ cB cZ cL fa fy xvb xvl xvc xvr xv0 xv1 f ra rb i H.size (by omega) (by omega) (by omega)) (cwV 3 hts (goodIn_app (g_4 (List.mem_cons_of_mem _ (List.mem_append_left _ (List.mem_of_getElem? (i := 0) rfl))) (List.mem_cons_of_mem _ (List.mem_append_left _ (List.mem_of_getElem? (i := 1) rfl))) (List.mem_cons_of_mem _ (List.mem_append_left _ (List.mem_of_getElem? (i := 2) rfl))) (List.mem_cons_of_mem _ (List.mem_append_left _ (List.mem_of_getElem? (i := 3) rfl))) (by decide +kernel)) (goodIn_sub (fun _ h => List.mem_cons_of_mem _ (List.mem_append_right _ (List.mem_append_left _ h))) good_v_fX3_find)) rfl rfl rfl (by decide +kernel) ⟨Nat.le_of_ble_eq_true rfl, Nat.le_of_ble_eq_true rfl⟩) (pv_RW (q := (RX3, TX3, 7)) (ci := 3) (q0 := 0) (wc := [(fa, .inr (3, [.int xvb, .int xvl, .int xvc, .int xvr, .int xv0, .int xv1, .ref fy])), (fy, .inl (cI, 16, .inl f))]) hK hP hD [0, 1] (by decide) rfl rfl rfl) rfl rfl hl.1 rfl (lv_room (Nat.le_of_ble_eq_true rfl)) dX3_everDies_12 ⟨Nat.le_of_ble_eq_true rfl, Nat.le_of_ble_eq_true rfl⟩) hS hA hP hD [0, 1] [] rfl rfl (by decide) (by decide) (fun u7 H locs hw8 hP hD hS => ?_)
        obtain ⟨u_f19, u_wb10, u_wl11, u_wc12, u_wr13⟩ := u7
        try dsimp only at hw8
        have hP : va_P g vwCl [(fa, .inr (3, [.int u_wb10, .int u_wl11, .int u_wc12, .int u_wr13, .int (nI ra), .int (nI rb), .ref fy])), (fy, .inl (cI, 16, .inl u_f19))] H := hP
        have hD : va_D A [(fa, .inr (3, [.int u_wb10, .int u_wl11, .int u_wc12, .int u_wr13, .int (nI ra), .int (nI rb), .ref fy])), (fy, .inl (cI, 16, .inl u_f19))] := hD
        obtain ⟨rfl, rfl, rfl, hq14⟩ := hw8
        have hP : va_P g vwCl [(fa, .inr (3, [.int (nI (fJ ra rb i)), .int (nI (fL ra rb i)), .int (nI (fC ra rb i)), .int u_wr13, .int (nI ra), .int (nI rb), .ref fy])), (fy, .inl (cI, 16, .inl u_f19))] H := hP
        have hD : va_D A [(fa, .inr (3, [.int (nI (fJ ra rb i)), .int (nI (fL ra rb i)), .int (nI (fC ra rb i)), .int u_wr13, .int (nI ra), .int (nI rb), .ref fy])), (fy, .inl (cI, 16, .inl u_f19))] := hD
        have hb15 := fL_le (a := ra) (b := rb) (s := i) (by omega)
        have hb15c := fC_le (a := ra) (b := rb) (s := i) (by omega)
        have hb15j := fJ_le (a := ra) (b := rb) (s := i) (by omega)
        refine lv_aload_n hx hb dX3_everDies_15 rfl (lv_at hl 0 rfl) ?_
        refine ro_i (va_runV (As := []) (rest := []) ⟨hx, hb, hml, hown, hts⟩ (k_fX3_kind l g cI cJ cB cZ cL fa fy (fJ ra rb i) (fL ra rb i) (fC ra rb i) u_wr13 (nI ra) (nI rb) H.size (by omega) (by omega)) (cwV 0 hts (goodIn_app (g_4 (List.mem_cons_of_mem _ (List.mem_append_left _ (List.mem_of_getElem? (i := 4) rfl))) (List.mem_cons_of_mem _ (List.mem_append_left _ (List.mem_of_getElem? (i := 5) rfl))) (List.mem_cons_of_mem _ (List.mem_append_left _ (List.mem_of_getElem? (i := 6) rfl))) (List.mem_cons_of_mem _ (List.mem_append_left _ (List.mem_of_getElem? (i := 3) rfl))) (by decide +kernel)) (goodIn_sub (fun _ h => List.mem_cons_of_mem _ (List.mem_append_right _ (List.mem_append_right _ (List.mem_append_left _ h)))) good_v_fX3_kind)) rfl rfl rfl (by decide +kernel) ⟨Nat.le_of_ble_eq_true rfl, Nat.le_of_ble_eq_true rfl⟩) (pv_RO (q := (RX3, TX3, 7)) (ci := 3) (q0 := 0) (wc := [(fa, .inr (3, [.int (nI (fJ ra rb i)), .int (nI (fL ra rb i)), .int (nI (fC ra rb i)), .int u_wr13, .int (nI ra), .int (nI rb), .ref fy]))]) hK hP [0] rfl rfl rfl) rfl rfl hl.1 rfl (lv_room (Nat.le_of_ble_eq_true rfl)) dX3_everDies_16 ⟨Nat.le_of_ble_eq_true rfl, Nat.le_of_ble_eq_true rfl⟩) hS hA hP (fun r16 u17 H locs hw18 hP hS => ?_)
        subst hw18
        refine lv_topi (nm_r (e' := nI (fK ra rb i)) rfl ?_)
        have hk9 := fK_le ra rb i
        refine lv_if_ne (tgt := 24) hx hb dX3_everDies_19 (by decide) (fun c19 => ?_) (fun c19 => ?_)
        · have f20 := (show ((fK ra rb i : Nat) : Int) ≠ 0 from z_ne (nI_toInt (n := fK ra rb i) (by omega)) rfl c19)
          refine lv_iinc (v := (nI (i + 1))) (lv' := [(3, .int (nI (i + 1))), (0, .ref fa), (1, .int (nI ra)), (2, .int (nI rb))]) hx hb dX3_everDies_24 hl (k := 3) rfl (nI_add i 1) (by decide) rfl (fun ls hl => ?_)
          refine lv_goto (tgt := 2) hx hb dX3_everDies_27 (by decide) ?_
          exact ih2 (i + 1) _ (nI (fJ ra rb i)) (nI (fL ra rb i)) (nI (fC ra rb i)) u_wr13 (nI ra) (nI rb) _ _ _ (by omega) (by omega) (fun t ht => by rcases Nat.lt_or_ge t i with q | q; exact hno t q; rw [show t = i from by omega]; omega) hq14 (hP.sub [0, 1] rfl) (hD.sub [0, 1] (by decide) rfl) hS (lv_sub hl [1, 2, 3, 0] rfl)
        · have f20 := (show ((fK ra rb i : Nat) : Int) = 0 from z_eq (nI_toInt (n := fK ra rb i) (by omega)) rfl c19)
          refine lv_iconst (v := 1) hx hb dX3_everDies_22 (by decide) ?_
          have hP9 := hP.sub (ws' := [(fa, .inr (3, [.int (nI (fJ ra rb i)), .int (nI (fL ra rb i)), .int (nI (fC ra rb i)), .int u_wr13, .int (nI ra), .int (nI rb), .ref fy])), (fy, .inl (cI, 16, .inl u_f19))]) [0, 1] rfl
          have hD9 := hD.sub (ws' := [(fa, .inr (3, [.int (nI (fJ ra rb i)), .int (nI (fL ra rb i)), .int (nI (fC ra rb i)), .int u_wr13, .int (nI ra), .int (nI rb), .ref fy])), (fy, .inl (cI, 16, .inl u_f19))]) [0, 1] (by decide) rfl
          exact W.zret (v := 1) hx hb hr rfl (fun t ht hW => ⟨⟨1, (u_f19, (nI (fJ ra rb i)), (nI (fL ra rb i)), (nI (fC ra rb i)), u_wr13, (nI ra), (nI rb)), rfl, Or.inl ⟨rfl, ⟨i, by omega, by omega⟩, hq14⟩, by rw [ht]; exact hP9, va_K.moved hW.alike hK, hD9⟩, hS.F ht⟩) hS.2.2 dX3_everDies_23
  exact lp3 _ 0 _ vb vl vc vr v0 v1 _ _ _ (Nat.lt_succ_self _) (Nat.zero_le _) (fun t ht => absurd ht (Nat.not_lt_zero _)) hvr (hP.sub [0, 1] rfl) (hD.sub [0, 1] (by decide) rfl) hS (lv_sub hl [1, 2, 3, 0] rfl)
def v_fX11_faithful : List Cond := .code yX11_faithful cX11_faithful 4 (some .int) :: (([.methodLink RX11 148 yX11_isBelow, .static yX11_isBelow, .initialized RX11, .fieldLink RX11 44 "CardsAtYule" "fates" "LCardsAtYule$Fate;", .methodLink RX11 256 yX3_everDies, .instanceMethod yX3_everDies, .selects RX3 yX3_everDies yX3_everDies, .initialized RX3] : List Cond) ++ (v_fX11_isBelow ++ (v_fX3_everDies ++ (wsX110 ++ ([] : List Cond)))))
theorem good_v_fX11_faithful : v_fX11_faithful.all goodWord = true := ga_c (by decide +kernel) (ga_a (by decide +kernel) (ga_a good_v_fX11_isBelow (ga_a good_v_fX3_everDies (ga_a good_wsX110 rfl))))
set_option maxHeartbeats 4000000 in
set_option maxRecDepth 100000 in
theorem k_fX11_faithful (l : Launch) (g : va_G) (cI cJ cB cZ cL : ClassId) (x : Nat) (x_tape : Nat) (x_land : Nat) (x_images : Nat) (x_book : Nat) (x_course : Nat) (x_fates : Nat) (x_chances : Nat) (x_will : Nat) (x_slots : Nat) (x_seen : Nat) (x_drawn : Nat) (x_fates_yearOf : Nat) (vb : Int32) (vl : Int32) (vc : Int32) (vr : Int32) (v0 : Int32) (v1 : Int32) (f0 : Nat → Int32) (p0 : Int32) (ip0 : Int) (sz : Nat) (hzp0 : p0.toInt = ip0) (hvr : ir vr.toInt 0 15) : Met l yX11_faithful v_fX11_faithful ({ frames := 5, cells := 0, slots := 0, locals := 117 }) (va_Pc [.ref x, .int p0] (pRW g (tyT cI cJ cB cZ cL) [(x, .inr (10, [.ref x_tape, .ref x_land, .ref x_images, .ref x_book, .ref x_course, .ref x_fates, .ref x_chances, .ref x_will, .ref x_slots, .ref x_seen, .ref x_drawn])), (x_fates, .inr (3, [.int vb, .int vl, .int vc, .int vr, .int v0, .int v1, .ref x_fates_yearOf])), (x_fates_yearOf, .inl (cI, 16, .inl f0))] sz)) (va_Qi (fun (r : Int32) (u : (Nat → Int32) × Int32 × Int32 × Int32 × Int32 × Int32 × Int32) => match u with | (f1, wb, wl, wc, wr, w0, w1) => ((r = (-2) ∧ ¬ (0 ≤ ip0 ∧ ip0 < 32)) ∨ ((0 ≤ ip0 ∧ ip0 < 32) ∧ r = nI (cP (fun t => ¬ dy ip0.toNat t) 32))) ∧ ir wr.toInt 0 15) (fun (u : (Nat → Int32) × Int32 × Int32 × Int32 × Int32 × Int32 × Int32) (t : State) => bRW g (tyT cI cJ cB cZ cL) (va_A [(x, .inr (10, [.ref x_tape, .ref x_land, .ref x_images, .ref x_book, .ref x_course, .ref x_fates, .ref x_chances, .ref x_will, .ref x_slots, .ref x_seen, .ref x_drawn])), (x_fates, .inr (3, [.int vb, .int vl, .int vc, .int vr, .int v0, .int v1, .ref x_fates_yearOf])), (x_fates_yearOf, .inl (cI, 16, .inl f0))] sz) (match u with | (f1, wb, wl, wc, wr, w0, w1) => [(x, .inr (10, [.ref x_tape, .ref x_land, .ref x_images, .ref x_book, .ref x_course, .ref x_fates, .ref x_chances, .ref x_will, .ref x_slots, .ref x_seen, .ref x_drawn])), (x_fates, .inr (3, [.int wb, .int wl, .int wc, .int wr, .int w0, .int w1, .ref x_fates_yearOf])), (x_fates_yearOf, .inl (cI, 16, .inl f1))]) t) (va_A [(x, .inr (10, [.ref x_tape, .ref x_land, .ref x_images, .ref x_book, .ref x_course, .ref x_fates, .ref x_chances, .ref x_will, .ref x_slots, .ref x_seen, .ref x_drawn])), (x_fates, .inr (3, [.int vb, .int vl, .int vc, .int vr, .int v0, .int v1, .ref x_fates_yearOf])), (x_fates_yearOf, .inl (cI, 16, .inl f0))] sz)) 0 0 (va_A [(x, .inr (10, [.ref x_tape, .ref x_land, .ref x_images, .ref x_book, .ref x_course, .ref x_fates, .ref x_chances, .ref x_will, .ref x_slots, .ref x_seen, .ref x_drawn])), (x_fates, .inr (3, [.int vb, .int vl, .int vc, .int vr, .int v0, .int v1, .ref x_fates_yearOf])), (x_fates_yearOf, .inl (cI, 16, .inl f0))] sz) := by
  refine Met.ofW (cc := cX11_faithful) (maxL := 4) (ret := (some .int)) (by decide) rfl ?_
  intro p e s m args below meth c s₁ B hml hv
  obtain ⟨rfl, hsz, hP, hK, hD0⟩ := hv
  have hx := B.exec
  have hb := B.bytes
  have hr := B.returns
  have hts := atoms_spec (ws := v_fX11_faithful) B.pre
  have hown : s.vm.findClass RX11 = some m.cls := findClass_of_methodNamed B.named
  have hlocks := B.notSynchronized
  subst hsz
  have iX11 : ∀ w ∈ wsX110, w ∈ v_fX11_faithful := (fun _ h => List.mem_cons_of_mem _ (List.mem_append_right _ (List.mem_append_right _ (List.mem_append_right _ (List.mem_append_left _ h)))))
  have hD := hD0.self (sz := s.heap.size)
  generalize hAe : (va_A [(x, .inr (10, [.ref x_tape, .ref x_land, .ref x_images, .ref x_book, .ref x_course, .ref x_fates, .ref x_chances, .ref x_will, .ref x_slots, .ref x_seen, .ref x_drawn])), (x_fates, .inr (3, [.int vb, .int vl, .int vc, .int vr, .int v0, .int v1, .ref x_fates_yearOf])), (x_fates_yearOf, .inl (cI, 16, .inl f0))] s.heap.size) = A at hD ⊢
  have hA : ∀ q : Nat, s.heap.size ≤ q → A q := fun q h => by rw [← hAe]; exact Or.inr h
  have hS : va_S A s.heap s.heap [] := va_S.rf
  have hl := lv_entry ([.ref x, .int p0]) (n := 4) (Nat.le_of_ble_eq_true rfl)
  rw [lg_entry_eq]
  generalize (lg_sl ([.ref x, .int p0]) ++ List.replicate (4 - (lg_sl ([.ref x, .int p0])).length) Slot.unset).toArray = ls at hl ⊢
  have hl : lv_has ls 4 [(0, .ref x), (1, .int p0)] := hl
  have hP : va_P g vwCl [(x, .inr (10, [.ref x_tape, .ref x_land, .ref x_images, .ref x_book, .ref x_course, .ref x_fates, .ref x_chances, .ref x_will, .ref x_slots, .ref x_seen, .ref x_drawn])), (x_fates, .inr (3, [.int vb, .int vl, .int vc, .int vr, .int v0, .int v1, .ref x_fates_yearOf])), (x_fates_yearOf, .inl (cI, 16, .inl f0))] s.heap := hP
  refine lv_iload_n hx hb dX11_faithful_0 rfl (lv_at hl 1 rfl) ?_
  refine lv_bipush (v := 32) hx hb dX11_faithful_1 (by decide) ?_
  refine ro_i (va_runS (As := [.int p0, .int 32]) (rest := []) ⟨hx, hb, hml, hown, hts⟩ (k_fX11_isBelow l g cI cJ cB cZ cL p0 32 ip0 32 s.heap.size hzp0 rfl) (va_cwS 2 hts (goodIn_app (g_3 (List.mem_cons_of_mem _ (List.mem_append_left _ (List.mem_of_getElem? (i := 0) rfl))) (List.mem_cons_of_mem _ (List.mem_append_left _ (List.mem_of_getElem? (i := 1) rfl))) (List.mem_cons_of_mem _ (List.mem_append_left _ (List.mem_of_getElem? (i := 2) rfl))) (by decide +kernel)) (goodIn_sub (fun _ h => List.mem_cons_of_mem _ (List.mem_append_right _ (List.mem_append_left _ h))) good_v_fX11_isBelow)) rfl rfl rfl (by decide +kernel) ⟨Nat.le_of_ble_eq_true rfl, Nat.le_of_ble_eq_true rfl⟩) (ps_RO (wc := []) hK hP [] rfl) rfl rfl hl.1 rfl (lv_room (Nat.le_of_ble_eq_true rfl)) dX11_faithful_3 ⟨Nat.le_of_ble_eq_true rfl, Nat.le_of_ble_eq_true rfl⟩) hS hA hP (fun r1 u2 H locs hw3 hP hS => ?_)
  rcases hw3 with ⟨rfl, hw3_0, hw3_1⟩ | ⟨rfl, hw3_0⟩
  · refine lv_if_ne (tgt := 12) hx hb dX11_faithful_6 (by decide) (fun _ => ?_) (fun c4 => absurd c4 (by decide))
    obtain ⟨ra, hra, rfl⟩ : ∃ ra : Nat, ra < 32 ∧ p0 = nI ra := natz hzp0 (by omega) (by omega) (by decide)
    have hIra : (ra : Int) = ip0 := by rw [← hzp0]; exact (nI_toInt (by omega)).symm
    refine lv_iconst (v := 0) hx hb dX11_faithful_12 (by decide) ?_
    refine lv_istore_n (lv' := [(2, .int 0), (0, .ref x), (1, .int (nI ra))]) hx hb dX11_faithful_13 rfl hl (by decide) rfl (fun ls hl => ?_)
    refine lv_iconst (v := 0) hx hb dX11_faithful_14 (by decide) ?_
    refine lv_istore_n (lv' := [(3, .int 0), (2, .int 0), (0, .ref x), (1, .int (nI ra))]) hx hb dX11_faithful_15 rfl hl (by decide) rfl (fun ls hl => ?_)
    have lp7 : ∀ (n5 : Nat) (n : Nat) (i : Nat) (f : Nat → Int32) (vb : Int32) (vl : Int32) (vc : Int32) (vr : Int32) (v0 : Int32) (v1 : Int32) (H : Heap) (locs : List Loc) (ls : Array Slot), 32 - i < n5 → (i ≤ 32) → (n ≤ i) → (n = cP (fun t => ¬ dy ra t) i) → (ir vr.toInt 0 15) → va_P g vwCl [(x, .inr (10, [.ref x_tape, .ref x_land, .ref x_images, .ref x_book, .ref x_course, .ref x_fates, .ref x_chances, .ref x_will, .ref x_slots, .ref x_seen, .ref x_drawn])), (x_fates, .inr (3, [.int vb, .int vl, .int vc, .int vr, .int v0, .int v1, .ref x_fates_yearOf])), (x_fates_yearOf, .inl (cI, 16, .inl f))] H → va_D A [(x, .inr (10, [.ref x_tape, .ref x_land, .ref x_images, .ref x_book, .ref x_course, .ref x_fates, .ref x_chances, .ref x_will, .ref x_slots, .ref x_seen, .ref x_drawn])), (x_fates, .inr (3, [.int vb, .int vl, .int vc, .int vr, .int v0, .int v1, .ref x_fates_yearOf])), (x_fates_yearOf, .inl (cI, 16, .inl f))] → va_S A s.heap H locs → lv_has ls 4 [(0, .ref x), (1, .int (nI ra)), (2, .int (nI n)), (3, .int (nI i))] → W p l e (headSpec v_fX11_faithful ({ frames := 5, cells := 0, slots := 0, locals := 117 })).room s m ([.ref x, .int (nI ra)] : List Value).toArray below meth c H locs 0 0 (MQ below (va_Qi (fun (r : Int32) (u : (Nat → Int32) × Int32 × Int32 × Int32 × Int32 × Int32 × Int32) => match u with | (f1, wb, wl, wc, wr, w0, w1) => ((r = (-2) ∧ ¬ (0 ≤ ip0 ∧ ip0 < 32)) ∨ ((0 ≤ ip0 ∧ ip0 < 32) ∧ r = nI (cP (fun t => ¬ dy ip0.toNat t) 32))) ∧ ir wr.toInt 0 15) (fun (u : (Nat → Int32) × Int32 × Int32 × Int32 × Int32 × Int32 × Int32) (t : State) => bRW g (tyT cI cJ cB cZ cL) A (match u with | (f1, wb, wl, wc, wr, w0, w1) => [(x, .inr (10, [.ref x_tape, .ref x_land, .ref x_images, .ref x_book, .ref x_course, .ref x_fates, .ref x_chances, .ref x_will, .ref x_slots, .ref x_seen, .ref x_drawn])), (x_fates, .inr (3, [.int wb, .int wl, .int wc, .int wr, .int w0, .int w1, .ref x_fates_yearOf])), (x_fates_yearOf, .inl (cI, 16, .inl f1))]) t) A) ([.ref x, .int (nI ra)] : List Value).toArray s 0 0 A) (F0 m 16 ls []) := by
      intro n5
      induction n5 with
      | zero => exact fun n i f vb vl vc vr v0 v1 H locs ls hn => absurd hn (Nat.not_lt_zero _)
      | succ n5 ih6 =>
        intro n i f vb vl vc vr v0 v1 H locs ls hn hi hnn hcn hvr hP hD hS hl
        refine lv_iload_n hx hb dX11_faithful_16 rfl (lv_at hl 3 rfl) ?_
        refine lv_bipush (v := 32) hx hb dX11_faithful_17 (by decide) ?_
        refine lv_icmp_ge (tgt := 43) hx hb dX11_faithful_19 (by decide) (fun c8 => ?_) (fun c8 => ?_)
        · have f9 := (show 32 ≤ (i : Int) from z_le rfl (nI_toInt (n := i) (by omega)) c8)
          refine lv_iload_n hx hb dX11_faithful_43 rfl (lv_at hl 2 rfl) ?_
          have hP9 := hP.sub (ws' := [(x, .inr (10, [.ref x_tape, .ref x_land, .ref x_images, .ref x_book, .ref x_course, .ref x_fates, .ref x_chances, .ref x_will, .ref x_slots, .ref x_seen, .ref x_drawn])), (x_fates, .inr (3, [.int vb, .int vl, .int vc, .int vr, .int v0, .int v1, .ref x_fates_yearOf])), (x_fates_yearOf, .inl (cI, 16, .inl f))]) [0, 1, 2] rfl
          have hD9 := hD.sub (ws' := [(x, .inr (10, [.ref x_tape, .ref x_land, .ref x_images, .ref x_book, .ref x_course, .ref x_fates, .ref x_chances, .ref x_will, .ref x_slots, .ref x_seen, .ref x_drawn])), (x_fates, .inr (3, [.int vb, .int vl, .int vc, .int vr, .int v0, .int v1, .ref x_fates_yearOf])), (x_fates_yearOf, .inl (cI, 16, .inl f))]) [0, 1, 2] (by decide) rfl
          exact W.iret (v := (nI n)) hx hb hr (fun t ht hW => ⟨⟨(nI n), (f, vb, vl, vc, vr, v0, v1), rfl, ⟨Or.inr ⟨by omega, by rw [show ip0.toNat = ra from by omega]; rw [hcn, show i = 32 from by omega]⟩, hvr⟩, by rw [ht]; exact hP9, va_K.moved hW.alike hK, hD9⟩, hS.F ht⟩) hS.2.2 dX11_faithful_44
        · have f9 := (show (i : Int) < 32 from z_nle rfl (nI_toInt (n := i) (by omega)) c8)
          refine lv_aload_n hx hb dX11_faithful_22 rfl (lv_at hl 0 rfl) ?_
          refine va_get (D := g) (ci := 10) (v := .ref x_fates) (C := RX11) (T := TX11) (N := 11) hx hb hts iX11 hown hK hP 0 rfl rfl 5 (by decide) (hts (.fieldLink RX11 44 "CardsAtYule" "fates" "LCardsAtYule$Fate;") (List.mem_cons_of_mem _ (List.mem_append_left _ (List.mem_of_getElem? (i := 3) rfl)))) (fun _ h9 => h9) rfl dX11_faithful_23 ?_
          refine lv_iload_n hx hb dX11_faithful_26 rfl (lv_at hl 1 rfl) ?_
          refine lv_iload_n hx hb dX11_faithful_27 rfl (lv_at hl 3 rfl) ?_
          refine rw_i (wr := [(x, .inr (10, [.ref x_tape, .ref x_land, .ref x_images, .ref x_book, .ref x_course, .ref x_fates, .ref x_chances, .ref x_will, .ref x_slots, .ref x_seen, .ref x_drawn]))]) (va_runV (As := [.int (nI ra), .int (nI i)]) (rest := []) ⟨hx, hb, hml, hown, hts⟩ (k_fX3_everDies l g cI cJ cB cZ cL x_fates x_fates_yearOf vb vl vc vr v0 v1 f ra i H.size (by omega) (by omega) (by omega)) (cwV 2 hts (goodIn_app (g_4 (List.mem_cons_of_mem _ (List.mem_append_left _ (List.mem_of_getElem? (i := 4) rfl))) (List.mem_cons_of_mem _ (List.mem_append_left _ (List.mem_of_getElem? (i := 5) rfl))) (List.mem_cons_of_mem _ (List.mem_append_left _ (List.mem_of_getElem? (i := 6) rfl))) (List.mem_cons_of_mem _ (List.mem_append_left _ (List.mem_of_getElem? (i := 7) rfl))) (by decide +kernel)) (goodIn_sub (fun _ h => List.mem_cons_of_mem _ (List.mem_append_right _ (List.mem_append_right _ (List.mem_append_left _ h)))) good_v_fX3_everDies)) rfl rfl rfl (by decide +kernel) ⟨Nat.le_of_ble_eq_true rfl, Nat.le_of_ble_eq_true rfl⟩) (pv_RW (q := (RX3, TX3, 7)) (ci := 3) (q0 := 0) (wc := [(x_fates, .inr (3, [.int vb, .int vl, .int vc, .int vr, .int v0, .int v1, .ref x_fates_yearOf])), (x_fates_yearOf, .inl (cI, 16, .inl f))]) hK hP hD [1, 2] (by decide) rfl rfl rfl) rfl rfl hl.1 rfl (lv_room (Nat.le_of_ble_eq_true rfl)) dX11_faithful_28 ⟨Nat.le_of_ble_eq_true rfl, Nat.le_of_ble_eq_true rfl⟩) hS hA hP hD [1, 2] [0] rfl rfl (by decide) (by decide) (fun r10 u11 H locs hw12 hP hD hS => ?_)
          obtain ⟨u_f113, u_wb14, u_wl15, u_wc16, u_wr17, u_w018, u_w119⟩ := u11
          try dsimp only at hw12
          have hP : va_P g vwCl [(x, .inr (10, [.ref x_tape, .ref x_land, .ref x_images, .ref x_book, .ref x_course, .ref x_fates, .ref x_chances, .ref x_will, .ref x_slots, .ref x_seen, .ref x_drawn])), (x_fates, .inr (3, [.int u_wb14, .int u_wl15, .int u_wc16, .int u_wr17, .int u_w018, .int u_w119, .ref x_fates_yearOf])), (x_fates_yearOf, .inl (cI, 16, .inl u_f113))] H := hP
          have hD : va_D A [(x, .inr (10, [.ref x_tape, .ref x_land, .ref x_images, .ref x_book, .ref x_course, .ref x_fates, .ref x_chances, .ref x_will, .ref x_slots, .ref x_seen, .ref x_drawn])), (x_fates, .inr (3, [.int u_wb14, .int u_wl15, .int u_wc16, .int u_wr17, .int u_w018, .int u_w119, .ref x_fates_yearOf])), (x_fates_yearOf, .inl (cI, 16, .inl u_f113))] := hD
          rcases hw12 with ⟨rfl, hw12_0⟩ | ⟨rfl, hw12_0⟩
          · refine lv_if_ne (tgt := 37) hx hb dX11_faithful_31 (by decide) (fun _ => ?_) (fun c20 => absurd c20 (by decide))
            refine lv_iinc (v := (nI (i + 1))) (lv' := [(3, .int (nI (i + 1))), (0, .ref x), (1, .int (nI ra)), (2, .int (nI n))]) hx hb dX11_faithful_37 hl (k := 3) rfl (nI_add i 1) (by decide) rfl (fun ls hl => ?_)
            refine lv_goto (tgt := 16) hx hb dX11_faithful_40 (by decide) ?_
            exact ih6 n (i + 1) _ u_wb14 u_wl15 u_wc16 u_wr17 u_w018 u_w119 _ _ _ (by omega) (by omega) (by omega) (by rw [hcn]; exact cP_f (p := fun t => ¬ dy ra t) (fun h => h hw12_0.1)) hw12_0.2 (hP.sub [0, 1, 2] rfl) (hD.sub [0, 1, 2] (by decide) rfl) hS (lv_sub hl [1, 2, 3, 0] rfl)
          · refine lv_if_ne (tgt := 37) hx hb dX11_faithful_31 (by decide) (fun c21 => absurd c21 (by decide)) (fun _ => ?_)
            refine lv_iinc (v := (nI (n + 1))) (lv' := [(2, .int (nI (n + 1))), (0, .ref x), (1, .int (nI ra)), (3, .int (nI i))]) hx hb dX11_faithful_34 hl (k := 2) rfl (nI_add n 1) (by decide) rfl (fun ls hl => ?_)
            refine lv_iinc (v := (nI (i + 1))) (lv' := [(3, .int (nI (i + 1))), (2, .int (nI (n + 1))), (0, .ref x), (1, .int (nI ra))]) hx hb dX11_faithful_37 hl (k := 3) rfl (nI_add i 1) (by decide) rfl (fun ls hl => ?_)
            refine lv_goto (tgt := 16) hx hb dX11_faithful_40 (by decide) ?_
            exact ih6 (n + 1) (i + 1) _ u_wb14 u_wl15 u_wc16 u_wr17 u_w018 u_w119 _ _ _ (by omega) (by omega) (by omega) (by rw [hcn]; exact cP_t (p := fun t => ¬ dy ra t) hw12_0.1) hw12_0.2 (hP.sub [0, 1, 2] rfl) (hD.sub [0, 1, 2] (by decide) rfl) hS (lv_sub hl [2, 3, 1, 0] rfl)
    exact lp7 _ 0 0 _ vb vl vc vr v0 v1 _ _ _ (Nat.lt_succ_self _) (Nat.zero_le _) (Nat.le_refl _) rfl hvr (hP.sub [0, 1, 2] rfl) (hD.sub [0, 1, 2] (by decide) rfl) hS (lv_sub hl [2, 3, 1, 0] rfl)
  · refine lv_if_ne (tgt := 12) hx hb dX11_faithful_6 (by decide) (fun c22 => absurd c22 (by decide)) (fun _ => ?_)
    refine lv_bipush (v := (-2)) hx hb dX11_faithful_9 (by decide) ?_
    have hP9 := hP.sub (ws' := [(x, .inr (10, [.ref x_tape, .ref x_land, .ref x_images, .ref x_book, .ref x_course, .ref x_fates, .ref x_chances, .ref x_will, .ref x_slots, .ref x_seen, .ref x_drawn])), (x_fates, .inr (3, [.int vb, .int vl, .int vc, .int vr, .int v0, .int v1, .ref x_fates_yearOf])), (x_fates_yearOf, .inl (cI, 16, .inl f0))]) [0, 1, 2] rfl
    have hD9 := hD.sub (ws' := [(x, .inr (10, [.ref x_tape, .ref x_land, .ref x_images, .ref x_book, .ref x_course, .ref x_fates, .ref x_chances, .ref x_will, .ref x_slots, .ref x_seen, .ref x_drawn])), (x_fates, .inr (3, [.int vb, .int vl, .int vc, .int vr, .int v0, .int v1, .ref x_fates_yearOf])), (x_fates_yearOf, .inl (cI, 16, .inl f0))]) [0, 1, 2] (by decide) rfl
    exact W.iret (v := (-2)) hx hb hr (fun t ht hW => ⟨⟨(-2), (f0, vb, vl, vc, vr, v0, v1), rfl, ⟨Or.inl ⟨rfl, by omega⟩, hvr⟩, by rw [ht]; exact hP9, va_K.moved hW.alike hK, hD9⟩, hS.F ht⟩) hS.2.2 dX11_faithful_11
def v_fX12_isRule : List Cond := .code yX12_isRule cX12_isRule 1 (some .boolean) :: (([.constantLong RX12 271 (31), .methodLink RX12 112 yX12_in, .static yX12_in, .initialized RX12] : List Cond) ++ (v_fX12_in ++ ([] : List Cond)))
theorem good_v_fX12_isRule : v_fX12_isRule.all goodWord = true := ga_c (by decide +kernel) (ga_a (by decide +kernel) (ga_a good_v_fX12_in rfl))
set_option maxHeartbeats 4000000 in
set_option maxRecDepth 100000 in
theorem k_fX12_isRule (l : Launch) (g : va_G) (cI cJ cB cZ cL : ClassId) (p0 : Int32) (ip0 : Int) (sz : Nat) (hzp0 : p0.toInt = ip0) : Met l yX12_isRule v_fX12_isRule ({ frames := 1, cells := 0, slots := 0, locals := 25 }) (va_Pc [.int p0] (pRO g (tyT cI cJ cB cZ cL) [] sz)) (va_Qi (fun (r : Int32) (u : Unit) => (r = 1 ∧ (0 ≤ ip0 ∧ ip0 ≤ 31)) ∨ (r = 0 ∧ ¬ ((0 ≤ ip0 ∧ ip0 ≤ 31)))) (fun (_ : Unit) (_ : State) => True) (va_A [] sz)) 0 0 (va_A [] sz) := by
  refine Met.ofW (cc := cX12_isRule) (maxL := 1) (ret := (some .boolean)) (by decide) rfl ?_
  intro p e s m args below meth c s₁ B hml hv
  obtain ⟨rfl, hsz, hP, hK⟩ := hv
  have hx := B.exec
  have hb := B.bytes
  have hr := B.returns
  have hts := atoms_spec (ws := v_fX12_isRule) B.pre
  have hown : s.vm.findClass RX12 = some m.cls := findClass_of_methodNamed B.named
  have hlocks := B.notSynchronized
  subst hsz
  generalize hAe : (va_A [] s.heap.size) = A
  have hA : ∀ q : Nat, s.heap.size ≤ q → A q := fun q h => by rw [← hAe]; exact Or.inr h
  have hS : va_S A s.heap s.heap [] := va_S.rf
  have hl := lv_entry ([.int p0]) (n := 1) (Nat.le_of_ble_eq_true rfl)
  rw [lg_entry_eq]
  generalize (lg_sl ([.int p0]) ++ List.replicate (1 - (lg_sl ([.int p0])).length) Slot.unset).toArray = ls at hl ⊢
  have hl : lv_has ls 1 [(0, .int p0)] := hl
  have hP : va_P g vwCl [] s.heap := hP
  refine lv_iload_n hx hb dX12_isRule_0 rfl (lv_at hl 0 rfl) ?_
  refine lv_i2l (v := p0.toInt64) hx hb dX12_isRule_1 rfl ?_
  refine lv_lconst (v := 0) hx hb dX12_isRule_2 (by decide) ?_
  refine lv_ldc2 (v := 31) hx hb hown (hts (.constantLong RX12 271 (31)) (List.mem_cons_of_mem _ (List.mem_append_left _ (List.mem_of_getElem? (i := 0) rfl)))) dX12_isRule_3 ?_
  refine ro_i (va_runS (As := [.long p0.toInt64, .long 0, .long 31]) (rest := []) ⟨hx, hb, hml, hown, hts⟩ (k_fX12_in l g cI cJ cB cZ cL p0.toInt64 0 31 ip0 0 31 s.heap.size (z_i2l hzp0) rfl rfl) (va_cwS 3 hts (goodIn_app (g_3 (List.mem_cons_of_mem _ (List.mem_append_left _ (List.mem_of_getElem? (i := 1) rfl))) (List.mem_cons_of_mem _ (List.mem_append_left _ (List.mem_of_getElem? (i := 2) rfl))) (List.mem_cons_of_mem _ (List.mem_append_left _ (List.mem_of_getElem? (i := 3) rfl))) (by decide +kernel)) (goodIn_sub (fun _ h => List.mem_cons_of_mem _ (List.mem_append_right _ (List.mem_append_left _ h))) good_v_fX12_in)) rfl rfl rfl (by decide +kernel) ⟨Nat.le_of_ble_eq_true rfl, Nat.le_of_ble_eq_true rfl⟩) (ps_RO (wc := []) hK hP [] rfl) rfl rfl hl.1 rfl (lv_room (Nat.le_of_ble_eq_true rfl)) dX12_isRule_6 ⟨Nat.le_of_ble_eq_true rfl, Nat.le_of_ble_eq_true rfl⟩) hS hA hP (fun r1 u2 H locs hw3 hP hS => ?_)
  rcases hw3 with ⟨rfl, hw3_0⟩ | ⟨rfl, hw3_0⟩
  · exact W.zret (v := 1) hx hb hr rfl (fun t ht hW => ⟨⟨1, (), rfl, Or.inl ⟨rfl, by omega⟩, trivial⟩, hS.F ht⟩) hS.2.2 dX12_isRule_9
  · exact W.zret (v := 0) hx hb hr rfl (fun t ht hW => ⟨⟨0, (), rfl, Or.inr ⟨rfl, by omega⟩, trivial⟩, hS.F ht⟩) hS.2.2 dX12_isRule_9
def v_fX12_fateOf : List Cond := .code yX12_fateOf cX12_fateOf 4 (some .int) :: (([.methodLink RX12 400 yX12_fates, .instanceMethod yX12_fates, .selects RX12 yX12_fates yX12_fates, .initialized RX12, .fieldLink RX12 397 "CardsAtYuleModel" "fate" "I"] : List Cond) ++ (v_fX12_fates ++ (wsX120 ++ ([] : List Cond))))
theorem good_v_fX12_fateOf : v_fX12_fateOf.all goodWord = true := ga_c (by decide +kernel) (ga_a (by decide +kernel) (ga_a good_v_fX12_fates (ga_a good_wsX120 rfl)))
set_option maxHeartbeats 4000000 in
set_option maxRecDepth 100000 in
theorem k_fX12_fateOf (l : Launch) (g : va_G) (cI cJ cB cZ cL : ClassId) (mo : Nat) (m_a : Nat → Nat) (m_thrown : Int32) (m_taped : Int32) (m_at : Int32) (m_token : Int32) (m_place : Int32) (m_value : Int32) (m_word : Int64) (m_bad : Int32) (m_badPlace : Int32) (m_fault : Int32) (m_faultPlace : Int32) (m_will : Int32) (m_forgot : Int32) (m_x : Int64) (m_any : Int64) (m_bothSend : Int64) (m_meanCards : Int64) (m_bestSum : Int32) (m_fitMany : Int32) (m_fitFirst : Int64) (m_fitSecond : Int64) (vb : Int32) (vr : Int32) (vc : Int32) (vf : Int32) (kc1 : Nat → Int32) (kc2 : Nat → Int32) (kc3 : Nat → Int32) (kc4 : Nat → Int32) (kc5 : Nat → Int32) (kc6 : Nat → Int32) (kc7 : Nat → Int32) (kc8 : Nat → Int32) (ra : Nat) (rb : Nat) (js : Nat) (sz : Nat) (hra : ra < 32) (hrb : rb < 32) (hjs : js < 16) : Met l yX12_fateOf v_fX12_fateOf ({ frames := 4, cells := 0, slots := 0, locals := 94 }) (va_Pc [.ref mo, .int (nI ra), .int (nI rb), .int (nI js)] (pRW g (tyT cI cJ cB cZ cL) [(mo, .inr (11, mG m_a m_thrown m_taped m_at m_token m_place m_value m_word m_bad m_badPlace m_fault m_faultPlace (-1) m_will m_forgot 0 m_x vb vr vc vf m_any m_bothSend m_meanCards m_bestSum m_fitMany m_fitFirst m_fitSecond)), ((m_a 23), .inl (cI, 2, .inl kc1)), ((m_a 24), .inl (cZ, 2, .inl kc2)), ((m_a 25), .inl (cZ, 2, .inl kc3)), ((m_a 26), .inl (cI, 2, .inl kc4)), ((m_a 27), .inl (cZ, 2, .inl kc5)), ((m_a 34), .inl (cZ, 2, .inl kc6)), ((m_a 38), .inl (cI, 16, .inl kc7)), ((m_a 39), .inl (cI, 17, .inl kc8))] sz)) (va_Qi (fun (r : Int32) (u : (Nat → Int32) × (Nat → Int32) × (Nat → Int32) × (Nat → Int32) × (Nat → Int32) × (Nat → Int32) × (Nat → Int32) × (Nat → Int32) × Int32 × Int32 × Int32 × Int32) => match u with | (h1, h2, h3, h4, h5, h6, h7, h8, wb, wr, wc, wf) => r = nI (fK ra rb js)) (fun (u : (Nat → Int32) × (Nat → Int32) × (Nat → Int32) × (Nat → Int32) × (Nat → Int32) × (Nat → Int32) × (Nat → Int32) × (Nat → Int32) × Int32 × Int32 × Int32 × Int32) (t : State) => bRW g (tyT cI cJ cB cZ cL) (va_A [(mo, .inr (11, mG m_a m_thrown m_taped m_at m_token m_place m_value m_word m_bad m_badPlace m_fault m_faultPlace (-1) m_will m_forgot 0 m_x vb vr vc vf m_any m_bothSend m_meanCards m_bestSum m_fitMany m_fitFirst m_fitSecond)), ((m_a 23), .inl (cI, 2, .inl kc1)), ((m_a 24), .inl (cZ, 2, .inl kc2)), ((m_a 25), .inl (cZ, 2, .inl kc3)), ((m_a 26), .inl (cI, 2, .inl kc4)), ((m_a 27), .inl (cZ, 2, .inl kc5)), ((m_a 34), .inl (cZ, 2, .inl kc6)), ((m_a 38), .inl (cI, 16, .inl kc7)), ((m_a 39), .inl (cI, 17, .inl kc8))] sz) (match u with | (h1, h2, h3, h4, h5, h6, h7, h8, wb, wr, wc, wf) => [(mo, .inr (11, mG m_a m_thrown m_taped m_at m_token m_place m_value m_word m_bad m_badPlace m_fault m_faultPlace (-1) m_will m_forgot 0 m_x wb wr wc wf m_any m_bothSend m_meanCards m_bestSum m_fitMany m_fitFirst m_fitSecond)), ((m_a 23), .inl (cI, 2, .inl h1)), ((m_a 24), .inl (cZ, 2, .inl h2)), ((m_a 25), .inl (cZ, 2, .inl h3)), ((m_a 26), .inl (cI, 2, .inl h4)), ((m_a 27), .inl (cZ, 2, .inl h5)), ((m_a 34), .inl (cZ, 2, .inl h6)), ((m_a 38), .inl (cI, 16, .inl h7)), ((m_a 39), .inl (cI, 17, .inl h8))]) t) (va_A [(mo, .inr (11, mG m_a m_thrown m_taped m_at m_token m_place m_value m_word m_bad m_badPlace m_fault m_faultPlace (-1) m_will m_forgot 0 m_x vb vr vc vf m_any m_bothSend m_meanCards m_bestSum m_fitMany m_fitFirst m_fitSecond)), ((m_a 23), .inl (cI, 2, .inl kc1)), ((m_a 24), .inl (cZ, 2, .inl kc2)), ((m_a 25), .inl (cZ, 2, .inl kc3)), ((m_a 26), .inl (cI, 2, .inl kc4)), ((m_a 27), .inl (cZ, 2, .inl kc5)), ((m_a 34), .inl (cZ, 2, .inl kc6)), ((m_a 38), .inl (cI, 16, .inl kc7)), ((m_a 39), .inl (cI, 17, .inl kc8))] sz)) 0 0 (va_A [(mo, .inr (11, mG m_a m_thrown m_taped m_at m_token m_place m_value m_word m_bad m_badPlace m_fault m_faultPlace (-1) m_will m_forgot 0 m_x vb vr vc vf m_any m_bothSend m_meanCards m_bestSum m_fitMany m_fitFirst m_fitSecond)), ((m_a 23), .inl (cI, 2, .inl kc1)), ((m_a 24), .inl (cZ, 2, .inl kc2)), ((m_a 25), .inl (cZ, 2, .inl kc3)), ((m_a 26), .inl (cI, 2, .inl kc4)), ((m_a 27), .inl (cZ, 2, .inl kc5)), ((m_a 34), .inl (cZ, 2, .inl kc6)), ((m_a 38), .inl (cI, 16, .inl kc7)), ((m_a 39), .inl (cI, 17, .inl kc8))] sz) := by
  refine Met.ofW (cc := cX12_fateOf) (maxL := 4) (ret := (some .int)) (by decide) rfl ?_
  intro p e s m args below meth c s₁ B hml hv
  obtain ⟨rfl, hsz, hP, hK, hD0⟩ := hv
  have hx := B.exec
  have hb := B.bytes
  have hr := B.returns
  have hts := atoms_spec (ws := v_fX12_fateOf) B.pre
  have hown : s.vm.findClass RX12 = some m.cls := findClass_of_methodNamed B.named
  have hlocks := B.notSynchronized
  subst hsz
  have iX12 : ∀ w ∈ wsX120, w ∈ v_fX12_fateOf := (fun _ h => List.mem_cons_of_mem _ (List.mem_append_right _ (List.mem_append_right _ (List.mem_append_left _ h))))
  have hD := hD0.self (sz := s.heap.size)
  generalize hAe : (va_A [(mo, .inr (11, mG m_a m_thrown m_taped m_at m_token m_place m_value m_word m_bad m_badPlace m_fault m_faultPlace (-1) m_will m_forgot 0 m_x vb vr vc vf m_any m_bothSend m_meanCards m_bestSum m_fitMany m_fitFirst m_fitSecond)), ((m_a 23), .inl (cI, 2, .inl kc1)), ((m_a 24), .inl (cZ, 2, .inl kc2)), ((m_a 25), .inl (cZ, 2, .inl kc3)), ((m_a 26), .inl (cI, 2, .inl kc4)), ((m_a 27), .inl (cZ, 2, .inl kc5)), ((m_a 34), .inl (cZ, 2, .inl kc6)), ((m_a 38), .inl (cI, 16, .inl kc7)), ((m_a 39), .inl (cI, 17, .inl kc8))] s.heap.size) = A at hD ⊢
  have hA : ∀ q : Nat, s.heap.size ≤ q → A q := fun q h => by rw [← hAe]; exact Or.inr h
  have hS : va_S A s.heap s.heap [] := va_S.rf
  have hl := lv_entry ([.ref mo, .int (nI ra), .int (nI rb), .int (nI js)]) (n := 4) (Nat.le_of_ble_eq_true rfl)
  rw [lg_entry_eq]
  generalize (lg_sl ([.ref mo, .int (nI ra), .int (nI rb), .int (nI js)]) ++ List.replicate (4 - (lg_sl ([.ref mo, .int (nI ra), .int (nI rb), .int (nI js)])).length) Slot.unset).toArray = ls at hl ⊢
  have hl : lv_has ls 4 [(0, .ref mo), (1, .int (nI ra)), (2, .int (nI rb)), (3, .int (nI js))] := hl
  have hP : va_P g vwCl [(mo, .inr (11, mG m_a m_thrown m_taped m_at m_token m_place m_value m_word m_bad m_badPlace m_fault m_faultPlace (-1) m_will m_forgot 0 m_x vb vr vc vf m_any m_bothSend m_meanCards m_bestSum m_fitMany m_fitFirst m_fitSecond)), ((m_a 23), .inl (cI, 2, .inl kc1)), ((m_a 24), .inl (cZ, 2, .inl kc2)), ((m_a 25), .inl (cZ, 2, .inl kc3)), ((m_a 26), .inl (cI, 2, .inl kc4)), ((m_a 27), .inl (cZ, 2, .inl kc5)), ((m_a 34), .inl (cZ, 2, .inl kc6)), ((m_a 38), .inl (cI, 16, .inl kc7)), ((m_a 39), .inl (cI, 17, .inl kc8))] s.heap := hP
  refine lv_aload_n hx hb dX12_fateOf_0 rfl (lv_at hl 0 rfl) ?_
  refine lv_iload_n hx hb dX12_fateOf_1 rfl (lv_at hl 1 rfl) ?_
  refine lv_iload_n hx hb dX12_fateOf_2 rfl (lv_at hl 2 rfl) ?_
  refine lv_iload_n hx hb dX12_fateOf_3 rfl (lv_at hl 3 rfl) ?_
  refine rw_v (wr := []) (va_runV (As := [.int (nI ra), .int (nI rb), .int (nI js)]) (rest := []) ⟨hx, hb, hml, hown, hts⟩ (k_fX12_fates l g cI cJ cB cZ cL mo m_a m_thrown m_taped m_at m_token m_place m_value m_word m_bad m_badPlace m_fault m_faultPlace m_will m_forgot m_x m_any m_bothSend m_meanCards m_bestSum m_fitMany m_fitFirst m_fitSecond vb vr vc vf kc1 kc2 kc3 kc4 kc5 kc6 kc7 kc8 ra rb js s.heap.size (by omega) (by omega) (by omega)) (cwV 3 hts (goodIn_app (g_4 (List.mem_cons_of_mem _ (List.mem_append_left _ (List.mem_of_getElem? (i := 0) rfl))) (List.mem_cons_of_mem _ (List.mem_append_left _ (List.mem_of_getElem? (i := 1) rfl))) (List.mem_cons_of_mem _ (List.mem_append_left _ (List.mem_of_getElem? (i := 2) rfl))) (List.mem_cons_of_mem _ (List.mem_append_left _ (List.mem_of_getElem? (i := 3) rfl))) (by decide +kernel)) (goodIn_sub (fun _ h => List.mem_cons_of_mem _ (List.mem_append_right _ (List.mem_append_left _ h))) good_v_fX12_fates)) rfl rfl rfl (by decide +kernel) ⟨Nat.le_of_ble_eq_true rfl, Nat.le_of_ble_eq_true rfl⟩) (pv_RW (q := (RX12, TX12, 56)) (ci := 11) (q0 := 0) (wc := [(mo, .inr (11, mG m_a m_thrown m_taped m_at m_token m_place m_value m_word m_bad m_badPlace m_fault m_faultPlace (-1) m_will m_forgot 0 m_x vb vr vc vf m_any m_bothSend m_meanCards m_bestSum m_fitMany m_fitFirst m_fitSecond)), ((m_a 23), .inl (cI, 2, .inl kc1)), ((m_a 24), .inl (cZ, 2, .inl kc2)), ((m_a 25), .inl (cZ, 2, .inl kc3)), ((m_a 26), .inl (cI, 2, .inl kc4)), ((m_a 27), .inl (cZ, 2, .inl kc5)), ((m_a 34), .inl (cZ, 2, .inl kc6)), ((m_a 38), .inl (cI, 16, .inl kc7)), ((m_a 39), .inl (cI, 17, .inl kc8))]) hK hP hD [0, 1, 2, 3, 4, 5, 6, 7, 8] (by decide) rfl rfl rfl) rfl rfl hl.1 rfl (lv_room (Nat.le_of_ble_eq_true rfl)) dX12_fateOf_4 ⟨Nat.le_of_ble_eq_true rfl, Nat.le_of_ble_eq_true rfl⟩) hS hA hP hD [0, 1, 2, 3, 4, 5, 6, 7, 8] [] rfl rfl (by decide) (by decide) (fun u2 H locs hw3 hP hD hS => ?_)
  obtain ⟨u_h14, u_h25, u_h36, u_h47, u_h58, u_h69, u_h710, u_h811, u_wb12, u_wr13, u_wc14, u_wf15⟩ := u2
  try dsimp only at hw3
  have hP : va_P g vwCl [(mo, .inr (11, mG m_a m_thrown m_taped m_at m_token m_place m_value m_word m_bad m_badPlace m_fault m_faultPlace (-1) m_will m_forgot 0 m_x u_wb12 u_wr13 u_wc14 u_wf15 m_any m_bothSend m_meanCards m_bestSum m_fitMany m_fitFirst m_fitSecond)), ((m_a 23), .inl (cI, 2, .inl u_h14)), ((m_a 24), .inl (cZ, 2, .inl u_h25)), ((m_a 25), .inl (cZ, 2, .inl u_h36)), ((m_a 26), .inl (cI, 2, .inl u_h47)), ((m_a 27), .inl (cZ, 2, .inl u_h58)), ((m_a 34), .inl (cZ, 2, .inl u_h69)), ((m_a 38), .inl (cI, 16, .inl u_h710)), ((m_a 39), .inl (cI, 17, .inl u_h811))] H := hP
  have hD : va_D A [(mo, .inr (11, mG m_a m_thrown m_taped m_at m_token m_place m_value m_word m_bad m_badPlace m_fault m_faultPlace (-1) m_will m_forgot 0 m_x u_wb12 u_wr13 u_wc14 u_wf15 m_any m_bothSend m_meanCards m_bestSum m_fitMany m_fitFirst m_fitSecond)), ((m_a 23), .inl (cI, 2, .inl u_h14)), ((m_a 24), .inl (cZ, 2, .inl u_h25)), ((m_a 25), .inl (cZ, 2, .inl u_h36)), ((m_a 26), .inl (cI, 2, .inl u_h47)), ((m_a 27), .inl (cZ, 2, .inl u_h58)), ((m_a 34), .inl (cZ, 2, .inl u_h69)), ((m_a 38), .inl (cI, 16, .inl u_h710)), ((m_a 39), .inl (cI, 17, .inl u_h811))] := hD
  obtain ⟨rfl, rfl, rfl, rfl⟩ := hw3
  have hP : va_P g vwCl [(mo, .inr (11, mG m_a m_thrown m_taped m_at m_token m_place m_value m_word m_bad m_badPlace m_fault m_faultPlace (-1) m_will m_forgot 0 m_x (nI (fJ ra rb js)) (nI (fL ra rb js)) (nI (fC ra rb js)) (nI (fK ra rb js)) m_any m_bothSend m_meanCards m_bestSum m_fitMany m_fitFirst m_fitSecond)), ((m_a 23), .inl (cI, 2, .inl u_h14)), ((m_a 24), .inl (cZ, 2, .inl u_h25)), ((m_a 25), .inl (cZ, 2, .inl u_h36)), ((m_a 26), .inl (cI, 2, .inl u_h47)), ((m_a 27), .inl (cZ, 2, .inl u_h58)), ((m_a 34), .inl (cZ, 2, .inl u_h69)), ((m_a 38), .inl (cI, 16, .inl u_h710)), ((m_a 39), .inl (cI, 17, .inl u_h811))] H := hP
  have hD : va_D A [(mo, .inr (11, mG m_a m_thrown m_taped m_at m_token m_place m_value m_word m_bad m_badPlace m_fault m_faultPlace (-1) m_will m_forgot 0 m_x (nI (fJ ra rb js)) (nI (fL ra rb js)) (nI (fC ra rb js)) (nI (fK ra rb js)) m_any m_bothSend m_meanCards m_bestSum m_fitMany m_fitFirst m_fitSecond)), ((m_a 23), .inl (cI, 2, .inl u_h14)), ((m_a 24), .inl (cZ, 2, .inl u_h25)), ((m_a 25), .inl (cZ, 2, .inl u_h36)), ((m_a 26), .inl (cI, 2, .inl u_h47)), ((m_a 27), .inl (cZ, 2, .inl u_h58)), ((m_a 34), .inl (cZ, 2, .inl u_h69)), ((m_a 38), .inl (cI, 16, .inl u_h710)), ((m_a 39), .inl (cI, 17, .inl u_h811))] := hD
  have hb16 := fL_le (a := ra) (b := rb) (s := js) (by omega)
  have hb16c := fC_le (a := ra) (b := rb) (s := js) (by omega)
  have hb16j := fJ_le (a := ra) (b := rb) (s := js) (by omega)
  have hb16k := fK_le ra rb js
  refine lv_aload_n hx hb dX12_fateOf_7 rfl (lv_at hl 0 rfl) ?_
  refine va_get (D := g) (ci := 11) (v := .int (nI (fK ra rb js))) (C := RX12) (T := TX12) (N := 56) hx hb hts iX12 hown hK hP 0 rfl rfl 43 (by decide) (hts (.fieldLink RX12 397 "CardsAtYuleModel" "fate" "I") (List.mem_cons_of_mem _ (List.mem_append_left _ (List.mem_of_getElem? (i := 4) rfl)))) (fun _ h9 => h9) rfl dX12_fateOf_8 ?_
  have hP9 := hP.sub (ws' := [(mo, .inr (11, mG m_a m_thrown m_taped m_at m_token m_place m_value m_word m_bad m_badPlace m_fault m_faultPlace (-1) m_will m_forgot 0 m_x (nI (fJ ra rb js)) (nI (fL ra rb js)) (nI (fC ra rb js)) (nI (fK ra rb js)) m_any m_bothSend m_meanCards m_bestSum m_fitMany m_fitFirst m_fitSecond)), ((m_a 23), .inl (cI, 2, .inl u_h14)), ((m_a 24), .inl (cZ, 2, .inl u_h25)), ((m_a 25), .inl (cZ, 2, .inl u_h36)), ((m_a 26), .inl (cI, 2, .inl u_h47)), ((m_a 27), .inl (cZ, 2, .inl u_h58)), ((m_a 34), .inl (cZ, 2, .inl u_h69)), ((m_a 38), .inl (cI, 16, .inl u_h710)), ((m_a 39), .inl (cI, 17, .inl u_h811))]) [0, 1, 2, 3, 4, 5, 6, 7, 8] rfl
  have hD9 := hD.sub (ws' := [(mo, .inr (11, mG m_a m_thrown m_taped m_at m_token m_place m_value m_word m_bad m_badPlace m_fault m_faultPlace (-1) m_will m_forgot 0 m_x (nI (fJ ra rb js)) (nI (fL ra rb js)) (nI (fC ra rb js)) (nI (fK ra rb js)) m_any m_bothSend m_meanCards m_bestSum m_fitMany m_fitFirst m_fitSecond)), ((m_a 23), .inl (cI, 2, .inl u_h14)), ((m_a 24), .inl (cZ, 2, .inl u_h25)), ((m_a 25), .inl (cZ, 2, .inl u_h36)), ((m_a 26), .inl (cI, 2, .inl u_h47)), ((m_a 27), .inl (cZ, 2, .inl u_h58)), ((m_a 34), .inl (cZ, 2, .inl u_h69)), ((m_a 38), .inl (cI, 16, .inl u_h710)), ((m_a 39), .inl (cI, 17, .inl u_h811))]) [0, 1, 2, 3, 4, 5, 6, 7, 8] (by decide) rfl
  exact W.iret (v := (nI (fK ra rb js))) hx hb hr (fun t ht hW => ⟨⟨(nI (fK ra rb js)), (u_h14, u_h25, u_h36, u_h47, u_h58, u_h69, u_h710, u_h811, (nI (fJ ra rb js)), (nI (fL ra rb js)), (nI (fC ra rb js)), (nI (fK ra rb js))), rfl, rfl, by rw [ht]; exact hP9, va_K.moved hW.alike hK, hD9⟩, hS.F ht⟩) hS.2.2 dX12_fateOf_11
def v_fX12_fateNow : List Cond := .code yX12_fateNow cX12_fateNow 2 (some .int) :: (([.fieldLink RX12 397 "CardsAtYuleModel" "fate" "I", .fieldLink RX12 391 "CardsAtYuleModel" "roundCards" "I", .fieldLink RX12 388 "CardsAtYuleModel" "round" "I", .fieldLink RX12 385 "CardsAtYuleModel" "begin" "I"] : List Cond) ++ (wsX120 ++ ([] : List Cond)))
theorem good_v_fX12_fateNow : v_fX12_fateNow.all goodWord = true := ga_c (by decide +kernel) (ga_a (by decide +kernel) (ga_a good_wsX120 rfl))
set_option maxHeartbeats 4000000 in
set_option maxRecDepth 100000 in
theorem k_fX12_fateNow (l : Launch) (g : va_G) (cI cJ cB cZ cL : ClassId) (mo : Nat) (m_a : Nat → Nat) (m_thrown : Int32) (m_taped : Int32) (m_at : Int32) (m_token : Int32) (m_place : Int32) (m_value : Int32) (m_word : Int64) (m_bad : Int32) (m_badPlace : Int32) (m_fault : Int32) (m_faultPlace : Int32) (m_will : Int32) (m_forgot : Int32) (m_x : Int64) (m_any : Int64) (m_bothSend : Int64) (m_meanCards : Int64) (m_bestSum : Int32) (m_fitMany : Int32) (m_fitFirst : Int64) (m_fitSecond : Int64) (nb : Nat) (nl : Nat) (nc : Nat) (nf : Nat) (p0 : Int32) (ip0 : Int) (sz : Nat) (hzp0 : p0.toInt = ip0) (hS_nf : nf = kd nc nl) : Met l yX12_fateNow v_fX12_fateNow ({ frames := 0, cells := 0, slots := 0, locals := 0 }) (va_Pc [.ref mo, .int p0] (pRO g (tyT cI cJ cB cZ cL) [(mo, .inr (11, mG m_a m_thrown m_taped m_at m_token m_place m_value m_word m_bad m_badPlace m_fault m_faultPlace (-1) m_will m_forgot 0 m_x (nI nb) (nI nl) (nI nc) (nI nf) m_any m_bothSend m_meanCards m_bestSum m_fitMany m_fitFirst m_fitSecond))] sz)) (va_Qi (fun (r : Int32) (u : Unit) => r = tellV nb nl nc ip0) (fun (_ : Unit) (_ : State) => True) (va_A [] sz)) 0 0 (va_A [] sz) := by
  refine Met.ofW (cc := cX12_fateNow) (maxL := 2) (ret := (some .int)) (by decide) rfl ?_
  intro p e s m args below meth c s₁ B hml hv
  obtain ⟨rfl, hsz, hP, hK⟩ := hv
  have hx := B.exec
  have hb := B.bytes
  have hr := B.returns
  have hts := atoms_spec (ws := v_fX12_fateNow) B.pre
  have hown : s.vm.findClass RX12 = some m.cls := findClass_of_methodNamed B.named
  have hlocks := B.notSynchronized
  subst hsz
  have iX12 : ∀ w ∈ wsX120, w ∈ v_fX12_fateNow := (fun _ h => List.mem_cons_of_mem _ (List.mem_append_right _ (List.mem_append_left _ h)))
  generalize hAe : (va_A [] s.heap.size) = A
  have hA : ∀ q : Nat, s.heap.size ≤ q → A q := fun q h => by rw [← hAe]; exact Or.inr h
  have hS : va_S A s.heap s.heap [] := va_S.rf
  have hl := lv_entry ([.ref mo, .int p0]) (n := 2) (Nat.le_of_ble_eq_true rfl)
  rw [lg_entry_eq]
  generalize (lg_sl ([.ref mo, .int p0]) ++ List.replicate (2 - (lg_sl ([.ref mo, .int p0])).length) Slot.unset).toArray = ls at hl ⊢
  have hl : lv_has ls 2 [(0, .ref mo), (1, .int p0)] := hl
  have hP : va_P g vwCl [(mo, .inr (11, mG m_a m_thrown m_taped m_at m_token m_place m_value m_word m_bad m_badPlace m_fault m_faultPlace (-1) m_will m_forgot 0 m_x (nI nb) (nI nl) (nI nc) (nI nf) m_any m_bothSend m_meanCards m_bestSum m_fitMany m_fitFirst m_fitSecond))] s.heap := hP
  refine lv_iload_n hx hb dX12_fateNow_0 rfl (lv_at hl 1 rfl) ?_
  refine lv_if_ne (tgt := 11) hx hb dX12_fateNow_1 (by decide) (fun c1 => ?_) (fun c1 => ?_)
  · have f2 := (show ip0 ≠ 0 from z_ne hzp0 rfl c1)
    refine lv_iload_n hx hb dX12_fateNow_11 rfl (lv_at hl 1 rfl) ?_
    refine lv_iconst (v := 1) hx hb dX12_fateNow_12 (by decide) ?_
    refine lv_icmp_ne (tgt := 23) hx hb dX12_fateNow_13 (by decide) (fun c3 => ?_) (fun c3 => ?_)
    · have f4 := (show ip0 ≠ 1 from z_ne hzp0 rfl c3)
      refine lv_iload_n hx hb dX12_fateNow_23 rfl (lv_at hl 1 rfl) ?_
      refine lv_iconst (v := 2) hx hb dX12_fateNow_24 (by decide) ?_
      refine lv_icmp_ne (tgt := 35) hx hb dX12_fateNow_25 (by decide) (fun c5 => ?_) (fun c5 => ?_)
      · have f6 := (show ip0 ≠ 2 from z_ne hzp0 rfl c5)
        refine lv_aload_n hx hb dX12_fateNow_35 rfl (lv_at hl 0 rfl) ?_
        refine va_get (D := g) (ci := 11) (v := .int (nI nf)) (C := RX12) (T := TX12) (N := 56) hx hb hts iX12 hown hK hP 0 rfl rfl 43 (by decide) (hts (.fieldLink RX12 397 "CardsAtYuleModel" "fate" "I") (List.mem_cons_of_mem _ (List.mem_append_left _ (List.mem_of_getElem? (i := 0) rfl)))) (fun _ h9 => h9) rfl dX12_fateNow_36 ?_
        exact W.iret (v := (nI nf)) hx hb hr (fun t ht hW => ⟨⟨(nI nf), (), rfl, (by unfold tellV; rw [if_neg (by omega), if_neg (by omega), if_neg (by omega), hS_nf]), trivial⟩, hS.F ht⟩) hS.2.2 dX12_fateNow_39
      · have f6 := (show ip0 = 2 from z_eq hzp0 rfl c5)
        refine lv_aload_n hx hb dX12_fateNow_28 rfl (lv_at hl 0 rfl) ?_
        refine va_get (D := g) (ci := 11) (v := .int (nI nc)) (C := RX12) (T := TX12) (N := 56) hx hb hts iX12 hown hK hP 0 rfl rfl 42 (by decide) (hts (.fieldLink RX12 391 "CardsAtYuleModel" "roundCards" "I") (List.mem_cons_of_mem _ (List.mem_append_left _ (List.mem_of_getElem? (i := 1) rfl)))) (fun _ h9 => h9) rfl dX12_fateNow_29 ?_
        refine lv_goto (tgt := 39) hx hb dX12_fateNow_32 (by decide) ?_
        exact W.iret (v := (nI nc)) hx hb hr (fun t ht hW => ⟨⟨(nI nc), (), rfl, (by unfold tellV; rw [if_neg (by omega), if_neg (by omega), if_pos (by omega)]), trivial⟩, hS.F ht⟩) hS.2.2 dX12_fateNow_39
    · have f4 := (show ip0 = 1 from z_eq hzp0 rfl c3)
      refine lv_aload_n hx hb dX12_fateNow_16 rfl (lv_at hl 0 rfl) ?_
      refine va_get (D := g) (ci := 11) (v := .int (nI nl)) (C := RX12) (T := TX12) (N := 56) hx hb hts iX12 hown hK hP 0 rfl rfl 41 (by decide) (hts (.fieldLink RX12 388 "CardsAtYuleModel" "round" "I") (List.mem_cons_of_mem _ (List.mem_append_left _ (List.mem_of_getElem? (i := 2) rfl)))) (fun _ h9 => h9) rfl dX12_fateNow_17 ?_
      refine lv_goto (tgt := 39) hx hb dX12_fateNow_20 (by decide) ?_
      exact W.iret (v := (nI nl)) hx hb hr (fun t ht hW => ⟨⟨(nI nl), (), rfl, (by unfold tellV; rw [if_neg (by omega), if_pos (by omega)]), trivial⟩, hS.F ht⟩) hS.2.2 dX12_fateNow_39
  · have f2 := (show ip0 = 0 from z_eq hzp0 rfl c1)
    refine lv_aload_n hx hb dX12_fateNow_4 rfl (lv_at hl 0 rfl) ?_
    refine va_get (D := g) (ci := 11) (v := .int (nI nb)) (C := RX12) (T := TX12) (N := 56) hx hb hts iX12 hown hK hP 0 rfl rfl 40 (by decide) (hts (.fieldLink RX12 385 "CardsAtYuleModel" "begin" "I") (List.mem_cons_of_mem _ (List.mem_append_left _ (List.mem_of_getElem? (i := 3) rfl)))) (fun _ h9 => h9) rfl dX12_fateNow_5 ?_
    refine lv_goto (tgt := 39) hx hb dX12_fateNow_8 (by decide) ?_
    exact W.iret (v := (nI nb)) hx hb hr (fun t ht hW => ⟨⟨(nI nb), (), rfl, (by unfold tellV; rw [if_pos (by omega)]), trivial⟩, hS.F ht⟩) hS.2.2 dX12_fateNow_39
def v_fX12_fate : List Cond := .code yX12_fate cX12_fate 5 (some .int) :: (([.fieldLink RX12 107 "CardsAtYuleModel" "thrown" "I", .methodLink RX12 403 yX12_isRule, .static yX12_isRule, .initialized RX12, .constantLong RX12 286 (15), .methodLink RX12 112 yX12_in, .static yX12_in, .constantLong RX12 110 (3), .methodLink RX12 400 yX12_fates, .instanceMethod yX12_fates, .selects RX12 yX12_fates yX12_fates, .methodLink RX12 406 yX12_fateNow, .instanceMethod yX12_fateNow, .selects RX12 yX12_fateNow yX12_fateNow] : List Cond) ++ (v_fX12_isRule ++ (v_fX12_in ++ (v_fX12_fates ++ (v_fX12_fateNow ++ (wsX120 ++ ([] : List Cond)))))))
theorem good_v_fX12_fate : v_fX12_fate.all goodWord = true := ga_c (by decide +kernel) (ga_a (by decide +kernel) (ga_a good_v_fX12_isRule (ga_a good_v_fX12_in (ga_a good_v_fX12_fates (ga_a good_v_fX12_fateNow (ga_a good_wsX120 rfl))))))
set_option maxHeartbeats 4000000 in
set_option maxRecDepth 100000 in
theorem k_fX12_fate (l : Launch) (g : va_G) (cI cJ cB cZ cL : ClassId) (mo : Nat) (m_a : Nat → Nat) (m_thrown : Int32) (m_taped : Int32) (m_at : Int32) (m_token : Int32) (m_place : Int32) (m_value : Int32) (m_word : Int64) (m_bad : Int32) (m_badPlace : Int32) (m_fault : Int32) (m_faultPlace : Int32) (m_will : Int32) (m_forgot : Int32) (m_x : Int64) (m_any : Int64) (m_bothSend : Int64) (m_meanCards : Int64) (m_bestSum : Int32) (m_fitMany : Int32) (m_fitFirst : Int64) (m_fitSecond : Int64) (vb : Int32) (vr : Int32) (vc : Int32) (vf : Int32) (kc1 : Nat → Int32) (kc2 : Nat → Int32) (kc3 : Nat → Int32) (kc4 : Nat → Int32) (kc5 : Nat → Int32) (kc6 : Nat → Int32) (kc7 : Nat → Int32) (kc8 : Nat → Int32) (p0 : Int32) (p1 : Int32) (p2 : Int32) (p3 : Int32) (ip0 : Int) (ip1 : Int) (ip2 : Int) (ip3 : Int) (sz : Nat) (hzp0 : p0.toInt = ip0) (hzp1 : p1.toInt = ip1) (hzp2 : p2.toInt = ip2) (hzp3 : p3.toInt = ip3) : Met l yX12_fate v_fX12_fate ({ frames := 4, cells := 0, slots := 0, locals := 94 }) (va_Pc [.ref mo, .int p0, .int p1, .int p2, .int p3] (pRW g (tyT cI cJ cB cZ cL) [(mo, .inr (11, mG m_a m_thrown m_taped m_at m_token m_place m_value m_word m_bad m_badPlace m_fault m_faultPlace (-1) m_will m_forgot 0 m_x vb vr vc vf m_any m_bothSend m_meanCards m_bestSum m_fitMany m_fitFirst m_fitSecond)), ((m_a 23), .inl (cI, 2, .inl kc1)), ((m_a 24), .inl (cZ, 2, .inl kc2)), ((m_a 25), .inl (cZ, 2, .inl kc3)), ((m_a 26), .inl (cI, 2, .inl kc4)), ((m_a 27), .inl (cZ, 2, .inl kc5)), ((m_a 34), .inl (cZ, 2, .inl kc6)), ((m_a 38), .inl (cI, 16, .inl kc7)), ((m_a 39), .inl (cI, 17, .inl kc8))] sz)) (va_Qi (fun (r : Int32) (u : (Nat → Int32) × (Nat → Int32) × (Nat → Int32) × (Nat → Int32) × (Nat → Int32) × (Nat → Int32) × (Nat → Int32) × (Nat → Int32) × Int32 × Int32 × Int32 × Int32) => match u with | (h1, h2, h3, h4, h5, h6, h7, h8, wb, wr, wc, wf) => (r = (-2) ∧ ¬ ((0 ≤ ip0 ∧ ip0 < 32) ∧ (0 ≤ ip1 ∧ ip1 < 32) ∧ (0 ≤ ip2 ∧ ip2 < 16) ∧ (0 ≤ ip3 ∧ ip3 < 4))) ∨ (((0 ≤ ip0 ∧ ip0 < 32) ∧ (0 ≤ ip1 ∧ ip1 < 32) ∧ (0 ≤ ip2 ∧ ip2 < 16) ∧ (0 ≤ ip3 ∧ ip3 < 4)) ∧ r = tellV (fJ ip0.toNat ip1.toNat ip2.toNat) (fL ip0.toNat ip1.toNat ip2.toNat) (fC ip0.toNat ip1.toNat ip2.toNat) ip3)) (fun (u : (Nat → Int32) × (Nat → Int32) × (Nat → Int32) × (Nat → Int32) × (Nat → Int32) × (Nat → Int32) × (Nat → Int32) × (Nat → Int32) × Int32 × Int32 × Int32 × Int32) (t : State) => bRW g (tyT cI cJ cB cZ cL) (va_A [(mo, .inr (11, mG m_a m_thrown m_taped m_at m_token m_place m_value m_word m_bad m_badPlace m_fault m_faultPlace (-1) m_will m_forgot 0 m_x vb vr vc vf m_any m_bothSend m_meanCards m_bestSum m_fitMany m_fitFirst m_fitSecond)), ((m_a 23), .inl (cI, 2, .inl kc1)), ((m_a 24), .inl (cZ, 2, .inl kc2)), ((m_a 25), .inl (cZ, 2, .inl kc3)), ((m_a 26), .inl (cI, 2, .inl kc4)), ((m_a 27), .inl (cZ, 2, .inl kc5)), ((m_a 34), .inl (cZ, 2, .inl kc6)), ((m_a 38), .inl (cI, 16, .inl kc7)), ((m_a 39), .inl (cI, 17, .inl kc8))] sz) (match u with | (h1, h2, h3, h4, h5, h6, h7, h8, wb, wr, wc, wf) => [(mo, .inr (11, mG m_a 0 m_taped m_at m_token m_place m_value m_word m_bad m_badPlace m_fault m_faultPlace (-1) m_will m_forgot 0 m_x wb wr wc wf m_any m_bothSend m_meanCards m_bestSum m_fitMany m_fitFirst m_fitSecond)), ((m_a 23), .inl (cI, 2, .inl h1)), ((m_a 24), .inl (cZ, 2, .inl h2)), ((m_a 25), .inl (cZ, 2, .inl h3)), ((m_a 26), .inl (cI, 2, .inl h4)), ((m_a 27), .inl (cZ, 2, .inl h5)), ((m_a 34), .inl (cZ, 2, .inl h6)), ((m_a 38), .inl (cI, 16, .inl h7)), ((m_a 39), .inl (cI, 17, .inl h8))]) t) (va_A [(mo, .inr (11, mG m_a m_thrown m_taped m_at m_token m_place m_value m_word m_bad m_badPlace m_fault m_faultPlace (-1) m_will m_forgot 0 m_x vb vr vc vf m_any m_bothSend m_meanCards m_bestSum m_fitMany m_fitFirst m_fitSecond)), ((m_a 23), .inl (cI, 2, .inl kc1)), ((m_a 24), .inl (cZ, 2, .inl kc2)), ((m_a 25), .inl (cZ, 2, .inl kc3)), ((m_a 26), .inl (cI, 2, .inl kc4)), ((m_a 27), .inl (cZ, 2, .inl kc5)), ((m_a 34), .inl (cZ, 2, .inl kc6)), ((m_a 38), .inl (cI, 16, .inl kc7)), ((m_a 39), .inl (cI, 17, .inl kc8))] sz)) 0 0 (va_A [(mo, .inr (11, mG m_a m_thrown m_taped m_at m_token m_place m_value m_word m_bad m_badPlace m_fault m_faultPlace (-1) m_will m_forgot 0 m_x vb vr vc vf m_any m_bothSend m_meanCards m_bestSum m_fitMany m_fitFirst m_fitSecond)), ((m_a 23), .inl (cI, 2, .inl kc1)), ((m_a 24), .inl (cZ, 2, .inl kc2)), ((m_a 25), .inl (cZ, 2, .inl kc3)), ((m_a 26), .inl (cI, 2, .inl kc4)), ((m_a 27), .inl (cZ, 2, .inl kc5)), ((m_a 34), .inl (cZ, 2, .inl kc6)), ((m_a 38), .inl (cI, 16, .inl kc7)), ((m_a 39), .inl (cI, 17, .inl kc8))] sz) := by
  refine Met.ofW (cc := cX12_fate) (maxL := 5) (ret := (some .int)) (by decide) rfl ?_
  intro p e s m args below meth c s₁ B hml hv
  obtain ⟨rfl, hsz, hP, hK, hD0⟩ := hv
  have hx := B.exec
  have hb := B.bytes
  have hr := B.returns
  have hts := atoms_spec (ws := v_fX12_fate) B.pre
  have hown : s.vm.findClass RX12 = some m.cls := findClass_of_methodNamed B.named
  have hlocks := B.notSynchronized
  subst hsz
  have iX12 : ∀ w ∈ wsX120, w ∈ v_fX12_fate := (fun _ h => List.mem_cons_of_mem _ (List.mem_append_right _ (List.mem_append_right _ (List.mem_append_right _ (List.mem_append_right _ (List.mem_append_right _ (List.mem_append_left _ h)))))))
  have hD := hD0.self (sz := s.heap.size)
  generalize hAe : (va_A [(mo, .inr (11, mG m_a m_thrown m_taped m_at m_token m_place m_value m_word m_bad m_badPlace m_fault m_faultPlace (-1) m_will m_forgot 0 m_x vb vr vc vf m_any m_bothSend m_meanCards m_bestSum m_fitMany m_fitFirst m_fitSecond)), ((m_a 23), .inl (cI, 2, .inl kc1)), ((m_a 24), .inl (cZ, 2, .inl kc2)), ((m_a 25), .inl (cZ, 2, .inl kc3)), ((m_a 26), .inl (cI, 2, .inl kc4)), ((m_a 27), .inl (cZ, 2, .inl kc5)), ((m_a 34), .inl (cZ, 2, .inl kc6)), ((m_a 38), .inl (cI, 16, .inl kc7)), ((m_a 39), .inl (cI, 17, .inl kc8))] s.heap.size) = A at hD ⊢
  have hA : ∀ q : Nat, s.heap.size ≤ q → A q := fun q h => by rw [← hAe]; exact Or.inr h
  have hS : va_S A s.heap s.heap [] := va_S.rf
  have hl := lv_entry ([.ref mo, .int p0, .int p1, .int p2, .int p3]) (n := 5) (Nat.le_of_ble_eq_true rfl)
  rw [lg_entry_eq]
  generalize (lg_sl ([.ref mo, .int p0, .int p1, .int p2, .int p3]) ++ List.replicate (5 - (lg_sl ([.ref mo, .int p0, .int p1, .int p2, .int p3])).length) Slot.unset).toArray = ls at hl ⊢
  have hl : lv_has ls 5 [(0, .ref mo), (1, .int p0), (2, .int p1), (3, .int p2), (4, .int p3)] := hl
  have hP : va_P g vwCl [(mo, .inr (11, mG m_a m_thrown m_taped m_at m_token m_place m_value m_word m_bad m_badPlace m_fault m_faultPlace (-1) m_will m_forgot 0 m_x vb vr vc vf m_any m_bothSend m_meanCards m_bestSum m_fitMany m_fitFirst m_fitSecond)), ((m_a 23), .inl (cI, 2, .inl kc1)), ((m_a 24), .inl (cZ, 2, .inl kc2)), ((m_a 25), .inl (cZ, 2, .inl kc3)), ((m_a 26), .inl (cI, 2, .inl kc4)), ((m_a 27), .inl (cZ, 2, .inl kc5)), ((m_a 34), .inl (cZ, 2, .inl kc6)), ((m_a 38), .inl (cI, 16, .inl kc7)), ((m_a 39), .inl (cI, 17, .inl kc8))] s.heap := hP
  refine lv_aload_n hx hb dX12_fate_0 rfl (lv_at hl 0 rfl) ?_
  refine lv_iconst (v := 0) hx hb dX12_fate_1 (by decide) ?_
  refine va_put (D := g) (ci := 11) (v := .int 0) (ty := .int) (C := RX12) (T := TX12) (N := 56) hx hb hts iX12 tyX12 tyX12_ok nmX12 hown hK hP hD hS 0 rfl rfl 0 (by decide) (hts (.fieldLink RX12 107 "CardsAtYuleModel" "thrown" "I") (List.mem_cons_of_mem _ (List.mem_append_left _ (List.mem_of_getElem? (i := 0) rfl)))) (fun _ h9 => h9) rfl (by decide +kernel) rfl rfl (Nat.le_of_ble_eq_true rfl) dX12_fate_2 (fun H locs hP hD hS => ?_)
  have hP : va_P g vwCl [(mo, .inr (11, mG m_a 0 m_taped m_at m_token m_place m_value m_word m_bad m_badPlace m_fault m_faultPlace (-1) m_will m_forgot 0 m_x vb vr vc vf m_any m_bothSend m_meanCards m_bestSum m_fitMany m_fitFirst m_fitSecond)), ((m_a 23), .inl (cI, 2, .inl kc1)), ((m_a 24), .inl (cZ, 2, .inl kc2)), ((m_a 25), .inl (cZ, 2, .inl kc3)), ((m_a 26), .inl (cI, 2, .inl kc4)), ((m_a 27), .inl (cZ, 2, .inl kc5)), ((m_a 34), .inl (cZ, 2, .inl kc6)), ((m_a 38), .inl (cI, 16, .inl kc7)), ((m_a 39), .inl (cI, 17, .inl kc8))] H := hP
  have hD : va_D A [(mo, .inr (11, mG m_a 0 m_taped m_at m_token m_place m_value m_word m_bad m_badPlace m_fault m_faultPlace (-1) m_will m_forgot 0 m_x vb vr vc vf m_any m_bothSend m_meanCards m_bestSum m_fitMany m_fitFirst m_fitSecond)), ((m_a 23), .inl (cI, 2, .inl kc1)), ((m_a 24), .inl (cZ, 2, .inl kc2)), ((m_a 25), .inl (cZ, 2, .inl kc3)), ((m_a 26), .inl (cI, 2, .inl kc4)), ((m_a 27), .inl (cZ, 2, .inl kc5)), ((m_a 34), .inl (cZ, 2, .inl kc6)), ((m_a 38), .inl (cI, 16, .inl kc7)), ((m_a 39), .inl (cI, 17, .inl kc8))] := hD
  refine lv_iload_n hx hb dX12_fate_5 rfl (lv_at hl 1 rfl) ?_
  refine ro_i (va_runS (As := [.int p0]) (rest := []) ⟨hx, hb, hml, hown, hts⟩ (k_fX12_isRule l g cI cJ cB cZ cL p0 ip0 H.size hzp0) (va_cwS 1 hts (goodIn_app (g_3 (List.mem_cons_of_mem _ (List.mem_append_left _ (List.mem_of_getElem? (i := 1) rfl))) (List.mem_cons_of_mem _ (List.mem_append_left _ (List.mem_of_getElem? (i := 2) rfl))) (List.mem_cons_of_mem _ (List.mem_append_left _ (List.mem_of_getElem? (i := 3) rfl))) (by decide +kernel)) (goodIn_sub (fun _ h => List.mem_cons_of_mem _ (List.mem_append_right _ (List.mem_append_left _ h))) good_v_fX12_isRule)) rfl rfl rfl (by decide +kernel) ⟨Nat.le_of_ble_eq_true rfl, Nat.le_of_ble_eq_true rfl⟩) (ps_RO (wc := []) hK hP [] rfl) rfl rfl hl.1 rfl (lv_room (Nat.le_of_ble_eq_true rfl)) dX12_fate_6 ⟨Nat.le_of_ble_eq_true rfl, Nat.le_of_ble_eq_true rfl⟩) hS hA hP (fun r1 u2 H locs hw3 hP hS => ?_)
  rcases hw3 with ⟨rfl, hw3_0⟩ | ⟨rfl, hw3_0⟩
  · refine lv_if_eq (tgt := 44) hx hb dX12_fate_9 (by decide) (fun c4 => absurd c4 (by decide)) (fun _ => ?_)
    refine lv_iload_n hx hb dX12_fate_12 rfl (lv_at hl 2 rfl) ?_
    refine ro_i (va_runS (As := [.int p1]) (rest := []) ⟨hx, hb, hml, hown, hts⟩ (k_fX12_isRule l g cI cJ cB cZ cL p1 ip1 H.size hzp1) (va_cwS 1 hts (goodIn_app (g_3 (List.mem_cons_of_mem _ (List.mem_append_left _ (List.mem_of_getElem? (i := 1) rfl))) (List.mem_cons_of_mem _ (List.mem_append_left _ (List.mem_of_getElem? (i := 2) rfl))) (List.mem_cons_of_mem _ (List.mem_append_left _ (List.mem_of_getElem? (i := 3) rfl))) (by decide +kernel)) (goodIn_sub (fun _ h => List.mem_cons_of_mem _ (List.mem_append_right _ (List.mem_append_left _ h))) good_v_fX12_isRule)) rfl rfl rfl (by decide +kernel) ⟨Nat.le_of_ble_eq_true rfl, Nat.le_of_ble_eq_true rfl⟩) (ps_RO (wc := []) hK hP [] rfl) rfl rfl hl.1 rfl (lv_room (Nat.le_of_ble_eq_true rfl)) dX12_fate_13 ⟨Nat.le_of_ble_eq_true rfl, Nat.le_of_ble_eq_true rfl⟩) hS hA hP (fun r5 u6 H locs hw7 hP hS => ?_)
    rcases hw7 with ⟨rfl, hw7_0⟩ | ⟨rfl, hw7_0⟩
    · refine lv_if_eq (tgt := 44) hx hb dX12_fate_16 (by decide) (fun c8 => absurd c8 (by decide)) (fun _ => ?_)
      refine lv_iload_n hx hb dX12_fate_19 rfl (lv_at hl 3 rfl) ?_
      refine lv_i2l (v := p2.toInt64) hx hb dX12_fate_20 rfl ?_
      refine lv_lconst (v := 0) hx hb dX12_fate_21 (by decide) ?_
      refine lv_ldc2 (v := 15) hx hb hown (hts (.constantLong RX12 286 (15)) (List.mem_cons_of_mem _ (List.mem_append_left _ (List.mem_of_getElem? (i := 4) rfl)))) dX12_fate_22 ?_
      refine ro_i (va_runS (As := [.long p2.toInt64, .long 0, .long 15]) (rest := []) ⟨hx, hb, hml, hown, hts⟩ (k_fX12_in l g cI cJ cB cZ cL p2.toInt64 0 15 ip2 0 15 H.size (z_i2l hzp2) rfl rfl) (va_cwS 3 hts (goodIn_app (g_3 (List.mem_cons_of_mem _ (List.mem_append_left _ (List.mem_of_getElem? (i := 5) rfl))) (List.mem_cons_of_mem _ (List.mem_append_left _ (List.mem_of_getElem? (i := 6) rfl))) (List.mem_cons_of_mem _ (List.mem_append_left _ (List.mem_of_getElem? (i := 3) rfl))) (by decide +kernel)) (goodIn_sub (fun _ h => List.mem_cons_of_mem _ (List.mem_append_right _ (List.mem_append_right _ (List.mem_append_left _ h)))) good_v_fX12_in)) rfl rfl rfl (by decide +kernel) ⟨Nat.le_of_ble_eq_true rfl, Nat.le_of_ble_eq_true rfl⟩) (ps_RO (wc := []) hK hP [] rfl) rfl rfl hl.1 rfl (lv_room (Nat.le_of_ble_eq_true rfl)) dX12_fate_25 ⟨Nat.le_of_ble_eq_true rfl, Nat.le_of_ble_eq_true rfl⟩) hS hA hP (fun r9 u10 H locs hw11 hP hS => ?_)
      rcases hw11 with ⟨rfl, hw11_0⟩ | ⟨rfl, hw11_0⟩
      · refine lv_if_eq (tgt := 44) hx hb dX12_fate_28 (by decide) (fun c12 => absurd c12 (by decide)) (fun _ => ?_)
        refine lv_iload hx hb dX12_fate_31 (lv_at hl 4 rfl) ?_
        refine lv_i2l (v := p3.toInt64) hx hb dX12_fate_33 rfl ?_
        refine lv_lconst (v := 0) hx hb dX12_fate_34 (by decide) ?_
        refine lv_ldc2 (v := 3) hx hb hown (hts (.constantLong RX12 110 (3)) (List.mem_cons_of_mem _ (List.mem_append_left _ (List.mem_of_getElem? (i := 7) rfl)))) dX12_fate_35 ?_
        refine ro_i (va_runS (As := [.long p3.toInt64, .long 0, .long 3]) (rest := []) ⟨hx, hb, hml, hown, hts⟩ (k_fX12_in l g cI cJ cB cZ cL p3.toInt64 0 3 ip3 0 3 H.size (z_i2l hzp3) rfl rfl) (va_cwS 3 hts (goodIn_app (g_3 (List.mem_cons_of_mem _ (List.mem_append_left _ (List.mem_of_getElem? (i := 5) rfl))) (List.mem_cons_of_mem _ (List.mem_append_left _ (List.mem_of_getElem? (i := 6) rfl))) (List.mem_cons_of_mem _ (List.mem_append_left _ (List.mem_of_getElem? (i := 3) rfl))) (by decide +kernel)) (goodIn_sub (fun _ h => List.mem_cons_of_mem _ (List.mem_append_right _ (List.mem_append_right _ (List.mem_append_left _ h)))) good_v_fX12_in)) rfl rfl rfl (by decide +kernel) ⟨Nat.le_of_ble_eq_true rfl, Nat.le_of_ble_eq_true rfl⟩) (ps_RO (wc := []) hK hP [] rfl) rfl rfl hl.1 rfl (lv_room (Nat.le_of_ble_eq_true rfl)) dX12_fate_38 ⟨Nat.le_of_ble_eq_true rfl, Nat.le_of_ble_eq_true rfl⟩) hS hA hP (fun r13 u14 H locs hw15 hP hS => ?_)
        rcases hw15 with ⟨rfl, hw15_0⟩ | ⟨rfl, hw15_0⟩
        · refine lv_if_ne (tgt := 47) hx hb dX12_fate_41 (by decide) (fun _ => ?_) (fun c16 => absurd c16 (by decide))
          obtain ⟨ra, hra, rfl⟩ : ∃ ra : Nat, ra < 32 ∧ p0 = nI ra := natz hzp0 (by omega) (by omega) (by decide)
          have hIra : (ra : Int) = ip0 := by rw [← hzp0]; exact (nI_toInt (by omega)).symm
          obtain ⟨rb, hrb, rfl⟩ : ∃ rb : Nat, rb < 32 ∧ p1 = nI rb := natz hzp1 (by omega) (by omega) (by decide)
          have hIrb : (rb : Int) = ip1 := by rw [← hzp1]; exact (nI_toInt (by omega)).symm
          obtain ⟨js, hjs, rfl⟩ : ∃ js : Nat, js < 16 ∧ p2 = nI js := natz hzp2 (by omega) (by omega) (by decide)
          have hIjs : (js : Int) = ip2 := by rw [← hzp2]; exact (nI_toInt (by omega)).symm
          refine lv_aload_n hx hb dX12_fate_47 rfl (lv_at hl 0 rfl) ?_
          refine lv_iload_n hx hb dX12_fate_48 rfl (lv_at hl 1 rfl) ?_
          refine lv_iload_n hx hb dX12_fate_49 rfl (lv_at hl 2 rfl) ?_
          refine lv_iload_n hx hb dX12_fate_50 rfl (lv_at hl 3 rfl) ?_
          refine rw_v (wr := []) (va_runV (As := [.int (nI ra), .int (nI rb), .int (nI js)]) (rest := []) ⟨hx, hb, hml, hown, hts⟩ (k_fX12_fates l g cI cJ cB cZ cL mo m_a 0 m_taped m_at m_token m_place m_value m_word m_bad m_badPlace m_fault m_faultPlace m_will m_forgot m_x m_any m_bothSend m_meanCards m_bestSum m_fitMany m_fitFirst m_fitSecond vb vr vc vf kc1 kc2 kc3 kc4 kc5 kc6 kc7 kc8 ra rb js H.size (by omega) (by omega) (by omega)) (cwV 3 hts (goodIn_app (g_4 (List.mem_cons_of_mem _ (List.mem_append_left _ (List.mem_of_getElem? (i := 8) rfl))) (List.mem_cons_of_mem _ (List.mem_append_left _ (List.mem_of_getElem? (i := 9) rfl))) (List.mem_cons_of_mem _ (List.mem_append_left _ (List.mem_of_getElem? (i := 10) rfl))) (List.mem_cons_of_mem _ (List.mem_append_left _ (List.mem_of_getElem? (i := 3) rfl))) (by decide +kernel)) (goodIn_sub (fun _ h => List.mem_cons_of_mem _ (List.mem_append_right _ (List.mem_append_right _ (List.mem_append_right _ (List.mem_append_left _ h))))) good_v_fX12_fates)) rfl rfl rfl (by decide +kernel) ⟨Nat.le_of_ble_eq_true rfl, Nat.le_of_ble_eq_true rfl⟩) (pv_RW (q := (RX12, TX12, 56)) (ci := 11) (q0 := 0) (wc := [(mo, .inr (11, mG m_a 0 m_taped m_at m_token m_place m_value m_word m_bad m_badPlace m_fault m_faultPlace (-1) m_will m_forgot 0 m_x vb vr vc vf m_any m_bothSend m_meanCards m_bestSum m_fitMany m_fitFirst m_fitSecond)), ((m_a 23), .inl (cI, 2, .inl kc1)), ((m_a 24), .inl (cZ, 2, .inl kc2)), ((m_a 25), .inl (cZ, 2, .inl kc3)), ((m_a 26), .inl (cI, 2, .inl kc4)), ((m_a 27), .inl (cZ, 2, .inl kc5)), ((m_a 34), .inl (cZ, 2, .inl kc6)), ((m_a 38), .inl (cI, 16, .inl kc7)), ((m_a 39), .inl (cI, 17, .inl kc8))]) hK hP hD [0, 1, 2, 3, 4, 5, 6, 7, 8] (by decide) rfl rfl rfl) rfl rfl hl.1 rfl (lv_room (Nat.le_of_ble_eq_true rfl)) dX12_fate_51 ⟨Nat.le_of_ble_eq_true rfl, Nat.le_of_ble_eq_true rfl⟩) hS hA hP hD [0, 1, 2, 3, 4, 5, 6, 7, 8] [] rfl rfl (by decide) (by decide) (fun u18 H locs hw19 hP hD hS => ?_)
          obtain ⟨u_h120, u_h221, u_h322, u_h423, u_h524, u_h625, u_h726, u_h827, u_wb28, u_wr29, u_wc30, u_wf31⟩ := u18
          try dsimp only at hw19
          have hP : va_P g vwCl [(mo, .inr (11, mG m_a 0 m_taped m_at m_token m_place m_value m_word m_bad m_badPlace m_fault m_faultPlace (-1) m_will m_forgot 0 m_x u_wb28 u_wr29 u_wc30 u_wf31 m_any m_bothSend m_meanCards m_bestSum m_fitMany m_fitFirst m_fitSecond)), ((m_a 23), .inl (cI, 2, .inl u_h120)), ((m_a 24), .inl (cZ, 2, .inl u_h221)), ((m_a 25), .inl (cZ, 2, .inl u_h322)), ((m_a 26), .inl (cI, 2, .inl u_h423)), ((m_a 27), .inl (cZ, 2, .inl u_h524)), ((m_a 34), .inl (cZ, 2, .inl u_h625)), ((m_a 38), .inl (cI, 16, .inl u_h726)), ((m_a 39), .inl (cI, 17, .inl u_h827))] H := hP
          have hD : va_D A [(mo, .inr (11, mG m_a 0 m_taped m_at m_token m_place m_value m_word m_bad m_badPlace m_fault m_faultPlace (-1) m_will m_forgot 0 m_x u_wb28 u_wr29 u_wc30 u_wf31 m_any m_bothSend m_meanCards m_bestSum m_fitMany m_fitFirst m_fitSecond)), ((m_a 23), .inl (cI, 2, .inl u_h120)), ((m_a 24), .inl (cZ, 2, .inl u_h221)), ((m_a 25), .inl (cZ, 2, .inl u_h322)), ((m_a 26), .inl (cI, 2, .inl u_h423)), ((m_a 27), .inl (cZ, 2, .inl u_h524)), ((m_a 34), .inl (cZ, 2, .inl u_h625)), ((m_a 38), .inl (cI, 16, .inl u_h726)), ((m_a 39), .inl (cI, 17, .inl u_h827))] := hD
          obtain ⟨rfl, rfl, rfl, rfl⟩ := hw19
          have hP : va_P g vwCl [(mo, .inr (11, mG m_a 0 m_taped m_at m_token m_place m_value m_word m_bad m_badPlace m_fault m_faultPlace (-1) m_will m_forgot 0 m_x (nI (fJ ra rb js)) (nI (fL ra rb js)) (nI (fC ra rb js)) (nI (fK ra rb js)) m_any m_bothSend m_meanCards m_bestSum m_fitMany m_fitFirst m_fitSecond)), ((m_a 23), .inl (cI, 2, .inl u_h120)), ((m_a 24), .inl (cZ, 2, .inl u_h221)), ((m_a 25), .inl (cZ, 2, .inl u_h322)), ((m_a 26), .inl (cI, 2, .inl u_h423)), ((m_a 27), .inl (cZ, 2, .inl u_h524)), ((m_a 34), .inl (cZ, 2, .inl u_h625)), ((m_a 38), .inl (cI, 16, .inl u_h726)), ((m_a 39), .inl (cI, 17, .inl u_h827))] H := hP
          have hD : va_D A [(mo, .inr (11, mG m_a 0 m_taped m_at m_token m_place m_value m_word m_bad m_badPlace m_fault m_faultPlace (-1) m_will m_forgot 0 m_x (nI (fJ ra rb js)) (nI (fL ra rb js)) (nI (fC ra rb js)) (nI (fK ra rb js)) m_any m_bothSend m_meanCards m_bestSum m_fitMany m_fitFirst m_fitSecond)), ((m_a 23), .inl (cI, 2, .inl u_h120)), ((m_a 24), .inl (cZ, 2, .inl u_h221)), ((m_a 25), .inl (cZ, 2, .inl u_h322)), ((m_a 26), .inl (cI, 2, .inl u_h423)), ((m_a 27), .inl (cZ, 2, .inl u_h524)), ((m_a 34), .inl (cZ, 2, .inl u_h625)), ((m_a 38), .inl (cI, 16, .inl u_h726)), ((m_a 39), .inl (cI, 17, .inl u_h827))] := hD
          have hb32 := fL_le (a := ra) (b := rb) (s := js) (by omega)
          have hb32c := fC_le (a := ra) (b := rb) (s := js) (by omega)
          have hb32j := fJ_le (a := ra) (b := rb) (s := js) (by omega)
          have hb32k := fK_le ra rb js
          refine lv_aload_n hx hb dX12_fate_54 rfl (lv_at hl 0 rfl) ?_
          refine lv_iload hx hb dX12_fate_55 (lv_at hl 4 rfl) ?_
          have hS_nf : fK ra rb js = kd (fC ra rb js) (fL ra rb js) := rfl
          refine ro_i (va_runV (As := [.int p3]) (rest := []) ⟨hx, hb, hml, hown, hts⟩ (k_fX12_fateNow l g cI cJ cB cZ cL mo m_a 0 m_taped m_at m_token m_place m_value m_word m_bad m_badPlace m_fault m_faultPlace m_will m_forgot m_x m_any m_bothSend m_meanCards m_bestSum m_fitMany m_fitFirst m_fitSecond (fJ ra rb js) (fL ra rb js) (fC ra rb js) (fK ra rb js) p3 ip3 H.size hzp3 hS_nf) (cwV 1 hts (goodIn_app (g_4 (List.mem_cons_of_mem _ (List.mem_append_left _ (List.mem_of_getElem? (i := 11) rfl))) (List.mem_cons_of_mem _ (List.mem_append_left _ (List.mem_of_getElem? (i := 12) rfl))) (List.mem_cons_of_mem _ (List.mem_append_left _ (List.mem_of_getElem? (i := 13) rfl))) (List.mem_cons_of_mem _ (List.mem_append_left _ (List.mem_of_getElem? (i := 3) rfl))) (by decide +kernel)) (goodIn_sub (fun _ h => List.mem_cons_of_mem _ (List.mem_append_right _ (List.mem_append_right _ (List.mem_append_right _ (List.mem_append_right _ (List.mem_append_left _ h)))))) good_v_fX12_fateNow)) rfl rfl rfl (by decide +kernel) ⟨Nat.le_of_ble_eq_true rfl, Nat.le_of_ble_eq_true rfl⟩) (pv_RO (q := (RX12, TX12, 56)) (ci := 11) (q0 := 0) (wc := [(mo, .inr (11, mG m_a 0 m_taped m_at m_token m_place m_value m_word m_bad m_badPlace m_fault m_faultPlace (-1) m_will m_forgot 0 m_x (nI (fJ ra rb js)) (nI (fL ra rb js)) (nI (fC ra rb js)) (nI (fK ra rb js)) m_any m_bothSend m_meanCards m_bestSum m_fitMany m_fitFirst m_fitSecond))]) hK hP [0] rfl rfl rfl) rfl rfl hl.1 rfl (lv_room (Nat.le_of_ble_eq_true rfl)) dX12_fate_57 ⟨Nat.le_of_ble_eq_true rfl, Nat.le_of_ble_eq_true rfl⟩) hS hA hP (fun r33 u34 H locs hw35 hP hS => ?_)
          subst hw35
          have hP9 := hP.sub (ws' := [(mo, .inr (11, mG m_a 0 m_taped m_at m_token m_place m_value m_word m_bad m_badPlace m_fault m_faultPlace (-1) m_will m_forgot 0 m_x (nI (fJ ra rb js)) (nI (fL ra rb js)) (nI (fC ra rb js)) (nI (fK ra rb js)) m_any m_bothSend m_meanCards m_bestSum m_fitMany m_fitFirst m_fitSecond)), ((m_a 23), .inl (cI, 2, .inl u_h120)), ((m_a 24), .inl (cZ, 2, .inl u_h221)), ((m_a 25), .inl (cZ, 2, .inl u_h322)), ((m_a 26), .inl (cI, 2, .inl u_h423)), ((m_a 27), .inl (cZ, 2, .inl u_h524)), ((m_a 34), .inl (cZ, 2, .inl u_h625)), ((m_a 38), .inl (cI, 16, .inl u_h726)), ((m_a 39), .inl (cI, 17, .inl u_h827))]) [0, 1, 2, 3, 4, 5, 6, 7, 8] rfl
          have hD9 := hD.sub (ws' := [(mo, .inr (11, mG m_a 0 m_taped m_at m_token m_place m_value m_word m_bad m_badPlace m_fault m_faultPlace (-1) m_will m_forgot 0 m_x (nI (fJ ra rb js)) (nI (fL ra rb js)) (nI (fC ra rb js)) (nI (fK ra rb js)) m_any m_bothSend m_meanCards m_bestSum m_fitMany m_fitFirst m_fitSecond)), ((m_a 23), .inl (cI, 2, .inl u_h120)), ((m_a 24), .inl (cZ, 2, .inl u_h221)), ((m_a 25), .inl (cZ, 2, .inl u_h322)), ((m_a 26), .inl (cI, 2, .inl u_h423)), ((m_a 27), .inl (cZ, 2, .inl u_h524)), ((m_a 34), .inl (cZ, 2, .inl u_h625)), ((m_a 38), .inl (cI, 16, .inl u_h726)), ((m_a 39), .inl (cI, 17, .inl u_h827))]) [0, 1, 2, 3, 4, 5, 6, 7, 8] (by decide) rfl
          exact W.iret (v := (tellV (fJ ra rb js) (fL ra rb js) (fC ra rb js) ip3)) hx hb hr (fun t ht hW => ⟨⟨(tellV (fJ ra rb js) (fL ra rb js) (fC ra rb js) ip3), (u_h120, u_h221, u_h322, u_h423, u_h524, u_h625, u_h726, u_h827, (nI (fJ ra rb js)), (nI (fL ra rb js)), (nI (fC ra rb js)), (nI (fK ra rb js))), rfl, Or.inr ⟨⟨by omega, by omega, by omega, by omega⟩, by rw [show ip0.toNat = ra from by omega]; rw [show ip1.toNat = rb from by omega]; rw [show ip2.toNat = js from by omega]⟩, by rw [ht]; exact hP9, va_K.moved hW.alike hK, hD9⟩, hS.F ht⟩) hS.2.2 dX12_fate_60
        · refine lv_if_ne (tgt := 47) hx hb dX12_fate_41 (by decide) (fun c36 => absurd c36 (by decide)) (fun _ => ?_)
          refine lv_bipush (v := (-2)) hx hb dX12_fate_44 (by decide) ?_
          have hP9 := hP.sub (ws' := [(mo, .inr (11, mG m_a 0 m_taped m_at m_token m_place m_value m_word m_bad m_badPlace m_fault m_faultPlace (-1) m_will m_forgot 0 m_x vb vr vc vf m_any m_bothSend m_meanCards m_bestSum m_fitMany m_fitFirst m_fitSecond)), ((m_a 23), .inl (cI, 2, .inl kc1)), ((m_a 24), .inl (cZ, 2, .inl kc2)), ((m_a 25), .inl (cZ, 2, .inl kc3)), ((m_a 26), .inl (cI, 2, .inl kc4)), ((m_a 27), .inl (cZ, 2, .inl kc5)), ((m_a 34), .inl (cZ, 2, .inl kc6)), ((m_a 38), .inl (cI, 16, .inl kc7)), ((m_a 39), .inl (cI, 17, .inl kc8))]) [0, 1, 2, 3, 4, 5, 6, 7, 8] rfl
          have hD9 := hD.sub (ws' := [(mo, .inr (11, mG m_a 0 m_taped m_at m_token m_place m_value m_word m_bad m_badPlace m_fault m_faultPlace (-1) m_will m_forgot 0 m_x vb vr vc vf m_any m_bothSend m_meanCards m_bestSum m_fitMany m_fitFirst m_fitSecond)), ((m_a 23), .inl (cI, 2, .inl kc1)), ((m_a 24), .inl (cZ, 2, .inl kc2)), ((m_a 25), .inl (cZ, 2, .inl kc3)), ((m_a 26), .inl (cI, 2, .inl kc4)), ((m_a 27), .inl (cZ, 2, .inl kc5)), ((m_a 34), .inl (cZ, 2, .inl kc6)), ((m_a 38), .inl (cI, 16, .inl kc7)), ((m_a 39), .inl (cI, 17, .inl kc8))]) [0, 1, 2, 3, 4, 5, 6, 7, 8] (by decide) rfl
          exact W.iret (v := (-2)) hx hb hr (fun t ht hW => ⟨⟨(-2), (kc1, kc2, kc3, kc4, kc5, kc6, kc7, kc8, vb, vr, vc, vf), rfl, Or.inl ⟨rfl, by omega⟩, by rw [ht]; exact hP9, va_K.moved hW.alike hK, hD9⟩, hS.F ht⟩) hS.2.2 dX12_fate_46
      · refine lv_if_eq (tgt := 44) hx hb dX12_fate_28 (by decide) (fun _ => ?_) (fun c37 => absurd c37 (by decide))
        refine lv_bipush (v := (-2)) hx hb dX12_fate_44 (by decide) ?_
        have hP9 := hP.sub (ws' := [(mo, .inr (11, mG m_a 0 m_taped m_at m_token m_place m_value m_word m_bad m_badPlace m_fault m_faultPlace (-1) m_will m_forgot 0 m_x vb vr vc vf m_any m_bothSend m_meanCards m_bestSum m_fitMany m_fitFirst m_fitSecond)), ((m_a 23), .inl (cI, 2, .inl kc1)), ((m_a 24), .inl (cZ, 2, .inl kc2)), ((m_a 25), .inl (cZ, 2, .inl kc3)), ((m_a 26), .inl (cI, 2, .inl kc4)), ((m_a 27), .inl (cZ, 2, .inl kc5)), ((m_a 34), .inl (cZ, 2, .inl kc6)), ((m_a 38), .inl (cI, 16, .inl kc7)), ((m_a 39), .inl (cI, 17, .inl kc8))]) [0, 1, 2, 3, 4, 5, 6, 7, 8] rfl
        have hD9 := hD.sub (ws' := [(mo, .inr (11, mG m_a 0 m_taped m_at m_token m_place m_value m_word m_bad m_badPlace m_fault m_faultPlace (-1) m_will m_forgot 0 m_x vb vr vc vf m_any m_bothSend m_meanCards m_bestSum m_fitMany m_fitFirst m_fitSecond)), ((m_a 23), .inl (cI, 2, .inl kc1)), ((m_a 24), .inl (cZ, 2, .inl kc2)), ((m_a 25), .inl (cZ, 2, .inl kc3)), ((m_a 26), .inl (cI, 2, .inl kc4)), ((m_a 27), .inl (cZ, 2, .inl kc5)), ((m_a 34), .inl (cZ, 2, .inl kc6)), ((m_a 38), .inl (cI, 16, .inl kc7)), ((m_a 39), .inl (cI, 17, .inl kc8))]) [0, 1, 2, 3, 4, 5, 6, 7, 8] (by decide) rfl
        exact W.iret (v := (-2)) hx hb hr (fun t ht hW => ⟨⟨(-2), (kc1, kc2, kc3, kc4, kc5, kc6, kc7, kc8, vb, vr, vc, vf), rfl, Or.inl ⟨rfl, by omega⟩, by rw [ht]; exact hP9, va_K.moved hW.alike hK, hD9⟩, hS.F ht⟩) hS.2.2 dX12_fate_46
    · refine lv_if_eq (tgt := 44) hx hb dX12_fate_16 (by decide) (fun _ => ?_) (fun c38 => absurd c38 (by decide))
      refine lv_bipush (v := (-2)) hx hb dX12_fate_44 (by decide) ?_
      have hP9 := hP.sub (ws' := [(mo, .inr (11, mG m_a 0 m_taped m_at m_token m_place m_value m_word m_bad m_badPlace m_fault m_faultPlace (-1) m_will m_forgot 0 m_x vb vr vc vf m_any m_bothSend m_meanCards m_bestSum m_fitMany m_fitFirst m_fitSecond)), ((m_a 23), .inl (cI, 2, .inl kc1)), ((m_a 24), .inl (cZ, 2, .inl kc2)), ((m_a 25), .inl (cZ, 2, .inl kc3)), ((m_a 26), .inl (cI, 2, .inl kc4)), ((m_a 27), .inl (cZ, 2, .inl kc5)), ((m_a 34), .inl (cZ, 2, .inl kc6)), ((m_a 38), .inl (cI, 16, .inl kc7)), ((m_a 39), .inl (cI, 17, .inl kc8))]) [0, 1, 2, 3, 4, 5, 6, 7, 8] rfl
      have hD9 := hD.sub (ws' := [(mo, .inr (11, mG m_a 0 m_taped m_at m_token m_place m_value m_word m_bad m_badPlace m_fault m_faultPlace (-1) m_will m_forgot 0 m_x vb vr vc vf m_any m_bothSend m_meanCards m_bestSum m_fitMany m_fitFirst m_fitSecond)), ((m_a 23), .inl (cI, 2, .inl kc1)), ((m_a 24), .inl (cZ, 2, .inl kc2)), ((m_a 25), .inl (cZ, 2, .inl kc3)), ((m_a 26), .inl (cI, 2, .inl kc4)), ((m_a 27), .inl (cZ, 2, .inl kc5)), ((m_a 34), .inl (cZ, 2, .inl kc6)), ((m_a 38), .inl (cI, 16, .inl kc7)), ((m_a 39), .inl (cI, 17, .inl kc8))]) [0, 1, 2, 3, 4, 5, 6, 7, 8] (by decide) rfl
      exact W.iret (v := (-2)) hx hb hr (fun t ht hW => ⟨⟨(-2), (kc1, kc2, kc3, kc4, kc5, kc6, kc7, kc8, vb, vr, vc, vf), rfl, Or.inl ⟨rfl, by omega⟩, by rw [ht]; exact hP9, va_K.moved hW.alike hK, hD9⟩, hS.F ht⟩) hS.2.2 dX12_fate_46
  · refine lv_if_eq (tgt := 44) hx hb dX12_fate_9 (by decide) (fun _ => ?_) (fun c39 => absurd c39 (by decide))
    refine lv_bipush (v := (-2)) hx hb dX12_fate_44 (by decide) ?_
    have hP9 := hP.sub (ws' := [(mo, .inr (11, mG m_a 0 m_taped m_at m_token m_place m_value m_word m_bad m_badPlace m_fault m_faultPlace (-1) m_will m_forgot 0 m_x vb vr vc vf m_any m_bothSend m_meanCards m_bestSum m_fitMany m_fitFirst m_fitSecond)), ((m_a 23), .inl (cI, 2, .inl kc1)), ((m_a 24), .inl (cZ, 2, .inl kc2)), ((m_a 25), .inl (cZ, 2, .inl kc3)), ((m_a 26), .inl (cI, 2, .inl kc4)), ((m_a 27), .inl (cZ, 2, .inl kc5)), ((m_a 34), .inl (cZ, 2, .inl kc6)), ((m_a 38), .inl (cI, 16, .inl kc7)), ((m_a 39), .inl (cI, 17, .inl kc8))]) [0, 1, 2, 3, 4, 5, 6, 7, 8] rfl
    have hD9 := hD.sub (ws' := [(mo, .inr (11, mG m_a 0 m_taped m_at m_token m_place m_value m_word m_bad m_badPlace m_fault m_faultPlace (-1) m_will m_forgot 0 m_x vb vr vc vf m_any m_bothSend m_meanCards m_bestSum m_fitMany m_fitFirst m_fitSecond)), ((m_a 23), .inl (cI, 2, .inl kc1)), ((m_a 24), .inl (cZ, 2, .inl kc2)), ((m_a 25), .inl (cZ, 2, .inl kc3)), ((m_a 26), .inl (cI, 2, .inl kc4)), ((m_a 27), .inl (cZ, 2, .inl kc5)), ((m_a 34), .inl (cZ, 2, .inl kc6)), ((m_a 38), .inl (cI, 16, .inl kc7)), ((m_a 39), .inl (cI, 17, .inl kc8))]) [0, 1, 2, 3, 4, 5, 6, 7, 8] (by decide) rfl
    exact W.iret (v := (-2)) hx hb hr (fun t ht hW => ⟨⟨(-2), (kc1, kc2, kc3, kc4, kc5, kc6, kc7, kc8, vb, vr, vc, vf), rfl, Or.inl ⟨rfl, by omega⟩, by rw [ht]; exact hP9, va_K.moved hW.alike hK, hD9⟩, hS.F ht⟩) hS.2.2 dX12_fate_46
def v_fX12_basin : List Cond := .code yX12_basin cX12_basin 6 (some .int) :: (([.fieldLink RX12 107 "CardsAtYuleModel" "thrown" "I", .methodLink RX12 403 yX12_isRule, .static yX12_isRule, .initialized RX12, .constantLong RX12 284 (2), .methodLink RX12 112 yX12_in, .static yX12_in, .methodLink RX12 415 yX12_fateOf, .instanceMethod yX12_fateOf, .selects RX12 yX12_fateOf yX12_fateOf] : List Cond) ++ (v_fX12_isRule ++ (v_fX12_in ++ (v_fX12_fateOf ++ (wsX120 ++ ([] : List Cond))))))
theorem good_v_fX12_basin : v_fX12_basin.all goodWord = true := ga_c (by decide +kernel) (ga_a (by decide +kernel) (ga_a good_v_fX12_isRule (ga_a good_v_fX12_in (ga_a good_v_fX12_fateOf (ga_a good_wsX120 rfl)))))
set_option maxHeartbeats 4000000 in
set_option maxRecDepth 100000 in
theorem k_fX12_basin (l : Launch) (g : va_G) (cI cJ cB cZ cL : ClassId) (mo : Nat) (m_a : Nat → Nat) (m_thrown : Int32) (m_taped : Int32) (m_at : Int32) (m_token : Int32) (m_place : Int32) (m_value : Int32) (m_word : Int64) (m_bad : Int32) (m_badPlace : Int32) (m_fault : Int32) (m_faultPlace : Int32) (m_will : Int32) (m_forgot : Int32) (m_x : Int64) (m_any : Int64) (m_bothSend : Int64) (m_meanCards : Int64) (m_bestSum : Int32) (m_fitMany : Int32) (m_fitFirst : Int64) (m_fitSecond : Int64) (vb : Int32) (vr : Int32) (vc : Int32) (vf : Int32) (kc1 : Nat → Int32) (kc2 : Nat → Int32) (kc3 : Nat → Int32) (kc4 : Nat → Int32) (kc5 : Nat → Int32) (kc6 : Nat → Int32) (kc7 : Nat → Int32) (kc8 : Nat → Int32) (p0 : Int32) (p1 : Int32) (p2 : Int32) (ip0 : Int) (ip1 : Int) (ip2 : Int) (sz : Nat) (hzp0 : p0.toInt = ip0) (hzp1 : p1.toInt = ip1) (hzp2 : p2.toInt = ip2) : Met l yX12_basin v_fX12_basin ({ frames := 5, cells := 0, slots := 0, locals := 117 }) (va_Pc [.ref mo, .int p0, .int p1, .int p2] (pRW g (tyT cI cJ cB cZ cL) [(mo, .inr (11, mG m_a m_thrown m_taped m_at m_token m_place m_value m_word m_bad m_badPlace m_fault m_faultPlace (-1) m_will m_forgot 0 m_x vb vr vc vf m_any m_bothSend m_meanCards m_bestSum m_fitMany m_fitFirst m_fitSecond)), ((m_a 23), .inl (cI, 2, .inl kc1)), ((m_a 24), .inl (cZ, 2, .inl kc2)), ((m_a 25), .inl (cZ, 2, .inl kc3)), ((m_a 26), .inl (cI, 2, .inl kc4)), ((m_a 27), .inl (cZ, 2, .inl kc5)), ((m_a 34), .inl (cZ, 2, .inl kc6)), ((m_a 38), .inl (cI, 16, .inl kc7)), ((m_a 39), .inl (cI, 17, .inl kc8))] sz)) (va_Qi (fun (r : Int32) (u : (Nat → Int32) × (Nat → Int32) × (Nat → Int32) × (Nat → Int32) × (Nat → Int32) × (Nat → Int32) × (Nat → Int32) × (Nat → Int32) × Int32 × Int32 × Int32 × Int32) => match u with | (h1, h2, h3, h4, h5, h6, h7, h8, wb, wr, wc, wf) => (r = (-2) ∧ ¬ ((0 ≤ ip0 ∧ ip0 < 32) ∧ (0 ≤ ip1 ∧ ip1 < 32) ∧ (0 ≤ ip2 ∧ ip2 < 3))) ∨ (((0 ≤ ip0 ∧ ip0 < 32) ∧ (0 ≤ ip1 ∧ ip1 < 32) ∧ (0 ≤ ip2 ∧ ip2 < 3)) ∧ r = nI (cP (fun t => ((fK ip0.toNat ip1.toNat t : Nat) : Int) = ip2) 16))) (fun (u : (Nat → Int32) × (Nat → Int32) × (Nat → Int32) × (Nat → Int32) × (Nat → Int32) × (Nat → Int32) × (Nat → Int32) × (Nat → Int32) × Int32 × Int32 × Int32 × Int32) (t : State) => bRW g (tyT cI cJ cB cZ cL) (va_A [(mo, .inr (11, mG m_a m_thrown m_taped m_at m_token m_place m_value m_word m_bad m_badPlace m_fault m_faultPlace (-1) m_will m_forgot 0 m_x vb vr vc vf m_any m_bothSend m_meanCards m_bestSum m_fitMany m_fitFirst m_fitSecond)), ((m_a 23), .inl (cI, 2, .inl kc1)), ((m_a 24), .inl (cZ, 2, .inl kc2)), ((m_a 25), .inl (cZ, 2, .inl kc3)), ((m_a 26), .inl (cI, 2, .inl kc4)), ((m_a 27), .inl (cZ, 2, .inl kc5)), ((m_a 34), .inl (cZ, 2, .inl kc6)), ((m_a 38), .inl (cI, 16, .inl kc7)), ((m_a 39), .inl (cI, 17, .inl kc8))] sz) (match u with | (h1, h2, h3, h4, h5, h6, h7, h8, wb, wr, wc, wf) => [(mo, .inr (11, mG m_a 0 m_taped m_at m_token m_place m_value m_word m_bad m_badPlace m_fault m_faultPlace (-1) m_will m_forgot 0 m_x wb wr wc wf m_any m_bothSend m_meanCards m_bestSum m_fitMany m_fitFirst m_fitSecond)), ((m_a 23), .inl (cI, 2, .inl h1)), ((m_a 24), .inl (cZ, 2, .inl h2)), ((m_a 25), .inl (cZ, 2, .inl h3)), ((m_a 26), .inl (cI, 2, .inl h4)), ((m_a 27), .inl (cZ, 2, .inl h5)), ((m_a 34), .inl (cZ, 2, .inl h6)), ((m_a 38), .inl (cI, 16, .inl h7)), ((m_a 39), .inl (cI, 17, .inl h8))]) t) (va_A [(mo, .inr (11, mG m_a m_thrown m_taped m_at m_token m_place m_value m_word m_bad m_badPlace m_fault m_faultPlace (-1) m_will m_forgot 0 m_x vb vr vc vf m_any m_bothSend m_meanCards m_bestSum m_fitMany m_fitFirst m_fitSecond)), ((m_a 23), .inl (cI, 2, .inl kc1)), ((m_a 24), .inl (cZ, 2, .inl kc2)), ((m_a 25), .inl (cZ, 2, .inl kc3)), ((m_a 26), .inl (cI, 2, .inl kc4)), ((m_a 27), .inl (cZ, 2, .inl kc5)), ((m_a 34), .inl (cZ, 2, .inl kc6)), ((m_a 38), .inl (cI, 16, .inl kc7)), ((m_a 39), .inl (cI, 17, .inl kc8))] sz)) 0 0 (va_A [(mo, .inr (11, mG m_a m_thrown m_taped m_at m_token m_place m_value m_word m_bad m_badPlace m_fault m_faultPlace (-1) m_will m_forgot 0 m_x vb vr vc vf m_any m_bothSend m_meanCards m_bestSum m_fitMany m_fitFirst m_fitSecond)), ((m_a 23), .inl (cI, 2, .inl kc1)), ((m_a 24), .inl (cZ, 2, .inl kc2)), ((m_a 25), .inl (cZ, 2, .inl kc3)), ((m_a 26), .inl (cI, 2, .inl kc4)), ((m_a 27), .inl (cZ, 2, .inl kc5)), ((m_a 34), .inl (cZ, 2, .inl kc6)), ((m_a 38), .inl (cI, 16, .inl kc7)), ((m_a 39), .inl (cI, 17, .inl kc8))] sz) := by
  refine Met.ofW (cc := cX12_basin) (maxL := 6) (ret := (some .int)) (by decide) rfl ?_
  intro p e s m args below meth c s₁ B hml hv
  obtain ⟨rfl, hsz, hP, hK, hD0⟩ := hv
  have hx := B.exec
  have hb := B.bytes
  have hr := B.returns
  have hts := atoms_spec (ws := v_fX12_basin) B.pre
  have hown : s.vm.findClass RX12 = some m.cls := findClass_of_methodNamed B.named
  have hlocks := B.notSynchronized
  subst hsz
  have iX12 : ∀ w ∈ wsX120, w ∈ v_fX12_basin := (fun _ h => List.mem_cons_of_mem _ (List.mem_append_right _ (List.mem_append_right _ (List.mem_append_right _ (List.mem_append_right _ (List.mem_append_left _ h))))))
  have hD := hD0.self (sz := s.heap.size)
  generalize hAe : (va_A [(mo, .inr (11, mG m_a m_thrown m_taped m_at m_token m_place m_value m_word m_bad m_badPlace m_fault m_faultPlace (-1) m_will m_forgot 0 m_x vb vr vc vf m_any m_bothSend m_meanCards m_bestSum m_fitMany m_fitFirst m_fitSecond)), ((m_a 23), .inl (cI, 2, .inl kc1)), ((m_a 24), .inl (cZ, 2, .inl kc2)), ((m_a 25), .inl (cZ, 2, .inl kc3)), ((m_a 26), .inl (cI, 2, .inl kc4)), ((m_a 27), .inl (cZ, 2, .inl kc5)), ((m_a 34), .inl (cZ, 2, .inl kc6)), ((m_a 38), .inl (cI, 16, .inl kc7)), ((m_a 39), .inl (cI, 17, .inl kc8))] s.heap.size) = A at hD ⊢
  have hA : ∀ q : Nat, s.heap.size ≤ q → A q := fun q h => by rw [← hAe]; exact Or.inr h
  have hS : va_S A s.heap s.heap [] := va_S.rf
  have hl := lv_entry ([.ref mo, .int p0, .int p1, .int p2]) (n := 6) (Nat.le_of_ble_eq_true rfl)
  rw [lg_entry_eq]
  generalize (lg_sl ([.ref mo, .int p0, .int p1, .int p2]) ++ List.replicate (6 - (lg_sl ([.ref mo, .int p0, .int p1, .int p2])).length) Slot.unset).toArray = ls at hl ⊢
  have hl : lv_has ls 6 [(0, .ref mo), (1, .int p0), (2, .int p1), (3, .int p2)] := hl
  have hP : va_P g vwCl [(mo, .inr (11, mG m_a m_thrown m_taped m_at m_token m_place m_value m_word m_bad m_badPlace m_fault m_faultPlace (-1) m_will m_forgot 0 m_x vb vr vc vf m_any m_bothSend m_meanCards m_bestSum m_fitMany m_fitFirst m_fitSecond)), ((m_a 23), .inl (cI, 2, .inl kc1)), ((m_a 24), .inl (cZ, 2, .inl kc2)), ((m_a 25), .inl (cZ, 2, .inl kc3)), ((m_a 26), .inl (cI, 2, .inl kc4)), ((m_a 27), .inl (cZ, 2, .inl kc5)), ((m_a 34), .inl (cZ, 2, .inl kc6)), ((m_a 38), .inl (cI, 16, .inl kc7)), ((m_a 39), .inl (cI, 17, .inl kc8))] s.heap := hP
  refine lv_aload_n hx hb dX12_basin_0 rfl (lv_at hl 0 rfl) ?_
  refine lv_iconst (v := 0) hx hb dX12_basin_1 (by decide) ?_
  refine va_put (D := g) (ci := 11) (v := .int 0) (ty := .int) (C := RX12) (T := TX12) (N := 56) hx hb hts iX12 tyX12 tyX12_ok nmX12 hown hK hP hD hS 0 rfl rfl 0 (by decide) (hts (.fieldLink RX12 107 "CardsAtYuleModel" "thrown" "I") (List.mem_cons_of_mem _ (List.mem_append_left _ (List.mem_of_getElem? (i := 0) rfl)))) (fun _ h9 => h9) rfl (by decide +kernel) rfl rfl (Nat.le_of_ble_eq_true rfl) dX12_basin_2 (fun H locs hP hD hS => ?_)
  have hP : va_P g vwCl [(mo, .inr (11, mG m_a 0 m_taped m_at m_token m_place m_value m_word m_bad m_badPlace m_fault m_faultPlace (-1) m_will m_forgot 0 m_x vb vr vc vf m_any m_bothSend m_meanCards m_bestSum m_fitMany m_fitFirst m_fitSecond)), ((m_a 23), .inl (cI, 2, .inl kc1)), ((m_a 24), .inl (cZ, 2, .inl kc2)), ((m_a 25), .inl (cZ, 2, .inl kc3)), ((m_a 26), .inl (cI, 2, .inl kc4)), ((m_a 27), .inl (cZ, 2, .inl kc5)), ((m_a 34), .inl (cZ, 2, .inl kc6)), ((m_a 38), .inl (cI, 16, .inl kc7)), ((m_a 39), .inl (cI, 17, .inl kc8))] H := hP
  have hD : va_D A [(mo, .inr (11, mG m_a 0 m_taped m_at m_token m_place m_value m_word m_bad m_badPlace m_fault m_faultPlace (-1) m_will m_forgot 0 m_x vb vr vc vf m_any m_bothSend m_meanCards m_bestSum m_fitMany m_fitFirst m_fitSecond)), ((m_a 23), .inl (cI, 2, .inl kc1)), ((m_a 24), .inl (cZ, 2, .inl kc2)), ((m_a 25), .inl (cZ, 2, .inl kc3)), ((m_a 26), .inl (cI, 2, .inl kc4)), ((m_a 27), .inl (cZ, 2, .inl kc5)), ((m_a 34), .inl (cZ, 2, .inl kc6)), ((m_a 38), .inl (cI, 16, .inl kc7)), ((m_a 39), .inl (cI, 17, .inl kc8))] := hD
  refine lv_iload_n hx hb dX12_basin_5 rfl (lv_at hl 1 rfl) ?_
  refine ro_i (va_runS (As := [.int p0]) (rest := []) ⟨hx, hb, hml, hown, hts⟩ (k_fX12_isRule l g cI cJ cB cZ cL p0 ip0 H.size hzp0) (va_cwS 1 hts (goodIn_app (g_3 (List.mem_cons_of_mem _ (List.mem_append_left _ (List.mem_of_getElem? (i := 1) rfl))) (List.mem_cons_of_mem _ (List.mem_append_left _ (List.mem_of_getElem? (i := 2) rfl))) (List.mem_cons_of_mem _ (List.mem_append_left _ (List.mem_of_getElem? (i := 3) rfl))) (by decide +kernel)) (goodIn_sub (fun _ h => List.mem_cons_of_mem _ (List.mem_append_right _ (List.mem_append_left _ h))) good_v_fX12_isRule)) rfl rfl rfl (by decide +kernel) ⟨Nat.le_of_ble_eq_true rfl, Nat.le_of_ble_eq_true rfl⟩) (ps_RO (wc := []) hK hP [] rfl) rfl rfl hl.1 rfl (lv_room (Nat.le_of_ble_eq_true rfl)) dX12_basin_6 ⟨Nat.le_of_ble_eq_true rfl, Nat.le_of_ble_eq_true rfl⟩) hS hA hP (fun r1 u2 H locs hw3 hP hS => ?_)
  rcases hw3 with ⟨rfl, hw3_0⟩ | ⟨rfl, hw3_0⟩
  · refine lv_if_eq (tgt := 31) hx hb dX12_basin_9 (by decide) (fun c4 => absurd c4 (by decide)) (fun _ => ?_)
    refine lv_iload_n hx hb dX12_basin_12 rfl (lv_at hl 2 rfl) ?_
    refine ro_i (va_runS (As := [.int p1]) (rest := []) ⟨hx, hb, hml, hown, hts⟩ (k_fX12_isRule l g cI cJ cB cZ cL p1 ip1 H.size hzp1) (va_cwS 1 hts (goodIn_app (g_3 (List.mem_cons_of_mem _ (List.mem_append_left _ (List.mem_of_getElem? (i := 1) rfl))) (List.mem_cons_of_mem _ (List.mem_append_left _ (List.mem_of_getElem? (i := 2) rfl))) (List.mem_cons_of_mem _ (List.mem_append_left _ (List.mem_of_getElem? (i := 3) rfl))) (by decide +kernel)) (goodIn_sub (fun _ h => List.mem_cons_of_mem _ (List.mem_append_right _ (List.mem_append_left _ h))) good_v_fX12_isRule)) rfl rfl rfl (by decide +kernel) ⟨Nat.le_of_ble_eq_true rfl, Nat.le_of_ble_eq_true rfl⟩) (ps_RO (wc := []) hK hP [] rfl) rfl rfl hl.1 rfl (lv_room (Nat.le_of_ble_eq_true rfl)) dX12_basin_13 ⟨Nat.le_of_ble_eq_true rfl, Nat.le_of_ble_eq_true rfl⟩) hS hA hP (fun r5 u6 H locs hw7 hP hS => ?_)
    rcases hw7 with ⟨rfl, hw7_0⟩ | ⟨rfl, hw7_0⟩
    · refine lv_if_eq (tgt := 31) hx hb dX12_basin_16 (by decide) (fun c8 => absurd c8 (by decide)) (fun _ => ?_)
      refine lv_iload_n hx hb dX12_basin_19 rfl (lv_at hl 3 rfl) ?_
      refine lv_i2l (v := p2.toInt64) hx hb dX12_basin_20 rfl ?_
      refine lv_lconst (v := 0) hx hb dX12_basin_21 (by decide) ?_
      refine lv_ldc2 (v := 2) hx hb hown (hts (.constantLong RX12 284 (2)) (List.mem_cons_of_mem _ (List.mem_append_left _ (List.mem_of_getElem? (i := 4) rfl)))) dX12_basin_22 ?_
      refine ro_i (va_runS (As := [.long p2.toInt64, .long 0, .long 2]) (rest := []) ⟨hx, hb, hml, hown, hts⟩ (k_fX12_in l g cI cJ cB cZ cL p2.toInt64 0 2 ip2 0 2 H.size (z_i2l hzp2) rfl rfl) (va_cwS 3 hts (goodIn_app (g_3 (List.mem_cons_of_mem _ (List.mem_append_left _ (List.mem_of_getElem? (i := 5) rfl))) (List.mem_cons_of_mem _ (List.mem_append_left _ (List.mem_of_getElem? (i := 6) rfl))) (List.mem_cons_of_mem _ (List.mem_append_left _ (List.mem_of_getElem? (i := 3) rfl))) (by decide +kernel)) (goodIn_sub (fun _ h => List.mem_cons_of_mem _ (List.mem_append_right _ (List.mem_append_right _ (List.mem_append_left _ h)))) good_v_fX12_in)) rfl rfl rfl (by decide +kernel) ⟨Nat.le_of_ble_eq_true rfl, Nat.le_of_ble_eq_true rfl⟩) (ps_RO (wc := []) hK hP [] rfl) rfl rfl hl.1 rfl (lv_room (Nat.le_of_ble_eq_true rfl)) dX12_basin_25 ⟨Nat.le_of_ble_eq_true rfl, Nat.le_of_ble_eq_true rfl⟩) hS hA hP (fun r9 u10 H locs hw11 hP hS => ?_)
      rcases hw11 with ⟨rfl, hw11_0⟩ | ⟨rfl, hw11_0⟩
      · refine lv_if_ne (tgt := 34) hx hb dX12_basin_28 (by decide) (fun _ => ?_) (fun c12 => absurd c12 (by decide))
        obtain ⟨ra, hra, rfl⟩ : ∃ ra : Nat, ra < 32 ∧ p0 = nI ra := natz hzp0 (by omega) (by omega) (by decide)
        have hIra : (ra : Int) = ip0 := by rw [← hzp0]; exact (nI_toInt (by omega)).symm
        obtain ⟨rb, hrb, rfl⟩ : ∃ rb : Nat, rb < 32 ∧ p1 = nI rb := natz hzp1 (by omega) (by omega) (by decide)
        have hIrb : (rb : Int) = ip1 := by rw [← hzp1]; exact (nI_toInt (by omega)).symm
        refine lv_iconst (v := 0) hx hb dX12_basin_34 (by decide) ?_
        refine lv_istore (lv' := [(4, .int 0), (0, .ref mo), (1, .int (nI ra)), (2, .int (nI rb)), (3, .int p2)]) hx hb dX12_basin_35 hl (by decide) rfl (fun ls hl => ?_)
        refine lv_iconst (v := 0) hx hb dX12_basin_37 (by decide) ?_
        refine lv_istore (lv' := [(5, .int 0), (4, .int 0), (0, .ref mo), (1, .int (nI ra)), (2, .int (nI rb)), (3, .int p2)]) hx hb dX12_basin_38 hl (by decide) rfl (fun ls hl => ?_)
        have lp15 : ∀ (n13 : Nat) (n : Nat) (i : Nat) (vb : Int32) (vr : Int32) (vc : Int32) (vf : Int32) (kc1 : Nat → Int32) (kc2 : Nat → Int32) (kc3 : Nat → Int32) (kc4 : Nat → Int32) (kc5 : Nat → Int32) (kc6 : Nat → Int32) (kc7 : Nat → Int32) (kc8 : Nat → Int32) (H : Heap) (locs : List Loc) (ls : Array Slot), 16 - i < n13 → (i ≤ 16) → (n ≤ i) → (n = cP (fun t => ((fK ra rb t : Nat) : Int) = ip2) i) → va_P g vwCl [(mo, .inr (11, mG m_a 0 m_taped m_at m_token m_place m_value m_word m_bad m_badPlace m_fault m_faultPlace (-1) m_will m_forgot 0 m_x vb vr vc vf m_any m_bothSend m_meanCards m_bestSum m_fitMany m_fitFirst m_fitSecond)), ((m_a 23), .inl (cI, 2, .inl kc1)), ((m_a 24), .inl (cZ, 2, .inl kc2)), ((m_a 25), .inl (cZ, 2, .inl kc3)), ((m_a 26), .inl (cI, 2, .inl kc4)), ((m_a 27), .inl (cZ, 2, .inl kc5)), ((m_a 34), .inl (cZ, 2, .inl kc6)), ((m_a 38), .inl (cI, 16, .inl kc7)), ((m_a 39), .inl (cI, 17, .inl kc8))] H → va_D A [(mo, .inr (11, mG m_a 0 m_taped m_at m_token m_place m_value m_word m_bad m_badPlace m_fault m_faultPlace (-1) m_will m_forgot 0 m_x vb vr vc vf m_any m_bothSend m_meanCards m_bestSum m_fitMany m_fitFirst m_fitSecond)), ((m_a 23), .inl (cI, 2, .inl kc1)), ((m_a 24), .inl (cZ, 2, .inl kc2)), ((m_a 25), .inl (cZ, 2, .inl kc3)), ((m_a 26), .inl (cI, 2, .inl kc4)), ((m_a 27), .inl (cZ, 2, .inl kc5)), ((m_a 34), .inl (cZ, 2, .inl kc6)), ((m_a 38), .inl (cI, 16, .inl kc7)), ((m_a 39), .inl (cI, 17, .inl kc8))] → va_S A s.heap H locs → lv_has ls 6 [(0, .ref mo), (1, .int (nI ra)), (2, .int (nI rb)), (3, .int p2), (4, .int (nI n)), (5, .int (nI i))] → W p l e (headSpec v_fX12_basin ({ frames := 5, cells := 0, slots := 0, locals := 117 })).room s m ([.ref mo, .int (nI ra), .int (nI rb), .int p2] : List Value).toArray below meth c H locs 0 0 (MQ below (va_Qi (fun (r : Int32) (u : (Nat → Int32) × (Nat → Int32) × (Nat → Int32) × (Nat → Int32) × (Nat → Int32) × (Nat → Int32) × (Nat → Int32) × (Nat → Int32) × Int32 × Int32 × Int32 × Int32) => match u with | (h1, h2, h3, h4, h5, h6, h7, h8, wb, wr, wc, wf) => (r = (-2) ∧ ¬ ((0 ≤ ip0 ∧ ip0 < 32) ∧ (0 ≤ ip1 ∧ ip1 < 32) ∧ (0 ≤ ip2 ∧ ip2 < 3))) ∨ (((0 ≤ ip0 ∧ ip0 < 32) ∧ (0 ≤ ip1 ∧ ip1 < 32) ∧ (0 ≤ ip2 ∧ ip2 < 3)) ∧ r = nI (cP (fun t => ((fK ip0.toNat ip1.toNat t : Nat) : Int) = ip2) 16))) (fun (u : (Nat → Int32) × (Nat → Int32) × (Nat → Int32) × (Nat → Int32) × (Nat → Int32) × (Nat → Int32) × (Nat → Int32) × (Nat → Int32) × Int32 × Int32 × Int32 × Int32) (t : State) => bRW g (tyT cI cJ cB cZ cL) A (match u with | (h1, h2, h3, h4, h5, h6, h7, h8, wb, wr, wc, wf) => [(mo, .inr (11, mG m_a 0 m_taped m_at m_token m_place m_value m_word m_bad m_badPlace m_fault m_faultPlace (-1) m_will m_forgot 0 m_x wb wr wc wf m_any m_bothSend m_meanCards m_bestSum m_fitMany m_fitFirst m_fitSecond)), ((m_a 23), .inl (cI, 2, .inl h1)), ((m_a 24), .inl (cZ, 2, .inl h2)), ((m_a 25), .inl (cZ, 2, .inl h3)), ((m_a 26), .inl (cI, 2, .inl h4)), ((m_a 27), .inl (cZ, 2, .inl h5)), ((m_a 34), .inl (cZ, 2, .inl h6)), ((m_a 38), .inl (cI, 16, .inl h7)), ((m_a 39), .inl (cI, 17, .inl h8))]) t) A) ([.ref mo, .int (nI ra), .int (nI rb), .int p2] : List Value).toArray s 0 0 A) (F0 m 40 ls []) := by
          intro n13
          induction n13 with
          | zero => exact fun n i vb vr vc vf kc1 kc2 kc3 kc4 kc5 kc6 kc7 kc8 H locs ls hn => absurd hn (Nat.not_lt_zero _)
          | succ n13 ih14 =>
            intro n i vb vr vc vf kc1 kc2 kc3 kc4 kc5 kc6 kc7 kc8 H locs ls hn hi hnn hcn hP hD hS hl
            refine lv_iload hx hb dX12_basin_40 (lv_at hl 5 rfl) ?_
            refine lv_bipush (v := 16) hx hb dX12_basin_42 (by decide) ?_
            refine lv_icmp_ge (tgt := 75) hx hb dX12_basin_44 (by decide) (fun c16 => ?_) (fun c16 => ?_)
            · have f17 := (show 16 ≤ (i : Int) from z_le rfl (nI_toInt (n := i) (by omega)) c16)
              refine lv_iload hx hb dX12_basin_75 (lv_at hl 4 rfl) ?_
              have hP9 := hP.sub (ws' := [(mo, .inr (11, mG m_a 0 m_taped m_at m_token m_place m_value m_word m_bad m_badPlace m_fault m_faultPlace (-1) m_will m_forgot 0 m_x vb vr vc vf m_any m_bothSend m_meanCards m_bestSum m_fitMany m_fitFirst m_fitSecond)), ((m_a 23), .inl (cI, 2, .inl kc1)), ((m_a 24), .inl (cZ, 2, .inl kc2)), ((m_a 25), .inl (cZ, 2, .inl kc3)), ((m_a 26), .inl (cI, 2, .inl kc4)), ((m_a 27), .inl (cZ, 2, .inl kc5)), ((m_a 34), .inl (cZ, 2, .inl kc6)), ((m_a 38), .inl (cI, 16, .inl kc7)), ((m_a 39), .inl (cI, 17, .inl kc8))]) [0, 1, 2, 3, 4, 5, 6, 7, 8] rfl
              have hD9 := hD.sub (ws' := [(mo, .inr (11, mG m_a 0 m_taped m_at m_token m_place m_value m_word m_bad m_badPlace m_fault m_faultPlace (-1) m_will m_forgot 0 m_x vb vr vc vf m_any m_bothSend m_meanCards m_bestSum m_fitMany m_fitFirst m_fitSecond)), ((m_a 23), .inl (cI, 2, .inl kc1)), ((m_a 24), .inl (cZ, 2, .inl kc2)), ((m_a 25), .inl (cZ, 2, .inl kc3)), ((m_a 26), .inl (cI, 2, .inl kc4)), ((m_a 27), .inl (cZ, 2, .inl kc5)), ((m_a 34), .inl (cZ, 2, .inl kc6)), ((m_a 38), .inl (cI, 16, .inl kc7)), ((m_a 39), .inl (cI, 17, .inl kc8))]) [0, 1, 2, 3, 4, 5, 6, 7, 8] (by decide) rfl
              exact W.iret (v := (nI n)) hx hb hr (fun t ht hW => ⟨⟨(nI n), (kc1, kc2, kc3, kc4, kc5, kc6, kc7, kc8, vb, vr, vc, vf), rfl, Or.inr ⟨⟨by omega, by omega, by omega⟩, by rw [show ip0.toNat = ra from by omega]; rw [show ip1.toNat = rb from by omega]; rw [hcn, show i = 16 from by omega]⟩, by rw [ht]; exact hP9, va_K.moved hW.alike hK, hD9⟩, hS.F ht⟩) hS.2.2 dX12_basin_77
            · have f17 := (show (i : Int) < 16 from z_nle rfl (nI_toInt (n := i) (by omega)) c16)
              refine lv_iload hx hb dX12_basin_47 (lv_at hl 4 rfl) ?_
              refine lv_aload_n hx hb dX12_basin_49 rfl (lv_at hl 0 rfl) ?_
              refine lv_iload_n hx hb dX12_basin_50 rfl (lv_at hl 1 rfl) ?_
              refine lv_iload_n hx hb dX12_basin_51 rfl (lv_at hl 2 rfl) ?_
              refine lv_iload hx hb dX12_basin_52 (lv_at hl 5 rfl) ?_
              refine rw_i (wr := []) (va_runV (As := [.int (nI ra), .int (nI rb), .int (nI i)]) (rest := [.int (nI n)]) ⟨hx, hb, hml, hown, hts⟩ (k_fX12_fateOf l g cI cJ cB cZ cL mo m_a 0 m_taped m_at m_token m_place m_value m_word m_bad m_badPlace m_fault m_faultPlace m_will m_forgot m_x m_any m_bothSend m_meanCards m_bestSum m_fitMany m_fitFirst m_fitSecond vb vr vc vf kc1 kc2 kc3 kc4 kc5 kc6 kc7 kc8 ra rb i H.size (by omega) (by omega) (by omega)) (cwV 3 hts (goodIn_app (g_4 (List.mem_cons_of_mem _ (List.mem_append_left _ (List.mem_of_getElem? (i := 7) rfl))) (List.mem_cons_of_mem _ (List.mem_append_left _ (List.mem_of_getElem? (i := 8) rfl))) (List.mem_cons_of_mem _ (List.mem_append_left _ (List.mem_of_getElem? (i := 9) rfl))) (List.mem_cons_of_mem _ (List.mem_append_left _ (List.mem_of_getElem? (i := 3) rfl))) (by decide +kernel)) (goodIn_sub (fun _ h => List.mem_cons_of_mem _ (List.mem_append_right _ (List.mem_append_right _ (List.mem_append_right _ (List.mem_append_left _ h))))) good_v_fX12_fateOf)) rfl rfl rfl (by decide +kernel) ⟨Nat.le_of_ble_eq_true rfl, Nat.le_of_ble_eq_true rfl⟩) (pv_RW (q := (RX12, TX12, 56)) (ci := 11) (q0 := 0) (wc := [(mo, .inr (11, mG m_a 0 m_taped m_at m_token m_place m_value m_word m_bad m_badPlace m_fault m_faultPlace (-1) m_will m_forgot 0 m_x vb vr vc vf m_any m_bothSend m_meanCards m_bestSum m_fitMany m_fitFirst m_fitSecond)), ((m_a 23), .inl (cI, 2, .inl kc1)), ((m_a 24), .inl (cZ, 2, .inl kc2)), ((m_a 25), .inl (cZ, 2, .inl kc3)), ((m_a 26), .inl (cI, 2, .inl kc4)), ((m_a 27), .inl (cZ, 2, .inl kc5)), ((m_a 34), .inl (cZ, 2, .inl kc6)), ((m_a 38), .inl (cI, 16, .inl kc7)), ((m_a 39), .inl (cI, 17, .inl kc8))]) hK hP hD [0, 1, 2, 3, 4, 5, 6, 7, 8] (by decide) rfl rfl rfl) rfl rfl hl.1 rfl (lv_room (Nat.le_of_ble_eq_true rfl)) dX12_basin_54 ⟨Nat.le_of_ble_eq_true rfl, Nat.le_of_ble_eq_true rfl⟩) hS hA hP hD [0, 1, 2, 3, 4, 5, 6, 7, 8] [] rfl rfl (by decide) (by decide) (fun r18 u19 H locs hw20 hP hD hS => ?_)
              obtain ⟨u_h121, u_h222, u_h323, u_h424, u_h525, u_h626, u_h727, u_h828, u_wb29, u_wr30, u_wc31, u_wf32⟩ := u19
              try dsimp only at hw20
              have hP : va_P g vwCl [(mo, .inr (11, mG m_a 0 m_taped m_at m_token m_place m_value m_word m_bad m_badPlace m_fault m_faultPlace (-1) m_will m_forgot 0 m_x u_wb29 u_wr30 u_wc31 u_wf32 m_any m_bothSend m_meanCards m_bestSum m_fitMany m_fitFirst m_fitSecond)), ((m_a 23), .inl (cI, 2, .inl u_h121)), ((m_a 24), .inl (cZ, 2, .inl u_h222)), ((m_a 25), .inl (cZ, 2, .inl u_h323)), ((m_a 26), .inl (cI, 2, .inl u_h424)), ((m_a 27), .inl (cZ, 2, .inl u_h525)), ((m_a 34), .inl (cZ, 2, .inl u_h626)), ((m_a 38), .inl (cI, 16, .inl u_h727)), ((m_a 39), .inl (cI, 17, .inl u_h828))] H := hP
              have hD : va_D A [(mo, .inr (11, mG m_a 0 m_taped m_at m_token m_place m_value m_word m_bad m_badPlace m_fault m_faultPlace (-1) m_will m_forgot 0 m_x u_wb29 u_wr30 u_wc31 u_wf32 m_any m_bothSend m_meanCards m_bestSum m_fitMany m_fitFirst m_fitSecond)), ((m_a 23), .inl (cI, 2, .inl u_h121)), ((m_a 24), .inl (cZ, 2, .inl u_h222)), ((m_a 25), .inl (cZ, 2, .inl u_h323)), ((m_a 26), .inl (cI, 2, .inl u_h424)), ((m_a 27), .inl (cZ, 2, .inl u_h525)), ((m_a 34), .inl (cZ, 2, .inl u_h626)), ((m_a 38), .inl (cI, 16, .inl u_h727)), ((m_a 39), .inl (cI, 17, .inl u_h828))] := hD
              subst hw20
              have hk33 := fK_le ra rb i
              refine lv_iload_n hx hb dX12_basin_57 rfl (lv_at hl 3 rfl) ?_
              refine lv_icmp_ne (tgt := 65) hx hb dX12_basin_58 (by decide) (fun c34 => ?_) (fun c34 => ?_)
              · have f35 := (show ((fK ra rb i : Nat) : Int) ≠ ip2 from z_ne (nI_toInt (n := fK ra rb i) (by omega)) hzp2 c34)
                refine lv_iconst (v := 0) hx hb dX12_basin_65 (by decide) ?_
                refine lv_iadd hx hb dX12_basin_66 ?_
                refine lv_topi (nm_r (e' := (nI (n + 0))) (nI_add n 0) ?_)
                refine lv_istore (lv' := [(4, .int (nI (n + 0))), (0, .ref mo), (1, .int (nI ra)), (2, .int (nI rb)), (3, .int p2), (5, .int (nI i))]) hx hb dX12_basin_67 hl (by decide) rfl (fun ls hl => ?_)
                refine lv_iinc (v := (nI (i + 1))) (lv' := [(5, .int (nI (i + 1))), (4, .int (nI (n + 0))), (0, .ref mo), (1, .int (nI ra)), (2, .int (nI rb)), (3, .int p2)]) hx hb dX12_basin_69 hl (k := 5) rfl (nI_add i 1) (by decide) rfl (fun ls hl => ?_)
                refine lv_goto (tgt := 40) hx hb dX12_basin_72 (by decide) ?_
                exact ih14 n (i + 1) u_wb29 u_wr30 u_wc31 u_wf32 u_h121 u_h222 u_h323 u_h424 u_h525 u_h626 u_h727 u_h828 _ _ _ (by omega) (by omega) (by omega) (by rw [hcn]; exact cP_f (p := (fun t => ((fK ra rb t : Nat) : Int) = ip2)) (by omega)) (hP.sub [0, 1, 2, 3, 4, 5, 6, 7, 8] rfl) (hD.sub [0, 1, 2, 3, 4, 5, 6, 7, 8] (by decide) rfl) hS (lv_sub hl [2, 3, 4, 5, 1, 0] rfl)
              · have f35 := (show ((fK ra rb i : Nat) : Int) = ip2 from z_eq (nI_toInt (n := fK ra rb i) (by omega)) hzp2 c34)
                refine lv_iconst (v := 1) hx hb dX12_basin_61 (by decide) ?_
                refine lv_goto (tgt := 66) hx hb dX12_basin_62 (by decide) ?_
                refine lv_iadd hx hb dX12_basin_66 ?_
                refine lv_topi (nm_r (e' := (nI (n + 1))) (nI_add n 1) ?_)
                refine lv_istore (lv' := [(4, .int (nI (n + 1))), (0, .ref mo), (1, .int (nI ra)), (2, .int (nI rb)), (3, .int p2), (5, .int (nI i))]) hx hb dX12_basin_67 hl (by decide) rfl (fun ls hl => ?_)
                refine lv_iinc (v := (nI (i + 1))) (lv' := [(5, .int (nI (i + 1))), (4, .int (nI (n + 1))), (0, .ref mo), (1, .int (nI ra)), (2, .int (nI rb)), (3, .int p2)]) hx hb dX12_basin_69 hl (k := 5) rfl (nI_add i 1) (by decide) rfl (fun ls hl => ?_)
                refine lv_goto (tgt := 40) hx hb dX12_basin_72 (by decide) ?_
                exact ih14 (n + 1) (i + 1) u_wb29 u_wr30 u_wc31 u_wf32 u_h121 u_h222 u_h323 u_h424 u_h525 u_h626 u_h727 u_h828 _ _ _ (by omega) (by omega) (by omega) (by rw [hcn]; exact cP_t (p := (fun t => ((fK ra rb t : Nat) : Int) = ip2)) (by omega)) (hP.sub [0, 1, 2, 3, 4, 5, 6, 7, 8] rfl) (hD.sub [0, 1, 2, 3, 4, 5, 6, 7, 8] (by decide) rfl) hS (lv_sub hl [2, 3, 4, 5, 1, 0] rfl)
        exact lp15 _ 0 0 vb vr vc vf kc1 kc2 kc3 kc4 kc5 kc6 kc7 kc8 _ _ _ (Nat.lt_succ_self _) (Nat.zero_le _) (Nat.le_refl _) rfl (hP.sub [0, 1, 2, 3, 4, 5, 6, 7, 8] rfl) (hD.sub [0, 1, 2, 3, 4, 5, 6, 7, 8] (by decide) rfl) hS (lv_sub hl [2, 3, 4, 5, 1, 0] rfl)
      · refine lv_if_ne (tgt := 34) hx hb dX12_basin_28 (by decide) (fun c36 => absurd c36 (by decide)) (fun _ => ?_)
        refine lv_bipush (v := (-2)) hx hb dX12_basin_31 (by decide) ?_
        have hP9 := hP.sub (ws' := [(mo, .inr (11, mG m_a 0 m_taped m_at m_token m_place m_value m_word m_bad m_badPlace m_fault m_faultPlace (-1) m_will m_forgot 0 m_x vb vr vc vf m_any m_bothSend m_meanCards m_bestSum m_fitMany m_fitFirst m_fitSecond)), ((m_a 23), .inl (cI, 2, .inl kc1)), ((m_a 24), .inl (cZ, 2, .inl kc2)), ((m_a 25), .inl (cZ, 2, .inl kc3)), ((m_a 26), .inl (cI, 2, .inl kc4)), ((m_a 27), .inl (cZ, 2, .inl kc5)), ((m_a 34), .inl (cZ, 2, .inl kc6)), ((m_a 38), .inl (cI, 16, .inl kc7)), ((m_a 39), .inl (cI, 17, .inl kc8))]) [0, 1, 2, 3, 4, 5, 6, 7, 8] rfl
        have hD9 := hD.sub (ws' := [(mo, .inr (11, mG m_a 0 m_taped m_at m_token m_place m_value m_word m_bad m_badPlace m_fault m_faultPlace (-1) m_will m_forgot 0 m_x vb vr vc vf m_any m_bothSend m_meanCards m_bestSum m_fitMany m_fitFirst m_fitSecond)), ((m_a 23), .inl (cI, 2, .inl kc1)), ((m_a 24), .inl (cZ, 2, .inl kc2)), ((m_a 25), .inl (cZ, 2, .inl kc3)), ((m_a 26), .inl (cI, 2, .inl kc4)), ((m_a 27), .inl (cZ, 2, .inl kc5)), ((m_a 34), .inl (cZ, 2, .inl kc6)), ((m_a 38), .inl (cI, 16, .inl kc7)), ((m_a 39), .inl (cI, 17, .inl kc8))]) [0, 1, 2, 3, 4, 5, 6, 7, 8] (by decide) rfl
        exact W.iret (v := (-2)) hx hb hr (fun t ht hW => ⟨⟨(-2), (kc1, kc2, kc3, kc4, kc5, kc6, kc7, kc8, vb, vr, vc, vf), rfl, Or.inl ⟨rfl, by omega⟩, by rw [ht]; exact hP9, va_K.moved hW.alike hK, hD9⟩, hS.F ht⟩) hS.2.2 dX12_basin_33
    · refine lv_if_eq (tgt := 31) hx hb dX12_basin_16 (by decide) (fun _ => ?_) (fun c37 => absurd c37 (by decide))
      refine lv_bipush (v := (-2)) hx hb dX12_basin_31 (by decide) ?_
      have hP9 := hP.sub (ws' := [(mo, .inr (11, mG m_a 0 m_taped m_at m_token m_place m_value m_word m_bad m_badPlace m_fault m_faultPlace (-1) m_will m_forgot 0 m_x vb vr vc vf m_any m_bothSend m_meanCards m_bestSum m_fitMany m_fitFirst m_fitSecond)), ((m_a 23), .inl (cI, 2, .inl kc1)), ((m_a 24), .inl (cZ, 2, .inl kc2)), ((m_a 25), .inl (cZ, 2, .inl kc3)), ((m_a 26), .inl (cI, 2, .inl kc4)), ((m_a 27), .inl (cZ, 2, .inl kc5)), ((m_a 34), .inl (cZ, 2, .inl kc6)), ((m_a 38), .inl (cI, 16, .inl kc7)), ((m_a 39), .inl (cI, 17, .inl kc8))]) [0, 1, 2, 3, 4, 5, 6, 7, 8] rfl
      have hD9 := hD.sub (ws' := [(mo, .inr (11, mG m_a 0 m_taped m_at m_token m_place m_value m_word m_bad m_badPlace m_fault m_faultPlace (-1) m_will m_forgot 0 m_x vb vr vc vf m_any m_bothSend m_meanCards m_bestSum m_fitMany m_fitFirst m_fitSecond)), ((m_a 23), .inl (cI, 2, .inl kc1)), ((m_a 24), .inl (cZ, 2, .inl kc2)), ((m_a 25), .inl (cZ, 2, .inl kc3)), ((m_a 26), .inl (cI, 2, .inl kc4)), ((m_a 27), .inl (cZ, 2, .inl kc5)), ((m_a 34), .inl (cZ, 2, .inl kc6)), ((m_a 38), .inl (cI, 16, .inl kc7)), ((m_a 39), .inl (cI, 17, .inl kc8))]) [0, 1, 2, 3, 4, 5, 6, 7, 8] (by decide) rfl
      exact W.iret (v := (-2)) hx hb hr (fun t ht hW => ⟨⟨(-2), (kc1, kc2, kc3, kc4, kc5, kc6, kc7, kc8, vb, vr, vc, vf), rfl, Or.inl ⟨rfl, by omega⟩, by rw [ht]; exact hP9, va_K.moved hW.alike hK, hD9⟩, hS.F ht⟩) hS.2.2 dX12_basin_33
  · refine lv_if_eq (tgt := 31) hx hb dX12_basin_9 (by decide) (fun _ => ?_) (fun c38 => absurd c38 (by decide))
    refine lv_bipush (v := (-2)) hx hb dX12_basin_31 (by decide) ?_
    have hP9 := hP.sub (ws' := [(mo, .inr (11, mG m_a 0 m_taped m_at m_token m_place m_value m_word m_bad m_badPlace m_fault m_faultPlace (-1) m_will m_forgot 0 m_x vb vr vc vf m_any m_bothSend m_meanCards m_bestSum m_fitMany m_fitFirst m_fitSecond)), ((m_a 23), .inl (cI, 2, .inl kc1)), ((m_a 24), .inl (cZ, 2, .inl kc2)), ((m_a 25), .inl (cZ, 2, .inl kc3)), ((m_a 26), .inl (cI, 2, .inl kc4)), ((m_a 27), .inl (cZ, 2, .inl kc5)), ((m_a 34), .inl (cZ, 2, .inl kc6)), ((m_a 38), .inl (cI, 16, .inl kc7)), ((m_a 39), .inl (cI, 17, .inl kc8))]) [0, 1, 2, 3, 4, 5, 6, 7, 8] rfl
    have hD9 := hD.sub (ws' := [(mo, .inr (11, mG m_a 0 m_taped m_at m_token m_place m_value m_word m_bad m_badPlace m_fault m_faultPlace (-1) m_will m_forgot 0 m_x vb vr vc vf m_any m_bothSend m_meanCards m_bestSum m_fitMany m_fitFirst m_fitSecond)), ((m_a 23), .inl (cI, 2, .inl kc1)), ((m_a 24), .inl (cZ, 2, .inl kc2)), ((m_a 25), .inl (cZ, 2, .inl kc3)), ((m_a 26), .inl (cI, 2, .inl kc4)), ((m_a 27), .inl (cZ, 2, .inl kc5)), ((m_a 34), .inl (cZ, 2, .inl kc6)), ((m_a 38), .inl (cI, 16, .inl kc7)), ((m_a 39), .inl (cI, 17, .inl kc8))]) [0, 1, 2, 3, 4, 5, 6, 7, 8] (by decide) rfl
    exact W.iret (v := (-2)) hx hb hr (fun t ht hW => ⟨⟨(-2), (kc1, kc2, kc3, kc4, kc5, kc6, kc7, kc8, vb, vr, vc, vf), rfl, Or.inl ⟨rfl, by omega⟩, by rw [ht]; exact hP9, va_K.moved hW.alike hK, hD9⟩, hS.F ht⟩) hS.2.2 dX12_basin_33
