def v_X11_write : List Cond := .code yX11_write cX11_write 5 (some .int) :: (([.methodLink RX11 148 yX11_isBelow, .static yX11_isBelow, .initialized RX11, .fieldLink RX11 65 "CardsAtYule" "slots" "LCardsAtYule$Slots;", .methodLink RX11 394 yX7_has, .instanceMethod yX7_has, .selects RX7 yX7_has yX7_has, .initialized RX7, .fieldLink RX11 339 "CardsAtYule$Slots" "size" "[I", .methodLink RX11 397 yX7_put, .instanceMethod yX7_put, .selects RX7 yX7_put yX7_put] : List Cond) ++ (v_X11_isBelow ++ (v_X7_has ++ (v_X7_put ++ (wsX110 ++ (wsX70 ++ ([] : List Cond)))))))
theorem good_v_X11_write : v_X11_write.all goodWord = true := ga_c (by decide +kernel) (ga_a (by decide +kernel) (ga_a good_v_X11_isBelow (ga_a good_v_X7_has (ga_a good_v_X7_put (ga_a good_wsX110 (ga_a good_wsX70 rfl))))))
set_option maxHeartbeats 4000000 in
set_option maxRecDepth 100000 in
theorem q_X11_write (l : Launch) (g : va_G) (cI cJ cB cZ cL : ClassId) (p0 : Int32) (p1 : Int32) (p2 : Int64) (x : Nat) (x_tape : Nat) (x_land : Nat) (x_images : Nat) (x_book : Nat) (x_course : Nat) (x_fates : Nat) (x_chances : Nat) (x_will : Nat) (x_slots : Nat) (x_seen : Nat) (x_drawn : Nat) (x_slots_width : Nat) (x_slots_size : Nat) (x_slots_numbers : Nat) (x_slots_size_c : Nat → Int32) (x_slots_width_c : Nat → Int32) (x_slots_numbers_c : Nat → Int64) (sz : Nat) (ha_x_slots_size_c : ar x_slots_size_c 4 (-1) 60) : Met l yX11_write v_X11_write ({ frames := 1, cells := 0, slots := 0, locals := 25 }) (va_Pc [.ref x, .int p0, .int p1, .long p2] (pRW g (tyT cI cJ cB cZ cL) [(x, .inr (10, [.ref x_tape, .ref x_land, .ref x_images, .ref x_book, .ref x_course, .ref x_fates, .ref x_chances, .ref x_will, .ref x_slots, .ref x_seen, .ref x_drawn])), (x_slots, .inr (7, [.ref x_slots_width, .ref x_slots_size, .ref x_slots_numbers])), (x_slots_size, .inl (cI, 4, .inl x_slots_size_c)), (x_slots_width, .inl (cI, 4, .inl x_slots_width_c)), (x_slots_numbers, .inl (cJ, 240, .inr (.inl x_slots_numbers_c)))] sz)) (va_Qi (fun (r : Int32) (u : (Nat → Int64)) => match u with | n_x_slots_numbers_c => (ir r.toInt (-7) 0)) (fun (u : (Nat → Int64)) (t : State) => bRW g (tyT cI cJ cB cZ cL) (va_A [(x, .inr (10, [.ref x_tape, .ref x_land, .ref x_images, .ref x_book, .ref x_course, .ref x_fates, .ref x_chances, .ref x_will, .ref x_slots, .ref x_seen, .ref x_drawn])), (x_slots, .inr (7, [.ref x_slots_width, .ref x_slots_size, .ref x_slots_numbers])), (x_slots_size, .inl (cI, 4, .inl x_slots_size_c)), (x_slots_width, .inl (cI, 4, .inl x_slots_width_c)), (x_slots_numbers, .inl (cJ, 240, .inr (.inl x_slots_numbers_c)))] sz) (match u with | n_x_slots_numbers_c => [(x, .inr (10, [.ref x_tape, .ref x_land, .ref x_images, .ref x_book, .ref x_course, .ref x_fates, .ref x_chances, .ref x_will, .ref x_slots, .ref x_seen, .ref x_drawn])), (x_slots, .inr (7, [.ref x_slots_width, .ref x_slots_size, .ref x_slots_numbers])), (x_slots_size, .inl (cI, 4, .inl x_slots_size_c)), (x_slots_width, .inl (cI, 4, .inl x_slots_width_c)), (x_slots_numbers, .inl (cJ, 240, .inr (.inl n_x_slots_numbers_c)))]) t) (va_A [(x, .inr (10, [.ref x_tape, .ref x_land, .ref x_images, .ref x_book, .ref x_course, .ref x_fates, .ref x_chances, .ref x_will, .ref x_slots, .ref x_seen, .ref x_drawn])), (x_slots, .inr (7, [.ref x_slots_width, .ref x_slots_size, .ref x_slots_numbers])), (x_slots_size, .inl (cI, 4, .inl x_slots_size_c)), (x_slots_width, .inl (cI, 4, .inl x_slots_width_c)), (x_slots_numbers, .inl (cJ, 240, .inr (.inl x_slots_numbers_c)))] sz)) 0 0 (va_A [(x, .inr (10, [.ref x_tape, .ref x_land, .ref x_images, .ref x_book, .ref x_course, .ref x_fates, .ref x_chances, .ref x_will, .ref x_slots, .ref x_seen, .ref x_drawn])), (x_slots, .inr (7, [.ref x_slots_width, .ref x_slots_size, .ref x_slots_numbers])), (x_slots_size, .inl (cI, 4, .inl x_slots_size_c)), (x_slots_width, .inl (cI, 4, .inl x_slots_width_c)), (x_slots_numbers, .inl (cJ, 240, .inr (.inl x_slots_numbers_c)))] sz) := by
  refine Met.ofW (cc := cX11_write) (maxL := 5) (ret := (some .int)) (by decide) rfl ?_
  intro p e s m args below meth c s₁ B hml hv
  obtain ⟨rfl, hsz, hP, hK, hD0⟩ := hv
  have hx := B.exec
  have hb := B.bytes
  have hr := B.returns
  have hts := atoms_spec (ws := v_X11_write) B.pre
  have hown : s.vm.findClass RX11 = some m.cls := findClass_of_methodNamed B.named
  have hlocks := B.notSynchronized
  clear B
  subst hsz
  have iX11 : ∀ w ∈ wsX110, w ∈ v_X11_write := (fun _ h => List.mem_cons_of_mem _ (List.mem_append_right _ (List.mem_append_right _ (List.mem_append_right _ (List.mem_append_right _ (List.mem_append_left _ h))))))
  have iX7 : ∀ w ∈ wsX70, w ∈ v_X11_write := (fun _ h => List.mem_cons_of_mem _ (List.mem_append_right _ (List.mem_append_right _ (List.mem_append_right _ (List.mem_append_right _ (List.mem_append_right _ (List.mem_append_left _ h)))))))
  have hD := hD0.self (sz := s.heap.size)
  generalize hAe : (va_A [(x, .inr (10, [.ref x_tape, .ref x_land, .ref x_images, .ref x_book, .ref x_course, .ref x_fates, .ref x_chances, .ref x_will, .ref x_slots, .ref x_seen, .ref x_drawn])), (x_slots, .inr (7, [.ref x_slots_width, .ref x_slots_size, .ref x_slots_numbers])), (x_slots_size, .inl (cI, 4, .inl x_slots_size_c)), (x_slots_width, .inl (cI, 4, .inl x_slots_width_c)), (x_slots_numbers, .inl (cJ, 240, .inr (.inl x_slots_numbers_c)))] s.heap.size) = A at hD ⊢
  have hA : ∀ q : Nat, s.heap.size ≤ q → A q := fun q h => by rw [← hAe]; exact Or.inr h
  have hS : va_S A s.heap s.heap [] := va_S.rf
  have hl := lv_entry ([.ref x, .int p0, .int p1, .long p2]) (n := 5) (Nat.le_of_ble_eq_true rfl)
  rw [lg_entry_eq]
  generalize (lg_sl ([.ref x, .int p0, .int p1, .long p2]) ++ List.replicate (5 - (lg_sl ([.ref x, .int p0, .int p1, .long p2])).length) Slot.unset).toArray = ls at hl ⊢
  generalize ([.ref x, .int p0, .int p1, .long p2] : List Value).toArray = av at hts ⊢
  generalize hQ : MQ below _ av s _ _ A = QQ
  have hl : lv_has ls 5 [(0, .ref x), (1, .int p0), (2, .int p1), (3, .long p2)] := hl
  have hP : va_P g vwCl [(x, .inr (10, [.ref x_tape, .ref x_land, .ref x_images, .ref x_book, .ref x_course, .ref x_fates, .ref x_chances, .ref x_will, .ref x_slots, .ref x_seen, .ref x_drawn])), (x_slots, .inr (7, [.ref x_slots_width, .ref x_slots_size, .ref x_slots_numbers])), (x_slots_size, .inl (cI, 4, .inl x_slots_size_c)), (x_slots_width, .inl (cI, 4, .inl x_slots_width_c)), (x_slots_numbers, .inl (cJ, 240, .inr (.inl x_slots_numbers_c)))] s.heap := hP
  refine lv_iload_n hx hb dX11_write_0 rfl (lv_at hl 1 rfl) ?_
  refine lv_iconst (v := 4) hx hb dX11_write_1 (by decide) ?_
  refine ro_i (va_runS (As := [.int p0, .int 4]) (rest := []) ⟨hx, hb, hml, hown, hts⟩ (q_X11_isBelow l g cI cJ cB cZ cL p0 4 s.heap.size ) (va_cwS 2 hts (goodIn_app (g_3 (List.mem_cons_of_mem _ (List.mem_append_left _ (List.mem_of_getElem? (i := 0) rfl))) (List.mem_cons_of_mem _ (List.mem_append_left _ (List.mem_of_getElem? (i := 1) rfl))) (List.mem_cons_of_mem _ (List.mem_append_left _ (List.mem_of_getElem? (i := 2) rfl))) (by decide +kernel)) (goodIn_sub (fun _ h => List.mem_cons_of_mem _ (List.mem_append_right _ (List.mem_append_left _ h))) good_v_X11_isBelow)) rfl rfl rfl (by decide +kernel) ⟨Nat.le_of_ble_eq_true rfl, Nat.le_of_ble_eq_true rfl⟩) (ps_RO (wc := []) hK hP [] rfl) rfl rfl hl.1 rfl (lv_room (Nat.le_of_ble_eq_true rfl)) dX11_write_2 ⟨Nat.le_of_ble_eq_true rfl, Nat.le_of_ble_eq_true rfl⟩) hS hA hP (fun r2 u2 H locs hw2 hP hS => ?_)
  have hw2_0 := hw2
  rcases hw2_0 with ⟨er2, fc2_0, fc2_1⟩ | er2
  rotate_left 1
  · subst er2
    refine lv_if_ne (tgt := 11) hx hb dX11_write_5 (by decide) (fun c => absurd c (by decide)) (fun _ => ?_)
    refine lv_bipush (v := (-2)) hx hb dX11_write_8 (by decide) ?_
    subst hQ
    have hP9 := hP.sub (ws' := [(x, .inr (10, [.ref x_tape, .ref x_land, .ref x_images, .ref x_book, .ref x_course, .ref x_fates, .ref x_chances, .ref x_will, .ref x_slots, .ref x_seen, .ref x_drawn])), (x_slots, .inr (7, [.ref x_slots_width, .ref x_slots_size, .ref x_slots_numbers])), (x_slots_size, .inl (cI, 4, .inl x_slots_size_c)), (x_slots_width, .inl (cI, 4, .inl x_slots_width_c)), (x_slots_numbers, .inl (cJ, 240, .inr (.inl x_slots_numbers_c)))]) [0, 1, 2, 3, 4] rfl
    have hD9 := hD.sub (ws' := [(x, .inr (10, [.ref x_tape, .ref x_land, .ref x_images, .ref x_book, .ref x_course, .ref x_fates, .ref x_chances, .ref x_will, .ref x_slots, .ref x_seen, .ref x_drawn])), (x_slots, .inr (7, [.ref x_slots_width, .ref x_slots_size, .ref x_slots_numbers])), (x_slots_size, .inl (cI, 4, .inl x_slots_size_c)), (x_slots_width, .inl (cI, 4, .inl x_slots_width_c)), (x_slots_numbers, .inl (cJ, 240, .inr (.inl x_slots_numbers_c)))]) [0, 1, 2, 3, 4] (by decide) rfl
    exact W.iret (v := (-2)) hx hb hr (fun t ht hW => ⟨⟨(-2), x_slots_numbers_c, rfl, (show ir ((-2) : Int32).toInt (-7) 0 by decide), ⟨by rw [ht]; exact hP9, va_K.moved hW.alike hK, hD9⟩⟩, hS.F ht⟩) hS.2.2 dX11_write_10
  subst er2
  have fc2_0 : 0 ≤ p0.toInt := fc2_0
  have r2_0b : ir p0.toInt 0 2147483647 := ir_leb fc2_0 (ir_c 0) (rg_all p0) (by decide)
  have fc2_1 : p0.toInt < 4 := fc2_1
  have r2_1a : ir p0.toInt 0 3 := ir_lta fc2_1 r2_0b (ir_c 4) (by decide)
  refine lv_if_ne (tgt := 11) hx hb dX11_write_5 (by decide) (fun _ => ?_) (fun c => absurd c (by decide))
  refine lv_aload_n hx hb dX11_write_11 rfl (lv_at hl 0 rfl) ?_
  refine va_get (D := g) (ci := 10) (v := .ref x_slots) (C := RX11) (T := TX11) (N := 11) hx hb hts iX11 hown hK hP 0 rfl rfl 8 (by decide) (hts (.fieldLink RX11 65 "CardsAtYule" "slots" "LCardsAtYule$Slots;") (List.mem_cons_of_mem _ (List.mem_append_left _ (List.mem_of_getElem? (i := 3) rfl)))) (fun _ h9 => h9) rfl dX11_write_12 ?_
  refine lv_iload_n hx hb dX11_write_15 rfl (lv_at hl 1 rfl) ?_
  refine ro_i (va_runV (As := [.int p0]) (rest := []) ⟨hx, hb, hml, hown, hts⟩ (q_X7_has l g cI cJ cB cZ cL p0 x_slots x_slots_width x_slots_size x_slots_numbers x_slots_size_c H.size r2_1a ha_x_slots_size_c) (cwV 1 hts (goodIn_app (g_4 (List.mem_cons_of_mem _ (List.mem_append_left _ (List.mem_of_getElem? (i := 4) rfl))) (List.mem_cons_of_mem _ (List.mem_append_left _ (List.mem_of_getElem? (i := 5) rfl))) (List.mem_cons_of_mem _ (List.mem_append_left _ (List.mem_of_getElem? (i := 6) rfl))) (List.mem_cons_of_mem _ (List.mem_append_left _ (List.mem_of_getElem? (i := 7) rfl))) (by decide +kernel)) (goodIn_sub (fun _ h => List.mem_cons_of_mem _ (List.mem_append_right _ (List.mem_append_right _ (List.mem_append_left _ h)))) good_v_X7_has)) rfl rfl rfl (by decide +kernel) ⟨Nat.le_of_ble_eq_true rfl, Nat.le_of_ble_eq_true rfl⟩) (pv_RO (q := (RX7, TX7, 3)) (ci := 7) (q0 := 0) (wc := [(x_slots, .inr (7, [.ref x_slots_width, .ref x_slots_size, .ref x_slots_numbers])), (x_slots_size, .inl (cI, 4, .inl x_slots_size_c))]) hK hP [1, 2] rfl rfl rfl) rfl rfl hl.1 rfl (lv_room (Nat.le_of_ble_eq_true rfl)) dX11_write_16 ⟨Nat.le_of_ble_eq_true rfl, Nat.le_of_ble_eq_true rfl⟩) hS hA hP (fun r16 u16 H locs hw16 hP hS => ?_)
  have hw16_0 := hw16
  refine lv_if_ne (tgt := 25) hx hb dX11_write_19 (by decide) (fun c19 => ?_) (fun c19 => ?_)
  rotate_left 1
  · have f19 := (show r16.toInt = 0 from z_eq rfl rfl c19)
    have r19a : ir r16.toInt 0 0 := ir_eqa f19 hw16_0 (ir_c 0) (by decide) (by decide)
    refine lv_bipush (v := (-6)) hx hb dX11_write_22 (by decide) ?_
    subst hQ
    have hP9 := hP.sub (ws' := [(x, .inr (10, [.ref x_tape, .ref x_land, .ref x_images, .ref x_book, .ref x_course, .ref x_fates, .ref x_chances, .ref x_will, .ref x_slots, .ref x_seen, .ref x_drawn])), (x_slots, .inr (7, [.ref x_slots_width, .ref x_slots_size, .ref x_slots_numbers])), (x_slots_size, .inl (cI, 4, .inl x_slots_size_c)), (x_slots_width, .inl (cI, 4, .inl x_slots_width_c)), (x_slots_numbers, .inl (cJ, 240, .inr (.inl x_slots_numbers_c)))]) [0, 1, 2, 3, 4] rfl
    have hD9 := hD.sub (ws' := [(x, .inr (10, [.ref x_tape, .ref x_land, .ref x_images, .ref x_book, .ref x_course, .ref x_fates, .ref x_chances, .ref x_will, .ref x_slots, .ref x_seen, .ref x_drawn])), (x_slots, .inr (7, [.ref x_slots_width, .ref x_slots_size, .ref x_slots_numbers])), (x_slots_size, .inl (cI, 4, .inl x_slots_size_c)), (x_slots_width, .inl (cI, 4, .inl x_slots_width_c)), (x_slots_numbers, .inl (cJ, 240, .inr (.inl x_slots_numbers_c)))]) [0, 1, 2, 3, 4] (by decide) rfl
    exact W.iret (v := (-6)) hx hb hr (fun t ht hW => ⟨⟨(-6), x_slots_numbers_c, rfl, (show ir ((-6) : Int32).toInt (-7) 0 by decide), ⟨by rw [ht]; exact hP9, va_K.moved hW.alike hK, hD9⟩⟩, hS.F ht⟩) hS.2.2 dX11_write_24
  have f19 := (show r16.toInt ≠ 0 from z_ne rfl rfl c19)
  have r19a : ir r16.toInt 1 1 := ir_nel f19 hw16_0 (by decide) (by decide)
  refine lv_iload_n hx hb dX11_write_25 rfl (lv_at hl 2 rfl) ?_
  refine lv_aload_n hx hb dX11_write_26 rfl (lv_at hl 0 rfl) ?_
  refine va_get (D := g) (ci := 10) (v := .ref x_slots) (C := RX11) (T := TX11) (N := 11) hx hb hts iX11 hown hK hP 0 rfl rfl 8 (by decide) (hts (.fieldLink RX11 65 "CardsAtYule" "slots" "LCardsAtYule$Slots;") (List.mem_cons_of_mem _ (List.mem_append_left _ (List.mem_of_getElem? (i := 3) rfl)))) (fun _ h9 => h9) rfl dX11_write_27 ?_
  refine va_get (D := g) (ci := 7) (v := .ref x_slots_size) (C := RX7) (T := TX7) (N := 3) hx hb hts iX7 hown hK hP 1 rfl rfl 1 (by decide) (hts (.fieldLink RX11 339 "CardsAtYule$Slots" "size" "[I") (List.mem_cons_of_mem _ (List.mem_append_left _ (List.mem_of_getElem? (i := 8) rfl)))) (fun _ h9 => h9) rfl dX11_write_30 ?_
  refine lv_iload_n hx hb dX11_write_33 rfl (lv_at hl 1 rfl) ?_
  refine va_iald (D := g) hx hb hK hP 2 0 rfl rfl (vi_rg rfl r2_1a (by decide) (by decide)) dX11_write_34 ?_
  refine lv_topi (fun y34 e34 => ?_)
  have r34 : ir y34.toInt (-1) 60 := by rw [e34]; exact ha_x_slots_size_c _ (vi_cl (vi_rg rfl r2_1a (by decide) (by decide)))
  refine ro_i (va_runS (As := [.int p1, .int y34]) (rest := []) ⟨hx, hb, hml, hown, hts⟩ (q_X11_isBelow l g cI cJ cB cZ cL p1 y34 H.size ) (va_cwS 2 hts (goodIn_app (g_3 (List.mem_cons_of_mem _ (List.mem_append_left _ (List.mem_of_getElem? (i := 0) rfl))) (List.mem_cons_of_mem _ (List.mem_append_left _ (List.mem_of_getElem? (i := 1) rfl))) (List.mem_cons_of_mem _ (List.mem_append_left _ (List.mem_of_getElem? (i := 2) rfl))) (by decide +kernel)) (goodIn_sub (fun _ h => List.mem_cons_of_mem _ (List.mem_append_right _ (List.mem_append_left _ h))) good_v_X11_isBelow)) rfl rfl rfl (by decide +kernel) ⟨Nat.le_of_ble_eq_true rfl, Nat.le_of_ble_eq_true rfl⟩) (ps_RO (wc := []) hK hP [] rfl) rfl rfl hl.1 rfl (lv_room (Nat.le_of_ble_eq_true rfl)) dX11_write_35 ⟨Nat.le_of_ble_eq_true rfl, Nat.le_of_ble_eq_true rfl⟩) hS hA hP (fun r35 u35 H locs hw35 hP hS => ?_)
  have hw35_0 := hw35
  rcases hw35_0 with ⟨er35, fc35_0, fc35_1⟩ | er35
  rotate_left 1
  · subst er35
    refine lv_if_ne (tgt := 44) hx hb dX11_write_38 (by decide) (fun c => absurd c (by decide)) (fun _ => ?_)
    refine lv_bipush (v := (-7)) hx hb dX11_write_41 (by decide) ?_
    subst hQ
    have hP9 := hP.sub (ws' := [(x, .inr (10, [.ref x_tape, .ref x_land, .ref x_images, .ref x_book, .ref x_course, .ref x_fates, .ref x_chances, .ref x_will, .ref x_slots, .ref x_seen, .ref x_drawn])), (x_slots, .inr (7, [.ref x_slots_width, .ref x_slots_size, .ref x_slots_numbers])), (x_slots_size, .inl (cI, 4, .inl x_slots_size_c)), (x_slots_width, .inl (cI, 4, .inl x_slots_width_c)), (x_slots_numbers, .inl (cJ, 240, .inr (.inl x_slots_numbers_c)))]) [0, 1, 2, 3, 4] rfl
    have hD9 := hD.sub (ws' := [(x, .inr (10, [.ref x_tape, .ref x_land, .ref x_images, .ref x_book, .ref x_course, .ref x_fates, .ref x_chances, .ref x_will, .ref x_slots, .ref x_seen, .ref x_drawn])), (x_slots, .inr (7, [.ref x_slots_width, .ref x_slots_size, .ref x_slots_numbers])), (x_slots_size, .inl (cI, 4, .inl x_slots_size_c)), (x_slots_width, .inl (cI, 4, .inl x_slots_width_c)), (x_slots_numbers, .inl (cJ, 240, .inr (.inl x_slots_numbers_c)))]) [0, 1, 2, 3, 4] (by decide) rfl
    exact W.iret (v := (-7)) hx hb hr (fun t ht hW => ⟨⟨(-7), x_slots_numbers_c, rfl, (show ir ((-7) : Int32).toInt (-7) 0 by decide), ⟨by rw [ht]; exact hP9, va_K.moved hW.alike hK, hD9⟩⟩, hS.F ht⟩) hS.2.2 dX11_write_43
  subst er35
  have fc35_0 : 0 ≤ p1.toInt := fc35_0
  have r35_0b : ir p1.toInt 0 2147483647 := ir_leb fc35_0 (ir_c 0) (rg_all p1) (by decide)
  have fc35_1 : p1.toInt < y34.toInt := fc35_1
  have r35_1a : ir p1.toInt 0 59 := ir_lta fc35_1 r35_0b r34 (by decide)
  have r35_1b : ir y34.toInt 1 60 := ir_ltb fc35_1 r35_0b r34 (by decide)
  refine lv_if_ne (tgt := 44) hx hb dX11_write_38 (by decide) (fun _ => ?_) (fun c => absurd c (by decide))
  refine lv_aload_n hx hb dX11_write_44 rfl (lv_at hl 0 rfl) ?_
  refine va_get (D := g) (ci := 10) (v := .ref x_slots) (C := RX11) (T := TX11) (N := 11) hx hb hts iX11 hown hK hP 0 rfl rfl 8 (by decide) (hts (.fieldLink RX11 65 "CardsAtYule" "slots" "LCardsAtYule$Slots;") (List.mem_cons_of_mem _ (List.mem_append_left _ (List.mem_of_getElem? (i := 3) rfl)))) (fun _ h9 => h9) rfl dX11_write_45 ?_
  refine lv_iload_n hx hb dX11_write_48 rfl (lv_at hl 1 rfl) ?_
  refine lv_iload_n hx hb dX11_write_49 rfl (lv_at hl 2 rfl) ?_
  refine lv_lload_n hx hb dX11_write_50 rfl (lv_at hl 3 rfl) ?_
  refine rw_v (wr := [(x, .inr (10, [.ref x_tape, .ref x_land, .ref x_images, .ref x_book, .ref x_course, .ref x_fates, .ref x_chances, .ref x_will, .ref x_slots, .ref x_seen, .ref x_drawn])), (x_slots_size, .inl (cI, 4, .inl x_slots_size_c))]) (va_runV (As := [.int p0, .int p1, .long p2]) (rest := []) ⟨hx, hb, hml, hown, hts⟩ (q_X7_put l g cI cJ cB cZ cL p0 p1 p2 x_slots x_slots_width x_slots_size x_slots_numbers x_slots_width_c x_slots_numbers_c H.size r2_1a r35_1a) (cwV 3 hts (goodIn_app (g_4 (List.mem_cons_of_mem _ (List.mem_append_left _ (List.mem_of_getElem? (i := 9) rfl))) (List.mem_cons_of_mem _ (List.mem_append_left _ (List.mem_of_getElem? (i := 10) rfl))) (List.mem_cons_of_mem _ (List.mem_append_left _ (List.mem_of_getElem? (i := 11) rfl))) (List.mem_cons_of_mem _ (List.mem_append_left _ (List.mem_of_getElem? (i := 7) rfl))) (by decide +kernel)) (goodIn_sub (fun _ h => List.mem_cons_of_mem _ (List.mem_append_right _ (List.mem_append_right _ (List.mem_append_right _ (List.mem_append_left _ h))))) good_v_X7_put)) rfl rfl rfl (by decide +kernel) ⟨Nat.le_of_ble_eq_true rfl, Nat.le_of_ble_eq_true rfl⟩) (pv_RW (q := (RX7, TX7, 3)) (ci := 7) (q0 := 0) (wc := [(x_slots, .inr (7, [.ref x_slots_width, .ref x_slots_size, .ref x_slots_numbers])), (x_slots_width, .inl (cI, 4, .inl x_slots_width_c)), (x_slots_numbers, .inl (cJ, 240, .inr (.inl x_slots_numbers_c)))]) hK hP hD [1, 3, 4] (by decide) rfl rfl rfl) rfl rfl hl.1 rfl (lv_room (Nat.le_of_ble_eq_true rfl)) dX11_write_51 ⟨Nat.le_of_ble_eq_true rfl, Nat.le_of_ble_eq_true rfl⟩) hS hA hP hD [1, 3, 4] [0, 2] rfl rfl (by decide) (by decide) (fun u51 H locs hw51 hP hD hS => ?_)
  generalize u51 = n_sl_numbers_c_51 at hw51 hP hD
  have hP : va_P g vwCl [(x, .inr (10, [.ref x_tape, .ref x_land, .ref x_images, .ref x_book, .ref x_course, .ref x_fates, .ref x_chances, .ref x_will, .ref x_slots, .ref x_seen, .ref x_drawn])), (x_slots_size, .inl (cI, 4, .inl x_slots_size_c)), (x_slots, .inr (7, [.ref x_slots_width, .ref x_slots_size, .ref x_slots_numbers])), (x_slots_width, .inl (cI, 4, .inl x_slots_width_c)), (x_slots_numbers, .inl (cJ, 240, .inr (.inl n_sl_numbers_c_51)))] H := hP
  have hD : va_D A [(x, .inr (10, [.ref x_tape, .ref x_land, .ref x_images, .ref x_book, .ref x_course, .ref x_fates, .ref x_chances, .ref x_will, .ref x_slots, .ref x_seen, .ref x_drawn])), (x_slots_size, .inl (cI, 4, .inl x_slots_size_c)), (x_slots, .inr (7, [.ref x_slots_width, .ref x_slots_size, .ref x_slots_numbers])), (x_slots_width, .inl (cI, 4, .inl x_slots_width_c)), (x_slots_numbers, .inl (cJ, 240, .inr (.inl n_sl_numbers_c_51)))] := hD
  refine lv_iconst (v := 0) hx hb dX11_write_54 (by decide) ?_
  subst hQ
  have hP9 := hP.sub (ws' := [(x, .inr (10, [.ref x_tape, .ref x_land, .ref x_images, .ref x_book, .ref x_course, .ref x_fates, .ref x_chances, .ref x_will, .ref x_slots, .ref x_seen, .ref x_drawn])), (x_slots, .inr (7, [.ref x_slots_width, .ref x_slots_size, .ref x_slots_numbers])), (x_slots_size, .inl (cI, 4, .inl x_slots_size_c)), (x_slots_width, .inl (cI, 4, .inl x_slots_width_c)), (x_slots_numbers, .inl (cJ, 240, .inr (.inl n_sl_numbers_c_51)))]) [0, 2, 1, 3, 4] rfl
  have hD9 := hD.sub (ws' := [(x, .inr (10, [.ref x_tape, .ref x_land, .ref x_images, .ref x_book, .ref x_course, .ref x_fates, .ref x_chances, .ref x_will, .ref x_slots, .ref x_seen, .ref x_drawn])), (x_slots, .inr (7, [.ref x_slots_width, .ref x_slots_size, .ref x_slots_numbers])), (x_slots_size, .inl (cI, 4, .inl x_slots_size_c)), (x_slots_width, .inl (cI, 4, .inl x_slots_width_c)), (x_slots_numbers, .inl (cJ, 240, .inr (.inl n_sl_numbers_c_51)))]) [0, 2, 1, 3, 4] (by decide) rfl
  exact W.iret (v := 0) hx hb hr (fun t ht hW => ⟨⟨0, n_sl_numbers_c_51, rfl, (show ir (0 : Int32).toInt (-7) 0 by decide), ⟨by rw [ht]; exact hP9, va_K.moved hW.alike hK, hD9⟩⟩, hS.F ht⟩) hS.2.2 dX11_write_55
def v_X11_paste : List Cond := .code yX11_paste cX11_paste 6 (some .int) :: (([.methodLink RX11 148 yX11_isBelow, .static yX11_isBelow, .initialized RX11, .fieldLink RX11 65 "CardsAtYule" "slots" "LCardsAtYule$Slots;", .methodLink RX11 394 yX7_has, .instanceMethod yX7_has, .selects RX7 yX7_has yX7_has, .initialized RX7, .fieldLink RX11 401 "CardsAtYule$Slots" "width" "[I", .methodLink RX11 404 yX7_holds, .instanceMethod yX7_holds, .selects RX7 yX7_holds yX7_holds, .methodLink RX11 407 yX7_copy, .instanceMethod yX7_copy, .selects RX7 yX7_copy yX7_copy] : List Cond) ++ (v_X11_isBelow ++ (v_X7_has ++ (v_X7_holds ++ (v_X7_copy ++ (wsX110 ++ (wsX70 ++ ([] : List Cond))))))))
theorem good_v_X11_paste : v_X11_paste.all goodWord = true := ga_c (by decide +kernel) (ga_a (by decide +kernel) (ga_a good_v_X11_isBelow (ga_a good_v_X7_has (ga_a good_v_X7_holds (ga_a good_v_X7_copy (ga_a good_wsX110 (ga_a good_wsX70 rfl)))))))
set_option maxHeartbeats 4000000 in
set_option maxRecDepth 100000 in
theorem q_X11_paste (l : Launch) (g : va_G) (cI cJ cB cZ cL : ClassId) (p0 : Int32) (p1 : Int32) (p2 : Int32) (p3 : Int32) (p4 : Int32) (x : Nat) (x_tape : Nat) (x_land : Nat) (x_images : Nat) (x_book : Nat) (x_course : Nat) (x_fates : Nat) (x_chances : Nat) (x_will : Nat) (x_slots : Nat) (x_seen : Nat) (x_drawn : Nat) (x_slots_width : Nat) (x_slots_size : Nat) (x_slots_numbers : Nat) (x_slots_size_c : Nat → Int32) (x_slots_width_c : Nat → Int32) (x_slots_numbers_c : Nat → Int64) (sz : Nat) (ha_x_slots_size_c : ar x_slots_size_c 4 (-1) 60) : Met l yX11_paste v_X11_paste ({ frames := 2, cells := 0, slots := 0, locals := 49 }) (va_Pc [.ref x, .int p0, .int p1, .int p2, .int p3, .int p4] (pRW g (tyT cI cJ cB cZ cL) [(x, .inr (10, [.ref x_tape, .ref x_land, .ref x_images, .ref x_book, .ref x_course, .ref x_fates, .ref x_chances, .ref x_will, .ref x_slots, .ref x_seen, .ref x_drawn])), (x_slots, .inr (7, [.ref x_slots_width, .ref x_slots_size, .ref x_slots_numbers])), (x_slots_size, .inl (cI, 4, .inl x_slots_size_c)), (x_slots_width, .inl (cI, 4, .inl x_slots_width_c)), (x_slots_numbers, .inl (cJ, 240, .inr (.inl x_slots_numbers_c)))] sz)) (va_Qi (fun (r : Int32) (u : (Nat → Int64)) => match u with | n_x_slots_numbers_c => (ir r.toInt (-8) 0)) (fun (u : (Nat → Int64)) (t : State) => bRW g (tyT cI cJ cB cZ cL) (va_A [(x, .inr (10, [.ref x_tape, .ref x_land, .ref x_images, .ref x_book, .ref x_course, .ref x_fates, .ref x_chances, .ref x_will, .ref x_slots, .ref x_seen, .ref x_drawn])), (x_slots, .inr (7, [.ref x_slots_width, .ref x_slots_size, .ref x_slots_numbers])), (x_slots_size, .inl (cI, 4, .inl x_slots_size_c)), (x_slots_width, .inl (cI, 4, .inl x_slots_width_c)), (x_slots_numbers, .inl (cJ, 240, .inr (.inl x_slots_numbers_c)))] sz) (match u with | n_x_slots_numbers_c => [(x, .inr (10, [.ref x_tape, .ref x_land, .ref x_images, .ref x_book, .ref x_course, .ref x_fates, .ref x_chances, .ref x_will, .ref x_slots, .ref x_seen, .ref x_drawn])), (x_slots, .inr (7, [.ref x_slots_width, .ref x_slots_size, .ref x_slots_numbers])), (x_slots_size, .inl (cI, 4, .inl x_slots_size_c)), (x_slots_width, .inl (cI, 4, .inl x_slots_width_c)), (x_slots_numbers, .inl (cJ, 240, .inr (.inl n_x_slots_numbers_c)))]) t) (va_A [(x, .inr (10, [.ref x_tape, .ref x_land, .ref x_images, .ref x_book, .ref x_course, .ref x_fates, .ref x_chances, .ref x_will, .ref x_slots, .ref x_seen, .ref x_drawn])), (x_slots, .inr (7, [.ref x_slots_width, .ref x_slots_size, .ref x_slots_numbers])), (x_slots_size, .inl (cI, 4, .inl x_slots_size_c)), (x_slots_width, .inl (cI, 4, .inl x_slots_width_c)), (x_slots_numbers, .inl (cJ, 240, .inr (.inl x_slots_numbers_c)))] sz)) 0 0 (va_A [(x, .inr (10, [.ref x_tape, .ref x_land, .ref x_images, .ref x_book, .ref x_course, .ref x_fates, .ref x_chances, .ref x_will, .ref x_slots, .ref x_seen, .ref x_drawn])), (x_slots, .inr (7, [.ref x_slots_width, .ref x_slots_size, .ref x_slots_numbers])), (x_slots_size, .inl (cI, 4, .inl x_slots_size_c)), (x_slots_width, .inl (cI, 4, .inl x_slots_width_c)), (x_slots_numbers, .inl (cJ, 240, .inr (.inl x_slots_numbers_c)))] sz) := by
  refine Met.ofW (cc := cX11_paste) (maxL := 6) (ret := (some .int)) (by decide) rfl ?_
  intro p e s m args below meth c s₁ B hml hv
  obtain ⟨rfl, hsz, hP, hK, hD0⟩ := hv
  have hx := B.exec
  have hb := B.bytes
  have hr := B.returns
  have hts := atoms_spec (ws := v_X11_paste) B.pre
  have hown : s.vm.findClass RX11 = some m.cls := findClass_of_methodNamed B.named
  have hlocks := B.notSynchronized
  clear B
  subst hsz
  have iX11 : ∀ w ∈ wsX110, w ∈ v_X11_paste := (fun _ h => List.mem_cons_of_mem _ (List.mem_append_right _ (List.mem_append_right _ (List.mem_append_right _ (List.mem_append_right _ (List.mem_append_right _ (List.mem_append_left _ h)))))))
  have iX7 : ∀ w ∈ wsX70, w ∈ v_X11_paste := (fun _ h => List.mem_cons_of_mem _ (List.mem_append_right _ (List.mem_append_right _ (List.mem_append_right _ (List.mem_append_right _ (List.mem_append_right _ (List.mem_append_right _ (List.mem_append_left _ h))))))))
  have hD := hD0.self (sz := s.heap.size)
  generalize hAe : (va_A [(x, .inr (10, [.ref x_tape, .ref x_land, .ref x_images, .ref x_book, .ref x_course, .ref x_fates, .ref x_chances, .ref x_will, .ref x_slots, .ref x_seen, .ref x_drawn])), (x_slots, .inr (7, [.ref x_slots_width, .ref x_slots_size, .ref x_slots_numbers])), (x_slots_size, .inl (cI, 4, .inl x_slots_size_c)), (x_slots_width, .inl (cI, 4, .inl x_slots_width_c)), (x_slots_numbers, .inl (cJ, 240, .inr (.inl x_slots_numbers_c)))] s.heap.size) = A at hD ⊢
  have hA : ∀ q : Nat, s.heap.size ≤ q → A q := fun q h => by rw [← hAe]; exact Or.inr h
  have hS : va_S A s.heap s.heap [] := va_S.rf
  have hl := lv_entry ([.ref x, .int p0, .int p1, .int p2, .int p3, .int p4]) (n := 6) (Nat.le_of_ble_eq_true rfl)
  rw [lg_entry_eq]
  generalize (lg_sl ([.ref x, .int p0, .int p1, .int p2, .int p3, .int p4]) ++ List.replicate (6 - (lg_sl ([.ref x, .int p0, .int p1, .int p2, .int p3, .int p4])).length) Slot.unset).toArray = ls at hl ⊢
  generalize ([.ref x, .int p0, .int p1, .int p2, .int p3, .int p4] : List Value).toArray = av at hts ⊢
  generalize hQ : MQ below _ av s _ _ A = QQ
  have hl : lv_has ls 6 [(0, .ref x), (1, .int p0), (2, .int p1), (3, .int p2), (4, .int p3), (5, .int p4)] := hl
  have hP : va_P g vwCl [(x, .inr (10, [.ref x_tape, .ref x_land, .ref x_images, .ref x_book, .ref x_course, .ref x_fates, .ref x_chances, .ref x_will, .ref x_slots, .ref x_seen, .ref x_drawn])), (x_slots, .inr (7, [.ref x_slots_width, .ref x_slots_size, .ref x_slots_numbers])), (x_slots_size, .inl (cI, 4, .inl x_slots_size_c)), (x_slots_width, .inl (cI, 4, .inl x_slots_width_c)), (x_slots_numbers, .inl (cJ, 240, .inr (.inl x_slots_numbers_c)))] s.heap := hP
  refine lv_iload_n hx hb dX11_paste_0 rfl (lv_at hl 1 rfl) ?_
  refine lv_iconst (v := 4) hx hb dX11_paste_1 (by decide) ?_
  refine ro_i (va_runS (As := [.int p0, .int 4]) (rest := []) ⟨hx, hb, hml, hown, hts⟩ (q_X11_isBelow l g cI cJ cB cZ cL p0 4 s.heap.size ) (va_cwS 2 hts (goodIn_app (g_3 (List.mem_cons_of_mem _ (List.mem_append_left _ (List.mem_of_getElem? (i := 0) rfl))) (List.mem_cons_of_mem _ (List.mem_append_left _ (List.mem_of_getElem? (i := 1) rfl))) (List.mem_cons_of_mem _ (List.mem_append_left _ (List.mem_of_getElem? (i := 2) rfl))) (by decide +kernel)) (goodIn_sub (fun _ h => List.mem_cons_of_mem _ (List.mem_append_right _ (List.mem_append_left _ h))) good_v_X11_isBelow)) rfl rfl rfl (by decide +kernel) ⟨Nat.le_of_ble_eq_true rfl, Nat.le_of_ble_eq_true rfl⟩) (ps_RO (wc := []) hK hP [] rfl) rfl rfl hl.1 rfl (lv_room (Nat.le_of_ble_eq_true rfl)) dX11_paste_2 ⟨Nat.le_of_ble_eq_true rfl, Nat.le_of_ble_eq_true rfl⟩) hS hA hP (fun r2 u2 H locs hw2 hP hS => ?_)
  have hw2_0 := hw2
  rcases hw2_0 with ⟨er2, fc2_0, fc2_1⟩ | er2
  rotate_left 1
  · subst er2
    refine lv_if_eq (tgt := 16) hx hb dX11_paste_5 (by decide) (fun _ => ?_) (fun c => absurd c (by decide))
    refine lv_bipush (v := (-2)) hx hb dX11_paste_16 (by decide) ?_
    subst hQ
    have hP9 := hP.sub (ws' := [(x, .inr (10, [.ref x_tape, .ref x_land, .ref x_images, .ref x_book, .ref x_course, .ref x_fates, .ref x_chances, .ref x_will, .ref x_slots, .ref x_seen, .ref x_drawn])), (x_slots, .inr (7, [.ref x_slots_width, .ref x_slots_size, .ref x_slots_numbers])), (x_slots_size, .inl (cI, 4, .inl x_slots_size_c)), (x_slots_width, .inl (cI, 4, .inl x_slots_width_c)), (x_slots_numbers, .inl (cJ, 240, .inr (.inl x_slots_numbers_c)))]) [0, 1, 2, 3, 4] rfl
    have hD9 := hD.sub (ws' := [(x, .inr (10, [.ref x_tape, .ref x_land, .ref x_images, .ref x_book, .ref x_course, .ref x_fates, .ref x_chances, .ref x_will, .ref x_slots, .ref x_seen, .ref x_drawn])), (x_slots, .inr (7, [.ref x_slots_width, .ref x_slots_size, .ref x_slots_numbers])), (x_slots_size, .inl (cI, 4, .inl x_slots_size_c)), (x_slots_width, .inl (cI, 4, .inl x_slots_width_c)), (x_slots_numbers, .inl (cJ, 240, .inr (.inl x_slots_numbers_c)))]) [0, 1, 2, 3, 4] (by decide) rfl
    exact W.iret (v := (-2)) hx hb hr (fun t ht hW => ⟨⟨(-2), x_slots_numbers_c, rfl, (show ir ((-2) : Int32).toInt (-8) 0 by decide), ⟨by rw [ht]; exact hP9, va_K.moved hW.alike hK, hD9⟩⟩, hS.F ht⟩) hS.2.2 dX11_paste_18
  subst er2
  have fc2_0 : 0 ≤ p0.toInt := fc2_0
  have r2_0b : ir p0.toInt 0 2147483647 := ir_leb fc2_0 (ir_c 0) (rg_all p0) (by decide)
  have fc2_1 : p0.toInt < 4 := fc2_1
  have r2_1a : ir p0.toInt 0 3 := ir_lta fc2_1 r2_0b (ir_c 4) (by decide)
  refine lv_if_eq (tgt := 16) hx hb dX11_paste_5 (by decide) (fun c => absurd c (by decide)) (fun _ => ?_)
  refine lv_iload_n hx hb dX11_paste_8 rfl (lv_at hl 3 rfl) ?_
  refine lv_iconst (v := 4) hx hb dX11_paste_9 (by decide) ?_
  refine ro_i (va_runS (As := [.int p2, .int 4]) (rest := []) ⟨hx, hb, hml, hown, hts⟩ (q_X11_isBelow l g cI cJ cB cZ cL p2 4 H.size ) (va_cwS 2 hts (goodIn_app (g_3 (List.mem_cons_of_mem _ (List.mem_append_left _ (List.mem_of_getElem? (i := 0) rfl))) (List.mem_cons_of_mem _ (List.mem_append_left _ (List.mem_of_getElem? (i := 1) rfl))) (List.mem_cons_of_mem _ (List.mem_append_left _ (List.mem_of_getElem? (i := 2) rfl))) (by decide +kernel)) (goodIn_sub (fun _ h => List.mem_cons_of_mem _ (List.mem_append_right _ (List.mem_append_left _ h))) good_v_X11_isBelow)) rfl rfl rfl (by decide +kernel) ⟨Nat.le_of_ble_eq_true rfl, Nat.le_of_ble_eq_true rfl⟩) (ps_RO (wc := []) hK hP [] rfl) rfl rfl hl.1 rfl (lv_room (Nat.le_of_ble_eq_true rfl)) dX11_paste_10 ⟨Nat.le_of_ble_eq_true rfl, Nat.le_of_ble_eq_true rfl⟩) hS hA hP (fun r10 u10 H locs hw10 hP hS => ?_)
  have hw10_0 := hw10
  rcases hw10_0 with ⟨er10, fc10_0, fc10_1⟩ | er10
  rotate_left 1
  · subst er10
    refine lv_if_ne (tgt := 19) hx hb dX11_paste_13 (by decide) (fun c => absurd c (by decide)) (fun _ => ?_)
    refine lv_bipush (v := (-2)) hx hb dX11_paste_16 (by decide) ?_
    subst hQ
    have hP9 := hP.sub (ws' := [(x, .inr (10, [.ref x_tape, .ref x_land, .ref x_images, .ref x_book, .ref x_course, .ref x_fates, .ref x_chances, .ref x_will, .ref x_slots, .ref x_seen, .ref x_drawn])), (x_slots, .inr (7, [.ref x_slots_width, .ref x_slots_size, .ref x_slots_numbers])), (x_slots_size, .inl (cI, 4, .inl x_slots_size_c)), (x_slots_width, .inl (cI, 4, .inl x_slots_width_c)), (x_slots_numbers, .inl (cJ, 240, .inr (.inl x_slots_numbers_c)))]) [0, 1, 2, 3, 4] rfl
    have hD9 := hD.sub (ws' := [(x, .inr (10, [.ref x_tape, .ref x_land, .ref x_images, .ref x_book, .ref x_course, .ref x_fates, .ref x_chances, .ref x_will, .ref x_slots, .ref x_seen, .ref x_drawn])), (x_slots, .inr (7, [.ref x_slots_width, .ref x_slots_size, .ref x_slots_numbers])), (x_slots_size, .inl (cI, 4, .inl x_slots_size_c)), (x_slots_width, .inl (cI, 4, .inl x_slots_width_c)), (x_slots_numbers, .inl (cJ, 240, .inr (.inl x_slots_numbers_c)))]) [0, 1, 2, 3, 4] (by decide) rfl
    exact W.iret (v := (-2)) hx hb hr (fun t ht hW => ⟨⟨(-2), x_slots_numbers_c, rfl, (show ir ((-2) : Int32).toInt (-8) 0 by decide), ⟨by rw [ht]; exact hP9, va_K.moved hW.alike hK, hD9⟩⟩, hS.F ht⟩) hS.2.2 dX11_paste_18
  subst er10
  have fc10_0 : 0 ≤ p2.toInt := fc10_0
  have r10_0b : ir p2.toInt 0 2147483647 := ir_leb fc10_0 (ir_c 0) (rg_all p2) (by decide)
  have fc10_1 : p2.toInt < 4 := fc10_1
  have r10_1a : ir p2.toInt 0 3 := ir_lta fc10_1 r10_0b (ir_c 4) (by decide)
  refine lv_if_ne (tgt := 19) hx hb dX11_paste_13 (by decide) (fun _ => ?_) (fun c => absurd c (by decide))
  refine lv_aload_n hx hb dX11_paste_19 rfl (lv_at hl 0 rfl) ?_
  refine va_get (D := g) (ci := 10) (v := .ref x_slots) (C := RX11) (T := TX11) (N := 11) hx hb hts iX11 hown hK hP 0 rfl rfl 8 (by decide) (hts (.fieldLink RX11 65 "CardsAtYule" "slots" "LCardsAtYule$Slots;") (List.mem_cons_of_mem _ (List.mem_append_left _ (List.mem_of_getElem? (i := 3) rfl)))) (fun _ h9 => h9) rfl dX11_paste_20 ?_
  refine lv_iload_n hx hb dX11_paste_23 rfl (lv_at hl 1 rfl) ?_
  refine ro_i (va_runV (As := [.int p0]) (rest := []) ⟨hx, hb, hml, hown, hts⟩ (q_X7_has l g cI cJ cB cZ cL p0 x_slots x_slots_width x_slots_size x_slots_numbers x_slots_size_c H.size r2_1a ha_x_slots_size_c) (cwV 1 hts (goodIn_app (g_4 (List.mem_cons_of_mem _ (List.mem_append_left _ (List.mem_of_getElem? (i := 4) rfl))) (List.mem_cons_of_mem _ (List.mem_append_left _ (List.mem_of_getElem? (i := 5) rfl))) (List.mem_cons_of_mem _ (List.mem_append_left _ (List.mem_of_getElem? (i := 6) rfl))) (List.mem_cons_of_mem _ (List.mem_append_left _ (List.mem_of_getElem? (i := 7) rfl))) (by decide +kernel)) (goodIn_sub (fun _ h => List.mem_cons_of_mem _ (List.mem_append_right _ (List.mem_append_right _ (List.mem_append_left _ h)))) good_v_X7_has)) rfl rfl rfl (by decide +kernel) ⟨Nat.le_of_ble_eq_true rfl, Nat.le_of_ble_eq_true rfl⟩) (pv_RO (q := (RX7, TX7, 3)) (ci := 7) (q0 := 0) (wc := [(x_slots, .inr (7, [.ref x_slots_width, .ref x_slots_size, .ref x_slots_numbers])), (x_slots_size, .inl (cI, 4, .inl x_slots_size_c))]) hK hP [1, 2] rfl rfl rfl) rfl rfl hl.1 rfl (lv_room (Nat.le_of_ble_eq_true rfl)) dX11_paste_24 ⟨Nat.le_of_ble_eq_true rfl, Nat.le_of_ble_eq_true rfl⟩) hS hA hP (fun r24 u24 H locs hw24 hP hS => ?_)
  have hw24_0 := hw24
  refine lv_if_eq (tgt := 41) hx hb dX11_paste_27 (by decide) (fun c27 => ?_) (fun c27 => ?_)
  · have f27 := (show r24.toInt = 0 from z_eq rfl rfl c27)
    have r27a : ir r24.toInt 0 0 := ir_eqa f27 hw24_0 (ir_c 0) (by decide) (by decide)
    refine lv_bipush (v := (-6)) hx hb dX11_paste_41 (by decide) ?_
    subst hQ
    have hP9 := hP.sub (ws' := [(x, .inr (10, [.ref x_tape, .ref x_land, .ref x_images, .ref x_book, .ref x_course, .ref x_fates, .ref x_chances, .ref x_will, .ref x_slots, .ref x_seen, .ref x_drawn])), (x_slots, .inr (7, [.ref x_slots_width, .ref x_slots_size, .ref x_slots_numbers])), (x_slots_size, .inl (cI, 4, .inl x_slots_size_c)), (x_slots_width, .inl (cI, 4, .inl x_slots_width_c)), (x_slots_numbers, .inl (cJ, 240, .inr (.inl x_slots_numbers_c)))]) [0, 1, 2, 3, 4] rfl
    have hD9 := hD.sub (ws' := [(x, .inr (10, [.ref x_tape, .ref x_land, .ref x_images, .ref x_book, .ref x_course, .ref x_fates, .ref x_chances, .ref x_will, .ref x_slots, .ref x_seen, .ref x_drawn])), (x_slots, .inr (7, [.ref x_slots_width, .ref x_slots_size, .ref x_slots_numbers])), (x_slots_size, .inl (cI, 4, .inl x_slots_size_c)), (x_slots_width, .inl (cI, 4, .inl x_slots_width_c)), (x_slots_numbers, .inl (cJ, 240, .inr (.inl x_slots_numbers_c)))]) [0, 1, 2, 3, 4] (by decide) rfl
    exact W.iret (v := (-6)) hx hb hr (fun t ht hW => ⟨⟨(-6), x_slots_numbers_c, rfl, (show ir ((-6) : Int32).toInt (-8) 0 by decide), ⟨by rw [ht]; exact hP9, va_K.moved hW.alike hK, hD9⟩⟩, hS.F ht⟩) hS.2.2 dX11_paste_43
  have f27 := (show r24.toInt ≠ 0 from z_ne rfl rfl c27)
  have r27a : ir r24.toInt 1 1 := ir_nel f27 hw24_0 (by decide) (by decide)
  refine lv_aload_n hx hb dX11_paste_30 rfl (lv_at hl 0 rfl) ?_
  refine va_get (D := g) (ci := 10) (v := .ref x_slots) (C := RX11) (T := TX11) (N := 11) hx hb hts iX11 hown hK hP 0 rfl rfl 8 (by decide) (hts (.fieldLink RX11 65 "CardsAtYule" "slots" "LCardsAtYule$Slots;") (List.mem_cons_of_mem _ (List.mem_append_left _ (List.mem_of_getElem? (i := 3) rfl)))) (fun _ h9 => h9) rfl dX11_paste_31 ?_
  refine lv_iload_n hx hb dX11_paste_34 rfl (lv_at hl 3 rfl) ?_
  refine ro_i (va_runV (As := [.int p2]) (rest := []) ⟨hx, hb, hml, hown, hts⟩ (q_X7_has l g cI cJ cB cZ cL p2 x_slots x_slots_width x_slots_size x_slots_numbers x_slots_size_c H.size r10_1a ha_x_slots_size_c) (cwV 1 hts (goodIn_app (g_4 (List.mem_cons_of_mem _ (List.mem_append_left _ (List.mem_of_getElem? (i := 4) rfl))) (List.mem_cons_of_mem _ (List.mem_append_left _ (List.mem_of_getElem? (i := 5) rfl))) (List.mem_cons_of_mem _ (List.mem_append_left _ (List.mem_of_getElem? (i := 6) rfl))) (List.mem_cons_of_mem _ (List.mem_append_left _ (List.mem_of_getElem? (i := 7) rfl))) (by decide +kernel)) (goodIn_sub (fun _ h => List.mem_cons_of_mem _ (List.mem_append_right _ (List.mem_append_right _ (List.mem_append_left _ h)))) good_v_X7_has)) rfl rfl rfl (by decide +kernel) ⟨Nat.le_of_ble_eq_true rfl, Nat.le_of_ble_eq_true rfl⟩) (pv_RO (q := (RX7, TX7, 3)) (ci := 7) (q0 := 0) (wc := [(x_slots, .inr (7, [.ref x_slots_width, .ref x_slots_size, .ref x_slots_numbers])), (x_slots_size, .inl (cI, 4, .inl x_slots_size_c))]) hK hP [1, 2] rfl rfl rfl) rfl rfl hl.1 rfl (lv_room (Nat.le_of_ble_eq_true rfl)) dX11_paste_35 ⟨Nat.le_of_ble_eq_true rfl, Nat.le_of_ble_eq_true rfl⟩) hS hA hP (fun r35 u35 H locs hw35 hP hS => ?_)
  have hw35_0 := hw35
  refine lv_if_ne (tgt := 44) hx hb dX11_paste_38 (by decide) (fun c38 => ?_) (fun c38 => ?_)
  rotate_left 1
  · have f38 := (show r35.toInt = 0 from z_eq rfl rfl c38)
    have r38a : ir r35.toInt 0 0 := ir_eqa f38 hw35_0 (ir_c 0) (by decide) (by decide)
    refine lv_bipush (v := (-6)) hx hb dX11_paste_41 (by decide) ?_
    subst hQ
    have hP9 := hP.sub (ws' := [(x, .inr (10, [.ref x_tape, .ref x_land, .ref x_images, .ref x_book, .ref x_course, .ref x_fates, .ref x_chances, .ref x_will, .ref x_slots, .ref x_seen, .ref x_drawn])), (x_slots, .inr (7, [.ref x_slots_width, .ref x_slots_size, .ref x_slots_numbers])), (x_slots_size, .inl (cI, 4, .inl x_slots_size_c)), (x_slots_width, .inl (cI, 4, .inl x_slots_width_c)), (x_slots_numbers, .inl (cJ, 240, .inr (.inl x_slots_numbers_c)))]) [0, 1, 2, 3, 4] rfl
    have hD9 := hD.sub (ws' := [(x, .inr (10, [.ref x_tape, .ref x_land, .ref x_images, .ref x_book, .ref x_course, .ref x_fates, .ref x_chances, .ref x_will, .ref x_slots, .ref x_seen, .ref x_drawn])), (x_slots, .inr (7, [.ref x_slots_width, .ref x_slots_size, .ref x_slots_numbers])), (x_slots_size, .inl (cI, 4, .inl x_slots_size_c)), (x_slots_width, .inl (cI, 4, .inl x_slots_width_c)), (x_slots_numbers, .inl (cJ, 240, .inr (.inl x_slots_numbers_c)))]) [0, 1, 2, 3, 4] (by decide) rfl
    exact W.iret (v := (-6)) hx hb hr (fun t ht hW => ⟨⟨(-6), x_slots_numbers_c, rfl, (show ir ((-6) : Int32).toInt (-8) 0 by decide), ⟨by rw [ht]; exact hP9, va_K.moved hW.alike hK, hD9⟩⟩, hS.F ht⟩) hS.2.2 dX11_paste_43
  have f38 := (show r35.toInt ≠ 0 from z_ne rfl rfl c38)
  have r38a : ir r35.toInt 1 1 := ir_nel f38 hw35_0 (by decide) (by decide)
  refine lv_aload_n hx hb dX11_paste_44 rfl (lv_at hl 0 rfl) ?_
  refine va_get (D := g) (ci := 10) (v := .ref x_slots) (C := RX11) (T := TX11) (N := 11) hx hb hts iX11 hown hK hP 0 rfl rfl 8 (by decide) (hts (.fieldLink RX11 65 "CardsAtYule" "slots" "LCardsAtYule$Slots;") (List.mem_cons_of_mem _ (List.mem_append_left _ (List.mem_of_getElem? (i := 3) rfl)))) (fun _ h9 => h9) rfl dX11_paste_45 ?_
  refine va_get (D := g) (ci := 7) (v := .ref x_slots_width) (C := RX7) (T := TX7) (N := 3) hx hb hts iX7 hown hK hP 1 rfl rfl 0 (by decide) (hts (.fieldLink RX11 401 "CardsAtYule$Slots" "width" "[I") (List.mem_cons_of_mem _ (List.mem_append_left _ (List.mem_of_getElem? (i := 8) rfl)))) (fun _ h9 => h9) rfl dX11_paste_48 ?_
  refine lv_iload_n hx hb dX11_paste_51 rfl (lv_at hl 1 rfl) ?_
  refine va_iald (D := g) hx hb hK hP 3 0 rfl rfl (vi_rg rfl r2_1a (by decide) (by decide)) dX11_paste_52 ?_
  refine lv_topi (fun y52 e52 => ?_)
  refine lv_aload_n hx hb dX11_paste_53 rfl (lv_at hl 0 rfl) ?_
  refine va_get (D := g) (ci := 10) (v := .ref x_slots) (C := RX11) (T := TX11) (N := 11) hx hb hts iX11 hown hK hP 0 rfl rfl 8 (by decide) (hts (.fieldLink RX11 65 "CardsAtYule" "slots" "LCardsAtYule$Slots;") (List.mem_cons_of_mem _ (List.mem_append_left _ (List.mem_of_getElem? (i := 3) rfl)))) (fun _ h9 => h9) rfl dX11_paste_54 ?_
  refine va_get (D := g) (ci := 7) (v := .ref x_slots_width) (C := RX7) (T := TX7) (N := 3) hx hb hts iX7 hown hK hP 1 rfl rfl 0 (by decide) (hts (.fieldLink RX11 401 "CardsAtYule$Slots" "width" "[I") (List.mem_cons_of_mem _ (List.mem_append_left _ (List.mem_of_getElem? (i := 8) rfl)))) (fun _ h9 => h9) rfl dX11_paste_57 ?_
  refine lv_iload_n hx hb dX11_paste_60 rfl (lv_at hl 3 rfl) ?_
  refine va_iald (D := g) hx hb hK hP 3 0 rfl rfl (vi_rg rfl r10_1a (by decide) (by decide)) dX11_paste_61 ?_
  refine lv_topi (fun y61 e61 => ?_)
  refine lv_icmp_eq (tgt := 68) hx hb dX11_paste_62 (by decide) (fun c62 => ?_) (fun c62 => ?_)
  rotate_left 1
  · have f62 := (show y52.toInt ≠ y61.toInt from z_ne rfl rfl c62)
    refine lv_bipush (v := (-8)) hx hb dX11_paste_65 (by decide) ?_
    subst hQ
    have hP9 := hP.sub (ws' := [(x, .inr (10, [.ref x_tape, .ref x_land, .ref x_images, .ref x_book, .ref x_course, .ref x_fates, .ref x_chances, .ref x_will, .ref x_slots, .ref x_seen, .ref x_drawn])), (x_slots, .inr (7, [.ref x_slots_width, .ref x_slots_size, .ref x_slots_numbers])), (x_slots_size, .inl (cI, 4, .inl x_slots_size_c)), (x_slots_width, .inl (cI, 4, .inl x_slots_width_c)), (x_slots_numbers, .inl (cJ, 240, .inr (.inl x_slots_numbers_c)))]) [0, 1, 2, 3, 4] rfl
    have hD9 := hD.sub (ws' := [(x, .inr (10, [.ref x_tape, .ref x_land, .ref x_images, .ref x_book, .ref x_course, .ref x_fates, .ref x_chances, .ref x_will, .ref x_slots, .ref x_seen, .ref x_drawn])), (x_slots, .inr (7, [.ref x_slots_width, .ref x_slots_size, .ref x_slots_numbers])), (x_slots_size, .inl (cI, 4, .inl x_slots_size_c)), (x_slots_width, .inl (cI, 4, .inl x_slots_width_c)), (x_slots_numbers, .inl (cJ, 240, .inr (.inl x_slots_numbers_c)))]) [0, 1, 2, 3, 4] (by decide) rfl
    exact W.iret (v := (-8)) hx hb hr (fun t ht hW => ⟨⟨(-8), x_slots_numbers_c, rfl, (show ir ((-8) : Int32).toInt (-8) 0 by decide), ⟨by rw [ht]; exact hP9, va_K.moved hW.alike hK, hD9⟩⟩, hS.F ht⟩) hS.2.2 dX11_paste_67
  have f62 := (show y52.toInt = y61.toInt from z_eq rfl rfl c62)
  refine lv_aload_n hx hb dX11_paste_68 rfl (lv_at hl 0 rfl) ?_
  refine va_get (D := g) (ci := 10) (v := .ref x_slots) (C := RX11) (T := TX11) (N := 11) hx hb hts iX11 hown hK hP 0 rfl rfl 8 (by decide) (hts (.fieldLink RX11 65 "CardsAtYule" "slots" "LCardsAtYule$Slots;") (List.mem_cons_of_mem _ (List.mem_append_left _ (List.mem_of_getElem? (i := 3) rfl)))) (fun _ h9 => h9) rfl dX11_paste_69 ?_
  refine lv_iload_n hx hb dX11_paste_72 rfl (lv_at hl 1 rfl) ?_
  refine lv_iload_n hx hb dX11_paste_73 rfl (lv_at hl 2 rfl) ?_
  refine lv_iload hx hb dX11_paste_74 (lv_at hl 5 rfl) ?_
  refine ro_i (va_runV (As := [.int p0, .int p1, .int p4]) (rest := []) ⟨hx, hb, hml, hown, hts⟩ (q_X7_holds l g cI cJ cB cZ cL p0 p1 p4 x_slots x_slots_width x_slots_size x_slots_numbers x_slots_size_c H.size r2_1a ha_x_slots_size_c) (cwV 3 hts (goodIn_app (g_4 (List.mem_cons_of_mem _ (List.mem_append_left _ (List.mem_of_getElem? (i := 9) rfl))) (List.mem_cons_of_mem _ (List.mem_append_left _ (List.mem_of_getElem? (i := 10) rfl))) (List.mem_cons_of_mem _ (List.mem_append_left _ (List.mem_of_getElem? (i := 11) rfl))) (List.mem_cons_of_mem _ (List.mem_append_left _ (List.mem_of_getElem? (i := 7) rfl))) (by decide +kernel)) (goodIn_sub (fun _ h => List.mem_cons_of_mem _ (List.mem_append_right _ (List.mem_append_right _ (List.mem_append_right _ (List.mem_append_left _ h))))) good_v_X7_holds)) rfl rfl rfl (by decide +kernel) ⟨Nat.le_of_ble_eq_true rfl, Nat.le_of_ble_eq_true rfl⟩) (pv_RO (q := (RX7, TX7, 3)) (ci := 7) (q0 := 0) (wc := [(x_slots, .inr (7, [.ref x_slots_width, .ref x_slots_size, .ref x_slots_numbers])), (x_slots_size, .inl (cI, 4, .inl x_slots_size_c))]) hK hP [1, 2] rfl rfl rfl) rfl rfl hl.1 rfl (lv_room (Nat.le_of_ble_eq_true rfl)) dX11_paste_76 ⟨Nat.le_of_ble_eq_true rfl, Nat.le_of_ble_eq_true rfl⟩) hS hA hP (fun r76 u76 H locs hw76 hP hS => ?_)
  have hw76_0 := hw76
  rcases hw76_0 with ⟨er76, fc76_0, fc76_1, fc76_2⟩ | er76
  rotate_left 1
  · subst er76
    refine lv_if_eq (tgt := 97) hx hb dX11_paste_79 (by decide) (fun _ => ?_) (fun c => absurd c (by decide))
    refine lv_bipush (v := (-7)) hx hb dX11_paste_97 (by decide) ?_
    subst hQ
    have hP9 := hP.sub (ws' := [(x, .inr (10, [.ref x_tape, .ref x_land, .ref x_images, .ref x_book, .ref x_course, .ref x_fates, .ref x_chances, .ref x_will, .ref x_slots, .ref x_seen, .ref x_drawn])), (x_slots, .inr (7, [.ref x_slots_width, .ref x_slots_size, .ref x_slots_numbers])), (x_slots_size, .inl (cI, 4, .inl x_slots_size_c)), (x_slots_width, .inl (cI, 4, .inl x_slots_width_c)), (x_slots_numbers, .inl (cJ, 240, .inr (.inl x_slots_numbers_c)))]) [0, 1, 2, 3, 4] rfl
    have hD9 := hD.sub (ws' := [(x, .inr (10, [.ref x_tape, .ref x_land, .ref x_images, .ref x_book, .ref x_course, .ref x_fates, .ref x_chances, .ref x_will, .ref x_slots, .ref x_seen, .ref x_drawn])), (x_slots, .inr (7, [.ref x_slots_width, .ref x_slots_size, .ref x_slots_numbers])), (x_slots_size, .inl (cI, 4, .inl x_slots_size_c)), (x_slots_width, .inl (cI, 4, .inl x_slots_width_c)), (x_slots_numbers, .inl (cJ, 240, .inr (.inl x_slots_numbers_c)))]) [0, 1, 2, 3, 4] (by decide) rfl
    exact W.iret (v := (-7)) hx hb hr (fun t ht hW => ⟨⟨(-7), x_slots_numbers_c, rfl, (show ir ((-7) : Int32).toInt (-8) 0 by decide), ⟨by rw [ht]; exact hP9, va_K.moved hW.alike hK, hD9⟩⟩, hS.F ht⟩) hS.2.2 dX11_paste_99
  subst er76
  have fc76_0 : 0 ≤ p1.toInt := fc76_0
  have r76_0b : ir p1.toInt 0 2147483647 := ir_leb fc76_0 (ir_c 0) (rg_all p1) (by decide)
  have fc76_1 : 0 ≤ p4.toInt := fc76_1
  have r76_1b : ir p4.toInt 0 2147483647 := ir_leb fc76_1 (ir_c 0) (rg_all p4) (by decide)
  have fc76_2 : p1.toInt + p4.toInt ≤ 60 := fc76_2
  refine lv_if_eq (tgt := 97) hx hb dX11_paste_79 (by decide) (fun c => absurd c (by decide)) (fun _ => ?_)
  refine lv_aload_n hx hb dX11_paste_82 rfl (lv_at hl 0 rfl) ?_
  refine va_get (D := g) (ci := 10) (v := .ref x_slots) (C := RX11) (T := TX11) (N := 11) hx hb hts iX11 hown hK hP 0 rfl rfl 8 (by decide) (hts (.fieldLink RX11 65 "CardsAtYule" "slots" "LCardsAtYule$Slots;") (List.mem_cons_of_mem _ (List.mem_append_left _ (List.mem_of_getElem? (i := 3) rfl)))) (fun _ h9 => h9) rfl dX11_paste_83 ?_
  refine lv_iload_n hx hb dX11_paste_86 rfl (lv_at hl 3 rfl) ?_
  refine lv_iload hx hb dX11_paste_87 (lv_at hl 4 rfl) ?_
  refine lv_iload hx hb dX11_paste_89 (lv_at hl 5 rfl) ?_
  refine ro_i (va_runV (As := [.int p2, .int p3, .int p4]) (rest := []) ⟨hx, hb, hml, hown, hts⟩ (q_X7_holds l g cI cJ cB cZ cL p2 p3 p4 x_slots x_slots_width x_slots_size x_slots_numbers x_slots_size_c H.size r10_1a ha_x_slots_size_c) (cwV 3 hts (goodIn_app (g_4 (List.mem_cons_of_mem _ (List.mem_append_left _ (List.mem_of_getElem? (i := 9) rfl))) (List.mem_cons_of_mem _ (List.mem_append_left _ (List.mem_of_getElem? (i := 10) rfl))) (List.mem_cons_of_mem _ (List.mem_append_left _ (List.mem_of_getElem? (i := 11) rfl))) (List.mem_cons_of_mem _ (List.mem_append_left _ (List.mem_of_getElem? (i := 7) rfl))) (by decide +kernel)) (goodIn_sub (fun _ h => List.mem_cons_of_mem _ (List.mem_append_right _ (List.mem_append_right _ (List.mem_append_right _ (List.mem_append_left _ h))))) good_v_X7_holds)) rfl rfl rfl (by decide +kernel) ⟨Nat.le_of_ble_eq_true rfl, Nat.le_of_ble_eq_true rfl⟩) (pv_RO (q := (RX7, TX7, 3)) (ci := 7) (q0 := 0) (wc := [(x_slots, .inr (7, [.ref x_slots_width, .ref x_slots_size, .ref x_slots_numbers])), (x_slots_size, .inl (cI, 4, .inl x_slots_size_c))]) hK hP [1, 2] rfl rfl rfl) rfl rfl hl.1 rfl (lv_room (Nat.le_of_ble_eq_true rfl)) dX11_paste_91 ⟨Nat.le_of_ble_eq_true rfl, Nat.le_of_ble_eq_true rfl⟩) hS hA hP (fun r91 u91 H locs hw91 hP hS => ?_)
  have hw91_0 := hw91
  rcases hw91_0 with ⟨er91, fc91_0, fc91_1, fc91_2⟩ | er91
  rotate_left 1
  · subst er91
    refine lv_if_ne (tgt := 100) hx hb dX11_paste_94 (by decide) (fun c => absurd c (by decide)) (fun _ => ?_)
    refine lv_bipush (v := (-7)) hx hb dX11_paste_97 (by decide) ?_
    subst hQ
    have hP9 := hP.sub (ws' := [(x, .inr (10, [.ref x_tape, .ref x_land, .ref x_images, .ref x_book, .ref x_course, .ref x_fates, .ref x_chances, .ref x_will, .ref x_slots, .ref x_seen, .ref x_drawn])), (x_slots, .inr (7, [.ref x_slots_width, .ref x_slots_size, .ref x_slots_numbers])), (x_slots_size, .inl (cI, 4, .inl x_slots_size_c)), (x_slots_width, .inl (cI, 4, .inl x_slots_width_c)), (x_slots_numbers, .inl (cJ, 240, .inr (.inl x_slots_numbers_c)))]) [0, 1, 2, 3, 4] rfl
    have hD9 := hD.sub (ws' := [(x, .inr (10, [.ref x_tape, .ref x_land, .ref x_images, .ref x_book, .ref x_course, .ref x_fates, .ref x_chances, .ref x_will, .ref x_slots, .ref x_seen, .ref x_drawn])), (x_slots, .inr (7, [.ref x_slots_width, .ref x_slots_size, .ref x_slots_numbers])), (x_slots_size, .inl (cI, 4, .inl x_slots_size_c)), (x_slots_width, .inl (cI, 4, .inl x_slots_width_c)), (x_slots_numbers, .inl (cJ, 240, .inr (.inl x_slots_numbers_c)))]) [0, 1, 2, 3, 4] (by decide) rfl
    exact W.iret (v := (-7)) hx hb hr (fun t ht hW => ⟨⟨(-7), x_slots_numbers_c, rfl, (show ir ((-7) : Int32).toInt (-8) 0 by decide), ⟨by rw [ht]; exact hP9, va_K.moved hW.alike hK, hD9⟩⟩, hS.F ht⟩) hS.2.2 dX11_paste_99
  subst er91
  have fc91_0 : 0 ≤ p3.toInt := fc91_0
  have r91_0b : ir p3.toInt 0 2147483647 := ir_leb fc91_0 (ir_c 0) (rg_all p3) (by decide)
  have fc91_1 : 0 ≤ p4.toInt := fc91_1
  have fc91_2 : p3.toInt + p4.toInt ≤ 60 := fc91_2
  refine lv_if_ne (tgt := 100) hx hb dX11_paste_94 (by decide) (fun _ => ?_) (fun c => absurd c (by decide))
  refine lv_aload_n hx hb dX11_paste_100 rfl (lv_at hl 0 rfl) ?_
  refine va_get (D := g) (ci := 10) (v := .ref x_slots) (C := RX11) (T := TX11) (N := 11) hx hb hts iX11 hown hK hP 0 rfl rfl 8 (by decide) (hts (.fieldLink RX11 65 "CardsAtYule" "slots" "LCardsAtYule$Slots;") (List.mem_cons_of_mem _ (List.mem_append_left _ (List.mem_of_getElem? (i := 3) rfl)))) (fun _ h9 => h9) rfl dX11_paste_101 ?_
  refine lv_iload_n hx hb dX11_paste_104 rfl (lv_at hl 1 rfl) ?_
  refine lv_iload_n hx hb dX11_paste_105 rfl (lv_at hl 2 rfl) ?_
  refine lv_iload_n hx hb dX11_paste_106 rfl (lv_at hl 3 rfl) ?_
  refine lv_iload hx hb dX11_paste_107 (lv_at hl 4 rfl) ?_
  refine lv_iload hx hb dX11_paste_109 (lv_at hl 5 rfl) ?_
  refine rw_v (wr := [(x, .inr (10, [.ref x_tape, .ref x_land, .ref x_images, .ref x_book, .ref x_course, .ref x_fates, .ref x_chances, .ref x_will, .ref x_slots, .ref x_seen, .ref x_drawn])), (x_slots_size, .inl (cI, 4, .inl x_slots_size_c)), (x_slots_width, .inl (cI, 4, .inl x_slots_width_c))]) (va_runV (As := [.int p0, .int p1, .int p2, .int p3, .int p4]) (rest := []) ⟨hx, hb, hml, hown, hts⟩ (q_X7_copy l g cI cJ cB cZ cL p0 p1 p2 p3 p4 x_slots x_slots_width x_slots_size x_slots_numbers x_slots_numbers_c H.size r2_1a (by omega) r10_1a (by omega) (by omega) (by omega) (by omega)) (cwV 5 hts (goodIn_app (g_4 (List.mem_cons_of_mem _ (List.mem_append_left _ (List.mem_of_getElem? (i := 12) rfl))) (List.mem_cons_of_mem _ (List.mem_append_left _ (List.mem_of_getElem? (i := 13) rfl))) (List.mem_cons_of_mem _ (List.mem_append_left _ (List.mem_of_getElem? (i := 14) rfl))) (List.mem_cons_of_mem _ (List.mem_append_left _ (List.mem_of_getElem? (i := 7) rfl))) (by decide +kernel)) (goodIn_sub (fun _ h => List.mem_cons_of_mem _ (List.mem_append_right _ (List.mem_append_right _ (List.mem_append_right _ (List.mem_append_right _ (List.mem_append_left _ h)))))) good_v_X7_copy)) rfl rfl rfl (by decide +kernel) ⟨Nat.le_of_ble_eq_true rfl, Nat.le_of_ble_eq_true rfl⟩) (pv_RW (q := (RX7, TX7, 3)) (ci := 7) (q0 := 0) (wc := [(x_slots, .inr (7, [.ref x_slots_width, .ref x_slots_size, .ref x_slots_numbers])), (x_slots_numbers, .inl (cJ, 240, .inr (.inl x_slots_numbers_c)))]) hK hP hD [1, 4] (by decide) rfl rfl rfl) rfl rfl hl.1 rfl (lv_room (Nat.le_of_ble_eq_true rfl)) dX11_paste_111 ⟨Nat.le_of_ble_eq_true rfl, Nat.le_of_ble_eq_true rfl⟩) hS hA hP hD [1, 4] [0, 2, 3] rfl rfl (by decide) (by decide) (fun u111 H locs hw111 hP hD hS => ?_)
  generalize u111 = n_sl_numbers_c_111 at hw111 hP hD
  have hP : va_P g vwCl [(x, .inr (10, [.ref x_tape, .ref x_land, .ref x_images, .ref x_book, .ref x_course, .ref x_fates, .ref x_chances, .ref x_will, .ref x_slots, .ref x_seen, .ref x_drawn])), (x_slots_size, .inl (cI, 4, .inl x_slots_size_c)), (x_slots_width, .inl (cI, 4, .inl x_slots_width_c)), (x_slots, .inr (7, [.ref x_slots_width, .ref x_slots_size, .ref x_slots_numbers])), (x_slots_numbers, .inl (cJ, 240, .inr (.inl n_sl_numbers_c_111)))] H := hP
  have hD : va_D A [(x, .inr (10, [.ref x_tape, .ref x_land, .ref x_images, .ref x_book, .ref x_course, .ref x_fates, .ref x_chances, .ref x_will, .ref x_slots, .ref x_seen, .ref x_drawn])), (x_slots_size, .inl (cI, 4, .inl x_slots_size_c)), (x_slots_width, .inl (cI, 4, .inl x_slots_width_c)), (x_slots, .inr (7, [.ref x_slots_width, .ref x_slots_size, .ref x_slots_numbers])), (x_slots_numbers, .inl (cJ, 240, .inr (.inl n_sl_numbers_c_111)))] := hD
  refine lv_iconst (v := 0) hx hb dX11_paste_114 (by decide) ?_
  subst hQ
  have hP9 := hP.sub (ws' := [(x, .inr (10, [.ref x_tape, .ref x_land, .ref x_images, .ref x_book, .ref x_course, .ref x_fates, .ref x_chances, .ref x_will, .ref x_slots, .ref x_seen, .ref x_drawn])), (x_slots, .inr (7, [.ref x_slots_width, .ref x_slots_size, .ref x_slots_numbers])), (x_slots_size, .inl (cI, 4, .inl x_slots_size_c)), (x_slots_width, .inl (cI, 4, .inl x_slots_width_c)), (x_slots_numbers, .inl (cJ, 240, .inr (.inl n_sl_numbers_c_111)))]) [0, 3, 1, 2, 4] rfl
  have hD9 := hD.sub (ws' := [(x, .inr (10, [.ref x_tape, .ref x_land, .ref x_images, .ref x_book, .ref x_course, .ref x_fates, .ref x_chances, .ref x_will, .ref x_slots, .ref x_seen, .ref x_drawn])), (x_slots, .inr (7, [.ref x_slots_width, .ref x_slots_size, .ref x_slots_numbers])), (x_slots_size, .inl (cI, 4, .inl x_slots_size_c)), (x_slots_width, .inl (cI, 4, .inl x_slots_width_c)), (x_slots_numbers, .inl (cJ, 240, .inr (.inl n_sl_numbers_c_111)))]) [0, 3, 1, 2, 4] (by decide) rfl
  exact W.iret (v := 0) hx hb hr (fun t ht hW => ⟨⟨0, n_sl_numbers_c_111, rfl, (show ir (0 : Int32).toInt (-8) 0 by decide), ⟨by rw [ht]; exact hP9, va_K.moved hW.alike hK, hD9⟩⟩, hS.F ht⟩) hS.2.2 dX11_paste_115
