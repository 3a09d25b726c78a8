def v_X12_person : List Cond := .code yX12_person cX12_person 3 (some .int) :: (([.fieldLink RX12 107 "CardsAtYuleModel" "thrown" "I", .methodLink RX12 276 yX12_isPerson, .instanceMethod yX12_isPerson, .selects RX12 yX12_isPerson yX12_isPerson, .initialized RX12] : List Cond) ++ (v_X12_isPerson ++ (wsX120 ++ ([] : List Cond))))
theorem good_v_X12_person : v_X12_person.all goodWord = true := ga_c (by decide +kernel) (ga_a (by decide +kernel) (ga_a good_v_X12_isPerson (ga_a good_wsX120 rfl)))
set_option maxHeartbeats 4000000 in
set_option maxRecDepth 100000 in
theorem k_X12_person (l : Launch) (g : va_G) (cI cJ cB cZ cL : ClassId) (y : Nat) (a : Nat → Nat) (p0 : Int32) (p1 : Int32) (ip0 : Int) (ip1 : Int) (sz : Nat) (hzp0 : p0.toInt = ip0) (hzp1 : p1.toInt = ip1) : Met l yX12_person v_X12_person ({ frames := 2, cells := 0, slots := 0, locals := 46 }) (va_Pc [.ref y, .int p0, .int p1] (pRW g (tyT cI cJ cB cZ cL) [(y, .inr (11, mO a)), ((a 17), .inl (cI, 25, .inl (fun _ => 0))), ((a 16), .inl (cI, 5, .inl (fun _ => 0)))] sz)) (va_Qi (fun (r : Int32) (u : Unit) => r = (-2)) (fun (_ : Unit) (t : State) => bRW g (tyT cI cJ cB cZ cL) (va_A [(y, .inr (11, mO a)), ((a 17), .inl (cI, 25, .inl (fun _ => 0))), ((a 16), .inl (cI, 5, .inl (fun _ => 0)))] sz) [] t) (va_A [(y, .inr (11, mO a)), ((a 17), .inl (cI, 25, .inl (fun _ => 0))), ((a 16), .inl (cI, 5, .inl (fun _ => 0)))] sz)) 0 0 (va_A [(y, .inr (11, mO a)), ((a 17), .inl (cI, 25, .inl (fun _ => 0))), ((a 16), .inl (cI, 5, .inl (fun _ => 0)))] sz) := by
  refine Met.ofW (cc := cX12_person) (maxL := 3) (ret := (some .int)) (by decide) rfl ?_
  intro p e s m args below meth c s₁ B hml hv
  obtain ⟨rfl, hsz, hP, hK, hD0⟩ := hv
  have hx := B.exec
  have hb := B.bytes
  have hr := B.returns
  have hts := atoms_spec (ws := v_X12_person) B.pre
  have hown : s.vm.findClass RX12 = some m.cls := findClass_of_methodNamed B.named
  have hlocks := B.notSynchronized
  subst hsz
  have iX12 : ∀ w ∈ wsX120, w ∈ v_X12_person := (fun _ h => List.mem_cons_of_mem _ (List.mem_append_right _ (List.mem_append_right _ (List.mem_append_left _ h))))
  have hD := hD0.self (sz := s.heap.size)
  generalize hAe : (va_A [(y, .inr (11, mO a)), ((a 17), .inl (cI, 25, .inl (fun _ => 0))), ((a 16), .inl (cI, 5, .inl (fun _ => 0)))] s.heap.size) = A at hD ⊢
  have hA : ∀ q : Nat, s.heap.size ≤ q → A q := fun q h => by rw [← hAe]; exact Or.inr h
  have hS : va_S A s.heap s.heap [] := va_S.rf
  have hl := lv_entry ([.ref y, .int p0, .int p1]) (n := 3) (Nat.le_of_ble_eq_true rfl)
  rw [lg_entry_eq]
  generalize (lg_sl ([.ref y, .int p0, .int p1]) ++ List.replicate (3 - (lg_sl ([.ref y, .int p0, .int p1])).length) Slot.unset).toArray = ls at hl ⊢
  have hl : lv_has ls 3 [(0, .ref y), (1, .int p0), (2, .int p1)] := hl
  have hP : va_P g vwCl [(y, .inr (11, mO a)), ((a 17), .inl (cI, 25, .inl (fun _ => 0))), ((a 16), .inl (cI, 5, .inl (fun _ => 0)))] s.heap := hP
  refine lv_aload_n hx hb dX12_person_0 rfl (lv_at hl 0 rfl) ?_
  refine lv_iconst (v := 0) hx hb dX12_person_1 (by decide) ?_
  refine va_put (D := g) (ci := 11) (v := .int 0) (ty := .int) (C := RX12) (T := TX12) (N := 56) hx hb hts iX12 tyX12 tyX12_ok nmX12 hown hK hP hD hS 0 rfl rfl 0 (by decide) (hts (.fieldLink RX12 107 "CardsAtYuleModel" "thrown" "I") (List.mem_cons_of_mem _ (List.mem_append_left _ (List.mem_of_getElem? (i := 0) rfl)))) (fun _ h9 => h9) rfl (by decide +kernel) rfl rfl (Nat.le_of_ble_eq_true rfl) dX12_person_2 (fun H locs hP hD hS => ?_)
  have hP : va_P g vwCl [(y, .inr (11, mO a)), ((a 17), .inl (cI, 25, .inl (fun _ => 0))), ((a 16), .inl (cI, 5, .inl (fun _ => 0)))] H := hP
  have hD : va_D A [(y, .inr (11, mO a)), ((a 17), .inl (cI, 25, .inl (fun _ => 0))), ((a 16), .inl (cI, 5, .inl (fun _ => 0)))] := hD
  refine lv_aload_n hx hb dX12_person_5 rfl (lv_at hl 0 rfl) ?_
  refine lv_iload_n hx hb dX12_person_6 rfl (lv_at hl 1 rfl) ?_
  refine ro_i (va_runV (As := [.int p0]) (rest := []) ⟨hx, hb, hml, hown, hts⟩ (k_X12_isPerson l g cI cJ cB cZ cL y a p0 ip0 H.size hzp0) (cwV 1 hts (goodIn_app (g_4 (List.mem_cons_of_mem _ (List.mem_append_left _ (List.mem_of_getElem? (i := 1) rfl))) (List.mem_cons_of_mem _ (List.mem_append_left _ (List.mem_of_getElem? (i := 2) rfl))) (List.mem_cons_of_mem _ (List.mem_append_left _ (List.mem_of_getElem? (i := 3) rfl))) (List.mem_cons_of_mem _ (List.mem_append_left _ (List.mem_of_getElem? (i := 4) rfl))) (by decide +kernel)) (goodIn_sub (fun _ h => List.mem_cons_of_mem _ (List.mem_append_right _ (List.mem_append_left _ h))) good_v_X12_isPerson)) rfl rfl rfl (by decide +kernel) ⟨Nat.le_of_ble_eq_true rfl, Nat.le_of_ble_eq_true rfl⟩) (pv_RO (q := (RX12, TX12, 56)) (ci := 11) (q0 := 0) (wc := [(y, .inr (11, mO a)), ((a 17), .inl (cI, 25, .inl (fun _ => 0))), ((a 16), .inl (cI, 5, .inl (fun _ => 0)))]) hK hP [0, 1, 2] rfl rfl rfl) rfl rfl hl.1 rfl (lv_room (Nat.le_of_ble_eq_true rfl)) dX12_person_7 ⟨Nat.le_of_ble_eq_true rfl, Nat.le_of_ble_eq_true rfl⟩) hS hA hP (fun r1 u2 H locs hw3 hP hS => ?_)
  subst hw3
  refine lv_if_eq (tgt := 34) hx hb dX12_person_10 (by decide) (fun _ => ?_) (fun c4 => absurd c4 (by decide))
  refine lv_bipush (v := (-2)) hx hb dX12_person_34 (by decide) ?_
  have hP9 := hP.sub (ws' := []) [] rfl
  have hD9 := hD.sub (ws' := []) [] (by decide) rfl
  exact W.iret (v := (-2)) hx hb hr (fun t ht hW => ⟨⟨(-2), (), rfl, rfl, by rw [ht]; exact hP9, va_K.moved hW.alike hK, hD9⟩, hS.F ht⟩) hS.2.2 dX12_person_36
def v_X12_pair : List Cond := .code yX12_pair cX12_pair 3 (some .int) :: (([.fieldLink RX12 107 "CardsAtYuleModel" "thrown" "I", .methodLink RX12 281 yX12_isPair, .instanceMethod yX12_isPair, .selects RX12 yX12_isPair yX12_isPair, .initialized RX12] : List Cond) ++ (v_X12_isPair ++ (wsX120 ++ ([] : List Cond))))
theorem good_v_X12_pair : v_X12_pair.all goodWord = true := ga_c (by decide +kernel) (ga_a (by decide +kernel) (ga_a good_v_X12_isPair (ga_a good_wsX120 rfl)))
set_option maxHeartbeats 4000000 in
set_option maxRecDepth 100000 in
theorem k_X12_pair (l : Launch) (g : va_G) (cI cJ cB cZ cL : ClassId) (y : Nat) (a : Nat → Nat) (p0 : Int32) (p1 : Int32) (ip0 : Int) (ip1 : Int) (sz : Nat) (hzp0 : p0.toInt = ip0) (hzp1 : p1.toInt = ip1) : Met l yX12_pair v_X12_pair ({ frames := 2, cells := 0, slots := 0, locals := 46 }) (va_Pc [.ref y, .int p0, .int p1] (pRW g (tyT cI cJ cB cZ cL) [(y, .inr (11, mO a)), ((a 17), .inl (cI, 25, .inl (fun _ => 0))), ((a 16), .inl (cI, 5, .inl (fun _ => 0)))] sz)) (va_Qi (fun (r : Int32) (u : Unit) => r = (-2)) (fun (_ : Unit) (t : State) => bRW g (tyT cI cJ cB cZ cL) (va_A [(y, .inr (11, mO a)), ((a 17), .inl (cI, 25, .inl (fun _ => 0))), ((a 16), .inl (cI, 5, .inl (fun _ => 0)))] sz) [] t) (va_A [(y, .inr (11, mO a)), ((a 17), .inl (cI, 25, .inl (fun _ => 0))), ((a 16), .inl (cI, 5, .inl (fun _ => 0)))] sz)) 0 0 (va_A [(y, .inr (11, mO a)), ((a 17), .inl (cI, 25, .inl (fun _ => 0))), ((a 16), .inl (cI, 5, .inl (fun _ => 0)))] sz) := by
  refine Met.ofW (cc := cX12_pair) (maxL := 3) (ret := (some .int)) (by decide) rfl ?_
  intro p e s m args below meth c s₁ B hml hv
  obtain ⟨rfl, hsz, hP, hK, hD0⟩ := hv
  have hx := B.exec
  have hb := B.bytes
  have hr := B.returns
  have hts := atoms_spec (ws := v_X12_pair) B.pre
  have hown : s.vm.findClass RX12 = some m.cls := findClass_of_methodNamed B.named
  have hlocks := B.notSynchronized
  subst hsz
  have iX12 : ∀ w ∈ wsX120, w ∈ v_X12_pair := (fun _ h => List.mem_cons_of_mem _ (List.mem_append_right _ (List.mem_append_right _ (List.mem_append_left _ h))))
  have hD := hD0.self (sz := s.heap.size)
  generalize hAe : (va_A [(y, .inr (11, mO a)), ((a 17), .inl (cI, 25, .inl (fun _ => 0))), ((a 16), .inl (cI, 5, .inl (fun _ => 0)))] s.heap.size) = A at hD ⊢
  have hA : ∀ q : Nat, s.heap.size ≤ q → A q := fun q h => by rw [← hAe]; exact Or.inr h
  have hS : va_S A s.heap s.heap [] := va_S.rf
  have hl := lv_entry ([.ref y, .int p0, .int p1]) (n := 3) (Nat.le_of_ble_eq_true rfl)
  rw [lg_entry_eq]
  generalize (lg_sl ([.ref y, .int p0, .int p1]) ++ List.replicate (3 - (lg_sl ([.ref y, .int p0, .int p1])).length) Slot.unset).toArray = ls at hl ⊢
  have hl : lv_has ls 3 [(0, .ref y), (1, .int p0), (2, .int p1)] := hl
  have hP : va_P g vwCl [(y, .inr (11, mO a)), ((a 17), .inl (cI, 25, .inl (fun _ => 0))), ((a 16), .inl (cI, 5, .inl (fun _ => 0)))] s.heap := hP
  refine lv_aload_n hx hb dX12_pair_0 rfl (lv_at hl 0 rfl) ?_
  refine lv_iconst (v := 0) hx hb dX12_pair_1 (by decide) ?_
  refine va_put (D := g) (ci := 11) (v := .int 0) (ty := .int) (C := RX12) (T := TX12) (N := 56) hx hb hts iX12 tyX12 tyX12_ok nmX12 hown hK hP hD hS 0 rfl rfl 0 (by decide) (hts (.fieldLink RX12 107 "CardsAtYuleModel" "thrown" "I") (List.mem_cons_of_mem _ (List.mem_append_left _ (List.mem_of_getElem? (i := 0) rfl)))) (fun _ h9 => h9) rfl (by decide +kernel) rfl rfl (Nat.le_of_ble_eq_true rfl) dX12_pair_2 (fun H locs hP hD hS => ?_)
  have hP : va_P g vwCl [(y, .inr (11, mO a)), ((a 17), .inl (cI, 25, .inl (fun _ => 0))), ((a 16), .inl (cI, 5, .inl (fun _ => 0)))] H := hP
  have hD : va_D A [(y, .inr (11, mO a)), ((a 17), .inl (cI, 25, .inl (fun _ => 0))), ((a 16), .inl (cI, 5, .inl (fun _ => 0)))] := hD
  refine lv_aload_n hx hb dX12_pair_5 rfl (lv_at hl 0 rfl) ?_
  refine lv_iload_n hx hb dX12_pair_6 rfl (lv_at hl 1 rfl) ?_
  refine ro_i (va_runV (As := [.int p0]) (rest := []) ⟨hx, hb, hml, hown, hts⟩ (k_X12_isPair l g cI cJ cB cZ cL y a p0 ip0 H.size hzp0) (cwV 1 hts (goodIn_app (g_4 (List.mem_cons_of_mem _ (List.mem_append_left _ (List.mem_of_getElem? (i := 1) rfl))) (List.mem_cons_of_mem _ (List.mem_append_left _ (List.mem_of_getElem? (i := 2) rfl))) (List.mem_cons_of_mem _ (List.mem_append_left _ (List.mem_of_getElem? (i := 3) rfl))) (List.mem_cons_of_mem _ (List.mem_append_left _ (List.mem_of_getElem? (i := 4) rfl))) (by decide +kernel)) (goodIn_sub (fun _ h => List.mem_cons_of_mem _ (List.mem_append_right _ (List.mem_append_left _ h))) good_v_X12_isPair)) rfl rfl rfl (by decide +kernel) ⟨Nat.le_of_ble_eq_true rfl, Nat.le_of_ble_eq_true rfl⟩) (pv_RO (q := (RX12, TX12, 56)) (ci := 11) (q0 := 0) (wc := [(y, .inr (11, mO a)), ((a 17), .inl (cI, 25, .inl (fun _ => 0))), ((a 16), .inl (cI, 5, .inl (fun _ => 0)))]) hK hP [0, 1, 2] rfl rfl rfl) rfl rfl hl.1 rfl (lv_room (Nat.le_of_ble_eq_true rfl)) dX12_pair_7 ⟨Nat.le_of_ble_eq_true rfl, Nat.le_of_ble_eq_true rfl⟩) hS hA hP (fun r1 u2 H locs hw3 hP hS => ?_)
  subst hw3
  refine lv_if_eq (tgt := 38) hx hb dX12_pair_10 (by decide) (fun _ => ?_) (fun c4 => absurd c4 (by decide))
  refine lv_bipush (v := (-2)) hx hb dX12_pair_38 (by decide) ?_
  have hP9 := hP.sub (ws' := []) [] rfl
  have hD9 := hD.sub (ws' := []) [] (by decide) rfl
  exact W.iret (v := (-2)) hx hb hr (fun t ht hW => ⟨⟨(-2), (), rfl, rfl, by rw [ht]; exact hP9, va_K.moved hW.alike hK, hD9⟩, hS.F ht⟩) hS.2.2 dX12_pair_40
def v_X12_of : List Cond := .code yX12_of cX12_of 3 (some .int) :: (([.fieldLink RX12 107 "CardsAtYuleModel" "thrown" "I", .methodLink RX12 276 yX12_isPerson, .instanceMethod yX12_isPerson, .selects RX12 yX12_isPerson yX12_isPerson, .initialized RX12] : List Cond) ++ (v_X12_isPerson ++ (wsX120 ++ ([] : List Cond))))
theorem good_v_X12_of : v_X12_of.all goodWord = true := ga_c (by decide +kernel) (ga_a (by decide +kernel) (ga_a good_v_X12_isPerson (ga_a good_wsX120 rfl)))
set_option maxHeartbeats 4000000 in
set_option maxRecDepth 100000 in
theorem k_X12_of (l : Launch) (g : va_G) (cI cJ cB cZ cL : ClassId) (y : Nat) (a : Nat → Nat) (p0 : Int32) (p1 : Int32) (ip0 : Int) (ip1 : Int) (sz : Nat) (hzp0 : p0.toInt = ip0) (hzp1 : p1.toInt = ip1) : Met l yX12_of v_X12_of ({ frames := 2, cells := 0, slots := 0, locals := 46 }) (va_Pc [.ref y, .int p0, .int p1] (pRW g (tyT cI cJ cB cZ cL) [(y, .inr (11, mO a)), ((a 17), .inl (cI, 25, .inl (fun _ => 0))), ((a 16), .inl (cI, 5, .inl (fun _ => 0)))] sz)) (va_Qi (fun (r : Int32) (u : Unit) => r = (-2)) (fun (_ : Unit) (t : State) => bRW g (tyT cI cJ cB cZ cL) (va_A [(y, .inr (11, mO a)), ((a 17), .inl (cI, 25, .inl (fun _ => 0))), ((a 16), .inl (cI, 5, .inl (fun _ => 0)))] sz) [] t) (va_A [(y, .inr (11, mO a)), ((a 17), .inl (cI, 25, .inl (fun _ => 0))), ((a 16), .inl (cI, 5, .inl (fun _ => 0)))] sz)) 0 0 (va_A [(y, .inr (11, mO a)), ((a 17), .inl (cI, 25, .inl (fun _ => 0))), ((a 16), .inl (cI, 5, .inl (fun _ => 0)))] sz) := by
  refine Met.ofW (cc := cX12_of) (maxL := 3) (ret := (some .int)) (by decide) rfl ?_
  intro p e s m args below meth c s₁ B hml hv
  obtain ⟨rfl, hsz, hP, hK, hD0⟩ := hv
  have hx := B.exec
  have hb := B.bytes
  have hr := B.returns
  have hts := atoms_spec (ws := v_X12_of) B.pre
  have hown : s.vm.findClass RX12 = some m.cls := findClass_of_methodNamed B.named
  have hlocks := B.notSynchronized
  subst hsz
  have iX12 : ∀ w ∈ wsX120, w ∈ v_X12_of := (fun _ h => List.mem_cons_of_mem _ (List.mem_append_right _ (List.mem_append_right _ (List.mem_append_left _ h))))
  have hD := hD0.self (sz := s.heap.size)
  generalize hAe : (va_A [(y, .inr (11, mO a)), ((a 17), .inl (cI, 25, .inl (fun _ => 0))), ((a 16), .inl (cI, 5, .inl (fun _ => 0)))] s.heap.size) = A at hD ⊢
  have hA : ∀ q : Nat, s.heap.size ≤ q → A q := fun q h => by rw [← hAe]; exact Or.inr h
  have hS : va_S A s.heap s.heap [] := va_S.rf
  have hl := lv_entry ([.ref y, .int p0, .int p1]) (n := 3) (Nat.le_of_ble_eq_true rfl)
  rw [lg_entry_eq]
  generalize (lg_sl ([.ref y, .int p0, .int p1]) ++ List.replicate (3 - (lg_sl ([.ref y, .int p0, .int p1])).length) Slot.unset).toArray = ls at hl ⊢
  have hl : lv_has ls 3 [(0, .ref y), (1, .int p0), (2, .int p1)] := hl
  have hP : va_P g vwCl [(y, .inr (11, mO a)), ((a 17), .inl (cI, 25, .inl (fun _ => 0))), ((a 16), .inl (cI, 5, .inl (fun _ => 0)))] s.heap := hP
  refine lv_aload_n hx hb dX12_of_0 rfl (lv_at hl 0 rfl) ?_
  refine lv_iconst (v := 0) hx hb dX12_of_1 (by decide) ?_
  refine va_put (D := g) (ci := 11) (v := .int 0) (ty := .int) (C := RX12) (T := TX12) (N := 56) hx hb hts iX12 tyX12 tyX12_ok nmX12 hown hK hP hD hS 0 rfl rfl 0 (by decide) (hts (.fieldLink RX12 107 "CardsAtYuleModel" "thrown" "I") (List.mem_cons_of_mem _ (List.mem_append_left _ (List.mem_of_getElem? (i := 0) rfl)))) (fun _ h9 => h9) rfl (by decide +kernel) rfl rfl (Nat.le_of_ble_eq_true rfl) dX12_of_2 (fun H locs hP hD hS => ?_)
  have hP : va_P g vwCl [(y, .inr (11, mO a)), ((a 17), .inl (cI, 25, .inl (fun _ => 0))), ((a 16), .inl (cI, 5, .inl (fun _ => 0)))] H := hP
  have hD : va_D A [(y, .inr (11, mO a)), ((a 17), .inl (cI, 25, .inl (fun _ => 0))), ((a 16), .inl (cI, 5, .inl (fun _ => 0)))] := hD
  refine lv_aload_n hx hb dX12_of_5 rfl (lv_at hl 0 rfl) ?_
  refine lv_iload_n hx hb dX12_of_6 rfl (lv_at hl 1 rfl) ?_
  refine ro_i (va_runV (As := [.int p0]) (rest := []) ⟨hx, hb, hml, hown, hts⟩ (k_X12_isPerson l g cI cJ cB cZ cL y a p0 ip0 H.size hzp0) (cwV 1 hts (goodIn_app (g_4 (List.mem_cons_of_mem _ (List.mem_append_left _ (List.mem_of_getElem? (i := 1) rfl))) (List.mem_cons_of_mem _ (List.mem_append_left _ (List.mem_of_getElem? (i := 2) rfl))) (List.mem_cons_of_mem _ (List.mem_append_left _ (List.mem_of_getElem? (i := 3) rfl))) (List.mem_cons_of_mem _ (List.mem_append_left _ (List.mem_of_getElem? (i := 4) rfl))) (by decide +kernel)) (goodIn_sub (fun _ h => List.mem_cons_of_mem _ (List.mem_append_right _ (List.mem_append_left _ h))) good_v_X12_isPerson)) rfl rfl rfl (by decide +kernel) ⟨Nat.le_of_ble_eq_true rfl, Nat.le_of_ble_eq_true rfl⟩) (pv_RO (q := (RX12, TX12, 56)) (ci := 11) (q0 := 0) (wc := [(y, .inr (11, mO a)), ((a 17), .inl (cI, 25, .inl (fun _ => 0))), ((a 16), .inl (cI, 5, .inl (fun _ => 0)))]) hK hP [0, 1, 2] rfl rfl rfl) rfl rfl hl.1 rfl (lv_room (Nat.le_of_ble_eq_true rfl)) dX12_of_7 ⟨Nat.le_of_ble_eq_true rfl, Nat.le_of_ble_eq_true rfl⟩) hS hA hP (fun r1 u2 H locs hw3 hP hS => ?_)
  subst hw3
  refine lv_if_eq (tgt := 36) hx hb dX12_of_10 (by decide) (fun _ => ?_) (fun c4 => absurd c4 (by decide))
  refine lv_bipush (v := (-2)) hx hb dX12_of_36 (by decide) ?_
  have hP9 := hP.sub (ws' := []) [] rfl
  have hD9 := hD.sub (ws' := []) [] (by decide) rfl
  exact W.iret (v := (-2)) hx hb hr (fun t ht hW => ⟨⟨(-2), (), rfl, rfl, by rw [ht]; exact hP9, va_K.moved hW.alike hK, hD9⟩, hS.F ht⟩) hS.2.2 dX12_of_38
def v_X12_sends : List Cond := .code yX12_sends cX12_sends 4 (some .int) :: (([.fieldLink RX12 107 "CardsAtYuleModel" "thrown" "I", .methodLink RX12 281 yX12_isPair, .instanceMethod yX12_isPair, .selects RX12 yX12_isPair yX12_isPair, .initialized RX12] : List Cond) ++ (v_X12_isPair ++ (wsX120 ++ ([] : List Cond))))
theorem good_v_X12_sends : v_X12_sends.all goodWord = true := ga_c (by decide +kernel) (ga_a (by decide +kernel) (ga_a good_v_X12_isPair (ga_a good_wsX120 rfl)))
set_option maxHeartbeats 4000000 in
set_option maxRecDepth 100000 in
theorem k_X12_sends (l : Launch) (g : va_G) (cI cJ cB cZ cL : ClassId) (y : Nat) (a : Nat → Nat) (p0 : Int32) (p1 : Int32) (p2 : Int32) (ip0 : Int) (ip1 : Int) (ip2 : Int) (sz : Nat) (hzp0 : p0.toInt = ip0) (hzp1 : p1.toInt = ip1) (hzp2 : p2.toInt = ip2) : Met l yX12_sends v_X12_sends ({ frames := 2, cells := 0, slots := 0, locals := 46 }) (va_Pc [.ref y, .int p0, .int p1, .int p2] (pRW g (tyT cI cJ cB cZ cL) [(y, .inr (11, mO a)), ((a 17), .inl (cI, 25, .inl (fun _ => 0))), ((a 16), .inl (cI, 5, .inl (fun _ => 0)))] sz)) (va_Qi (fun (r : Int32) (u : Unit) => r = (-2)) (fun (_ : Unit) (t : State) => bRW g (tyT cI cJ cB cZ cL) (va_A [(y, .inr (11, mO a)), ((a 17), .inl (cI, 25, .inl (fun _ => 0))), ((a 16), .inl (cI, 5, .inl (fun _ => 0)))] sz) [] t) (va_A [(y, .inr (11, mO a)), ((a 17), .inl (cI, 25, .inl (fun _ => 0))), ((a 16), .inl (cI, 5, .inl (fun _ => 0)))] sz)) 0 0 (va_A [(y, .inr (11, mO a)), ((a 17), .inl (cI, 25, .inl (fun _ => 0))), ((a 16), .inl (cI, 5, .inl (fun _ => 0)))] sz) := by
  refine Met.ofW (cc := cX12_sends) (maxL := 4) (ret := (some .int)) (by decide) rfl ?_
  intro p e s m args below meth c s₁ B hml hv
  obtain ⟨rfl, hsz, hP, hK, hD0⟩ := hv
  have hx := B.exec
  have hb := B.bytes
  have hr := B.returns
  have hts := atoms_spec (ws := v_X12_sends) B.pre
  have hown : s.vm.findClass RX12 = some m.cls := findClass_of_methodNamed B.named
  have hlocks := B.notSynchronized
  subst hsz
  have iX12 : ∀ w ∈ wsX120, w ∈ v_X12_sends := (fun _ h => List.mem_cons_of_mem _ (List.mem_append_right _ (List.mem_append_right _ (List.mem_append_left _ h))))
  have hD := hD0.self (sz := s.heap.size)
  generalize hAe : (va_A [(y, .inr (11, mO a)), ((a 17), .inl (cI, 25, .inl (fun _ => 0))), ((a 16), .inl (cI, 5, .inl (fun _ => 0)))] s.heap.size) = A at hD ⊢
  have hA : ∀ q : Nat, s.heap.size ≤ q → A q := fun q h => by rw [← hAe]; exact Or.inr h
  have hS : va_S A s.heap s.heap [] := va_S.rf
  have hl := lv_entry ([.ref y, .int p0, .int p1, .int p2]) (n := 4) (Nat.le_of_ble_eq_true rfl)
  rw [lg_entry_eq]
  generalize (lg_sl ([.ref y, .int p0, .int p1, .int p2]) ++ List.replicate (4 - (lg_sl ([.ref y, .int p0, .int p1, .int p2])).length) Slot.unset).toArray = ls at hl ⊢
  have hl : lv_has ls 4 [(0, .ref y), (1, .int p0), (2, .int p1), (3, .int p2)] := hl
  have hP : va_P g vwCl [(y, .inr (11, mO a)), ((a 17), .inl (cI, 25, .inl (fun _ => 0))), ((a 16), .inl (cI, 5, .inl (fun _ => 0)))] s.heap := hP
  refine lv_aload_n hx hb dX12_sends_0 rfl (lv_at hl 0 rfl) ?_
  refine lv_iconst (v := 0) hx hb dX12_sends_1 (by decide) ?_
  refine va_put (D := g) (ci := 11) (v := .int 0) (ty := .int) (C := RX12) (T := TX12) (N := 56) hx hb hts iX12 tyX12 tyX12_ok nmX12 hown hK hP hD hS 0 rfl rfl 0 (by decide) (hts (.fieldLink RX12 107 "CardsAtYuleModel" "thrown" "I") (List.mem_cons_of_mem _ (List.mem_append_left _ (List.mem_of_getElem? (i := 0) rfl)))) (fun _ h9 => h9) rfl (by decide +kernel) rfl rfl (Nat.le_of_ble_eq_true rfl) dX12_sends_2 (fun H locs hP hD hS => ?_)
  have hP : va_P g vwCl [(y, .inr (11, mO a)), ((a 17), .inl (cI, 25, .inl (fun _ => 0))), ((a 16), .inl (cI, 5, .inl (fun _ => 0)))] H := hP
  have hD : va_D A [(y, .inr (11, mO a)), ((a 17), .inl (cI, 25, .inl (fun _ => 0))), ((a 16), .inl (cI, 5, .inl (fun _ => 0)))] := hD
  refine lv_aload_n hx hb dX12_sends_5 rfl (lv_at hl 0 rfl) ?_
  refine lv_iload_n hx hb dX12_sends_6 rfl (lv_at hl 1 rfl) ?_
  refine ro_i (va_runV (As := [.int p0]) (rest := []) ⟨hx, hb, hml, hown, hts⟩ (k_X12_isPair l g cI cJ cB cZ cL y a p0 ip0 H.size hzp0) (cwV 1 hts (goodIn_app (g_4 (List.mem_cons_of_mem _ (List.mem_append_left _ (List.mem_of_getElem? (i := 1) rfl))) (List.mem_cons_of_mem _ (List.mem_append_left _ (List.mem_of_getElem? (i := 2) rfl))) (List.mem_cons_of_mem _ (List.mem_append_left _ (List.mem_of_getElem? (i := 3) rfl))) (List.mem_cons_of_mem _ (List.mem_append_left _ (List.mem_of_getElem? (i := 4) rfl))) (by decide +kernel)) (goodIn_sub (fun _ h => List.mem_cons_of_mem _ (List.mem_append_right _ (List.mem_append_left _ h))) good_v_X12_isPair)) rfl rfl rfl (by decide +kernel) ⟨Nat.le_of_ble_eq_true rfl, Nat.le_of_ble_eq_true rfl⟩) (pv_RO (q := (RX12, TX12, 56)) (ci := 11) (q0 := 0) (wc := [(y, .inr (11, mO a)), ((a 17), .inl (cI, 25, .inl (fun _ => 0))), ((a 16), .inl (cI, 5, .inl (fun _ => 0)))]) hK hP [0, 1, 2] rfl rfl rfl) rfl rfl hl.1 rfl (lv_room (Nat.le_of_ble_eq_true rfl)) dX12_sends_7 ⟨Nat.le_of_ble_eq_true rfl, Nat.le_of_ble_eq_true rfl⟩) hS hA hP (fun r1 u2 H locs hw3 hP hS => ?_)
  subst hw3
  refine lv_if_eq (tgt := 29) hx hb dX12_sends_10 (by decide) (fun _ => ?_) (fun c4 => absurd c4 (by decide))
  refine lv_bipush (v := (-2)) hx hb dX12_sends_29 (by decide) ?_
  have hP9 := hP.sub (ws' := []) [] rfl
  have hD9 := hD.sub (ws' := []) [] (by decide) rfl
  exact W.iret (v := (-2)) hx hb hr (fun t ht hW => ⟨⟨(-2), (), rfl, rfl, by rw [ht]; exact hP9, va_K.moved hW.alike hK, hD9⟩, hS.F ht⟩) hS.2.2 dX12_sends_31
def v_X12_got : List Cond := .code yX12_got cX12_got 4 (some .int) :: (([.fieldLink RX12 107 "CardsAtYuleModel" "thrown" "I", .methodLink RX12 281 yX12_isPair, .instanceMethod yX12_isPair, .selects RX12 yX12_isPair yX12_isPair, .initialized RX12] : List Cond) ++ (v_X12_isPair ++ (wsX120 ++ ([] : List Cond))))
theorem good_v_X12_got : v_X12_got.all goodWord = true := ga_c (by decide +kernel) (ga_a (by decide +kernel) (ga_a good_v_X12_isPair (ga_a good_wsX120 rfl)))
set_option maxHeartbeats 4000000 in
set_option maxRecDepth 100000 in
theorem k_X12_got (l : Launch) (g : va_G) (cI cJ cB cZ cL : ClassId) (y : Nat) (a : Nat → Nat) (p0 : Int32) (p1 : Int32) (p2 : Int32) (ip0 : Int) (ip1 : Int) (ip2 : Int) (sz : Nat) (hzp0 : p0.toInt = ip0) (hzp1 : p1.toInt = ip1) (hzp2 : p2.toInt = ip2) : Met l yX12_got v_X12_got ({ frames := 2, cells := 0, slots := 0, locals := 46 }) (va_Pc [.ref y, .int p0, .int p1, .int p2] (pRW g (tyT cI cJ cB cZ cL) [(y, .inr (11, mO a)), ((a 17), .inl (cI, 25, .inl (fun _ => 0))), ((a 16), .inl (cI, 5, .inl (fun _ => 0)))] sz)) (va_Qi (fun (r : Int32) (u : Unit) => r = (-2)) (fun (_ : Unit) (t : State) => bRW g (tyT cI cJ cB cZ cL) (va_A [(y, .inr (11, mO a)), ((a 17), .inl (cI, 25, .inl (fun _ => 0))), ((a 16), .inl (cI, 5, .inl (fun _ => 0)))] sz) [] t) (va_A [(y, .inr (11, mO a)), ((a 17), .inl (cI, 25, .inl (fun _ => 0))), ((a 16), .inl (cI, 5, .inl (fun _ => 0)))] sz)) 0 0 (va_A [(y, .inr (11, mO a)), ((a 17), .inl (cI, 25, .inl (fun _ => 0))), ((a 16), .inl (cI, 5, .inl (fun _ => 0)))] sz) := by
  refine Met.ofW (cc := cX12_got) (maxL := 4) (ret := (some .int)) (by decide) rfl ?_
  intro p e s m args below meth c s₁ B hml hv
  obtain ⟨rfl, hsz, hP, hK, hD0⟩ := hv
  have hx := B.exec
  have hb := B.bytes
  have hr := B.returns
  have hts := atoms_spec (ws := v_X12_got) B.pre
  have hown : s.vm.findClass RX12 = some m.cls := findClass_of_methodNamed B.named
  have hlocks := B.notSynchronized
  subst hsz
  have iX12 : ∀ w ∈ wsX120, w ∈ v_X12_got := (fun _ h => List.mem_cons_of_mem _ (List.mem_append_right _ (List.mem_append_right _ (List.mem_append_left _ h))))
  have hD := hD0.self (sz := s.heap.size)
  generalize hAe : (va_A [(y, .inr (11, mO a)), ((a 17), .inl (cI, 25, .inl (fun _ => 0))), ((a 16), .inl (cI, 5, .inl (fun _ => 0)))] s.heap.size) = A at hD ⊢
  have hA : ∀ q : Nat, s.heap.size ≤ q → A q := fun q h => by rw [← hAe]; exact Or.inr h
  have hS : va_S A s.heap s.heap [] := va_S.rf
  have hl := lv_entry ([.ref y, .int p0, .int p1, .int p2]) (n := 4) (Nat.le_of_ble_eq_true rfl)
  rw [lg_entry_eq]
  generalize (lg_sl ([.ref y, .int p0, .int p1, .int p2]) ++ List.replicate (4 - (lg_sl ([.ref y, .int p0, .int p1, .int p2])).length) Slot.unset).toArray = ls at hl ⊢
  have hl : lv_has ls 4 [(0, .ref y), (1, .int p0), (2, .int p1), (3, .int p2)] := hl
  have hP : va_P g vwCl [(y, .inr (11, mO a)), ((a 17), .inl (cI, 25, .inl (fun _ => 0))), ((a 16), .inl (cI, 5, .inl (fun _ => 0)))] s.heap := hP
  refine lv_aload_n hx hb dX12_got_0 rfl (lv_at hl 0 rfl) ?_
  refine lv_iconst (v := 0) hx hb dX12_got_1 (by decide) ?_
  refine va_put (D := g) (ci := 11) (v := .int 0) (ty := .int) (C := RX12) (T := TX12) (N := 56) hx hb hts iX12 tyX12 tyX12_ok nmX12 hown hK hP hD hS 0 rfl rfl 0 (by decide) (hts (.fieldLink RX12 107 "CardsAtYuleModel" "thrown" "I") (List.mem_cons_of_mem _ (List.mem_append_left _ (List.mem_of_getElem? (i := 0) rfl)))) (fun _ h9 => h9) rfl (by decide +kernel) rfl rfl (Nat.le_of_ble_eq_true rfl) dX12_got_2 (fun H locs hP hD hS => ?_)
  have hP : va_P g vwCl [(y, .inr (11, mO a)), ((a 17), .inl (cI, 25, .inl (fun _ => 0))), ((a 16), .inl (cI, 5, .inl (fun _ => 0)))] H := hP
  have hD : va_D A [(y, .inr (11, mO a)), ((a 17), .inl (cI, 25, .inl (fun _ => 0))), ((a 16), .inl (cI, 5, .inl (fun _ => 0)))] := hD
  refine lv_aload_n hx hb dX12_got_5 rfl (lv_at hl 0 rfl) ?_
  refine lv_iload_n hx hb dX12_got_6 rfl (lv_at hl 1 rfl) ?_
  refine ro_i (va_runV (As := [.int p0]) (rest := []) ⟨hx, hb, hml, hown, hts⟩ (k_X12_isPair l g cI cJ cB cZ cL y a p0 ip0 H.size hzp0) (cwV 1 hts (goodIn_app (g_4 (List.mem_cons_of_mem _ (List.mem_append_left _ (List.mem_of_getElem? (i := 1) rfl))) (List.mem_cons_of_mem _ (List.mem_append_left _ (List.mem_of_getElem? (i := 2) rfl))) (List.mem_cons_of_mem _ (List.mem_append_left _ (List.mem_of_getElem? (i := 3) rfl))) (List.mem_cons_of_mem _ (List.mem_append_left _ (List.mem_of_getElem? (i := 4) rfl))) (by decide +kernel)) (goodIn_sub (fun _ h => List.mem_cons_of_mem _ (List.mem_append_right _ (List.mem_append_left _ h))) good_v_X12_isPair)) rfl rfl rfl (by decide +kernel) ⟨Nat.le_of_ble_eq_true rfl, Nat.le_of_ble_eq_true rfl⟩) (pv_RO (q := (RX12, TX12, 56)) (ci := 11) (q0 := 0) (wc := [(y, .inr (11, mO a)), ((a 17), .inl (cI, 25, .inl (fun _ => 0))), ((a 16), .inl (cI, 5, .inl (fun _ => 0)))]) hK hP [0, 1, 2] rfl rfl rfl) rfl rfl hl.1 rfl (lv_room (Nat.le_of_ble_eq_true rfl)) dX12_got_7 ⟨Nat.le_of_ble_eq_true rfl, Nat.le_of_ble_eq_true rfl⟩) hS hA hP (fun r1 u2 H locs hw3 hP hS => ?_)
  subst hw3
  refine lv_if_eq (tgt := 29) hx hb dX12_got_10 (by decide) (fun _ => ?_) (fun c4 => absurd c4 (by decide))
  refine lv_bipush (v := (-2)) hx hb dX12_got_29 (by decide) ?_
  have hP9 := hP.sub (ws' := []) [] rfl
  have hD9 := hD.sub (ws' := []) [] (by decide) rfl
  exact W.iret (v := (-2)) hx hb hr (fun t ht hW => ⟨⟨(-2), (), rfl, rfl, by rw [ht]; exact hP9, va_K.moved hW.alike hK, hD9⟩, hS.F ht⟩) hS.2.2 dX12_got_31
def v_X12_state : List Cond := .code yX12_state cX12_state 3 (some .int) :: (([.fieldLink RX12 107 "CardsAtYuleModel" "thrown" "I", .methodLink RX12 281 yX12_isPair, .instanceMethod yX12_isPair, .selects RX12 yX12_isPair yX12_isPair, .initialized RX12] : List Cond) ++ (v_X12_isPair ++ (wsX120 ++ ([] : List Cond))))
theorem good_v_X12_state : v_X12_state.all goodWord = true := ga_c (by decide +kernel) (ga_a (by decide +kernel) (ga_a good_v_X12_isPair (ga_a good_wsX120 rfl)))
set_option maxHeartbeats 4000000 in
set_option maxRecDepth 100000 in
theorem k_X12_state (l : Launch) (g : va_G) (cI cJ cB cZ cL : ClassId) (y : Nat) (a : Nat → Nat) (p0 : Int32) (p1 : Int32) (ip0 : Int) (ip1 : Int) (sz : Nat) (hzp0 : p0.toInt = ip0) (hzp1 : p1.toInt = ip1) : Met l yX12_state v_X12_state ({ frames := 2, cells := 0, slots := 0, locals := 46 }) (va_Pc [.ref y, .int p0, .int p1] (pRW g (tyT cI cJ cB cZ cL) [(y, .inr (11, mO a)), ((a 17), .inl (cI, 25, .inl (fun _ => 0))), ((a 16), .inl (cI, 5, .inl (fun _ => 0)))] sz)) (va_Qi (fun (r : Int32) (u : Unit) => r = (-2)) (fun (_ : Unit) (t : State) => bRW g (tyT cI cJ cB cZ cL) (va_A [(y, .inr (11, mO a)), ((a 17), .inl (cI, 25, .inl (fun _ => 0))), ((a 16), .inl (cI, 5, .inl (fun _ => 0)))] sz) [] t) (va_A [(y, .inr (11, mO a)), ((a 17), .inl (cI, 25, .inl (fun _ => 0))), ((a 16), .inl (cI, 5, .inl (fun _ => 0)))] sz)) 0 0 (va_A [(y, .inr (11, mO a)), ((a 17), .inl (cI, 25, .inl (fun _ => 0))), ((a 16), .inl (cI, 5, .inl (fun _ => 0)))] sz) := by
  refine Met.ofW (cc := cX12_state) (maxL := 3) (ret := (some .int)) (by decide) rfl ?_
  intro p e s m args below meth c s₁ B hml hv
  obtain ⟨rfl, hsz, hP, hK, hD0⟩ := hv
  have hx := B.exec
  have hb := B.bytes
  have hr := B.returns
  have hts := atoms_spec (ws := v_X12_state) B.pre
  have hown : s.vm.findClass RX12 = some m.cls := findClass_of_methodNamed B.named
  have hlocks := B.notSynchronized
  subst hsz
  have iX12 : ∀ w ∈ wsX120, w ∈ v_X12_state := (fun _ h => List.mem_cons_of_mem _ (List.mem_append_right _ (List.mem_append_right _ (List.mem_append_left _ h))))
  have hD := hD0.self (sz := s.heap.size)
  generalize hAe : (va_A [(y, .inr (11, mO a)), ((a 17), .inl (cI, 25, .inl (fun _ => 0))), ((a 16), .inl (cI, 5, .inl (fun _ => 0)))] s.heap.size) = A at hD ⊢
  have hA : ∀ q : Nat, s.heap.size ≤ q → A q := fun q h => by rw [← hAe]; exact Or.inr h
  have hS : va_S A s.heap s.heap [] := va_S.rf
  have hl := lv_entry ([.ref y, .int p0, .int p1]) (n := 3) (Nat.le_of_ble_eq_true rfl)
  rw [lg_entry_eq]
  generalize (lg_sl ([.ref y, .int p0, .int p1]) ++ List.replicate (3 - (lg_sl ([.ref y, .int p0, .int p1])).length) Slot.unset).toArray = ls at hl ⊢
  have hl : lv_has ls 3 [(0, .ref y), (1, .int p0), (2, .int p1)] := hl
  have hP : va_P g vwCl [(y, .inr (11, mO a)), ((a 17), .inl (cI, 25, .inl (fun _ => 0))), ((a 16), .inl (cI, 5, .inl (fun _ => 0)))] s.heap := hP
  refine lv_aload_n hx hb dX12_state_0 rfl (lv_at hl 0 rfl) ?_
  refine lv_iconst (v := 0) hx hb dX12_state_1 (by decide) ?_
  refine va_put (D := g) (ci := 11) (v := .int 0) (ty := .int) (C := RX12) (T := TX12) (N := 56) hx hb hts iX12 tyX12 tyX12_ok nmX12 hown hK hP hD hS 0 rfl rfl 0 (by decide) (hts (.fieldLink RX12 107 "CardsAtYuleModel" "thrown" "I") (List.mem_cons_of_mem _ (List.mem_append_left _ (List.mem_of_getElem? (i := 0) rfl)))) (fun _ h9 => h9) rfl (by decide +kernel) rfl rfl (Nat.le_of_ble_eq_true rfl) dX12_state_2 (fun H locs hP hD hS => ?_)
  have hP : va_P g vwCl [(y, .inr (11, mO a)), ((a 17), .inl (cI, 25, .inl (fun _ => 0))), ((a 16), .inl (cI, 5, .inl (fun _ => 0)))] H := hP
  have hD : va_D A [(y, .inr (11, mO a)), ((a 17), .inl (cI, 25, .inl (fun _ => 0))), ((a 16), .inl (cI, 5, .inl (fun _ => 0)))] := hD
  refine lv_aload_n hx hb dX12_state_5 rfl (lv_at hl 0 rfl) ?_
  refine lv_iload_n hx hb dX12_state_6 rfl (lv_at hl 1 rfl) ?_
  refine ro_i (va_runV (As := [.int p0]) (rest := []) ⟨hx, hb, hml, hown, hts⟩ (k_X12_isPair l g cI cJ cB cZ cL y a p0 ip0 H.size hzp0) (cwV 1 hts (goodIn_app (g_4 (List.mem_cons_of_mem _ (List.mem_append_left _ (List.mem_of_getElem? (i := 1) rfl))) (List.mem_cons_of_mem _ (List.mem_append_left _ (List.mem_of_getElem? (i := 2) rfl))) (List.mem_cons_of_mem _ (List.mem_append_left _ (List.mem_of_getElem? (i := 3) rfl))) (List.mem_cons_of_mem _ (List.mem_append_left _ (List.mem_of_getElem? (i := 4) rfl))) (by decide +kernel)) (goodIn_sub (fun _ h => List.mem_cons_of_mem _ (List.mem_append_right _ (List.mem_append_left _ h))) good_v_X12_isPair)) rfl rfl rfl (by decide +kernel) ⟨Nat.le_of_ble_eq_true rfl, Nat.le_of_ble_eq_true rfl⟩) (pv_RO (q := (RX12, TX12, 56)) (ci := 11) (q0 := 0) (wc := [(y, .inr (11, mO a)), ((a 17), .inl (cI, 25, .inl (fun _ => 0))), ((a 16), .inl (cI, 5, .inl (fun _ => 0)))]) hK hP [0, 1, 2] rfl rfl rfl) rfl rfl hl.1 rfl (lv_room (Nat.le_of_ble_eq_true rfl)) dX12_state_7 ⟨Nat.le_of_ble_eq_true rfl, Nat.le_of_ble_eq_true rfl⟩) hS hA hP (fun r1 u2 H locs hw3 hP hS => ?_)
  subst hw3
  refine lv_if_eq (tgt := 29) hx hb dX12_state_10 (by decide) (fun _ => ?_) (fun c4 => absurd c4 (by decide))
  refine lv_bipush (v := (-2)) hx hb dX12_state_29 (by decide) ?_
  have hP9 := hP.sub (ws' := []) [] rfl
  have hD9 := hD.sub (ws' := []) [] (by decide) rfl
  exact W.iret (v := (-2)) hx hb hr (fun t ht hW => ⟨⟨(-2), (), rfl, rfl, by rw [ht]; exact hP9, va_K.moved hW.alike hK, hD9⟩, hS.F ht⟩) hS.2.2 dX12_state_31
def v_X12_cards : List Cond := .code yX12_cards cX12_cards 3 (some .int) :: (([.fieldLink RX12 107 "CardsAtYuleModel" "thrown" "I", .methodLink RX12 343 yX12_isYear, .instanceMethod yX12_isYear, .selects RX12 yX12_isYear yX12_isYear, .initialized RX12] : List Cond) ++ (v_X12_isYear ++ (wsX120 ++ ([] : List Cond))))
theorem good_v_X12_cards : v_X12_cards.all goodWord = true := ga_c (by decide +kernel) (ga_a (by decide +kernel) (ga_a good_v_X12_isYear (ga_a good_wsX120 rfl)))
set_option maxHeartbeats 4000000 in
set_option maxRecDepth 100000 in
theorem k_X12_cards (l : Launch) (g : va_G) (cI cJ cB cZ cL : ClassId) (y : Nat) (a : Nat → Nat) (p0 : Int32) (p1 : Int32) (ip0 : Int) (ip1 : Int) (sz : Nat) (hzp0 : p0.toInt = ip0) (hzp1 : p1.toInt = ip1) : Met l yX12_cards v_X12_cards ({ frames := 2, cells := 0, slots := 0, locals := 47 }) (va_Pc [.ref y, .int p0, .int p1] (pRW g (tyT cI cJ cB cZ cL) [(y, .inr (11, mO a)), ((a 17), .inl (cI, 25, .inl (fun _ => 0))), ((a 16), .inl (cI, 5, .inl (fun _ => 0)))] sz)) (va_Qi (fun (r : Int32) (u : Unit) => r = (-2)) (fun (_ : Unit) (t : State) => bRW g (tyT cI cJ cB cZ cL) (va_A [(y, .inr (11, mO a)), ((a 17), .inl (cI, 25, .inl (fun _ => 0))), ((a 16), .inl (cI, 5, .inl (fun _ => 0)))] sz) [] t) (va_A [(y, .inr (11, mO a)), ((a 17), .inl (cI, 25, .inl (fun _ => 0))), ((a 16), .inl (cI, 5, .inl (fun _ => 0)))] sz)) 0 0 (va_A [(y, .inr (11, mO a)), ((a 17), .inl (cI, 25, .inl (fun _ => 0))), ((a 16), .inl (cI, 5, .inl (fun _ => 0)))] sz) := by
  refine Met.ofW (cc := cX12_cards) (maxL := 3) (ret := (some .int)) (by decide) rfl ?_
  intro p e s m args below meth c s₁ B hml hv
  obtain ⟨rfl, hsz, hP, hK, hD0⟩ := hv
  have hx := B.exec
  have hb := B.bytes
  have hr := B.returns
  have hts := atoms_spec (ws := v_X12_cards) B.pre
  have hown : s.vm.findClass RX12 = some m.cls := findClass_of_methodNamed B.named
  have hlocks := B.notSynchronized
  subst hsz
  have iX12 : ∀ w ∈ wsX120, w ∈ v_X12_cards := (fun _ h => List.mem_cons_of_mem _ (List.mem_append_right _ (List.mem_append_right _ (List.mem_append_left _ h))))
  have hD := hD0.self (sz := s.heap.size)
  generalize hAe : (va_A [(y, .inr (11, mO a)), ((a 17), .inl (cI, 25, .inl (fun _ => 0))), ((a 16), .inl (cI, 5, .inl (fun _ => 0)))] s.heap.size) = A at hD ⊢
  have hA : ∀ q : Nat, s.heap.size ≤ q → A q := fun q h => by rw [← hAe]; exact Or.inr h
  have hS : va_S A s.heap s.heap [] := va_S.rf
  have hl := lv_entry ([.ref y, .int p0, .int p1]) (n := 3) (Nat.le_of_ble_eq_true rfl)
  rw [lg_entry_eq]
  generalize (lg_sl ([.ref y, .int p0, .int p1]) ++ List.replicate (3 - (lg_sl ([.ref y, .int p0, .int p1])).length) Slot.unset).toArray = ls at hl ⊢
  have hl : lv_has ls 3 [(0, .ref y), (1, .int p0), (2, .int p1)] := hl
  have hP : va_P g vwCl [(y, .inr (11, mO a)), ((a 17), .inl (cI, 25, .inl (fun _ => 0))), ((a 16), .inl (cI, 5, .inl (fun _ => 0)))] s.heap := hP
  refine lv_aload_n hx hb dX12_cards_0 rfl (lv_at hl 0 rfl) ?_
  refine lv_iconst (v := 0) hx hb dX12_cards_1 (by decide) ?_
  refine va_put (D := g) (ci := 11) (v := .int 0) (ty := .int) (C := RX12) (T := TX12) (N := 56) hx hb hts iX12 tyX12 tyX12_ok nmX12 hown hK hP hD hS 0 rfl rfl 0 (by decide) (hts (.fieldLink RX12 107 "CardsAtYuleModel" "thrown" "I") (List.mem_cons_of_mem _ (List.mem_append_left _ (List.mem_of_getElem? (i := 0) rfl)))) (fun _ h9 => h9) rfl (by decide +kernel) rfl rfl (Nat.le_of_ble_eq_true rfl) dX12_cards_2 (fun H locs hP hD hS => ?_)
  have hP : va_P g vwCl [(y, .inr (11, mO a)), ((a 17), .inl (cI, 25, .inl (fun _ => 0))), ((a 16), .inl (cI, 5, .inl (fun _ => 0)))] H := hP
  have hD : va_D A [(y, .inr (11, mO a)), ((a 17), .inl (cI, 25, .inl (fun _ => 0))), ((a 16), .inl (cI, 5, .inl (fun _ => 0)))] := hD
  refine lv_aload_n hx hb dX12_cards_5 rfl (lv_at hl 0 rfl) ?_
  refine lv_iload_n hx hb dX12_cards_6 rfl (lv_at hl 1 rfl) ?_
  refine lv_i2l (v := p0.toInt64) hx hb dX12_cards_7 rfl ?_
  refine ro_i (va_runV (As := [.long p0.toInt64]) (rest := []) ⟨hx, hb, hml, hown, hts⟩ (k_X12_isYear l g cI cJ cB cZ cL y a p0.toInt64 ip0 H.size (z_i2l hzp0)) (cwV 1 hts (goodIn_app (g_4 (List.mem_cons_of_mem _ (List.mem_append_left _ (List.mem_of_getElem? (i := 1) rfl))) (List.mem_cons_of_mem _ (List.mem_append_left _ (List.mem_of_getElem? (i := 2) rfl))) (List.mem_cons_of_mem _ (List.mem_append_left _ (List.mem_of_getElem? (i := 3) rfl))) (List.mem_cons_of_mem _ (List.mem_append_left _ (List.mem_of_getElem? (i := 4) rfl))) (by decide +kernel)) (goodIn_sub (fun _ h => List.mem_cons_of_mem _ (List.mem_append_right _ (List.mem_append_left _ h))) good_v_X12_isYear)) rfl rfl rfl (by decide +kernel) ⟨Nat.le_of_ble_eq_true rfl, Nat.le_of_ble_eq_true rfl⟩) (pv_RO (q := (RX12, TX12, 56)) (ci := 11) (q0 := 0) (wc := [(y, .inr (11, mO a)), ((a 17), .inl (cI, 25, .inl (fun _ => 0))), ((a 16), .inl (cI, 5, .inl (fun _ => 0)))]) hK hP [0, 1, 2] rfl rfl rfl) rfl rfl hl.1 rfl (lv_room (Nat.le_of_ble_eq_true rfl)) dX12_cards_8 ⟨Nat.le_of_ble_eq_true rfl, Nat.le_of_ble_eq_true rfl⟩) hS hA hP (fun r1 u2 H locs hw3 hP hS => ?_)
  subst hw3
  refine lv_if_eq (tgt := 26) hx hb dX12_cards_11 (by decide) (fun _ => ?_) (fun c4 => absurd c4 (by decide))
  refine lv_bipush (v := (-2)) hx hb dX12_cards_26 (by decide) ?_
  have hP9 := hP.sub (ws' := []) [] rfl
  have hD9 := hD.sub (ws' := []) [] (by decide) rfl
  exact W.iret (v := (-2)) hx hb hr (fun t ht hW => ⟨⟨(-2), (), rfl, rfl, by rw [ht]; exact hP9, va_K.moved hW.alike hK, hD9⟩, hS.F ht⟩) hS.2.2 dX12_cards_28
def v_X12_list : List Cond := .code yX12_list cX12_list 3 (some .int) :: (([.fieldLink RX12 107 "CardsAtYuleModel" "thrown" "I", .methodLink RX12 276 yX12_isPerson, .instanceMethod yX12_isPerson, .selects RX12 yX12_isPerson yX12_isPerson, .initialized RX12] : List Cond) ++ (v_X12_isPerson ++ (wsX120 ++ ([] : List Cond))))
theorem good_v_X12_list : v_X12_list.all goodWord = true := ga_c (by decide +kernel) (ga_a (by decide +kernel) (ga_a good_v_X12_isPerson (ga_a good_wsX120 rfl)))
set_option maxHeartbeats 4000000 in
set_option maxRecDepth 100000 in
theorem k_X12_list (l : Launch) (g : va_G) (cI cJ cB cZ cL : ClassId) (y : Nat) (a : Nat → Nat) (p0 : Int32) (p1 : Int32) (ip0 : Int) (ip1 : Int) (sz : Nat) (hzp0 : p0.toInt = ip0) (hzp1 : p1.toInt = ip1) : Met l yX12_list v_X12_list ({ frames := 2, cells := 0, slots := 0, locals := 46 }) (va_Pc [.ref y, .int p0, .int p1] (pRW g (tyT cI cJ cB cZ cL) [(y, .inr (11, mO a)), ((a 17), .inl (cI, 25, .inl (fun _ => 0))), ((a 16), .inl (cI, 5, .inl (fun _ => 0)))] sz)) (va_Qi (fun (r : Int32) (u : Unit) => r = (-2)) (fun (_ : Unit) (t : State) => bRW g (tyT cI cJ cB cZ cL) (va_A [(y, .inr (11, mO a)), ((a 17), .inl (cI, 25, .inl (fun _ => 0))), ((a 16), .inl (cI, 5, .inl (fun _ => 0)))] sz) [] t) (va_A [(y, .inr (11, mO a)), ((a 17), .inl (cI, 25, .inl (fun _ => 0))), ((a 16), .inl (cI, 5, .inl (fun _ => 0)))] sz)) 0 0 (va_A [(y, .inr (11, mO a)), ((a 17), .inl (cI, 25, .inl (fun _ => 0))), ((a 16), .inl (cI, 5, .inl (fun _ => 0)))] sz) := by
  refine Met.ofW (cc := cX12_list) (maxL := 3) (ret := (some .int)) (by decide) rfl ?_
  intro p e s m args below meth c s₁ B hml hv
  obtain ⟨rfl, hsz, hP, hK, hD0⟩ := hv
  have hx := B.exec
  have hb := B.bytes
  have hr := B.returns
  have hts := atoms_spec (ws := v_X12_list) B.pre
  have hown : s.vm.findClass RX12 = some m.cls := findClass_of_methodNamed B.named
  have hlocks := B.notSynchronized
  subst hsz
  have iX12 : ∀ w ∈ wsX120, w ∈ v_X12_list := (fun _ h => List.mem_cons_of_mem _ (List.mem_append_right _ (List.mem_append_right _ (List.mem_append_left _ h))))
  have hD := hD0.self (sz := s.heap.size)
  generalize hAe : (va_A [(y, .inr (11, mO a)), ((a 17), .inl (cI, 25, .inl (fun _ => 0))), ((a 16), .inl (cI, 5, .inl (fun _ => 0)))] s.heap.size) = A at hD ⊢
  have hA : ∀ q : Nat, s.heap.size ≤ q → A q := fun q h => by rw [← hAe]; exact Or.inr h
  have hS : va_S A s.heap s.heap [] := va_S.rf
  have hl := lv_entry ([.ref y, .int p0, .int p1]) (n := 3) (Nat.le_of_ble_eq_true rfl)
  rw [lg_entry_eq]
  generalize (lg_sl ([.ref y, .int p0, .int p1]) ++ List.replicate (3 - (lg_sl ([.ref y, .int p0, .int p1])).length) Slot.unset).toArray = ls at hl ⊢
  have hl : lv_has ls 3 [(0, .ref y), (1, .int p0), (2, .int p1)] := hl
  have hP : va_P g vwCl [(y, .inr (11, mO a)), ((a 17), .inl (cI, 25, .inl (fun _ => 0))), ((a 16), .inl (cI, 5, .inl (fun _ => 0)))] s.heap := hP
  refine lv_aload_n hx hb dX12_list_0 rfl (lv_at hl 0 rfl) ?_
  refine lv_iconst (v := 0) hx hb dX12_list_1 (by decide) ?_
  refine va_put (D := g) (ci := 11) (v := .int 0) (ty := .int) (C := RX12) (T := TX12) (N := 56) hx hb hts iX12 tyX12 tyX12_ok nmX12 hown hK hP hD hS 0 rfl rfl 0 (by decide) (hts (.fieldLink RX12 107 "CardsAtYuleModel" "thrown" "I") (List.mem_cons_of_mem _ (List.mem_append_left _ (List.mem_of_getElem? (i := 0) rfl)))) (fun _ h9 => h9) rfl (by decide +kernel) rfl rfl (Nat.le_of_ble_eq_true rfl) dX12_list_2 (fun H locs hP hD hS => ?_)
  have hP : va_P g vwCl [(y, .inr (11, mO a)), ((a 17), .inl (cI, 25, .inl (fun _ => 0))), ((a 16), .inl (cI, 5, .inl (fun _ => 0)))] H := hP
  have hD : va_D A [(y, .inr (11, mO a)), ((a 17), .inl (cI, 25, .inl (fun _ => 0))), ((a 16), .inl (cI, 5, .inl (fun _ => 0)))] := hD
  refine lv_aload_n hx hb dX12_list_5 rfl (lv_at hl 0 rfl) ?_
  refine lv_iload_n hx hb dX12_list_6 rfl (lv_at hl 1 rfl) ?_
  refine ro_i (va_runV (As := [.int p0]) (rest := []) ⟨hx, hb, hml, hown, hts⟩ (k_X12_isPerson l g cI cJ cB cZ cL y a p0 ip0 H.size hzp0) (cwV 1 hts (goodIn_app (g_4 (List.mem_cons_of_mem _ (List.mem_append_left _ (List.mem_of_getElem? (i := 1) rfl))) (List.mem_cons_of_mem _ (List.mem_append_left _ (List.mem_of_getElem? (i := 2) rfl))) (List.mem_cons_of_mem _ (List.mem_append_left _ (List.mem_of_getElem? (i := 3) rfl))) (List.mem_cons_of_mem _ (List.mem_append_left _ (List.mem_of_getElem? (i := 4) rfl))) (by decide +kernel)) (goodIn_sub (fun _ h => List.mem_cons_of_mem _ (List.mem_append_right _ (List.mem_append_left _ h))) good_v_X12_isPerson)) rfl rfl rfl (by decide +kernel) ⟨Nat.le_of_ble_eq_true rfl, Nat.le_of_ble_eq_true rfl⟩) (pv_RO (q := (RX12, TX12, 56)) (ci := 11) (q0 := 0) (wc := [(y, .inr (11, mO a)), ((a 17), .inl (cI, 25, .inl (fun _ => 0))), ((a 16), .inl (cI, 5, .inl (fun _ => 0)))]) hK hP [0, 1, 2] rfl rfl rfl) rfl rfl hl.1 rfl (lv_room (Nat.le_of_ble_eq_true rfl)) dX12_list_7 ⟨Nat.le_of_ble_eq_true rfl, Nat.le_of_ble_eq_true rfl⟩) hS hA hP (fun r1 u2 H locs hw3 hP hS => ?_)
  subst hw3
  refine lv_if_eq (tgt := 22) hx hb dX12_list_10 (by decide) (fun _ => ?_) (fun c4 => absurd c4 (by decide))
  refine lv_bipush (v := (-2)) hx hb dX12_list_22 (by decide) ?_
  have hP9 := hP.sub (ws' := []) [] rfl
  have hD9 := hD.sub (ws' := []) [] (by decide) rfl
  exact W.iret (v := (-2)) hx hb hr (fun t ht hW => ⟨⟨(-2), (), rfl, rfl, by rw [ht]; exact hP9, va_K.moved hW.alike hK, hD9⟩, hS.F ht⟩) hS.2.2 dX12_list_24
def v_X12_mantel : List Cond := .code yX12_mantel cX12_mantel 3 (some .int) :: (([.fieldLink RX12 107 "CardsAtYuleModel" "thrown" "I", .methodLink RX12 276 yX12_isPerson, .instanceMethod yX12_isPerson, .selects RX12 yX12_isPerson yX12_isPerson, .initialized RX12] : List Cond) ++ (v_X12_isPerson ++ (wsX120 ++ ([] : List Cond))))
theorem good_v_X12_mantel : v_X12_mantel.all goodWord = true := ga_c (by decide +kernel) (ga_a (by decide +kernel) (ga_a good_v_X12_isPerson (ga_a good_wsX120 rfl)))
set_option maxHeartbeats 4000000 in
set_option maxRecDepth 100000 in
theorem k_X12_mantel (l : Launch) (g : va_G) (cI cJ cB cZ cL : ClassId) (y : Nat) (a : Nat → Nat) (p0 : Int32) (p1 : Int32) (ip0 : Int) (ip1 : Int) (sz : Nat) (hzp0 : p0.toInt = ip0) (hzp1 : p1.toInt = ip1) : Met l yX12_mantel v_X12_mantel ({ frames := 2, cells := 0, slots := 0, locals := 46 }) (va_Pc [.ref y, .int p0, .int p1] (pRW g (tyT cI cJ cB cZ cL) [(y, .inr (11, mO a)), ((a 17), .inl (cI, 25, .inl (fun _ => 0))), ((a 16), .inl (cI, 5, .inl (fun _ => 0)))] sz)) (va_Qi (fun (r : Int32) (u : Unit) => r = (-2)) (fun (_ : Unit) (t : State) => bRW g (tyT cI cJ cB cZ cL) (va_A [(y, .inr (11, mO a)), ((a 17), .inl (cI, 25, .inl (fun _ => 0))), ((a 16), .inl (cI, 5, .inl (fun _ => 0)))] sz) [] t) (va_A [(y, .inr (11, mO a)), ((a 17), .inl (cI, 25, .inl (fun _ => 0))), ((a 16), .inl (cI, 5, .inl (fun _ => 0)))] sz)) 0 0 (va_A [(y, .inr (11, mO a)), ((a 17), .inl (cI, 25, .inl (fun _ => 0))), ((a 16), .inl (cI, 5, .inl (fun _ => 0)))] sz) := by
  refine Met.ofW (cc := cX12_mantel) (maxL := 3) (ret := (some .int)) (by decide) rfl ?_
  intro p e s m args below meth c s₁ B hml hv
  obtain ⟨rfl, hsz, hP, hK, hD0⟩ := hv
  have hx := B.exec
  have hb := B.bytes
  have hr := B.returns
  have hts := atoms_spec (ws := v_X12_mantel) B.pre
  have hown : s.vm.findClass RX12 = some m.cls := findClass_of_methodNamed B.named
  have hlocks := B.notSynchronized
  subst hsz
  have iX12 : ∀ w ∈ wsX120, w ∈ v_X12_mantel := (fun _ h => List.mem_cons_of_mem _ (List.mem_append_right _ (List.mem_append_right _ (List.mem_append_left _ h))))
  have hD := hD0.self (sz := s.heap.size)
  generalize hAe : (va_A [(y, .inr (11, mO a)), ((a 17), .inl (cI, 25, .inl (fun _ => 0))), ((a 16), .inl (cI, 5, .inl (fun _ => 0)))] s.heap.size) = A at hD ⊢
  have hA : ∀ q : Nat, s.heap.size ≤ q → A q := fun q h => by rw [← hAe]; exact Or.inr h
  have hS : va_S A s.heap s.heap [] := va_S.rf
  have hl := lv_entry ([.ref y, .int p0, .int p1]) (n := 3) (Nat.le_of_ble_eq_true rfl)
  rw [lg_entry_eq]
  generalize (lg_sl ([.ref y, .int p0, .int p1]) ++ List.replicate (3 - (lg_sl ([.ref y, .int p0, .int p1])).length) Slot.unset).toArray = ls at hl ⊢
  have hl : lv_has ls 3 [(0, .ref y), (1, .int p0), (2, .int p1)] := hl
  have hP : va_P g vwCl [(y, .inr (11, mO a)), ((a 17), .inl (cI, 25, .inl (fun _ => 0))), ((a 16), .inl (cI, 5, .inl (fun _ => 0)))] s.heap := hP
  refine lv_aload_n hx hb dX12_mantel_0 rfl (lv_at hl 0 rfl) ?_
  refine lv_iconst (v := 0) hx hb dX12_mantel_1 (by decide) ?_
  refine va_put (D := g) (ci := 11) (v := .int 0) (ty := .int) (C := RX12) (T := TX12) (N := 56) hx hb hts iX12 tyX12 tyX12_ok nmX12 hown hK hP hD hS 0 rfl rfl 0 (by decide) (hts (.fieldLink RX12 107 "CardsAtYuleModel" "thrown" "I") (List.mem_cons_of_mem _ (List.mem_append_left _ (List.mem_of_getElem? (i := 0) rfl)))) (fun _ h9 => h9) rfl (by decide +kernel) rfl rfl (Nat.le_of_ble_eq_true rfl) dX12_mantel_2 (fun H locs hP hD hS => ?_)
  have hP : va_P g vwCl [(y, .inr (11, mO a)), ((a 17), .inl (cI, 25, .inl (fun _ => 0))), ((a 16), .inl (cI, 5, .inl (fun _ => 0)))] H := hP
  have hD : va_D A [(y, .inr (11, mO a)), ((a 17), .inl (cI, 25, .inl (fun _ => 0))), ((a 16), .inl (cI, 5, .inl (fun _ => 0)))] := hD
  refine lv_aload_n hx hb dX12_mantel_5 rfl (lv_at hl 0 rfl) ?_
  refine lv_iload_n hx hb dX12_mantel_6 rfl (lv_at hl 1 rfl) ?_
  refine ro_i (va_runV (As := [.int p0]) (rest := []) ⟨hx, hb, hml, hown, hts⟩ (k_X12_isPerson l g cI cJ cB cZ cL y a p0 ip0 H.size hzp0) (cwV 1 hts (goodIn_app (g_4 (List.mem_cons_of_mem _ (List.mem_append_left _ (List.mem_of_getElem? (i := 1) rfl))) (List.mem_cons_of_mem _ (List.mem_append_left _ (List.mem_of_getElem? (i := 2) rfl))) (List.mem_cons_of_mem _ (List.mem_append_left _ (List.mem_of_getElem? (i := 3) rfl))) (List.mem_cons_of_mem _ (List.mem_append_left _ (List.mem_of_getElem? (i := 4) rfl))) (by decide +kernel)) (goodIn_sub (fun _ h => List.mem_cons_of_mem _ (List.mem_append_right _ (List.mem_append_left _ h))) good_v_X12_isPerson)) rfl rfl rfl (by decide +kernel) ⟨Nat.le_of_ble_eq_true rfl, Nat.le_of_ble_eq_true rfl⟩) (pv_RO (q := (RX12, TX12, 56)) (ci := 11) (q0 := 0) (wc := [(y, .inr (11, mO a)), ((a 17), .inl (cI, 25, .inl (fun _ => 0))), ((a 16), .inl (cI, 5, .inl (fun _ => 0)))]) hK hP [0, 1, 2] rfl rfl rfl) rfl rfl hl.1 rfl (lv_room (Nat.le_of_ble_eq_true rfl)) dX12_mantel_7 ⟨Nat.le_of_ble_eq_true rfl, Nat.le_of_ble_eq_true rfl⟩) hS hA hP (fun r1 u2 H locs hw3 hP hS => ?_)
  subst hw3
  refine lv_if_eq (tgt := 22) hx hb dX12_mantel_10 (by decide) (fun _ => ?_) (fun c4 => absurd c4 (by decide))
  refine lv_bipush (v := (-2)) hx hb dX12_mantel_22 (by decide) ?_
  have hP9 := hP.sub (ws' := []) [] rfl
  have hD9 := hD.sub (ws' := []) [] (by decide) rfl
  exact W.iret (v := (-2)) hx hb hr (fun t ht hW => ⟨⟨(-2), (), rfl, rfl, by rw [ht]; exact hP9, va_K.moved hW.alike hK, hD9⟩, hS.F ht⟩) hS.2.2 dX12_mantel_24
def v_X12_whose : List Cond := .code yX12_whose cX12_whose 3 (some .int) :: (([.fieldLink RX12 107 "CardsAtYuleModel" "thrown" "I", .methodLink RX12 276 yX12_isPerson, .instanceMethod yX12_isPerson, .selects RX12 yX12_isPerson yX12_isPerson, .initialized RX12] : List Cond) ++ (v_X12_isPerson ++ (wsX120 ++ ([] : List Cond))))
theorem good_v_X12_whose : v_X12_whose.all goodWord = true := ga_c (by decide +kernel) (ga_a (by decide +kernel) (ga_a good_v_X12_isPerson (ga_a good_wsX120 rfl)))
set_option maxHeartbeats 4000000 in
set_option maxRecDepth 100000 in
theorem k_X12_whose (l : Launch) (g : va_G) (cI cJ cB cZ cL : ClassId) (y : Nat) (a : Nat → Nat) (p0 : Int32) (p1 : Int32) (ip0 : Int) (ip1 : Int) (sz : Nat) (hzp0 : p0.toInt = ip0) (hzp1 : p1.toInt = ip1) : Met l yX12_whose v_X12_whose ({ frames := 2, cells := 0, slots := 0, locals := 46 }) (va_Pc [.ref y, .int p0, .int p1] (pRW g (tyT cI cJ cB cZ cL) [(y, .inr (11, mO a)), ((a 17), .inl (cI, 25, .inl (fun _ => 0))), ((a 16), .inl (cI, 5, .inl (fun _ => 0)))] sz)) (va_Qi (fun (r : Int32) (u : Unit) => r = (-2)) (fun (_ : Unit) (t : State) => bRW g (tyT cI cJ cB cZ cL) (va_A [(y, .inr (11, mO a)), ((a 17), .inl (cI, 25, .inl (fun _ => 0))), ((a 16), .inl (cI, 5, .inl (fun _ => 0)))] sz) [] t) (va_A [(y, .inr (11, mO a)), ((a 17), .inl (cI, 25, .inl (fun _ => 0))), ((a 16), .inl (cI, 5, .inl (fun _ => 0)))] sz)) 0 0 (va_A [(y, .inr (11, mO a)), ((a 17), .inl (cI, 25, .inl (fun _ => 0))), ((a 16), .inl (cI, 5, .inl (fun _ => 0)))] sz) := by
  refine Met.ofW (cc := cX12_whose) (maxL := 3) (ret := (some .int)) (by decide) rfl ?_
  intro p e s m args below meth c s₁ B hml hv
  obtain ⟨rfl, hsz, hP, hK, hD0⟩ := hv
  have hx := B.exec
  have hb := B.bytes
  have hr := B.returns
  have hts := atoms_spec (ws := v_X12_whose) B.pre
  have hown : s.vm.findClass RX12 = some m.cls := findClass_of_methodNamed B.named
  have hlocks := B.notSynchronized
  subst hsz
  have iX12 : ∀ w ∈ wsX120, w ∈ v_X12_whose := (fun _ h => List.mem_cons_of_mem _ (List.mem_append_right _ (List.mem_append_right _ (List.mem_append_left _ h))))
  have hD := hD0.self (sz := s.heap.size)
  generalize hAe : (va_A [(y, .inr (11, mO a)), ((a 17), .inl (cI, 25, .inl (fun _ => 0))), ((a 16), .inl (cI, 5, .inl (fun _ => 0)))] s.heap.size) = A at hD ⊢
  have hA : ∀ q : Nat, s.heap.size ≤ q → A q := fun q h => by rw [← hAe]; exact Or.inr h
  have hS : va_S A s.heap s.heap [] := va_S.rf
  have hl := lv_entry ([.ref y, .int p0, .int p1]) (n := 3) (Nat.le_of_ble_eq_true rfl)
  rw [lg_entry_eq]
  generalize (lg_sl ([.ref y, .int p0, .int p1]) ++ List.replicate (3 - (lg_sl ([.ref y, .int p0, .int p1])).length) Slot.unset).toArray = ls at hl ⊢
  have hl : lv_has ls 3 [(0, .ref y), (1, .int p0), (2, .int p1)] := hl
  have hP : va_P g vwCl [(y, .inr (11, mO a)), ((a 17), .inl (cI, 25, .inl (fun _ => 0))), ((a 16), .inl (cI, 5, .inl (fun _ => 0)))] s.heap := hP
  refine lv_aload_n hx hb dX12_whose_0 rfl (lv_at hl 0 rfl) ?_
  refine lv_iconst (v := 0) hx hb dX12_whose_1 (by decide) ?_
  refine va_put (D := g) (ci := 11) (v := .int 0) (ty := .int) (C := RX12) (T := TX12) (N := 56) hx hb hts iX12 tyX12 tyX12_ok nmX12 hown hK hP hD hS 0 rfl rfl 0 (by decide) (hts (.fieldLink RX12 107 "CardsAtYuleModel" "thrown" "I") (List.mem_cons_of_mem _ (List.mem_append_left _ (List.mem_of_getElem? (i := 0) rfl)))) (fun _ h9 => h9) rfl (by decide +kernel) rfl rfl (Nat.le_of_ble_eq_true rfl) dX12_whose_2 (fun H locs hP hD hS => ?_)
  have hP : va_P g vwCl [(y, .inr (11, mO a)), ((a 17), .inl (cI, 25, .inl (fun _ => 0))), ((a 16), .inl (cI, 5, .inl (fun _ => 0)))] H := hP
  have hD : va_D A [(y, .inr (11, mO a)), ((a 17), .inl (cI, 25, .inl (fun _ => 0))), ((a 16), .inl (cI, 5, .inl (fun _ => 0)))] := hD
  refine lv_aload_n hx hb dX12_whose_5 rfl (lv_at hl 0 rfl) ?_
  refine lv_iload_n hx hb dX12_whose_6 rfl (lv_at hl 1 rfl) ?_
  refine ro_i (va_runV (As := [.int p0]) (rest := []) ⟨hx, hb, hml, hown, hts⟩ (k_X12_isPerson l g cI cJ cB cZ cL y a p0 ip0 H.size hzp0) (cwV 1 hts (goodIn_app (g_4 (List.mem_cons_of_mem _ (List.mem_append_left _ (List.mem_of_getElem? (i := 1) rfl))) (List.mem_cons_of_mem _ (List.mem_append_left _ (List.mem_of_getElem? (i := 2) rfl))) (List.mem_cons_of_mem _ (List.mem_append_left _ (List.mem_of_getElem? (i := 3) rfl))) (List.mem_cons_of_mem _ (List.mem_append_left _ (List.mem_of_getElem? (i := 4) rfl))) (by decide +kernel)) (goodIn_sub (fun _ h => List.mem_cons_of_mem _ (List.mem_append_right _ (List.mem_append_left _ h))) good_v_X12_isPerson)) rfl rfl rfl (by decide +kernel) ⟨Nat.le_of_ble_eq_true rfl, Nat.le_of_ble_eq_true rfl⟩) (pv_RO (q := (RX12, TX12, 56)) (ci := 11) (q0 := 0) (wc := [(y, .inr (11, mO a)), ((a 17), .inl (cI, 25, .inl (fun _ => 0))), ((a 16), .inl (cI, 5, .inl (fun _ => 0)))]) hK hP [0, 1, 2] rfl rfl rfl) rfl rfl hl.1 rfl (lv_room (Nat.le_of_ble_eq_true rfl)) dX12_whose_7 ⟨Nat.le_of_ble_eq_true rfl, Nat.le_of_ble_eq_true rfl⟩) hS hA hP (fun r1 u2 H locs hw3 hP hS => ?_)
  subst hw3
  refine lv_if_eq (tgt := 22) hx hb dX12_whose_10 (by decide) (fun _ => ?_) (fun c4 => absurd c4 (by decide))
  refine lv_bipush (v := (-2)) hx hb dX12_whose_22 (by decide) ?_
  have hP9 := hP.sub (ws' := []) [] rfl
  have hD9 := hD.sub (ws' := []) [] (by decide) rfl
  exact W.iret (v := (-2)) hx hb hr (fun t ht hW => ⟨⟨(-2), (), rfl, rfl, by rw [ht]; exact hP9, va_K.moved hW.alike hK, hD9⟩, hS.F ht⟩) hS.2.2 dX12_whose_24
def v_X12_hurts : List Cond := .code yX12_hurts cX12_hurts 3 (some .int) :: (([.fieldLink RX12 107 "CardsAtYuleModel" "thrown" "I", .methodLink RX12 276 yX12_isPerson, .instanceMethod yX12_isPerson, .selects RX12 yX12_isPerson yX12_isPerson, .initialized RX12] : List Cond) ++ (v_X12_isPerson ++ (wsX120 ++ ([] : List Cond))))
theorem good_v_X12_hurts : v_X12_hurts.all goodWord = true := ga_c (by decide +kernel) (ga_a (by decide +kernel) (ga_a good_v_X12_isPerson (ga_a good_wsX120 rfl)))
set_option maxHeartbeats 4000000 in
set_option maxRecDepth 100000 in
theorem k_X12_hurts (l : Launch) (g : va_G) (cI cJ cB cZ cL : ClassId) (y : Nat) (a : Nat → Nat) (p0 : Int32) (p1 : Int32) (ip0 : Int) (ip1 : Int) (sz : Nat) (hzp0 : p0.toInt = ip0) (hzp1 : p1.toInt = ip1) : Met l yX12_hurts v_X12_hurts ({ frames := 2, cells := 0, slots := 0, locals := 46 }) (va_Pc [.ref y, .int p0, .int p1] (pRW g (tyT cI cJ cB cZ cL) [(y, .inr (11, mO a)), ((a 17), .inl (cI, 25, .inl (fun _ => 0))), ((a 16), .inl (cI, 5, .inl (fun _ => 0)))] sz)) (va_Qi (fun (r : Int32) (u : Unit) => r = (-2)) (fun (_ : Unit) (t : State) => bRW g (tyT cI cJ cB cZ cL) (va_A [(y, .inr (11, mO a)), ((a 17), .inl (cI, 25, .inl (fun _ => 0))), ((a 16), .inl (cI, 5, .inl (fun _ => 0)))] sz) [] t) (va_A [(y, .inr (11, mO a)), ((a 17), .inl (cI, 25, .inl (fun _ => 0))), ((a 16), .inl (cI, 5, .inl (fun _ => 0)))] sz)) 0 0 (va_A [(y, .inr (11, mO a)), ((a 17), .inl (cI, 25, .inl (fun _ => 0))), ((a 16), .inl (cI, 5, .inl (fun _ => 0)))] sz) := by
  refine Met.ofW (cc := cX12_hurts) (maxL := 3) (ret := (some .int)) (by decide) rfl ?_
  intro p e s m args below meth c s₁ B hml hv
  obtain ⟨rfl, hsz, hP, hK, hD0⟩ := hv
  have hx := B.exec
  have hb := B.bytes
  have hr := B.returns
  have hts := atoms_spec (ws := v_X12_hurts) B.pre
  have hown : s.vm.findClass RX12 = some m.cls := findClass_of_methodNamed B.named
  have hlocks := B.notSynchronized
  subst hsz
  have iX12 : ∀ w ∈ wsX120, w ∈ v_X12_hurts := (fun _ h => List.mem_cons_of_mem _ (List.mem_append_right _ (List.mem_append_right _ (List.mem_append_left _ h))))
  have hD := hD0.self (sz := s.heap.size)
  generalize hAe : (va_A [(y, .inr (11, mO a)), ((a 17), .inl (cI, 25, .inl (fun _ => 0))), ((a 16), .inl (cI, 5, .inl (fun _ => 0)))] s.heap.size) = A at hD ⊢
  have hA : ∀ q : Nat, s.heap.size ≤ q → A q := fun q h => by rw [← hAe]; exact Or.inr h
  have hS : va_S A s.heap s.heap [] := va_S.rf
  have hl := lv_entry ([.ref y, .int p0, .int p1]) (n := 3) (Nat.le_of_ble_eq_true rfl)
  rw [lg_entry_eq]
  generalize (lg_sl ([.ref y, .int p0, .int p1]) ++ List.replicate (3 - (lg_sl ([.ref y, .int p0, .int p1])).length) Slot.unset).toArray = ls at hl ⊢
  have hl : lv_has ls 3 [(0, .ref y), (1, .int p0), (2, .int p1)] := hl
  have hP : va_P g vwCl [(y, .inr (11, mO a)), ((a 17), .inl (cI, 25, .inl (fun _ => 0))), ((a 16), .inl (cI, 5, .inl (fun _ => 0)))] s.heap := hP
  refine lv_aload_n hx hb dX12_hurts_0 rfl (lv_at hl 0 rfl) ?_
  refine lv_iconst (v := 0) hx hb dX12_hurts_1 (by decide) ?_
  refine va_put (D := g) (ci := 11) (v := .int 0) (ty := .int) (C := RX12) (T := TX12) (N := 56) hx hb hts iX12 tyX12 tyX12_ok nmX12 hown hK hP hD hS 0 rfl rfl 0 (by decide) (hts (.fieldLink RX12 107 "CardsAtYuleModel" "thrown" "I") (List.mem_cons_of_mem _ (List.mem_append_left _ (List.mem_of_getElem? (i := 0) rfl)))) (fun _ h9 => h9) rfl (by decide +kernel) rfl rfl (Nat.le_of_ble_eq_true rfl) dX12_hurts_2 (fun H locs hP hD hS => ?_)
  have hP : va_P g vwCl [(y, .inr (11, mO a)), ((a 17), .inl (cI, 25, .inl (fun _ => 0))), ((a 16), .inl (cI, 5, .inl (fun _ => 0)))] H := hP
  have hD : va_D A [(y, .inr (11, mO a)), ((a 17), .inl (cI, 25, .inl (fun _ => 0))), ((a 16), .inl (cI, 5, .inl (fun _ => 0)))] := hD
  refine lv_aload_n hx hb dX12_hurts_5 rfl (lv_at hl 0 rfl) ?_
  refine lv_iload_n hx hb dX12_hurts_6 rfl (lv_at hl 1 rfl) ?_
  refine ro_i (va_runV (As := [.int p0]) (rest := []) ⟨hx, hb, hml, hown, hts⟩ (k_X12_isPerson l g cI cJ cB cZ cL y a p0 ip0 H.size hzp0) (cwV 1 hts (goodIn_app (g_4 (List.mem_cons_of_mem _ (List.mem_append_left _ (List.mem_of_getElem? (i := 1) rfl))) (List.mem_cons_of_mem _ (List.mem_append_left _ (List.mem_of_getElem? (i := 2) rfl))) (List.mem_cons_of_mem _ (List.mem_append_left _ (List.mem_of_getElem? (i := 3) rfl))) (List.mem_cons_of_mem _ (List.mem_append_left _ (List.mem_of_getElem? (i := 4) rfl))) (by decide +kernel)) (goodIn_sub (fun _ h => List.mem_cons_of_mem _ (List.mem_append_right _ (List.mem_append_left _ h))) good_v_X12_isPerson)) rfl rfl rfl (by decide +kernel) ⟨Nat.le_of_ble_eq_true rfl, Nat.le_of_ble_eq_true rfl⟩) (pv_RO (q := (RX12, TX12, 56)) (ci := 11) (q0 := 0) (wc := [(y, .inr (11, mO a)), ((a 17), .inl (cI, 25, .inl (fun _ => 0))), ((a 16), .inl (cI, 5, .inl (fun _ => 0)))]) hK hP [0, 1, 2] rfl rfl rfl) rfl rfl hl.1 rfl (lv_room (Nat.le_of_ble_eq_true rfl)) dX12_hurts_7 ⟨Nat.le_of_ble_eq_true rfl, Nat.le_of_ble_eq_true rfl⟩) hS hA hP (fun r1 u2 H locs hw3 hP hS => ?_)
  subst hw3
  refine lv_if_eq (tgt := 23) hx hb dX12_hurts_10 (by decide) (fun _ => ?_) (fun c4 => absurd c4 (by decide))
  refine lv_bipush (v := (-2)) hx hb dX12_hurts_23 (by decide) ?_
  have hP9 := hP.sub (ws' := []) [] rfl
  have hD9 := hD.sub (ws' := []) [] (by decide) rfl
  exact W.iret (v := (-2)) hx hb hr (fun t ht hW => ⟨⟨(-2), (), rfl, rfl, by rw [ht]; exact hP9, va_K.moved hW.alike hK, hD9⟩, hS.F ht⟩) hS.2.2 dX12_hurts_25
def v_X12_cost : List Cond := .code yX12_cost cX12_cost 2 (some .int) :: (([.fieldLink RX12 107 "CardsAtYuleModel" "thrown" "I", .methodLink RX12 276 yX12_isPerson, .instanceMethod yX12_isPerson, .selects RX12 yX12_isPerson yX12_isPerson, .initialized RX12] : List Cond) ++ (v_X12_isPerson ++ (wsX120 ++ ([] : List Cond))))
theorem good_v_X12_cost : v_X12_cost.all goodWord = true := ga_c (by decide +kernel) (ga_a (by decide +kernel) (ga_a good_v_X12_isPerson (ga_a good_wsX120 rfl)))
set_option maxHeartbeats 4000000 in
set_option maxRecDepth 100000 in
theorem k_X12_cost (l : Launch) (g : va_G) (cI cJ cB cZ cL : ClassId) (y : Nat) (a : Nat → Nat) (p0 : Int32) (ip0 : Int) (sz : Nat) (hzp0 : p0.toInt = ip0) : Met l yX12_cost v_X12_cost ({ frames := 2, cells := 0, slots := 0, locals := 46 }) (va_Pc [.ref y, .int p0] (pRW g (tyT cI cJ cB cZ cL) [(y, .inr (11, mO a)), ((a 17), .inl (cI, 25, .inl (fun _ => 0))), ((a 16), .inl (cI, 5, .inl (fun _ => 0)))] sz)) (va_Qi (fun (r : Int32) (u : Unit) => r = (-2)) (fun (_ : Unit) (t : State) => bRW g (tyT cI cJ cB cZ cL) (va_A [(y, .inr (11, mO a)), ((a 17), .inl (cI, 25, .inl (fun _ => 0))), ((a 16), .inl (cI, 5, .inl (fun _ => 0)))] sz) [] t) (va_A [(y, .inr (11, mO a)), ((a 17), .inl (cI, 25, .inl (fun _ => 0))), ((a 16), .inl (cI, 5, .inl (fun _ => 0)))] sz)) 0 0 (va_A [(y, .inr (11, mO a)), ((a 17), .inl (cI, 25, .inl (fun _ => 0))), ((a 16), .inl (cI, 5, .inl (fun _ => 0)))] sz) := by
  refine Met.ofW (cc := cX12_cost) (maxL := 2) (ret := (some .int)) (by decide) rfl ?_
  intro p e s m args below meth c s₁ B hml hv
  obtain ⟨rfl, hsz, hP, hK, hD0⟩ := hv
  have hx := B.exec
  have hb := B.bytes
  have hr := B.returns
  have hts := atoms_spec (ws := v_X12_cost) B.pre
  have hown : s.vm.findClass RX12 = some m.cls := findClass_of_methodNamed B.named
  have hlocks := B.notSynchronized
  subst hsz
  have iX12 : ∀ w ∈ wsX120, w ∈ v_X12_cost := (fun _ h => List.mem_cons_of_mem _ (List.mem_append_right _ (List.mem_append_right _ (List.mem_append_left _ h))))
  have hD := hD0.self (sz := s.heap.size)
  generalize hAe : (va_A [(y, .inr (11, mO a)), ((a 17), .inl (cI, 25, .inl (fun _ => 0))), ((a 16), .inl (cI, 5, .inl (fun _ => 0)))] s.heap.size) = A at hD ⊢
  have hA : ∀ q : Nat, s.heap.size ≤ q → A q := fun q h => by rw [← hAe]; exact Or.inr h
  have hS : va_S A s.heap s.heap [] := va_S.rf
  have hl := lv_entry ([.ref y, .int p0]) (n := 2) (Nat.le_of_ble_eq_true rfl)
  rw [lg_entry_eq]
  generalize (lg_sl ([.ref y, .int p0]) ++ List.replicate (2 - (lg_sl ([.ref y, .int p0])).length) Slot.unset).toArray = ls at hl ⊢
  have hl : lv_has ls 2 [(0, .ref y), (1, .int p0)] := hl
  have hP : va_P g vwCl [(y, .inr (11, mO a)), ((a 17), .inl (cI, 25, .inl (fun _ => 0))), ((a 16), .inl (cI, 5, .inl (fun _ => 0)))] s.heap := hP
  refine lv_aload_n hx hb dX12_cost_0 rfl (lv_at hl 0 rfl) ?_
  refine lv_iconst (v := 0) hx hb dX12_cost_1 (by decide) ?_
  refine va_put (D := g) (ci := 11) (v := .int 0) (ty := .int) (C := RX12) (T := TX12) (N := 56) hx hb hts iX12 tyX12 tyX12_ok nmX12 hown hK hP hD hS 0 rfl rfl 0 (by decide) (hts (.fieldLink RX12 107 "CardsAtYuleModel" "thrown" "I") (List.mem_cons_of_mem _ (List.mem_append_left _ (List.mem_of_getElem? (i := 0) rfl)))) (fun _ h9 => h9) rfl (by decide +kernel) rfl rfl (Nat.le_of_ble_eq_true rfl) dX12_cost_2 (fun H locs hP hD hS => ?_)
  have hP : va_P g vwCl [(y, .inr (11, mO a)), ((a 17), .inl (cI, 25, .inl (fun _ => 0))), ((a 16), .inl (cI, 5, .inl (fun _ => 0)))] H := hP
  have hD : va_D A [(y, .inr (11, mO a)), ((a 17), .inl (cI, 25, .inl (fun _ => 0))), ((a 16), .inl (cI, 5, .inl (fun _ => 0)))] := hD
  refine lv_aload_n hx hb dX12_cost_5 rfl (lv_at hl 0 rfl) ?_
  refine lv_iload_n hx hb dX12_cost_6 rfl (lv_at hl 1 rfl) ?_
  refine ro_i (va_runV (As := [.int p0]) (rest := []) ⟨hx, hb, hml, hown, hts⟩ (k_X12_isPerson l g cI cJ cB cZ cL y a p0 ip0 H.size hzp0) (cwV 1 hts (goodIn_app (g_4 (List.mem_cons_of_mem _ (List.mem_append_left _ (List.mem_of_getElem? (i := 1) rfl))) (List.mem_cons_of_mem _ (List.mem_append_left _ (List.mem_of_getElem? (i := 2) rfl))) (List.mem_cons_of_mem _ (List.mem_append_left _ (List.mem_of_getElem? (i := 3) rfl))) (List.mem_cons_of_mem _ (List.mem_append_left _ (List.mem_of_getElem? (i := 4) rfl))) (by decide +kernel)) (goodIn_sub (fun _ h => List.mem_cons_of_mem _ (List.mem_append_right _ (List.mem_append_left _ h))) good_v_X12_isPerson)) rfl rfl rfl (by decide +kernel) ⟨Nat.le_of_ble_eq_true rfl, Nat.le_of_ble_eq_true rfl⟩) (pv_RO (q := (RX12, TX12, 56)) (ci := 11) (q0 := 0) (wc := [(y, .inr (11, mO a)), ((a 17), .inl (cI, 25, .inl (fun _ => 0))), ((a 16), .inl (cI, 5, .inl (fun _ => 0)))]) hK hP [0, 1, 2] rfl rfl rfl) rfl rfl hl.1 rfl (lv_room (Nat.le_of_ble_eq_true rfl)) dX12_cost_7 ⟨Nat.le_of_ble_eq_true rfl, Nat.le_of_ble_eq_true rfl⟩) hS hA hP (fun r1 u2 H locs hw3 hP hS => ?_)
  subst hw3
  refine lv_if_ne (tgt := 16) hx hb dX12_cost_10 (by decide) (fun c4 => absurd c4 (by decide)) (fun _ => ?_)
  refine lv_bipush (v := (-2)) hx hb dX12_cost_13 (by decide) ?_
  have hP9 := hP.sub (ws' := []) [] rfl
  have hD9 := hD.sub (ws' := []) [] (by decide) rfl
  exact W.iret (v := (-2)) hx hb hr (fun t ht hW => ⟨⟨(-2), (), rfl, rfl, by rw [ht]; exact hP9, va_K.moved hW.alike hK, hD9⟩, hS.F ht⟩) hS.2.2 dX12_cost_15
def v_X12_dearest : List Cond := .code yX12_dearest cX12_dearest 3 (some .int) :: (([.fieldLink RX12 107 "CardsAtYuleModel" "thrown" "I", .methodLink RX12 373 yX12_isLand, .instanceMethod yX12_isLand, .selects RX12 yX12_isLand yX12_isLand, .initialized RX12] : List Cond) ++ (v_X12_isLand ++ (wsX120 ++ ([] : List Cond))))
theorem good_v_X12_dearest : v_X12_dearest.all goodWord = true := ga_c (by decide +kernel) (ga_a (by decide +kernel) (ga_a good_v_X12_isLand (ga_a good_wsX120 rfl)))
set_option maxHeartbeats 4000000 in
set_option maxRecDepth 100000 in
theorem k_X12_dearest (l : Launch) (g : va_G) (cI cJ cB cZ cL : ClassId) (y : Nat) (a : Nat → Nat) (sz : Nat)  : Met l yX12_dearest v_X12_dearest ({ frames := 1, cells := 0, slots := 0, locals := 20 }) (va_Pc [.ref y] (pRW g (tyT cI cJ cB cZ cL) [(y, .inr (11, mO a)), ((a 17), .inl (cI, 25, .inl (fun _ => 0))), ((a 16), .inl (cI, 5, .inl (fun _ => 0)))] sz)) (va_Qi (fun (r : Int32) (u : Unit) => r = (-2)) (fun (_ : Unit) (t : State) => bRW g (tyT cI cJ cB cZ cL) (va_A [(y, .inr (11, mO a)), ((a 17), .inl (cI, 25, .inl (fun _ => 0))), ((a 16), .inl (cI, 5, .inl (fun _ => 0)))] sz) [] t) (va_A [(y, .inr (11, mO a)), ((a 17), .inl (cI, 25, .inl (fun _ => 0))), ((a 16), .inl (cI, 5, .inl (fun _ => 0)))] sz)) 0 0 (va_A [(y, .inr (11, mO a)), ((a 17), .inl (cI, 25, .inl (fun _ => 0))), ((a 16), .inl (cI, 5, .inl (fun _ => 0)))] sz) := by
  refine Met.ofW (cc := cX12_dearest) (maxL := 3) (ret := (some .int)) (by decide) rfl ?_
  intro p e s m args below meth c s₁ B hml hv
  obtain ⟨rfl, hsz, hP, hK, hD0⟩ := hv
  have hx := B.exec
  have hb := B.bytes
  have hr := B.returns
  have hts := atoms_spec (ws := v_X12_dearest) B.pre
  have hown : s.vm.findClass RX12 = some m.cls := findClass_of_methodNamed B.named
  have hlocks := B.notSynchronized
  subst hsz
  have iX12 : ∀ w ∈ wsX120, w ∈ v_X12_dearest := (fun _ h => List.mem_cons_of_mem _ (List.mem_append_right _ (List.mem_append_right _ (List.mem_append_left _ h))))
  have hD := hD0.self (sz := s.heap.size)
  generalize hAe : (va_A [(y, .inr (11, mO a)), ((a 17), .inl (cI, 25, .inl (fun _ => 0))), ((a 16), .inl (cI, 5, .inl (fun _ => 0)))] s.heap.size) = A at hD ⊢
  have hA : ∀ q : Nat, s.heap.size ≤ q → A q := fun q h => by rw [← hAe]; exact Or.inr h
  have hS : va_S A s.heap s.heap [] := va_S.rf
  have hl := lv_entry ([.ref y]) (n := 3) (Nat.le_of_ble_eq_true rfl)
  rw [lg_entry_eq]
  generalize (lg_sl ([.ref y]) ++ List.replicate (3 - (lg_sl ([.ref y])).length) Slot.unset).toArray = ls at hl ⊢
  have hl : lv_has ls 3 [(0, .ref y)] := hl
  have hP : va_P g vwCl [(y, .inr (11, mO a)), ((a 17), .inl (cI, 25, .inl (fun _ => 0))), ((a 16), .inl (cI, 5, .inl (fun _ => 0)))] s.heap := hP
  refine lv_aload_n hx hb dX12_dearest_0 rfl (lv_at hl 0 rfl) ?_
  refine lv_iconst (v := 0) hx hb dX12_dearest_1 (by decide) ?_
  refine va_put (D := g) (ci := 11) (v := .int 0) (ty := .int) (C := RX12) (T := TX12) (N := 56) hx hb hts iX12 tyX12 tyX12_ok nmX12 hown hK hP hD hS 0 rfl rfl 0 (by decide) (hts (.fieldLink RX12 107 "CardsAtYuleModel" "thrown" "I") (List.mem_cons_of_mem _ (List.mem_append_left _ (List.mem_of_getElem? (i := 0) rfl)))) (fun _ h9 => h9) rfl (by decide +kernel) rfl rfl (Nat.le_of_ble_eq_true rfl) dX12_dearest_2 (fun H locs hP hD hS => ?_)
  have hP : va_P g vwCl [(y, .inr (11, mO a)), ((a 17), .inl (cI, 25, .inl (fun _ => 0))), ((a 16), .inl (cI, 5, .inl (fun _ => 0)))] H := hP
  have hD : va_D A [(y, .inr (11, mO a)), ((a 17), .inl (cI, 25, .inl (fun _ => 0))), ((a 16), .inl (cI, 5, .inl (fun _ => 0)))] := hD
  refine lv_aload_n hx hb dX12_dearest_5 rfl (lv_at hl 0 rfl) ?_
  refine ro_i (va_runV (As := []) (rest := []) ⟨hx, hb, hml, hown, hts⟩ (k_X12_isLand l g cI cJ cB cZ cL y a H.size ) (cwV 0 hts (goodIn_app (g_4 (List.mem_cons_of_mem _ (List.mem_append_left _ (List.mem_of_getElem? (i := 1) rfl))) (List.mem_cons_of_mem _ (List.mem_append_left _ (List.mem_of_getElem? (i := 2) rfl))) (List.mem_cons_of_mem _ (List.mem_append_left _ (List.mem_of_getElem? (i := 3) rfl))) (List.mem_cons_of_mem _ (List.mem_append_left _ (List.mem_of_getElem? (i := 4) rfl))) (by decide +kernel)) (goodIn_sub (fun _ h => List.mem_cons_of_mem _ (List.mem_append_right _ (List.mem_append_left _ h))) good_v_X12_isLand)) rfl rfl rfl (by decide +kernel) ⟨Nat.le_of_ble_eq_true rfl, Nat.le_of_ble_eq_true rfl⟩) (pv_RO (q := (RX12, TX12, 56)) (ci := 11) (q0 := 0) (wc := [(y, .inr (11, mO a)), ((a 17), .inl (cI, 25, .inl (fun _ => 0))), ((a 16), .inl (cI, 5, .inl (fun _ => 0)))]) hK hP [0, 1, 2] rfl rfl rfl) rfl rfl hl.1 rfl (lv_room (Nat.le_of_ble_eq_true rfl)) dX12_dearest_6 ⟨Nat.le_of_ble_eq_true rfl, Nat.le_of_ble_eq_true rfl⟩) hS hA hP (fun r1 u2 H locs hw3 hP hS => ?_)
  subst hw3
  refine lv_if_ne (tgt := 15) hx hb dX12_dearest_9 (by decide) (fun c4 => absurd c4 (by decide)) (fun _ => ?_)
  refine lv_bipush (v := (-2)) hx hb dX12_dearest_12 (by decide) ?_
  have hP9 := hP.sub (ws' := []) [] rfl
  have hD9 := hD.sub (ws' := []) [] (by decide) rfl
  exact W.iret (v := (-2)) hx hb hr (fun t ht hW => ⟨⟨(-2), (), rfl, rfl, by rw [ht]; exact hP9, va_K.moved hW.alike hK, hD9⟩, hS.F ht⟩) hS.2.2 dX12_dearest_14
def v_X12_last : List Cond := .code yX12_last cX12_last 2 (some .int) :: (([.fieldLink RX12 107 "CardsAtYuleModel" "thrown" "I", .methodLink RX12 281 yX12_isPair, .instanceMethod yX12_isPair, .selects RX12 yX12_isPair yX12_isPair, .initialized RX12] : List Cond) ++ (v_X12_isPair ++ (wsX120 ++ ([] : List Cond))))
theorem good_v_X12_last : v_X12_last.all goodWord = true := ga_c (by decide +kernel) (ga_a (by decide +kernel) (ga_a good_v_X12_isPair (ga_a good_wsX120 rfl)))
set_option maxHeartbeats 4000000 in
set_option maxRecDepth 100000 in
theorem k_X12_last (l : Launch) (g : va_G) (cI cJ cB cZ cL : ClassId) (y : Nat) (a : Nat → Nat) (p0 : Int32) (ip0 : Int) (sz : Nat) (hzp0 : p0.toInt = ip0) : Met l yX12_last v_X12_last ({ frames := 2, cells := 0, slots := 0, locals := 46 }) (va_Pc [.ref y, .int p0] (pRW g (tyT cI cJ cB cZ cL) [(y, .inr (11, mO a)), ((a 17), .inl (cI, 25, .inl (fun _ => 0))), ((a 16), .inl (cI, 5, .inl (fun _ => 0)))] sz)) (va_Qi (fun (r : Int32) (u : Unit) => r = (-2)) (fun (_ : Unit) (t : State) => bRW g (tyT cI cJ cB cZ cL) (va_A [(y, .inr (11, mO a)), ((a 17), .inl (cI, 25, .inl (fun _ => 0))), ((a 16), .inl (cI, 5, .inl (fun _ => 0)))] sz) [] t) (va_A [(y, .inr (11, mO a)), ((a 17), .inl (cI, 25, .inl (fun _ => 0))), ((a 16), .inl (cI, 5, .inl (fun _ => 0)))] sz)) 0 0 (va_A [(y, .inr (11, mO a)), ((a 17), .inl (cI, 25, .inl (fun _ => 0))), ((a 16), .inl (cI, 5, .inl (fun _ => 0)))] sz) := by
  refine Met.ofW (cc := cX12_last) (maxL := 2) (ret := (some .int)) (by decide) rfl ?_
  intro p e s m args below meth c s₁ B hml hv
  obtain ⟨rfl, hsz, hP, hK, hD0⟩ := hv
  have hx := B.exec
  have hb := B.bytes
  have hr := B.returns
  have hts := atoms_spec (ws := v_X12_last) B.pre
  have hown : s.vm.findClass RX12 = some m.cls := findClass_of_methodNamed B.named
  have hlocks := B.notSynchronized
  subst hsz
  have iX12 : ∀ w ∈ wsX120, w ∈ v_X12_last := (fun _ h => List.mem_cons_of_mem _ (List.mem_append_right _ (List.mem_append_right _ (List.mem_append_left _ h))))
  have hD := hD0.self (sz := s.heap.size)
  generalize hAe : (va_A [(y, .inr (11, mO a)), ((a 17), .inl (cI, 25, .inl (fun _ => 0))), ((a 16), .inl (cI, 5, .inl (fun _ => 0)))] s.heap.size) = A at hD ⊢
  have hA : ∀ q : Nat, s.heap.size ≤ q → A q := fun q h => by rw [← hAe]; exact Or.inr h
  have hS : va_S A s.heap s.heap [] := va_S.rf
  have hl := lv_entry ([.ref y, .int p0]) (n := 2) (Nat.le_of_ble_eq_true rfl)
  rw [lg_entry_eq]
  generalize (lg_sl ([.ref y, .int p0]) ++ List.replicate (2 - (lg_sl ([.ref y, .int p0])).length) Slot.unset).toArray = ls at hl ⊢
  have hl : lv_has ls 2 [(0, .ref y), (1, .int p0)] := hl
  have hP : va_P g vwCl [(y, .inr (11, mO a)), ((a 17), .inl (cI, 25, .inl (fun _ => 0))), ((a 16), .inl (cI, 5, .inl (fun _ => 0)))] s.heap := hP
  refine lv_aload_n hx hb dX12_last_0 rfl (lv_at hl 0 rfl) ?_
  refine lv_iconst (v := 0) hx hb dX12_last_1 (by decide) ?_
  refine va_put (D := g) (ci := 11) (v := .int 0) (ty := .int) (C := RX12) (T := TX12) (N := 56) hx hb hts iX12 tyX12 tyX12_ok nmX12 hown hK hP hD hS 0 rfl rfl 0 (by decide) (hts (.fieldLink RX12 107 "CardsAtYuleModel" "thrown" "I") (List.mem_cons_of_mem _ (List.mem_append_left _ (List.mem_of_getElem? (i := 0) rfl)))) (fun _ h9 => h9) rfl (by decide +kernel) rfl rfl (Nat.le_of_ble_eq_true rfl) dX12_last_2 (fun H locs hP hD hS => ?_)
  have hP : va_P g vwCl [(y, .inr (11, mO a)), ((a 17), .inl (cI, 25, .inl (fun _ => 0))), ((a 16), .inl (cI, 5, .inl (fun _ => 0)))] H := hP
  have hD : va_D A [(y, .inr (11, mO a)), ((a 17), .inl (cI, 25, .inl (fun _ => 0))), ((a 16), .inl (cI, 5, .inl (fun _ => 0)))] := hD
  refine lv_aload_n hx hb dX12_last_5 rfl (lv_at hl 0 rfl) ?_
  refine lv_iload_n hx hb dX12_last_6 rfl (lv_at hl 1 rfl) ?_
  refine ro_i (va_runV (As := [.int p0]) (rest := []) ⟨hx, hb, hml, hown, hts⟩ (k_X12_isPair l g cI cJ cB cZ cL y a p0 ip0 H.size hzp0) (cwV 1 hts (goodIn_app (g_4 (List.mem_cons_of_mem _ (List.mem_append_left _ (List.mem_of_getElem? (i := 1) rfl))) (List.mem_cons_of_mem _ (List.mem_append_left _ (List.mem_of_getElem? (i := 2) rfl))) (List.mem_cons_of_mem _ (List.mem_append_left _ (List.mem_of_getElem? (i := 3) rfl))) (List.mem_cons_of_mem _ (List.mem_append_left _ (List.mem_of_getElem? (i := 4) rfl))) (by decide +kernel)) (goodIn_sub (fun _ h => List.mem_cons_of_mem _ (List.mem_append_right _ (List.mem_append_left _ h))) good_v_X12_isPair)) rfl rfl rfl (by decide +kernel) ⟨Nat.le_of_ble_eq_true rfl, Nat.le_of_ble_eq_true rfl⟩) (pv_RO (q := (RX12, TX12, 56)) (ci := 11) (q0 := 0) (wc := [(y, .inr (11, mO a)), ((a 17), .inl (cI, 25, .inl (fun _ => 0))), ((a 16), .inl (cI, 5, .inl (fun _ => 0)))]) hK hP [0, 1, 2] rfl rfl rfl) rfl rfl hl.1 rfl (lv_room (Nat.le_of_ble_eq_true rfl)) dX12_last_7 ⟨Nat.le_of_ble_eq_true rfl, Nat.le_of_ble_eq_true rfl⟩) hS hA hP (fun r1 u2 H locs hw3 hP hS => ?_)
  subst hw3
  refine lv_if_ne (tgt := 16) hx hb dX12_last_10 (by decide) (fun c4 => absurd c4 (by decide)) (fun _ => ?_)
  refine lv_bipush (v := (-2)) hx hb dX12_last_13 (by decide) ?_
  have hP9 := hP.sub (ws' := []) [] rfl
  have hD9 := hD.sub (ws' := []) [] (by decide) rfl
  exact W.iret (v := (-2)) hx hb hr (fun t ht hW => ⟨⟨(-2), (), rfl, rfl, by rw [ht]; exact hP9, va_K.moved hW.alike hK, hD9⟩, hS.F ht⟩) hS.2.2 dX12_last_15
def v_X12_over : List Cond := .code yX12_over cX12_over 1 (some .int) :: (([.fieldLink RX12 107 "CardsAtYuleModel" "thrown" "I", .methodLink RX12 373 yX12_isLand, .instanceMethod yX12_isLand, .selects RX12 yX12_isLand yX12_isLand, .initialized RX12] : List Cond) ++ (v_X12_isLand ++ (wsX120 ++ ([] : List Cond))))
theorem good_v_X12_over : v_X12_over.all goodWord = true := ga_c (by decide +kernel) (ga_a (by decide +kernel) (ga_a good_v_X12_isLand (ga_a good_wsX120 rfl)))
set_option maxHeartbeats 4000000 in
set_option maxRecDepth 100000 in
theorem k_X12_over (l : Launch) (g : va_G) (cI cJ cB cZ cL : ClassId) (y : Nat) (a : Nat → Nat) (sz : Nat)  : Met l yX12_over v_X12_over ({ frames := 1, cells := 0, slots := 0, locals := 20 }) (va_Pc [.ref y] (pRW g (tyT cI cJ cB cZ cL) [(y, .inr (11, mO a)), ((a 17), .inl (cI, 25, .inl (fun _ => 0))), ((a 16), .inl (cI, 5, .inl (fun _ => 0)))] sz)) (va_Qi (fun (r : Int32) (u : Unit) => r = (-2)) (fun (_ : Unit) (t : State) => bRW g (tyT cI cJ cB cZ cL) (va_A [(y, .inr (11, mO a)), ((a 17), .inl (cI, 25, .inl (fun _ => 0))), ((a 16), .inl (cI, 5, .inl (fun _ => 0)))] sz) [] t) (va_A [(y, .inr (11, mO a)), ((a 17), .inl (cI, 25, .inl (fun _ => 0))), ((a 16), .inl (cI, 5, .inl (fun _ => 0)))] sz)) 0 0 (va_A [(y, .inr (11, mO a)), ((a 17), .inl (cI, 25, .inl (fun _ => 0))), ((a 16), .inl (cI, 5, .inl (fun _ => 0)))] sz) := by
  refine Met.ofW (cc := cX12_over) (maxL := 1) (ret := (some .int)) (by decide) rfl ?_
  intro p e s m args below meth c s₁ B hml hv
  obtain ⟨rfl, hsz, hP, hK, hD0⟩ := hv
  have hx := B.exec
  have hb := B.bytes
  have hr := B.returns
  have hts := atoms_spec (ws := v_X12_over) B.pre
  have hown : s.vm.findClass RX12 = some m.cls := findClass_of_methodNamed B.named
  have hlocks := B.notSynchronized
  subst hsz
  have iX12 : ∀ w ∈ wsX120, w ∈ v_X12_over := (fun _ h => List.mem_cons_of_mem _ (List.mem_append_right _ (List.mem_append_right _ (List.mem_append_left _ h))))
  have hD := hD0.self (sz := s.heap.size)
  generalize hAe : (va_A [(y, .inr (11, mO a)), ((a 17), .inl (cI, 25, .inl (fun _ => 0))), ((a 16), .inl (cI, 5, .inl (fun _ => 0)))] s.heap.size) = A at hD ⊢
  have hA : ∀ q : Nat, s.heap.size ≤ q → A q := fun q h => by rw [← hAe]; exact Or.inr h
  have hS : va_S A s.heap s.heap [] := va_S.rf
  have hl := lv_entry ([.ref y]) (n := 1) (Nat.le_of_ble_eq_true rfl)
  rw [lg_entry_eq]
  generalize (lg_sl ([.ref y]) ++ List.replicate (1 - (lg_sl ([.ref y])).length) Slot.unset).toArray = ls at hl ⊢
  have hl : lv_has ls 1 [(0, .ref y)] := hl
  have hP : va_P g vwCl [(y, .inr (11, mO a)), ((a 17), .inl (cI, 25, .inl (fun _ => 0))), ((a 16), .inl (cI, 5, .inl (fun _ => 0)))] s.heap := hP
  refine lv_aload_n hx hb dX12_over_0 rfl (lv_at hl 0 rfl) ?_
  refine lv_iconst (v := 0) hx hb dX12_over_1 (by decide) ?_
  refine va_put (D := g) (ci := 11) (v := .int 0) (ty := .int) (C := RX12) (T := TX12) (N := 56) hx hb hts iX12 tyX12 tyX12_ok nmX12 hown hK hP hD hS 0 rfl rfl 0 (by decide) (hts (.fieldLink RX12 107 "CardsAtYuleModel" "thrown" "I") (List.mem_cons_of_mem _ (List.mem_append_left _ (List.mem_of_getElem? (i := 0) rfl)))) (fun _ h9 => h9) rfl (by decide +kernel) rfl rfl (Nat.le_of_ble_eq_true rfl) dX12_over_2 (fun H locs hP hD hS => ?_)
  have hP : va_P g vwCl [(y, .inr (11, mO a)), ((a 17), .inl (cI, 25, .inl (fun _ => 0))), ((a 16), .inl (cI, 5, .inl (fun _ => 0)))] H := hP
  have hD : va_D A [(y, .inr (11, mO a)), ((a 17), .inl (cI, 25, .inl (fun _ => 0))), ((a 16), .inl (cI, 5, .inl (fun _ => 0)))] := hD
  refine lv_aload_n hx hb dX12_over_5 rfl (lv_at hl 0 rfl) ?_
  refine ro_i (va_runV (As := []) (rest := []) ⟨hx, hb, hml, hown, hts⟩ (k_X12_isLand l g cI cJ cB cZ cL y a H.size ) (cwV 0 hts (goodIn_app (g_4 (List.mem_cons_of_mem _ (List.mem_append_left _ (List.mem_of_getElem? (i := 1) rfl))) (List.mem_cons_of_mem _ (List.mem_append_left _ (List.mem_of_getElem? (i := 2) rfl))) (List.mem_cons_of_mem _ (List.mem_append_left _ (List.mem_of_getElem? (i := 3) rfl))) (List.mem_cons_of_mem _ (List.mem_append_left _ (List.mem_of_getElem? (i := 4) rfl))) (by decide +kernel)) (goodIn_sub (fun _ h => List.mem_cons_of_mem _ (List.mem_append_right _ (List.mem_append_left _ h))) good_v_X12_isLand)) rfl rfl rfl (by decide +kernel) ⟨Nat.le_of_ble_eq_true rfl, Nat.le_of_ble_eq_true rfl⟩) (pv_RO (q := (RX12, TX12, 56)) (ci := 11) (q0 := 0) (wc := [(y, .inr (11, mO a)), ((a 17), .inl (cI, 25, .inl (fun _ => 0))), ((a 16), .inl (cI, 5, .inl (fun _ => 0)))]) hK hP [0, 1, 2] rfl rfl rfl) rfl rfl hl.1 rfl (lv_room (Nat.le_of_ble_eq_true rfl)) dX12_over_6 ⟨Nat.le_of_ble_eq_true rfl, Nat.le_of_ble_eq_true rfl⟩) hS hA hP (fun r1 u2 H locs hw3 hP hS => ?_)
  subst hw3
  refine lv_if_ne (tgt := 15) hx hb dX12_over_9 (by decide) (fun c4 => absurd c4 (by decide)) (fun _ => ?_)
  refine lv_bipush (v := (-2)) hx hb dX12_over_12 (by decide) ?_
  have hP9 := hP.sub (ws' := []) [] rfl
  have hD9 := hD.sub (ws' := []) [] (by decide) rfl
  exact W.iret (v := (-2)) hx hb hr (fun t ht hW => ⟨⟨(-2), (), rfl, rfl, by rw [ht]; exact hP9, va_K.moved hW.alike hK, hD9⟩, hS.F ht⟩) hS.2.2 dX12_over_14
def v_X12_poorest : List Cond := .code yX12_poorest cX12_poorest 3 (some .int) :: (([.fieldLink RX12 107 "CardsAtYuleModel" "thrown" "I", .methodLink RX12 373 yX12_isLand, .instanceMethod yX12_isLand, .selects RX12 yX12_isLand yX12_isLand, .initialized RX12] : List Cond) ++ (v_X12_isLand ++ (wsX120 ++ ([] : List Cond))))
theorem good_v_X12_poorest : v_X12_poorest.all goodWord = true := ga_c (by decide +kernel) (ga_a (by decide +kernel) (ga_a good_v_X12_isLand (ga_a good_wsX120 rfl)))
set_option maxHeartbeats 4000000 in
set_option maxRecDepth 100000 in
theorem k_X12_poorest (l : Launch) (g : va_G) (cI cJ cB cZ cL : ClassId) (y : Nat) (a : Nat → Nat) (sz : Nat)  : Met l yX12_poorest v_X12_poorest ({ frames := 1, cells := 0, slots := 0, locals := 20 }) (va_Pc [.ref y] (pRW g (tyT cI cJ cB cZ cL) [(y, .inr (11, mO a)), ((a 17), .inl (cI, 25, .inl (fun _ => 0))), ((a 16), .inl (cI, 5, .inl (fun _ => 0)))] sz)) (va_Qi (fun (r : Int32) (u : Unit) => r = (-2)) (fun (_ : Unit) (t : State) => bRW g (tyT cI cJ cB cZ cL) (va_A [(y, .inr (11, mO a)), ((a 17), .inl (cI, 25, .inl (fun _ => 0))), ((a 16), .inl (cI, 5, .inl (fun _ => 0)))] sz) [] t) (va_A [(y, .inr (11, mO a)), ((a 17), .inl (cI, 25, .inl (fun _ => 0))), ((a 16), .inl (cI, 5, .inl (fun _ => 0)))] sz)) 0 0 (va_A [(y, .inr (11, mO a)), ((a 17), .inl (cI, 25, .inl (fun _ => 0))), ((a 16), .inl (cI, 5, .inl (fun _ => 0)))] sz) := by
  refine Met.ofW (cc := cX12_poorest) (maxL := 3) (ret := (some .int)) (by decide) rfl ?_
  intro p e s m args below meth c s₁ B hml hv
  obtain ⟨rfl, hsz, hP, hK, hD0⟩ := hv
  have hx := B.exec
  have hb := B.bytes
  have hr := B.returns
  have hts := atoms_spec (ws := v_X12_poorest) B.pre
  have hown : s.vm.findClass RX12 = some m.cls := findClass_of_methodNamed B.named
  have hlocks := B.notSynchronized
  subst hsz
  have iX12 : ∀ w ∈ wsX120, w ∈ v_X12_poorest := (fun _ h => List.mem_cons_of_mem _ (List.mem_append_right _ (List.mem_append_right _ (List.mem_append_left _ h))))
  have hD := hD0.self (sz := s.heap.size)
  generalize hAe : (va_A [(y, .inr (11, mO a)), ((a 17), .inl (cI, 25, .inl (fun _ => 0))), ((a 16), .inl (cI, 5, .inl (fun _ => 0)))] s.heap.size) = A at hD ⊢
  have hA : ∀ q : Nat, s.heap.size ≤ q → A q := fun q h => by rw [← hAe]; exact Or.inr h
  have hS : va_S A s.heap s.heap [] := va_S.rf
  have hl := lv_entry ([.ref y]) (n := 3) (Nat.le_of_ble_eq_true rfl)
  rw [lg_entry_eq]
  generalize (lg_sl ([.ref y]) ++ List.replicate (3 - (lg_sl ([.ref y])).length) Slot.unset).toArray = ls at hl ⊢
  have hl : lv_has ls 3 [(0, .ref y)] := hl
  have hP : va_P g vwCl [(y, .inr (11, mO a)), ((a 17), .inl (cI, 25, .inl (fun _ => 0))), ((a 16), .inl (cI, 5, .inl (fun _ => 0)))] s.heap := hP
  refine lv_aload_n hx hb dX12_poorest_0 rfl (lv_at hl 0 rfl) ?_
  refine lv_iconst (v := 0) hx hb dX12_poorest_1 (by decide) ?_
  refine va_put (D := g) (ci := 11) (v := .int 0) (ty := .int) (C := RX12) (T := TX12) (N := 56) hx hb hts iX12 tyX12 tyX12_ok nmX12 hown hK hP hD hS 0 rfl rfl 0 (by decide) (hts (.fieldLink RX12 107 "CardsAtYuleModel" "thrown" "I") (List.mem_cons_of_mem _ (List.mem_append_left _ (List.mem_of_getElem? (i := 0) rfl)))) (fun _ h9 => h9) rfl (by decide +kernel) rfl rfl (Nat.le_of_ble_eq_true rfl) dX12_poorest_2 (fun H locs hP hD hS => ?_)
  have hP : va_P g vwCl [(y, .inr (11, mO a)), ((a 17), .inl (cI, 25, .inl (fun _ => 0))), ((a 16), .inl (cI, 5, .inl (fun _ => 0)))] H := hP
  have hD : va_D A [(y, .inr (11, mO a)), ((a 17), .inl (cI, 25, .inl (fun _ => 0))), ((a 16), .inl (cI, 5, .inl (fun _ => 0)))] := hD
  refine lv_aload_n hx hb dX12_poorest_5 rfl (lv_at hl 0 rfl) ?_
  refine ro_i (va_runV (As := []) (rest := []) ⟨hx, hb, hml, hown, hts⟩ (k_X12_isLand l g cI cJ cB cZ cL y a H.size ) (cwV 0 hts (goodIn_app (g_4 (List.mem_cons_of_mem _ (List.mem_append_left _ (List.mem_of_getElem? (i := 1) rfl))) (List.mem_cons_of_mem _ (List.mem_append_left _ (List.mem_of_getElem? (i := 2) rfl))) (List.mem_cons_of_mem _ (List.mem_append_left _ (List.mem_of_getElem? (i := 3) rfl))) (List.mem_cons_of_mem _ (List.mem_append_left _ (List.mem_of_getElem? (i := 4) rfl))) (by decide +kernel)) (goodIn_sub (fun _ h => List.mem_cons_of_mem _ (List.mem_append_right _ (List.mem_append_left _ h))) good_v_X12_isLand)) rfl rfl rfl (by decide +kernel) ⟨Nat.le_of_ble_eq_true rfl, Nat.le_of_ble_eq_true rfl⟩) (pv_RO (q := (RX12, TX12, 56)) (ci := 11) (q0 := 0) (wc := [(y, .inr (11, mO a)), ((a 17), .inl (cI, 25, .inl (fun _ => 0))), ((a 16), .inl (cI, 5, .inl (fun _ => 0)))]) hK hP [0, 1, 2] rfl rfl rfl) rfl rfl hl.1 rfl (lv_room (Nat.le_of_ble_eq_true rfl)) dX12_poorest_6 ⟨Nat.le_of_ble_eq_true rfl, Nat.le_of_ble_eq_true rfl⟩) hS hA hP (fun r1 u2 H locs hw3 hP hS => ?_)
  subst hw3
  refine lv_if_ne (tgt := 15) hx hb dX12_poorest_9 (by decide) (fun c4 => absurd c4 (by decide)) (fun _ => ?_)
  refine lv_bipush (v := (-2)) hx hb dX12_poorest_12 (by decide) ?_
  have hP9 := hP.sub (ws' := []) [] rfl
  have hD9 := hD.sub (ws' := []) [] (by decide) rfl
  exact W.iret (v := (-2)) hx hb hr (fun t ht hW => ⟨⟨(-2), (), rfl, rfl, by rw [ht]; exact hP9, va_K.moved hW.alike hK, hD9⟩, hS.F ht⟩) hS.2.2 dX12_poorest_14
def v_X12_streak : List Cond := .code yX12_streak cX12_streak 7 (some .int) :: (([.fieldLink RX12 107 "CardsAtYuleModel" "thrown" "I", .methodLink RX12 281 yX12_isPair, .instanceMethod yX12_isPair, .selects RX12 yX12_isPair yX12_isPair, .initialized RX12] : List Cond) ++ (v_X12_isPair ++ (wsX120 ++ ([] : List Cond))))
theorem good_v_X12_streak : v_X12_streak.all goodWord = true := ga_c (by decide +kernel) (ga_a (by decide +kernel) (ga_a good_v_X12_isPair (ga_a good_wsX120 rfl)))
set_option maxHeartbeats 4000000 in
set_option maxRecDepth 100000 in
theorem k_X12_streak (l : Launch) (g : va_G) (cI cJ cB cZ cL : ClassId) (y : Nat) (a : Nat → Nat) (p0 : Int32) (p1 : Int32) (ip0 : Int) (ip1 : Int) (sz : Nat) (hzp0 : p0.toInt = ip0) (hzp1 : p1.toInt = ip1) : Met l yX12_streak v_X12_streak ({ frames := 2, cells := 0, slots := 0, locals := 46 }) (va_Pc [.ref y, .int p0, .int p1] (pRW g (tyT cI cJ cB cZ cL) [(y, .inr (11, mO a)), ((a 17), .inl (cI, 25, .inl (fun _ => 0))), ((a 16), .inl (cI, 5, .inl (fun _ => 0)))] sz)) (va_Qi (fun (r : Int32) (u : Unit) => r = (-2)) (fun (_ : Unit) (t : State) => bRW g (tyT cI cJ cB cZ cL) (va_A [(y, .inr (11, mO a)), ((a 17), .inl (cI, 25, .inl (fun _ => 0))), ((a 16), .inl (cI, 5, .inl (fun _ => 0)))] sz) [] t) (va_A [(y, .inr (11, mO a)), ((a 17), .inl (cI, 25, .inl (fun _ => 0))), ((a 16), .inl (cI, 5, .inl (fun _ => 0)))] sz)) 0 0 (va_A [(y, .inr (11, mO a)), ((a 17), .inl (cI, 25, .inl (fun _ => 0))), ((a 16), .inl (cI, 5, .inl (fun _ => 0)))] sz) := by
  refine Met.ofW (cc := cX12_streak) (maxL := 7) (ret := (some .int)) (by decide) rfl ?_
  intro p e s m args below meth c s₁ B hml hv
  obtain ⟨rfl, hsz, hP, hK, hD0⟩ := hv
  have hx := B.exec
  have hb := B.bytes
  have hr := B.returns
  have hts := atoms_spec (ws := v_X12_streak) B.pre
  have hown : s.vm.findClass RX12 = some m.cls := findClass_of_methodNamed B.named
  have hlocks := B.notSynchronized
  subst hsz
  have iX12 : ∀ w ∈ wsX120, w ∈ v_X12_streak := (fun _ h => List.mem_cons_of_mem _ (List.mem_append_right _ (List.mem_append_right _ (List.mem_append_left _ h))))
  have hD := hD0.self (sz := s.heap.size)
  generalize hAe : (va_A [(y, .inr (11, mO a)), ((a 17), .inl (cI, 25, .inl (fun _ => 0))), ((a 16), .inl (cI, 5, .inl (fun _ => 0)))] s.heap.size) = A at hD ⊢
  have hA : ∀ q : Nat, s.heap.size ≤ q → A q := fun q h => by rw [← hAe]; exact Or.inr h
  have hS : va_S A s.heap s.heap [] := va_S.rf
  have hl := lv_entry ([.ref y, .int p0, .int p1]) (n := 7) (Nat.le_of_ble_eq_true rfl)
  rw [lg_entry_eq]
  generalize (lg_sl ([.ref y, .int p0, .int p1]) ++ List.replicate (7 - (lg_sl ([.ref y, .int p0, .int p1])).length) Slot.unset).toArray = ls at hl ⊢
  have hl : lv_has ls 7 [(0, .ref y), (1, .int p0), (2, .int p1)] := hl
  have hP : va_P g vwCl [(y, .inr (11, mO a)), ((a 17), .inl (cI, 25, .inl (fun _ => 0))), ((a 16), .inl (cI, 5, .inl (fun _ => 0)))] s.heap := hP
  refine lv_aload_n hx hb dX12_streak_0 rfl (lv_at hl 0 rfl) ?_
  refine lv_iconst (v := 0) hx hb dX12_streak_1 (by decide) ?_
  refine va_put (D := g) (ci := 11) (v := .int 0) (ty := .int) (C := RX12) (T := TX12) (N := 56) hx hb hts iX12 tyX12 tyX12_ok nmX12 hown hK hP hD hS 0 rfl rfl 0 (by decide) (hts (.fieldLink RX12 107 "CardsAtYuleModel" "thrown" "I") (List.mem_cons_of_mem _ (List.mem_append_left _ (List.mem_of_getElem? (i := 0) rfl)))) (fun _ h9 => h9) rfl (by decide +kernel) rfl rfl (Nat.le_of_ble_eq_true rfl) dX12_streak_2 (fun H locs hP hD hS => ?_)
  have hP : va_P g vwCl [(y, .inr (11, mO a)), ((a 17), .inl (cI, 25, .inl (fun _ => 0))), ((a 16), .inl (cI, 5, .inl (fun _ => 0)))] H := hP
  have hD : va_D A [(y, .inr (11, mO a)), ((a 17), .inl (cI, 25, .inl (fun _ => 0))), ((a 16), .inl (cI, 5, .inl (fun _ => 0)))] := hD
  refine lv_aload_n hx hb dX12_streak_5 rfl (lv_at hl 0 rfl) ?_
  refine lv_iload_n hx hb dX12_streak_6 rfl (lv_at hl 1 rfl) ?_
  refine ro_i (va_runV (As := [.int p0]) (rest := []) ⟨hx, hb, hml, hown, hts⟩ (k_X12_isPair l g cI cJ cB cZ cL y a p0 ip0 H.size hzp0) (cwV 1 hts (goodIn_app (g_4 (List.mem_cons_of_mem _ (List.mem_append_left _ (List.mem_of_getElem? (i := 1) rfl))) (List.mem_cons_of_mem _ (List.mem_append_left _ (List.mem_of_getElem? (i := 2) rfl))) (List.mem_cons_of_mem _ (List.mem_append_left _ (List.mem_of_getElem? (i := 3) rfl))) (List.mem_cons_of_mem _ (List.mem_append_left _ (List.mem_of_getElem? (i := 4) rfl))) (by decide +kernel)) (goodIn_sub (fun _ h => List.mem_cons_of_mem _ (List.mem_append_right _ (List.mem_append_left _ h))) good_v_X12_isPair)) rfl rfl rfl (by decide +kernel) ⟨Nat.le_of_ble_eq_true rfl, Nat.le_of_ble_eq_true rfl⟩) (pv_RO (q := (RX12, TX12, 56)) (ci := 11) (q0 := 0) (wc := [(y, .inr (11, mO a)), ((a 17), .inl (cI, 25, .inl (fun _ => 0))), ((a 16), .inl (cI, 5, .inl (fun _ => 0)))]) hK hP [0, 1, 2] rfl rfl rfl) rfl rfl hl.1 rfl (lv_room (Nat.le_of_ble_eq_true rfl)) dX12_streak_7 ⟨Nat.le_of_ble_eq_true rfl, Nat.le_of_ble_eq_true rfl⟩) hS hA hP (fun r1 u2 H locs hw3 hP hS => ?_)
  subst hw3
  refine lv_if_eq (tgt := 23) hx hb dX12_streak_10 (by decide) (fun _ => ?_) (fun c4 => absurd c4 (by decide))
  refine lv_bipush (v := (-2)) hx hb dX12_streak_23 (by decide) ?_
  have hP9 := hP.sub (ws' := []) [] rfl
  have hD9 := hD.sub (ws' := []) [] (by decide) rfl
  exact W.iret (v := (-2)) hx hb hr (fun t ht hW => ⟨⟨(-2), (), rfl, rfl, by rw [ht]; exact hP9, va_K.moved hW.alike hK, hD9⟩, hS.F ht⟩) hS.2.2 dX12_streak_25
def v_X12_goes_ : List Cond := .code yX12_goes_ cX12_goes_ 3 (some .int) :: (([.fieldLink RX12 107 "CardsAtYuleModel" "thrown" "I", .methodLink RX12 281 yX12_isPair, .instanceMethod yX12_isPair, .selects RX12 yX12_isPair yX12_isPair, .initialized RX12] : List Cond) ++ (v_X12_isPair ++ (wsX120 ++ ([] : List Cond))))
theorem good_v_X12_goes_ : v_X12_goes_.all goodWord = true := ga_c (by decide +kernel) (ga_a (by decide +kernel) (ga_a good_v_X12_isPair (ga_a good_wsX120 rfl)))
set_option maxHeartbeats 4000000 in
set_option maxRecDepth 100000 in
theorem k_X12_goes_ (l : Launch) (g : va_G) (cI cJ cB cZ cL : ClassId) (y : Nat) (a : Nat → Nat) (p0 : Int32) (p1 : Int32) (ip0 : Int) (ip1 : Int) (sz : Nat) (hzp0 : p0.toInt = ip0) (hzp1 : p1.toInt = ip1) : Met l yX12_goes_ v_X12_goes_ ({ frames := 2, cells := 0, slots := 0, locals := 46 }) (va_Pc [.ref y, .int p0, .int p1] (pRW g (tyT cI cJ cB cZ cL) [(y, .inr (11, mO a)), ((a 17), .inl (cI, 25, .inl (fun _ => 0))), ((a 16), .inl (cI, 5, .inl (fun _ => 0)))] sz)) (va_Qi (fun (r : Int32) (u : Unit) => r = (-2)) (fun (_ : Unit) (t : State) => bRW g (tyT cI cJ cB cZ cL) (va_A [(y, .inr (11, mO a)), ((a 17), .inl (cI, 25, .inl (fun _ => 0))), ((a 16), .inl (cI, 5, .inl (fun _ => 0)))] sz) [] t) (va_A [(y, .inr (11, mO a)), ((a 17), .inl (cI, 25, .inl (fun _ => 0))), ((a 16), .inl (cI, 5, .inl (fun _ => 0)))] sz)) 0 0 (va_A [(y, .inr (11, mO a)), ((a 17), .inl (cI, 25, .inl (fun _ => 0))), ((a 16), .inl (cI, 5, .inl (fun _ => 0)))] sz) := by
  refine Met.ofW (cc := cX12_goes_) (maxL := 3) (ret := (some .int)) (by decide) rfl ?_
  intro p e s m args below meth c s₁ B hml hv
  obtain ⟨rfl, hsz, hP, hK, hD0⟩ := hv
  have hx := B.exec
  have hb := B.bytes
  have hr := B.returns
  have hts := atoms_spec (ws := v_X12_goes_) B.pre
  have hown : s.vm.findClass RX12 = some m.cls := findClass_of_methodNamed B.named
  have hlocks := B.notSynchronized
  subst hsz
  have iX12 : ∀ w ∈ wsX120, w ∈ v_X12_goes_ := (fun _ h => List.mem_cons_of_mem _ (List.mem_append_right _ (List.mem_append_right _ (List.mem_append_left _ h))))
  have hD := hD0.self (sz := s.heap.size)
  generalize hAe : (va_A [(y, .inr (11, mO a)), ((a 17), .inl (cI, 25, .inl (fun _ => 0))), ((a 16), .inl (cI, 5, .inl (fun _ => 0)))] s.heap.size) = A at hD ⊢
  have hA : ∀ q : Nat, s.heap.size ≤ q → A q := fun q h => by rw [← hAe]; exact Or.inr h
  have hS : va_S A s.heap s.heap [] := va_S.rf
  have hl := lv_entry ([.ref y, .int p0, .int p1]) (n := 3) (Nat.le_of_ble_eq_true rfl)
  rw [lg_entry_eq]
  generalize (lg_sl ([.ref y, .int p0, .int p1]) ++ List.replicate (3 - (lg_sl ([.ref y, .int p0, .int p1])).length) Slot.unset).toArray = ls at hl ⊢
  have hl : lv_has ls 3 [(0, .ref y), (1, .int p0), (2, .int p1)] := hl
  have hP : va_P g vwCl [(y, .inr (11, mO a)), ((a 17), .inl (cI, 25, .inl (fun _ => 0))), ((a 16), .inl (cI, 5, .inl (fun _ => 0)))] s.heap := hP
  refine lv_aload_n hx hb dX12_goes__0 rfl (lv_at hl 0 rfl) ?_
  refine lv_iconst (v := 0) hx hb dX12_goes__1 (by decide) ?_
  refine va_put (D := g) (ci := 11) (v := .int 0) (ty := .int) (C := RX12) (T := TX12) (N := 56) hx hb hts iX12 tyX12 tyX12_ok nmX12 hown hK hP hD hS 0 rfl rfl 0 (by decide) (hts (.fieldLink RX12 107 "CardsAtYuleModel" "thrown" "I") (List.mem_cons_of_mem _ (List.mem_append_left _ (List.mem_of_getElem? (i := 0) rfl)))) (fun _ h9 => h9) rfl (by decide +kernel) rfl rfl (Nat.le_of_ble_eq_true rfl) dX12_goes__2 (fun H locs hP hD hS => ?_)
  have hP : va_P g vwCl [(y, .inr (11, mO a)), ((a 17), .inl (cI, 25, .inl (fun _ => 0))), ((a 16), .inl (cI, 5, .inl (fun _ => 0)))] H := hP
  have hD : va_D A [(y, .inr (11, mO a)), ((a 17), .inl (cI, 25, .inl (fun _ => 0))), ((a 16), .inl (cI, 5, .inl (fun _ => 0)))] := hD
  refine lv_aload_n hx hb dX12_goes__5 rfl (lv_at hl 0 rfl) ?_
  refine lv_iload_n hx hb dX12_goes__6 rfl (lv_at hl 1 rfl) ?_
  refine ro_i (va_runV (As := [.int p0]) (rest := []) ⟨hx, hb, hml, hown, hts⟩ (k_X12_isPair l g cI cJ cB cZ cL y a p0 ip0 H.size hzp0) (cwV 1 hts (goodIn_app (g_4 (List.mem_cons_of_mem _ (List.mem_append_left _ (List.mem_of_getElem? (i := 1) rfl))) (List.mem_cons_of_mem _ (List.mem_append_left _ (List.mem_of_getElem? (i := 2) rfl))) (List.mem_cons_of_mem _ (List.mem_append_left _ (List.mem_of_getElem? (i := 3) rfl))) (List.mem_cons_of_mem _ (List.mem_append_left _ (List.mem_of_getElem? (i := 4) rfl))) (by decide +kernel)) (goodIn_sub (fun _ h => List.mem_cons_of_mem _ (List.mem_append_right _ (List.mem_append_left _ h))) good_v_X12_isPair)) rfl rfl rfl (by decide +kernel) ⟨Nat.le_of_ble_eq_true rfl, Nat.le_of_ble_eq_true rfl⟩) (pv_RO (q := (RX12, TX12, 56)) (ci := 11) (q0 := 0) (wc := [(y, .inr (11, mO a)), ((a 17), .inl (cI, 25, .inl (fun _ => 0))), ((a 16), .inl (cI, 5, .inl (fun _ => 0)))]) hK hP [0, 1, 2] rfl rfl rfl) rfl rfl hl.1 rfl (lv_room (Nat.le_of_ble_eq_true rfl)) dX12_goes__7 ⟨Nat.le_of_ble_eq_true rfl, Nat.le_of_ble_eq_true rfl⟩) hS hA hP (fun r1 u2 H locs hw3 hP hS => ?_)
  subst hw3
  refine lv_if_eq (tgt := 25) hx hb dX12_goes__10 (by decide) (fun _ => ?_) (fun c4 => absurd c4 (by decide))
  refine lv_bipush (v := (-2)) hx hb dX12_goes__25 (by decide) ?_
  have hP9 := hP.sub (ws' := []) [] rfl
  have hD9 := hD.sub (ws' := []) [] (by decide) rfl
  exact W.iret (v := (-2)) hx hb hr (fun t ht hW => ⟨⟨(-2), (), rfl, rfl, by rw [ht]; exact hP9, va_K.moved hW.alike hK, hD9⟩, hS.F ht⟩) hS.2.2 dX12_goes__27
def v_X12_lost : List Cond := .code yX12_lost cX12_lost 4 (some .int) :: (([.fieldLink RX12 107 "CardsAtYuleModel" "thrown" "I", .methodLink RX12 281 yX12_isPair, .instanceMethod yX12_isPair, .selects RX12 yX12_isPair yX12_isPair, .initialized RX12] : List Cond) ++ (v_X12_isPair ++ (wsX120 ++ ([] : List Cond))))
theorem good_v_X12_lost : v_X12_lost.all goodWord = true := ga_c (by decide +kernel) (ga_a (by decide +kernel) (ga_a good_v_X12_isPair (ga_a good_wsX120 rfl)))
set_option maxHeartbeats 4000000 in
set_option maxRecDepth 100000 in
theorem k_X12_lost (l : Launch) (g : va_G) (cI cJ cB cZ cL : ClassId) (y : Nat) (a : Nat → Nat) (p0 : Int32) (p1 : Int32) (p2 : Int32) (ip0 : Int) (ip1 : Int) (ip2 : Int) (sz : Nat) (hzp0 : p0.toInt = ip0) (hzp1 : p1.toInt = ip1) (hzp2 : p2.toInt = ip2) : Met l yX12_lost v_X12_lost ({ frames := 2, cells := 0, slots := 0, locals := 46 }) (va_Pc [.ref y, .int p0, .int p1, .int p2] (pRW g (tyT cI cJ cB cZ cL) [(y, .inr (11, mO a)), ((a 17), .inl (cI, 25, .inl (fun _ => 0))), ((a 16), .inl (cI, 5, .inl (fun _ => 0)))] sz)) (va_Qi (fun (r : Int32) (u : Unit) => r = (-2)) (fun (_ : Unit) (t : State) => bRW g (tyT cI cJ cB cZ cL) (va_A [(y, .inr (11, mO a)), ((a 17), .inl (cI, 25, .inl (fun _ => 0))), ((a 16), .inl (cI, 5, .inl (fun _ => 0)))] sz) [] t) (va_A [(y, .inr (11, mO a)), ((a 17), .inl (cI, 25, .inl (fun _ => 0))), ((a 16), .inl (cI, 5, .inl (fun _ => 0)))] sz)) 0 0 (va_A [(y, .inr (11, mO a)), ((a 17), .inl (cI, 25, .inl (fun _ => 0))), ((a 16), .inl (cI, 5, .inl (fun _ => 0)))] sz) := by
  refine Met.ofW (cc := cX12_lost) (maxL := 4) (ret := (some .int)) (by decide) rfl ?_
  intro p e s m args below meth c s₁ B hml hv
  obtain ⟨rfl, hsz, hP, hK, hD0⟩ := hv
  have hx := B.exec
  have hb := B.bytes
  have hr := B.returns
  have hts := atoms_spec (ws := v_X12_lost) B.pre
  have hown : s.vm.findClass RX12 = some m.cls := findClass_of_methodNamed B.named
  have hlocks := B.notSynchronized
  subst hsz
  have iX12 : ∀ w ∈ wsX120, w ∈ v_X12_lost := (fun _ h => List.mem_cons_of_mem _ (List.mem_append_right _ (List.mem_append_right _ (List.mem_append_left _ h))))
  have hD := hD0.self (sz := s.heap.size)
  generalize hAe : (va_A [(y, .inr (11, mO a)), ((a 17), .inl (cI, 25, .inl (fun _ => 0))), ((a 16), .inl (cI, 5, .inl (fun _ => 0)))] s.heap.size) = A at hD ⊢
  have hA : ∀ q : Nat, s.heap.size ≤ q → A q := fun q h => by rw [← hAe]; exact Or.inr h
  have hS : va_S A s.heap s.heap [] := va_S.rf
  have hl := lv_entry ([.ref y, .int p0, .int p1, .int p2]) (n := 4) (Nat.le_of_ble_eq_true rfl)
  rw [lg_entry_eq]
  generalize (lg_sl ([.ref y, .int p0, .int p1, .int p2]) ++ List.replicate (4 - (lg_sl ([.ref y, .int p0, .int p1, .int p2])).length) Slot.unset).toArray = ls at hl ⊢
  have hl : lv_has ls 4 [(0, .ref y), (1, .int p0), (2, .int p1), (3, .int p2)] := hl
  have hP : va_P g vwCl [(y, .inr (11, mO a)), ((a 17), .inl (cI, 25, .inl (fun _ => 0))), ((a 16), .inl (cI, 5, .inl (fun _ => 0)))] s.heap := hP
  refine lv_aload_n hx hb dX12_lost_0 rfl (lv_at hl 0 rfl) ?_
  refine lv_iconst (v := 0) hx hb dX12_lost_1 (by decide) ?_
  refine va_put (D := g) (ci := 11) (v := .int 0) (ty := .int) (C := RX12) (T := TX12) (N := 56) hx hb hts iX12 tyX12 tyX12_ok nmX12 hown hK hP hD hS 0 rfl rfl 0 (by decide) (hts (.fieldLink RX12 107 "CardsAtYuleModel" "thrown" "I") (List.mem_cons_of_mem _ (List.mem_append_left _ (List.mem_of_getElem? (i := 0) rfl)))) (fun _ h9 => h9) rfl (by decide +kernel) rfl rfl (Nat.le_of_ble_eq_true rfl) dX12_lost_2 (fun H locs hP hD hS => ?_)
  have hP : va_P g vwCl [(y, .inr (11, mO a)), ((a 17), .inl (cI, 25, .inl (fun _ => 0))), ((a 16), .inl (cI, 5, .inl (fun _ => 0)))] H := hP
  have hD : va_D A [(y, .inr (11, mO a)), ((a 17), .inl (cI, 25, .inl (fun _ => 0))), ((a 16), .inl (cI, 5, .inl (fun _ => 0)))] := hD
  refine lv_aload_n hx hb dX12_lost_5 rfl (lv_at hl 0 rfl) ?_
  refine lv_iload_n hx hb dX12_lost_6 rfl (lv_at hl 1 rfl) ?_
  refine ro_i (va_runV (As := [.int p0]) (rest := []) ⟨hx, hb, hml, hown, hts⟩ (k_X12_isPair l g cI cJ cB cZ cL y a p0 ip0 H.size hzp0) (cwV 1 hts (goodIn_app (g_4 (List.mem_cons_of_mem _ (List.mem_append_left _ (List.mem_of_getElem? (i := 1) rfl))) (List.mem_cons_of_mem _ (List.mem_append_left _ (List.mem_of_getElem? (i := 2) rfl))) (List.mem_cons_of_mem _ (List.mem_append_left _ (List.mem_of_getElem? (i := 3) rfl))) (List.mem_cons_of_mem _ (List.mem_append_left _ (List.mem_of_getElem? (i := 4) rfl))) (by decide +kernel)) (goodIn_sub (fun _ h => List.mem_cons_of_mem _ (List.mem_append_right _ (List.mem_append_left _ h))) good_v_X12_isPair)) rfl rfl rfl (by decide +kernel) ⟨Nat.le_of_ble_eq_true rfl, Nat.le_of_ble_eq_true rfl⟩) (pv_RO (q := (RX12, TX12, 56)) (ci := 11) (q0 := 0) (wc := [(y, .inr (11, mO a)), ((a 17), .inl (cI, 25, .inl (fun _ => 0))), ((a 16), .inl (cI, 5, .inl (fun _ => 0)))]) hK hP [0, 1, 2] rfl rfl rfl) rfl rfl hl.1 rfl (lv_room (Nat.le_of_ble_eq_true rfl)) dX12_lost_7 ⟨Nat.le_of_ble_eq_true rfl, Nat.le_of_ble_eq_true rfl⟩) hS hA hP (fun r1 u2 H locs hw3 hP hS => ?_)
  subst hw3
  refine lv_if_eq (tgt := 29) hx hb dX12_lost_10 (by decide) (fun _ => ?_) (fun c4 => absurd c4 (by decide))
  refine lv_bipush (v := (-2)) hx hb dX12_lost_29 (by decide) ?_
  have hP9 := hP.sub (ws' := []) [] rfl
  have hD9 := hD.sub (ws' := []) [] (by decide) rfl
  exact W.iret (v := (-2)) hx hb hr (fun t ht hW => ⟨⟨(-2), (), rfl, rfl, by rw [ht]; exact hP9, va_K.moved hW.alike hK, hD9⟩, hS.F ht⟩) hS.2.2 dX12_lost_31
def v_X12_back : List Cond := .code yX12_back cX12_back 9 (some .int) :: (([.fieldLink RX12 107 "CardsAtYuleModel" "thrown" "I", .methodLink RX12 281 yX12_isPair, .instanceMethod yX12_isPair, .selects RX12 yX12_isPair yX12_isPair, .initialized RX12] : List Cond) ++ (v_X12_isPair ++ (wsX120 ++ ([] : List Cond))))
theorem good_v_X12_back : v_X12_back.all goodWord = true := ga_c (by decide +kernel) (ga_a (by decide +kernel) (ga_a good_v_X12_isPair (ga_a good_wsX120 rfl)))
set_option maxHeartbeats 4000000 in
set_option maxRecDepth 100000 in
theorem k_X12_back (l : Launch) (g : va_G) (cI cJ cB cZ cL : ClassId) (y : Nat) (a : Nat → Nat) (p0 : Int32) (p1 : Int32) (ip0 : Int) (ip1 : Int) (sz : Nat) (hzp0 : p0.toInt = ip0) (hzp1 : p1.toInt = ip1) : Met l yX12_back v_X12_back ({ frames := 2, cells := 0, slots := 0, locals := 46 }) (va_Pc [.ref y, .int p0, .int p1] (pRW g (tyT cI cJ cB cZ cL) [(y, .inr (11, mO a)), ((a 17), .inl (cI, 25, .inl (fun _ => 0))), ((a 16), .inl (cI, 5, .inl (fun _ => 0)))] sz)) (va_Qi (fun (r : Int32) (u : Unit) => r = (-2)) (fun (_ : Unit) (t : State) => bRW g (tyT cI cJ cB cZ cL) (va_A [(y, .inr (11, mO a)), ((a 17), .inl (cI, 25, .inl (fun _ => 0))), ((a 16), .inl (cI, 5, .inl (fun _ => 0)))] sz) [] t) (va_A [(y, .inr (11, mO a)), ((a 17), .inl (cI, 25, .inl (fun _ => 0))), ((a 16), .inl (cI, 5, .inl (fun _ => 0)))] sz)) 0 0 (va_A [(y, .inr (11, mO a)), ((a 17), .inl (cI, 25, .inl (fun _ => 0))), ((a 16), .inl (cI, 5, .inl (fun _ => 0)))] sz) := by
  refine Met.ofW (cc := cX12_back) (maxL := 9) (ret := (some .int)) (by decide) rfl ?_
  intro p e s m args below meth c s₁ B hml hv
  obtain ⟨rfl, hsz, hP, hK, hD0⟩ := hv
  have hx := B.exec
  have hb := B.bytes
  have hr := B.returns
  have hts := atoms_spec (ws := v_X12_back) B.pre
  have hown : s.vm.findClass RX12 = some m.cls := findClass_of_methodNamed B.named
  have hlocks := B.notSynchronized
  subst hsz
  have iX12 : ∀ w ∈ wsX120, w ∈ v_X12_back := (fun _ h => List.mem_cons_of_mem _ (List.mem_append_right _ (List.mem_append_right _ (List.mem_append_left _ h))))
  have hD := hD0.self (sz := s.heap.size)
  generalize hAe : (va_A [(y, .inr (11, mO a)), ((a 17), .inl (cI, 25, .inl (fun _ => 0))), ((a 16), .inl (cI, 5, .inl (fun _ => 0)))] s.heap.size) = A at hD ⊢
  have hA : ∀ q : Nat, s.heap.size ≤ q → A q := fun q h => by rw [← hAe]; exact Or.inr h
  have hS : va_S A s.heap s.heap [] := va_S.rf
  have hl := lv_entry ([.ref y, .int p0, .int p1]) (n := 9) (Nat.le_of_ble_eq_true rfl)
  rw [lg_entry_eq]
  generalize (lg_sl ([.ref y, .int p0, .int p1]) ++ List.replicate (9 - (lg_sl ([.ref y, .int p0, .int p1])).length) Slot.unset).toArray = ls at hl ⊢
  have hl : lv_has ls 9 [(0, .ref y), (1, .int p0), (2, .int p1)] := hl
  have hP : va_P g vwCl [(y, .inr (11, mO a)), ((a 17), .inl (cI, 25, .inl (fun _ => 0))), ((a 16), .inl (cI, 5, .inl (fun _ => 0)))] s.heap := hP
  refine lv_aload_n hx hb dX12_back_0 rfl (lv_at hl 0 rfl) ?_
  refine lv_iconst (v := 0) hx hb dX12_back_1 (by decide) ?_
  refine va_put (D := g) (ci := 11) (v := .int 0) (ty := .int) (C := RX12) (T := TX12) (N := 56) hx hb hts iX12 tyX12 tyX12_ok nmX12 hown hK hP hD hS 0 rfl rfl 0 (by decide) (hts (.fieldLink RX12 107 "CardsAtYuleModel" "thrown" "I") (List.mem_cons_of_mem _ (List.mem_append_left _ (List.mem_of_getElem? (i := 0) rfl)))) (fun _ h9 => h9) rfl (by decide +kernel) rfl rfl (Nat.le_of_ble_eq_true rfl) dX12_back_2 (fun H locs hP hD hS => ?_)
  have hP : va_P g vwCl [(y, .inr (11, mO a)), ((a 17), .inl (cI, 25, .inl (fun _ => 0))), ((a 16), .inl (cI, 5, .inl (fun _ => 0)))] H := hP
  have hD : va_D A [(y, .inr (11, mO a)), ((a 17), .inl (cI, 25, .inl (fun _ => 0))), ((a 16), .inl (cI, 5, .inl (fun _ => 0)))] := hD
  refine lv_aload_n hx hb dX12_back_5 rfl (lv_at hl 0 rfl) ?_
  refine lv_iload_n hx hb dX12_back_6 rfl (lv_at hl 1 rfl) ?_
  refine ro_i (va_runV (As := [.int p0]) (rest := []) ⟨hx, hb, hml, hown, hts⟩ (k_X12_isPair l g cI cJ cB cZ cL y a p0 ip0 H.size hzp0) (cwV 1 hts (goodIn_app (g_4 (List.mem_cons_of_mem _ (List.mem_append_left _ (List.mem_of_getElem? (i := 1) rfl))) (List.mem_cons_of_mem _ (List.mem_append_left _ (List.mem_of_getElem? (i := 2) rfl))) (List.mem_cons_of_mem _ (List.mem_append_left _ (List.mem_of_getElem? (i := 3) rfl))) (List.mem_cons_of_mem _ (List.mem_append_left _ (List.mem_of_getElem? (i := 4) rfl))) (by decide +kernel)) (goodIn_sub (fun _ h => List.mem_cons_of_mem _ (List.mem_append_right _ (List.mem_append_left _ h))) good_v_X12_isPair)) rfl rfl rfl (by decide +kernel) ⟨Nat.le_of_ble_eq_true rfl, Nat.le_of_ble_eq_true rfl⟩) (pv_RO (q := (RX12, TX12, 56)) (ci := 11) (q0 := 0) (wc := [(y, .inr (11, mO a)), ((a 17), .inl (cI, 25, .inl (fun _ => 0))), ((a 16), .inl (cI, 5, .inl (fun _ => 0)))]) hK hP [0, 1, 2] rfl rfl rfl) rfl rfl hl.1 rfl (lv_room (Nat.le_of_ble_eq_true rfl)) dX12_back_7 ⟨Nat.le_of_ble_eq_true rfl, Nat.le_of_ble_eq_true rfl⟩) hS hA hP (fun r1 u2 H locs hw3 hP hS => ?_)
  subst hw3
  refine lv_if_eq (tgt := 20) hx hb dX12_back_10 (by decide) (fun _ => ?_) (fun c4 => absurd c4 (by decide))
  refine lv_bipush (v := (-2)) hx hb dX12_back_20 (by decide) ?_
  have hP9 := hP.sub (ws' := []) [] rfl
  have hD9 := hD.sub (ws' := []) [] (by decide) rfl
  exact W.iret (v := (-2)) hx hb hr (fun t ht hW => ⟨⟨(-2), (), rfl, rfl, by rw [ht]; exact hP9, va_K.moved hW.alike hK, hD9⟩, hS.F ht⟩) hS.2.2 dX12_back_22
def v_X12_strike : List Cond := .code yX12_strike cX12_strike 2 (some .int) :: (([.fieldLink RX12 107 "CardsAtYuleModel" "thrown" "I", .methodLink RX12 343 yX12_isYear, .instanceMethod yX12_isYear, .selects RX12 yX12_isYear yX12_isYear, .initialized RX12] : List Cond) ++ (v_X12_isYear ++ (wsX120 ++ ([] : List Cond))))
theorem good_v_X12_strike : v_X12_strike.all goodWord = true := ga_c (by decide +kernel) (ga_a (by decide +kernel) (ga_a good_v_X12_isYear (ga_a good_wsX120 rfl)))
set_option maxHeartbeats 4000000 in
set_option maxRecDepth 100000 in
theorem k_X12_strike (l : Launch) (g : va_G) (cI cJ cB cZ cL : ClassId) (y : Nat) (a : Nat → Nat) (p0 : Int32) (ip0 : Int) (sz : Nat) (hzp0 : p0.toInt = ip0) : Met l yX12_strike v_X12_strike ({ frames := 2, cells := 0, slots := 0, locals := 47 }) (va_Pc [.ref y, .int p0] (pRW g (tyT cI cJ cB cZ cL) [(y, .inr (11, mO a)), ((a 17), .inl (cI, 25, .inl (fun _ => 0))), ((a 16), .inl (cI, 5, .inl (fun _ => 0)))] sz)) (va_Qi (fun (r : Int32) (u : Unit) => r = (-2)) (fun (_ : Unit) (t : State) => bRW g (tyT cI cJ cB cZ cL) (va_A [(y, .inr (11, mO a)), ((a 17), .inl (cI, 25, .inl (fun _ => 0))), ((a 16), .inl (cI, 5, .inl (fun _ => 0)))] sz) [] t) (va_A [(y, .inr (11, mO a)), ((a 17), .inl (cI, 25, .inl (fun _ => 0))), ((a 16), .inl (cI, 5, .inl (fun _ => 0)))] sz)) 0 0 (va_A [(y, .inr (11, mO a)), ((a 17), .inl (cI, 25, .inl (fun _ => 0))), ((a 16), .inl (cI, 5, .inl (fun _ => 0)))] sz) := by
  refine Met.ofW (cc := cX12_strike) (maxL := 2) (ret := (some .int)) (by decide) rfl ?_
  intro p e s m args below meth c s₁ B hml hv
  obtain ⟨rfl, hsz, hP, hK, hD0⟩ := hv
  have hx := B.exec
  have hb := B.bytes
  have hr := B.returns
  have hts := atoms_spec (ws := v_X12_strike) B.pre
  have hown : s.vm.findClass RX12 = some m.cls := findClass_of_methodNamed B.named
  have hlocks := B.notSynchronized
  subst hsz
  have iX12 : ∀ w ∈ wsX120, w ∈ v_X12_strike := (fun _ h => List.mem_cons_of_mem _ (List.mem_append_right _ (List.mem_append_right _ (List.mem_append_left _ h))))
  have hD := hD0.self (sz := s.heap.size)
  generalize hAe : (va_A [(y, .inr (11, mO a)), ((a 17), .inl (cI, 25, .inl (fun _ => 0))), ((a 16), .inl (cI, 5, .inl (fun _ => 0)))] s.heap.size) = A at hD ⊢
  have hA : ∀ q : Nat, s.heap.size ≤ q → A q := fun q h => by rw [← hAe]; exact Or.inr h
  have hS : va_S A s.heap s.heap [] := va_S.rf
  have hl := lv_entry ([.ref y, .int p0]) (n := 2) (Nat.le_of_ble_eq_true rfl)
  rw [lg_entry_eq]
  generalize (lg_sl ([.ref y, .int p0]) ++ List.replicate (2 - (lg_sl ([.ref y, .int p0])).length) Slot.unset).toArray = ls at hl ⊢
  have hl : lv_has ls 2 [(0, .ref y), (1, .int p0)] := hl
  have hP : va_P g vwCl [(y, .inr (11, mO a)), ((a 17), .inl (cI, 25, .inl (fun _ => 0))), ((a 16), .inl (cI, 5, .inl (fun _ => 0)))] s.heap := hP
  refine lv_aload_n hx hb dX12_strike_0 rfl (lv_at hl 0 rfl) ?_
  refine lv_iconst (v := 0) hx hb dX12_strike_1 (by decide) ?_
  refine va_put (D := g) (ci := 11) (v := .int 0) (ty := .int) (C := RX12) (T := TX12) (N := 56) hx hb hts iX12 tyX12 tyX12_ok nmX12 hown hK hP hD hS 0 rfl rfl 0 (by decide) (hts (.fieldLink RX12 107 "CardsAtYuleModel" "thrown" "I") (List.mem_cons_of_mem _ (List.mem_append_left _ (List.mem_of_getElem? (i := 0) rfl)))) (fun _ h9 => h9) rfl (by decide +kernel) rfl rfl (Nat.le_of_ble_eq_true rfl) dX12_strike_2 (fun H locs hP hD hS => ?_)
  have hP : va_P g vwCl [(y, .inr (11, mO a)), ((a 17), .inl (cI, 25, .inl (fun _ => 0))), ((a 16), .inl (cI, 5, .inl (fun _ => 0)))] H := hP
  have hD : va_D A [(y, .inr (11, mO a)), ((a 17), .inl (cI, 25, .inl (fun _ => 0))), ((a 16), .inl (cI, 5, .inl (fun _ => 0)))] := hD
  refine lv_aload_n hx hb dX12_strike_5 rfl (lv_at hl 0 rfl) ?_
  refine lv_iload_n hx hb dX12_strike_6 rfl (lv_at hl 1 rfl) ?_
  refine lv_i2l (v := p0.toInt64) hx hb dX12_strike_7 rfl ?_
  refine ro_i (va_runV (As := [.long p0.toInt64]) (rest := []) ⟨hx, hb, hml, hown, hts⟩ (k_X12_isYear l g cI cJ cB cZ cL y a p0.toInt64 ip0 H.size (z_i2l hzp0)) (cwV 1 hts (goodIn_app (g_4 (List.mem_cons_of_mem _ (List.mem_append_left _ (List.mem_of_getElem? (i := 1) rfl))) (List.mem_cons_of_mem _ (List.mem_append_left _ (List.mem_of_getElem? (i := 2) rfl))) (List.mem_cons_of_mem _ (List.mem_append_left _ (List.mem_of_getElem? (i := 3) rfl))) (List.mem_cons_of_mem _ (List.mem_append_left _ (List.mem_of_getElem? (i := 4) rfl))) (by decide +kernel)) (goodIn_sub (fun _ h => List.mem_cons_of_mem _ (List.mem_append_right _ (List.mem_append_left _ h))) good_v_X12_isYear)) rfl rfl rfl (by decide +kernel) ⟨Nat.le_of_ble_eq_true rfl, Nat.le_of_ble_eq_true rfl⟩) (pv_RO (q := (RX12, TX12, 56)) (ci := 11) (q0 := 0) (wc := [(y, .inr (11, mO a)), ((a 17), .inl (cI, 25, .inl (fun _ => 0))), ((a 16), .inl (cI, 5, .inl (fun _ => 0)))]) hK hP [0, 1, 2] rfl rfl rfl) rfl rfl hl.1 rfl (lv_room (Nat.le_of_ble_eq_true rfl)) dX12_strike_8 ⟨Nat.le_of_ble_eq_true rfl, Nat.le_of_ble_eq_true rfl⟩) hS hA hP (fun r1 u2 H locs hw3 hP hS => ?_)
  subst hw3
  refine lv_if_ne (tgt := 17) hx hb dX12_strike_11 (by decide) (fun c4 => absurd c4 (by decide)) (fun _ => ?_)
  refine lv_bipush (v := (-2)) hx hb dX12_strike_14 (by decide) ?_
  have hP9 := hP.sub (ws' := []) [] rfl
  have hD9 := hD.sub (ws' := []) [] (by decide) rfl
  exact W.iret (v := (-2)) hx hb hr (fun t ht hW => ⟨⟨(-2), (), rfl, rfl, by rw [ht]; exact hP9, va_K.moved hW.alike hK, hD9⟩, hS.F ht⟩) hS.2.2 dX12_strike_16
def v_X12_saves : List Cond := .code yX12_saves cX12_saves 2 (some .int) :: (([.fieldLink RX12 107 "CardsAtYuleModel" "thrown" "I", .methodLink RX12 343 yX12_isYear, .instanceMethod yX12_isYear, .selects RX12 yX12_isYear yX12_isYear, .initialized RX12] : List Cond) ++ (v_X12_isYear ++ (wsX120 ++ ([] : List Cond))))
theorem good_v_X12_saves : v_X12_saves.all goodWord = true := ga_c (by decide +kernel) (ga_a (by decide +kernel) (ga_a good_v_X12_isYear (ga_a good_wsX120 rfl)))
set_option maxHeartbeats 4000000 in
set_option maxRecDepth 100000 in
theorem k_X12_saves (l : Launch) (g : va_G) (cI cJ cB cZ cL : ClassId) (y : Nat) (a : Nat → Nat) (p0 : Int32) (ip0 : Int) (sz : Nat) (hzp0 : p0.toInt = ip0) : Met l yX12_saves v_X12_saves ({ frames := 2, cells := 0, slots := 0, locals := 47 }) (va_Pc [.ref y, .int p0] (pRW g (tyT cI cJ cB cZ cL) [(y, .inr (11, mO a)), ((a 17), .inl (cI, 25, .inl (fun _ => 0))), ((a 16), .inl (cI, 5, .inl (fun _ => 0)))] sz)) (va_Qi (fun (r : Int32) (u : Unit) => r = (-2)) (fun (_ : Unit) (t : State) => bRW g (tyT cI cJ cB cZ cL) (va_A [(y, .inr (11, mO a)), ((a 17), .inl (cI, 25, .inl (fun _ => 0))), ((a 16), .inl (cI, 5, .inl (fun _ => 0)))] sz) [] t) (va_A [(y, .inr (11, mO a)), ((a 17), .inl (cI, 25, .inl (fun _ => 0))), ((a 16), .inl (cI, 5, .inl (fun _ => 0)))] sz)) 0 0 (va_A [(y, .inr (11, mO a)), ((a 17), .inl (cI, 25, .inl (fun _ => 0))), ((a 16), .inl (cI, 5, .inl (fun _ => 0)))] sz) := by
  refine Met.ofW (cc := cX12_saves) (maxL := 2) (ret := (some .int)) (by decide) rfl ?_
  intro p e s m args below meth c s₁ B hml hv
  obtain ⟨rfl, hsz, hP, hK, hD0⟩ := hv
  have hx := B.exec
  have hb := B.bytes
  have hr := B.returns
  have hts := atoms_spec (ws := v_X12_saves) B.pre
  have hown : s.vm.findClass RX12 = some m.cls := findClass_of_methodNamed B.named
  have hlocks := B.notSynchronized
  subst hsz
  have iX12 : ∀ w ∈ wsX120, w ∈ v_X12_saves := (fun _ h => List.mem_cons_of_mem _ (List.mem_append_right _ (List.mem_append_right _ (List.mem_append_left _ h))))
  have hD := hD0.self (sz := s.heap.size)
  generalize hAe : (va_A [(y, .inr (11, mO a)), ((a 17), .inl (cI, 25, .inl (fun _ => 0))), ((a 16), .inl (cI, 5, .inl (fun _ => 0)))] s.heap.size) = A at hD ⊢
  have hA : ∀ q : Nat, s.heap.size ≤ q → A q := fun q h => by rw [← hAe]; exact Or.inr h
  have hS : va_S A s.heap s.heap [] := va_S.rf
  have hl := lv_entry ([.ref y, .int p0]) (n := 2) (Nat.le_of_ble_eq_true rfl)
  rw [lg_entry_eq]
  generalize (lg_sl ([.ref y, .int p0]) ++ List.replicate (2 - (lg_sl ([.ref y, .int p0])).length) Slot.unset).toArray = ls at hl ⊢
  have hl : lv_has ls 2 [(0, .ref y), (1, .int p0)] := hl
  have hP : va_P g vwCl [(y, .inr (11, mO a)), ((a 17), .inl (cI, 25, .inl (fun _ => 0))), ((a 16), .inl (cI, 5, .inl (fun _ => 0)))] s.heap := hP
  refine lv_aload_n hx hb dX12_saves_0 rfl (lv_at hl 0 rfl) ?_
  refine lv_iconst (v := 0) hx hb dX12_saves_1 (by decide) ?_
  refine va_put (D := g) (ci := 11) (v := .int 0) (ty := .int) (C := RX12) (T := TX12) (N := 56) hx hb hts iX12 tyX12 tyX12_ok nmX12 hown hK hP hD hS 0 rfl rfl 0 (by decide) (hts (.fieldLink RX12 107 "CardsAtYuleModel" "thrown" "I") (List.mem_cons_of_mem _ (List.mem_append_left _ (List.mem_of_getElem? (i := 0) rfl)))) (fun _ h9 => h9) rfl (by decide +kernel) rfl rfl (Nat.le_of_ble_eq_true rfl) dX12_saves_2 (fun H locs hP hD hS => ?_)
  have hP : va_P g vwCl [(y, .inr (11, mO a)), ((a 17), .inl (cI, 25, .inl (fun _ => 0))), ((a 16), .inl (cI, 5, .inl (fun _ => 0)))] H := hP
  have hD : va_D A [(y, .inr (11, mO a)), ((a 17), .inl (cI, 25, .inl (fun _ => 0))), ((a 16), .inl (cI, 5, .inl (fun _ => 0)))] := hD
  refine lv_aload_n hx hb dX12_saves_5 rfl (lv_at hl 0 rfl) ?_
  refine lv_iload_n hx hb dX12_saves_6 rfl (lv_at hl 1 rfl) ?_
  refine lv_i2l (v := p0.toInt64) hx hb dX12_saves_7 rfl ?_
  refine ro_i (va_runV (As := [.long p0.toInt64]) (rest := []) ⟨hx, hb, hml, hown, hts⟩ (k_X12_isYear l g cI cJ cB cZ cL y a p0.toInt64 ip0 H.size (z_i2l hzp0)) (cwV 1 hts (goodIn_app (g_4 (List.mem_cons_of_mem _ (List.mem_append_left _ (List.mem_of_getElem? (i := 1) rfl))) (List.mem_cons_of_mem _ (List.mem_append_left _ (List.mem_of_getElem? (i := 2) rfl))) (List.mem_cons_of_mem _ (List.mem_append_left _ (List.mem_of_getElem? (i := 3) rfl))) (List.mem_cons_of_mem _ (List.mem_append_left _ (List.mem_of_getElem? (i := 4) rfl))) (by decide +kernel)) (goodIn_sub (fun _ h => List.mem_cons_of_mem _ (List.mem_append_right _ (List.mem_append_left _ h))) good_v_X12_isYear)) rfl rfl rfl (by decide +kernel) ⟨Nat.le_of_ble_eq_true rfl, Nat.le_of_ble_eq_true rfl⟩) (pv_RO (q := (RX12, TX12, 56)) (ci := 11) (q0 := 0) (wc := [(y, .inr (11, mO a)), ((a 17), .inl (cI, 25, .inl (fun _ => 0))), ((a 16), .inl (cI, 5, .inl (fun _ => 0)))]) hK hP [0, 1, 2] rfl rfl rfl) rfl rfl hl.1 rfl (lv_room (Nat.le_of_ble_eq_true rfl)) dX12_saves_8 ⟨Nat.le_of_ble_eq_true rfl, Nat.le_of_ble_eq_true rfl⟩) hS hA hP (fun r1 u2 H locs hw3 hP hS => ?_)
  subst hw3
  refine lv_if_ne (tgt := 17) hx hb dX12_saves_11 (by decide) (fun c4 => absurd c4 (by decide)) (fun _ => ?_)
  refine lv_bipush (v := (-2)) hx hb dX12_saves_14 (by decide) ?_
  have hP9 := hP.sub (ws' := []) [] rfl
  have hD9 := hD.sub (ws' := []) [] (by decide) rfl
  exact W.iret (v := (-2)) hx hb hr (fun t ht hW => ⟨⟨(-2), (), rfl, rfl, by rw [ht]; exact hP9, va_K.moved hW.alike hK, hD9⟩, hS.F ht⟩) hS.2.2 dX12_saves_16
def v_X12_mildest : List Cond := .code yX12_mildest cX12_mildest 3 (some .int) :: (([.fieldLink RX12 107 "CardsAtYuleModel" "thrown" "I", .methodLink RX12 373 yX12_isLand, .instanceMethod yX12_isLand, .selects RX12 yX12_isLand yX12_isLand, .initialized RX12] : List Cond) ++ (v_X12_isLand ++ (wsX120 ++ ([] : List Cond))))
theorem good_v_X12_mildest : v_X12_mildest.all goodWord = true := ga_c (by decide +kernel) (ga_a (by decide +kernel) (ga_a good_v_X12_isLand (ga_a good_wsX120 rfl)))
set_option maxHeartbeats 4000000 in
set_option maxRecDepth 100000 in
theorem k_X12_mildest (l : Launch) (g : va_G) (cI cJ cB cZ cL : ClassId) (y : Nat) (a : Nat → Nat) (sz : Nat)  : Met l yX12_mildest v_X12_mildest ({ frames := 1, cells := 0, slots := 0, locals := 20 }) (va_Pc [.ref y] (pRW g (tyT cI cJ cB cZ cL) [(y, .inr (11, mO a)), ((a 17), .inl (cI, 25, .inl (fun _ => 0))), ((a 16), .inl (cI, 5, .inl (fun _ => 0)))] sz)) (va_Qi (fun (r : Int32) (u : Unit) => r = (-2)) (fun (_ : Unit) (t : State) => bRW g (tyT cI cJ cB cZ cL) (va_A [(y, .inr (11, mO a)), ((a 17), .inl (cI, 25, .inl (fun _ => 0))), ((a 16), .inl (cI, 5, .inl (fun _ => 0)))] sz) [] t) (va_A [(y, .inr (11, mO a)), ((a 17), .inl (cI, 25, .inl (fun _ => 0))), ((a 16), .inl (cI, 5, .inl (fun _ => 0)))] sz)) 0 0 (va_A [(y, .inr (11, mO a)), ((a 17), .inl (cI, 25, .inl (fun _ => 0))), ((a 16), .inl (cI, 5, .inl (fun _ => 0)))] sz) := by
  refine Met.ofW (cc := cX12_mildest) (maxL := 3) (ret := (some .int)) (by decide) rfl ?_
  intro p e s m args below meth c s₁ B hml hv
  obtain ⟨rfl, hsz, hP, hK, hD0⟩ := hv
  have hx := B.exec
  have hb := B.bytes
  have hr := B.returns
  have hts := atoms_spec (ws := v_X12_mildest) B.pre
  have hown : s.vm.findClass RX12 = some m.cls := findClass_of_methodNamed B.named
  have hlocks := B.notSynchronized
  subst hsz
  have iX12 : ∀ w ∈ wsX120, w ∈ v_X12_mildest := (fun _ h => List.mem_cons_of_mem _ (List.mem_append_right _ (List.mem_append_right _ (List.mem_append_left _ h))))
  have hD := hD0.self (sz := s.heap.size)
  generalize hAe : (va_A [(y, .inr (11, mO a)), ((a 17), .inl (cI, 25, .inl (fun _ => 0))), ((a 16), .inl (cI, 5, .inl (fun _ => 0)))] s.heap.size) = A at hD ⊢
  have hA : ∀ q : Nat, s.heap.size ≤ q → A q := fun q h => by rw [← hAe]; exact Or.inr h
  have hS : va_S A s.heap s.heap [] := va_S.rf
  have hl := lv_entry ([.ref y]) (n := 3) (Nat.le_of_ble_eq_true rfl)
  rw [lg_entry_eq]
  generalize (lg_sl ([.ref y]) ++ List.replicate (3 - (lg_sl ([.ref y])).length) Slot.unset).toArray = ls at hl ⊢
  have hl : lv_has ls 3 [(0, .ref y)] := hl
  have hP : va_P g vwCl [(y, .inr (11, mO a)), ((a 17), .inl (cI, 25, .inl (fun _ => 0))), ((a 16), .inl (cI, 5, .inl (fun _ => 0)))] s.heap := hP
  refine lv_aload_n hx hb dX12_mildest_0 rfl (lv_at hl 0 rfl) ?_
  refine lv_iconst (v := 0) hx hb dX12_mildest_1 (by decide) ?_
  refine va_put (D := g) (ci := 11) (v := .int 0) (ty := .int) (C := RX12) (T := TX12) (N := 56) hx hb hts iX12 tyX12 tyX12_ok nmX12 hown hK hP hD hS 0 rfl rfl 0 (by decide) (hts (.fieldLink RX12 107 "CardsAtYuleModel" "thrown" "I") (List.mem_cons_of_mem _ (List.mem_append_left _ (List.mem_of_getElem? (i := 0) rfl)))) (fun _ h9 => h9) rfl (by decide +kernel) rfl rfl (Nat.le_of_ble_eq_true rfl) dX12_mildest_2 (fun H locs hP hD hS => ?_)
  have hP : va_P g vwCl [(y, .inr (11, mO a)), ((a 17), .inl (cI, 25, .inl (fun _ => 0))), ((a 16), .inl (cI, 5, .inl (fun _ => 0)))] H := hP
  have hD : va_D A [(y, .inr (11, mO a)), ((a 17), .inl (cI, 25, .inl (fun _ => 0))), ((a 16), .inl (cI, 5, .inl (fun _ => 0)))] := hD
  refine lv_aload_n hx hb dX12_mildest_5 rfl (lv_at hl 0 rfl) ?_
  refine ro_i (va_runV (As := []) (rest := []) ⟨hx, hb, hml, hown, hts⟩ (k_X12_isLand l g cI cJ cB cZ cL y a H.size ) (cwV 0 hts (goodIn_app (g_4 (List.mem_cons_of_mem _ (List.mem_append_left _ (List.mem_of_getElem? (i := 1) rfl))) (List.mem_cons_of_mem _ (List.mem_append_left _ (List.mem_of_getElem? (i := 2) rfl))) (List.mem_cons_of_mem _ (List.mem_append_left _ (List.mem_of_getElem? (i := 3) rfl))) (List.mem_cons_of_mem _ (List.mem_append_left _ (List.mem_of_getElem? (i := 4) rfl))) (by decide +kernel)) (goodIn_sub (fun _ h => List.mem_cons_of_mem _ (List.mem_append_right _ (List.mem_append_left _ h))) good_v_X12_isLand)) rfl rfl rfl (by decide +kernel) ⟨Nat.le_of_ble_eq_true rfl, Nat.le_of_ble_eq_true rfl⟩) (pv_RO (q := (RX12, TX12, 56)) (ci := 11) (q0 := 0) (wc := [(y, .inr (11, mO a)), ((a 17), .inl (cI, 25, .inl (fun _ => 0))), ((a 16), .inl (cI, 5, .inl (fun _ => 0)))]) hK hP [0, 1, 2] rfl rfl rfl) rfl rfl hl.1 rfl (lv_room (Nat.le_of_ble_eq_true rfl)) dX12_mildest_6 ⟨Nat.le_of_ble_eq_true rfl, Nat.le_of_ble_eq_true rfl⟩) hS hA hP (fun r1 u2 H locs hw3 hP hS => ?_)
  subst hw3
  refine lv_if_ne (tgt := 15) hx hb dX12_mildest_9 (by decide) (fun c4 => absurd c4 (by decide)) (fun _ => ?_)
  refine lv_bipush (v := (-2)) hx hb dX12_mildest_12 (by decide) ?_
  have hP9 := hP.sub (ws' := []) [] rfl
  have hD9 := hD.sub (ws' := []) [] (by decide) rfl
  exact W.iret (v := (-2)) hx hb hr (fun t ht hW => ⟨⟨(-2), (), rfl, rfl, by rw [ht]; exact hP9, va_K.moved hW.alike hK, hD9⟩, hS.F ht⟩) hS.2.2 dX12_mildest_14
def v_X12_ending : List Cond := .code yX12_ending cX12_ending 4 (some .int) :: (([.fieldLink RX12 107 "CardsAtYuleModel" "thrown" "I", .methodLink RX12 487 yX12_isWill, .instanceMethod yX12_isWill, .selects RX12 yX12_isWill yX12_isWill, .initialized RX12] : List Cond) ++ (v_X12_isWill ++ (wsX120 ++ ([] : List Cond))))
theorem good_v_X12_ending : v_X12_ending.all goodWord = true := ga_c (by decide +kernel) (ga_a (by decide +kernel) (ga_a good_v_X12_isWill (ga_a good_wsX120 rfl)))
set_option maxHeartbeats 4000000 in
set_option maxRecDepth 100000 in
theorem k_X12_ending (l : Launch) (g : va_G) (cI cJ cB cZ cL : ClassId) (y : Nat) (a : Nat → Nat) (p0 : Int32) (p1 : Int32) (p2 : Int32) (ip0 : Int) (ip1 : Int) (ip2 : Int) (sz : Nat) (hzp0 : p0.toInt = ip0) (hzp1 : p1.toInt = ip1) (hzp2 : p2.toInt = ip2) : Met l yX12_ending v_X12_ending ({ frames := 3, cells := 0, slots := 0, locals := 69 }) (va_Pc [.ref y, .int p0, .int p1, .int p2] (pRW g (tyT cI cJ cB cZ cL) [(y, .inr (11, mO a)), ((a 17), .inl (cI, 25, .inl (fun _ => 0))), ((a 16), .inl (cI, 5, .inl (fun _ => 0)))] sz)) (va_Qi (fun (r : Int32) (u : Unit) => r = (-2)) (fun (_ : Unit) (t : State) => bRW g (tyT cI cJ cB cZ cL) (va_A [(y, .inr (11, mO a)), ((a 17), .inl (cI, 25, .inl (fun _ => 0))), ((a 16), .inl (cI, 5, .inl (fun _ => 0)))] sz) [] t) (va_A [(y, .inr (11, mO a)), ((a 17), .inl (cI, 25, .inl (fun _ => 0))), ((a 16), .inl (cI, 5, .inl (fun _ => 0)))] sz)) 0 0 (va_A [(y, .inr (11, mO a)), ((a 17), .inl (cI, 25, .inl (fun _ => 0))), ((a 16), .inl (cI, 5, .inl (fun _ => 0)))] sz) := by
  refine Met.ofW (cc := cX12_ending) (maxL := 4) (ret := (some .int)) (by decide) rfl ?_
  intro p e s m args below meth c s₁ B hml hv
  obtain ⟨rfl, hsz, hP, hK, hD0⟩ := hv
  have hx := B.exec
  have hb := B.bytes
  have hr := B.returns
  have hts := atoms_spec (ws := v_X12_ending) B.pre
  have hown : s.vm.findClass RX12 = some m.cls := findClass_of_methodNamed B.named
  have hlocks := B.notSynchronized
  subst hsz
  have iX12 : ∀ w ∈ wsX120, w ∈ v_X12_ending := (fun _ h => List.mem_cons_of_mem _ (List.mem_append_right _ (List.mem_append_right _ (List.mem_append_left _ h))))
  have hD := hD0.self (sz := s.heap.size)
  generalize hAe : (va_A [(y, .inr (11, mO a)), ((a 17), .inl (cI, 25, .inl (fun _ => 0))), ((a 16), .inl (cI, 5, .inl (fun _ => 0)))] s.heap.size) = A at hD ⊢
  have hA : ∀ q : Nat, s.heap.size ≤ q → A q := fun q h => by rw [← hAe]; exact Or.inr h
  have hS : va_S A s.heap s.heap [] := va_S.rf
  have hl := lv_entry ([.ref y, .int p0, .int p1, .int p2]) (n := 4) (Nat.le_of_ble_eq_true rfl)
  rw [lg_entry_eq]
  generalize (lg_sl ([.ref y, .int p0, .int p1, .int p2]) ++ List.replicate (4 - (lg_sl ([.ref y, .int p0, .int p1, .int p2])).length) Slot.unset).toArray = ls at hl ⊢
  have hl : lv_has ls 4 [(0, .ref y), (1, .int p0), (2, .int p1), (3, .int p2)] := hl
  have hP : va_P g vwCl [(y, .inr (11, mO a)), ((a 17), .inl (cI, 25, .inl (fun _ => 0))), ((a 16), .inl (cI, 5, .inl (fun _ => 0)))] s.heap := hP
  refine lv_aload_n hx hb dX12_ending_0 rfl (lv_at hl 0 rfl) ?_
  refine lv_iconst (v := 0) hx hb dX12_ending_1 (by decide) ?_
  refine va_put (D := g) (ci := 11) (v := .int 0) (ty := .int) (C := RX12) (T := TX12) (N := 56) hx hb hts iX12 tyX12 tyX12_ok nmX12 hown hK hP hD hS 0 rfl rfl 0 (by decide) (hts (.fieldLink RX12 107 "CardsAtYuleModel" "thrown" "I") (List.mem_cons_of_mem _ (List.mem_append_left _ (List.mem_of_getElem? (i := 0) rfl)))) (fun _ h9 => h9) rfl (by decide +kernel) rfl rfl (Nat.le_of_ble_eq_true rfl) dX12_ending_2 (fun H locs hP hD hS => ?_)
  have hP : va_P g vwCl [(y, .inr (11, mO a)), ((a 17), .inl (cI, 25, .inl (fun _ => 0))), ((a 16), .inl (cI, 5, .inl (fun _ => 0)))] H := hP
  have hD : va_D A [(y, .inr (11, mO a)), ((a 17), .inl (cI, 25, .inl (fun _ => 0))), ((a 16), .inl (cI, 5, .inl (fun _ => 0)))] := hD
  refine lv_aload_n hx hb dX12_ending_5 rfl (lv_at hl 0 rfl) ?_
  refine lv_iload_n hx hb dX12_ending_6 rfl (lv_at hl 1 rfl) ?_
  refine lv_iload_n hx hb dX12_ending_7 rfl (lv_at hl 2 rfl) ?_
  refine lv_iload_n hx hb dX12_ending_8 rfl (lv_at hl 3 rfl) ?_
  refine ro_i (va_runV (As := [.int p0, .int p1, .int p2]) (rest := []) ⟨hx, hb, hml, hown, hts⟩ (k_X12_isWill l g cI cJ cB cZ cL y a p0 p1 p2 ip0 ip1 ip2 H.size hzp0 hzp1 hzp2) (cwV 3 hts (goodIn_app (g_4 (List.mem_cons_of_mem _ (List.mem_append_left _ (List.mem_of_getElem? (i := 1) rfl))) (List.mem_cons_of_mem _ (List.mem_append_left _ (List.mem_of_getElem? (i := 2) rfl))) (List.mem_cons_of_mem _ (List.mem_append_left _ (List.mem_of_getElem? (i := 3) rfl))) (List.mem_cons_of_mem _ (List.mem_append_left _ (List.mem_of_getElem? (i := 4) rfl))) (by decide +kernel)) (goodIn_sub (fun _ h => List.mem_cons_of_mem _ (List.mem_append_right _ (List.mem_append_left _ h))) good_v_X12_isWill)) rfl rfl rfl (by decide +kernel) ⟨Nat.le_of_ble_eq_true rfl, Nat.le_of_ble_eq_true rfl⟩) (pv_RO (q := (RX12, TX12, 56)) (ci := 11) (q0 := 0) (wc := [(y, .inr (11, mO a)), ((a 17), .inl (cI, 25, .inl (fun _ => 0))), ((a 16), .inl (cI, 5, .inl (fun _ => 0)))]) hK hP [0, 1, 2] rfl rfl rfl) rfl rfl hl.1 rfl (lv_room (Nat.le_of_ble_eq_true rfl)) dX12_ending_9 ⟨Nat.le_of_ble_eq_true rfl, Nat.le_of_ble_eq_true rfl⟩) hS hA hP (fun r1 u2 H locs hw3 hP hS => ?_)
  subst hw3
  refine lv_if_eq (tgt := 26) hx hb dX12_ending_12 (by decide) (fun _ => ?_) (fun c4 => absurd c4 (by decide))
  refine lv_bipush (v := (-2)) hx hb dX12_ending_26 (by decide) ?_
  have hP9 := hP.sub (ws' := []) [] rfl
  have hD9 := hD.sub (ws' := []) [] (by decide) rfl
  exact W.iret (v := (-2)) hx hb hr (fun t ht hW => ⟨⟨(-2), (), rfl, rfl, by rw [ht]; exact hP9, va_K.moved hW.alike hK, hD9⟩, hS.F ht⟩) hS.2.2 dX12_ending_28
def v_X12_step : List Cond := .code yX12_step cX12_step 5 (some .int) :: (([.fieldLink RX12 107 "CardsAtYuleModel" "thrown" "I", .methodLink RX12 487 yX12_isWill, .instanceMethod yX12_isWill, .selects RX12 yX12_isWill yX12_isWill, .initialized RX12] : List Cond) ++ (v_X12_isWill ++ (wsX120 ++ ([] : List Cond))))
theorem good_v_X12_step : v_X12_step.all goodWord = true := ga_c (by decide +kernel) (ga_a (by decide +kernel) (ga_a good_v_X12_isWill (ga_a good_wsX120 rfl)))
set_option maxHeartbeats 4000000 in
set_option maxRecDepth 100000 in
theorem k_X12_step (l : Launch) (g : va_G) (cI cJ cB cZ cL : ClassId) (y : Nat) (a : Nat → Nat) (p0 : Int32) (p1 : Int32) (p2 : Int32) (p3 : Int32) (ip0 : Int) (ip1 : Int) (ip2 : Int) (ip3 : Int) (sz : Nat) (hzp0 : p0.toInt = ip0) (hzp1 : p1.toInt = ip1) (hzp2 : p2.toInt = ip2) (hzp3 : p3.toInt = ip3) : Met l yX12_step v_X12_step ({ frames := 3, cells := 0, slots := 0, locals := 69 }) (va_Pc [.ref y, .int p0, .int p1, .int p2, .int p3] (pRW g (tyT cI cJ cB cZ cL) [(y, .inr (11, mO a)), ((a 17), .inl (cI, 25, .inl (fun _ => 0))), ((a 16), .inl (cI, 5, .inl (fun _ => 0)))] sz)) (va_Qi (fun (r : Int32) (u : Unit) => r = (-2)) (fun (_ : Unit) (t : State) => bRW g (tyT cI cJ cB cZ cL) (va_A [(y, .inr (11, mO a)), ((a 17), .inl (cI, 25, .inl (fun _ => 0))), ((a 16), .inl (cI, 5, .inl (fun _ => 0)))] sz) [] t) (va_A [(y, .inr (11, mO a)), ((a 17), .inl (cI, 25, .inl (fun _ => 0))), ((a 16), .inl (cI, 5, .inl (fun _ => 0)))] sz)) 0 0 (va_A [(y, .inr (11, mO a)), ((a 17), .inl (cI, 25, .inl (fun _ => 0))), ((a 16), .inl (cI, 5, .inl (fun _ => 0)))] sz) := by
  refine Met.ofW (cc := cX12_step) (maxL := 5) (ret := (some .int)) (by decide) rfl ?_
  intro p e s m args below meth c s₁ B hml hv
  obtain ⟨rfl, hsz, hP, hK, hD0⟩ := hv
  have hx := B.exec
  have hb := B.bytes
  have hr := B.returns
  have hts := atoms_spec (ws := v_X12_step) B.pre
  have hown : s.vm.findClass RX12 = some m.cls := findClass_of_methodNamed B.named
  have hlocks := B.notSynchronized
  subst hsz
  have iX12 : ∀ w ∈ wsX120, w ∈ v_X12_step := (fun _ h => List.mem_cons_of_mem _ (List.mem_append_right _ (List.mem_append_right _ (List.mem_append_left _ h))))
  have hD := hD0.self (sz := s.heap.size)
  generalize hAe : (va_A [(y, .inr (11, mO a)), ((a 17), .inl (cI, 25, .inl (fun _ => 0))), ((a 16), .inl (cI, 5, .inl (fun _ => 0)))] s.heap.size) = A at hD ⊢
  have hA : ∀ q : Nat, s.heap.size ≤ q → A q := fun q h => by rw [← hAe]; exact Or.inr h
  have hS : va_S A s.heap s.heap [] := va_S.rf
  have hl := lv_entry ([.ref y, .int p0, .int p1, .int p2, .int p3]) (n := 5) (Nat.le_of_ble_eq_true rfl)
  rw [lg_entry_eq]
  generalize (lg_sl ([.ref y, .int p0, .int p1, .int p2, .int p3]) ++ List.replicate (5 - (lg_sl ([.ref y, .int p0, .int p1, .int p2, .int p3])).length) Slot.unset).toArray = ls at hl ⊢
  have hl : lv_has ls 5 [(0, .ref y), (1, .int p0), (2, .int p1), (3, .int p2), (4, .int p3)] := hl
  have hP : va_P g vwCl [(y, .inr (11, mO a)), ((a 17), .inl (cI, 25, .inl (fun _ => 0))), ((a 16), .inl (cI, 5, .inl (fun _ => 0)))] s.heap := hP
  refine lv_aload_n hx hb dX12_step_0 rfl (lv_at hl 0 rfl) ?_
  refine lv_iconst (v := 0) hx hb dX12_step_1 (by decide) ?_
  refine va_put (D := g) (ci := 11) (v := .int 0) (ty := .int) (C := RX12) (T := TX12) (N := 56) hx hb hts iX12 tyX12 tyX12_ok nmX12 hown hK hP hD hS 0 rfl rfl 0 (by decide) (hts (.fieldLink RX12 107 "CardsAtYuleModel" "thrown" "I") (List.mem_cons_of_mem _ (List.mem_append_left _ (List.mem_of_getElem? (i := 0) rfl)))) (fun _ h9 => h9) rfl (by decide +kernel) rfl rfl (Nat.le_of_ble_eq_true rfl) dX12_step_2 (fun H locs hP hD hS => ?_)
  have hP : va_P g vwCl [(y, .inr (11, mO a)), ((a 17), .inl (cI, 25, .inl (fun _ => 0))), ((a 16), .inl (cI, 5, .inl (fun _ => 0)))] H := hP
  have hD : va_D A [(y, .inr (11, mO a)), ((a 17), .inl (cI, 25, .inl (fun _ => 0))), ((a 16), .inl (cI, 5, .inl (fun _ => 0)))] := hD
  refine lv_aload_n hx hb dX12_step_5 rfl (lv_at hl 0 rfl) ?_
  refine lv_iload_n hx hb dX12_step_6 rfl (lv_at hl 1 rfl) ?_
  refine lv_iload_n hx hb dX12_step_7 rfl (lv_at hl 2 rfl) ?_
  refine lv_iload_n hx hb dX12_step_8 rfl (lv_at hl 3 rfl) ?_
  refine ro_i (va_runV (As := [.int p0, .int p1, .int p2]) (rest := []) ⟨hx, hb, hml, hown, hts⟩ (k_X12_isWill l g cI cJ cB cZ cL y a p0 p1 p2 ip0 ip1 ip2 H.size hzp0 hzp1 hzp2) (cwV 3 hts (goodIn_app (g_4 (List.mem_cons_of_mem _ (List.mem_append_left _ (List.mem_of_getElem? (i := 1) rfl))) (List.mem_cons_of_mem _ (List.mem_append_left _ (List.mem_of_getElem? (i := 2) rfl))) (List.mem_cons_of_mem _ (List.mem_append_left _ (List.mem_of_getElem? (i := 3) rfl))) (List.mem_cons_of_mem _ (List.mem_append_left _ (List.mem_of_getElem? (i := 4) rfl))) (by decide +kernel)) (goodIn_sub (fun _ h => List.mem_cons_of_mem _ (List.mem_append_right _ (List.mem_append_left _ h))) good_v_X12_isWill)) rfl rfl rfl (by decide +kernel) ⟨Nat.le_of_ble_eq_true rfl, Nat.le_of_ble_eq_true rfl⟩) (pv_RO (q := (RX12, TX12, 56)) (ci := 11) (q0 := 0) (wc := [(y, .inr (11, mO a)), ((a 17), .inl (cI, 25, .inl (fun _ => 0))), ((a 16), .inl (cI, 5, .inl (fun _ => 0)))]) hK hP [0, 1, 2] rfl rfl rfl) rfl rfl hl.1 rfl (lv_room (Nat.le_of_ble_eq_true rfl)) dX12_step_9 ⟨Nat.le_of_ble_eq_true rfl, Nat.le_of_ble_eq_true rfl⟩) hS hA hP (fun r1 u2 H locs hw3 hP hS => ?_)
  subst hw3
  refine lv_if_eq (tgt := 28) hx hb dX12_step_12 (by decide) (fun _ => ?_) (fun c4 => absurd c4 (by decide))
  refine lv_bipush (v := (-2)) hx hb dX12_step_28 (by decide) ?_
  have hP9 := hP.sub (ws' := []) [] rfl
  have hD9 := hD.sub (ws' := []) [] (by decide) rfl
  exact W.iret (v := (-2)) hx hb hr (fun t ht hW => ⟨⟨(-2), (), rfl, rfl, by rw [ht]; exact hP9, va_K.moved hW.alike hK, hD9⟩, hS.F ht⟩) hS.2.2 dX12_step_30
def v_X12_keeping : List Cond := .code yX12_keeping cX12_keeping 4 (some .int) :: (([.fieldLink RX12 107 "CardsAtYuleModel" "thrown" "I", .methodLink RX12 487 yX12_isWill, .instanceMethod yX12_isWill, .selects RX12 yX12_isWill yX12_isWill, .initialized RX12] : List Cond) ++ (v_X12_isWill ++ (wsX120 ++ ([] : List Cond))))
theorem good_v_X12_keeping : v_X12_keeping.all goodWord = true := ga_c (by decide +kernel) (ga_a (by decide +kernel) (ga_a good_v_X12_isWill (ga_a good_wsX120 rfl)))
set_option maxHeartbeats 4000000 in
set_option maxRecDepth 100000 in
theorem k_X12_keeping (l : Launch) (g : va_G) (cI cJ cB cZ cL : ClassId) (y : Nat) (a : Nat → Nat) (p0 : Int32) (p1 : Int32) (p2 : Int32) (ip0 : Int) (ip1 : Int) (ip2 : Int) (sz : Nat) (hzp0 : p0.toInt = ip0) (hzp1 : p1.toInt = ip1) (hzp2 : p2.toInt = ip2) : Met l yX12_keeping v_X12_keeping ({ frames := 3, cells := 0, slots := 0, locals := 69 }) (va_Pc [.ref y, .int p0, .int p1, .int p2] (pRW g (tyT cI cJ cB cZ cL) [(y, .inr (11, mO a)), ((a 17), .inl (cI, 25, .inl (fun _ => 0))), ((a 16), .inl (cI, 5, .inl (fun _ => 0)))] sz)) (va_Qi (fun (r : Int32) (u : Unit) => r = (-2)) (fun (_ : Unit) (t : State) => bRW g (tyT cI cJ cB cZ cL) (va_A [(y, .inr (11, mO a)), ((a 17), .inl (cI, 25, .inl (fun _ => 0))), ((a 16), .inl (cI, 5, .inl (fun _ => 0)))] sz) [] t) (va_A [(y, .inr (11, mO a)), ((a 17), .inl (cI, 25, .inl (fun _ => 0))), ((a 16), .inl (cI, 5, .inl (fun _ => 0)))] sz)) 0 0 (va_A [(y, .inr (11, mO a)), ((a 17), .inl (cI, 25, .inl (fun _ => 0))), ((a 16), .inl (cI, 5, .inl (fun _ => 0)))] sz) := by
  refine Met.ofW (cc := cX12_keeping) (maxL := 4) (ret := (some .int)) (by decide) rfl ?_
  intro p e s m args below meth c s₁ B hml hv
  obtain ⟨rfl, hsz, hP, hK, hD0⟩ := hv
  have hx := B.exec
  have hb := B.bytes
  have hr := B.returns
  have hts := atoms_spec (ws := v_X12_keeping) B.pre
  have hown : s.vm.findClass RX12 = some m.cls := findClass_of_methodNamed B.named
  have hlocks := B.notSynchronized
  subst hsz
  have iX12 : ∀ w ∈ wsX120, w ∈ v_X12_keeping := (fun _ h => List.mem_cons_of_mem _ (List.mem_append_right _ (List.mem_append_right _ (List.mem_append_left _ h))))
  have hD := hD0.self (sz := s.heap.size)
  generalize hAe : (va_A [(y, .inr (11, mO a)), ((a 17), .inl (cI, 25, .inl (fun _ => 0))), ((a 16), .inl (cI, 5, .inl (fun _ => 0)))] s.heap.size) = A at hD ⊢
  have hA : ∀ q : Nat, s.heap.size ≤ q → A q := fun q h => by rw [← hAe]; exact Or.inr h
  have hS : va_S A s.heap s.heap [] := va_S.rf
  have hl := lv_entry ([.ref y, .int p0, .int p1, .int p2]) (n := 4) (Nat.le_of_ble_eq_true rfl)
  rw [lg_entry_eq]
  generalize (lg_sl ([.ref y, .int p0, .int p1, .int p2]) ++ List.replicate (4 - (lg_sl ([.ref y, .int p0, .int p1, .int p2])).length) Slot.unset).toArray = ls at hl ⊢
  have hl : lv_has ls 4 [(0, .ref y), (1, .int p0), (2, .int p1), (3, .int p2)] := hl
  have hP : va_P g vwCl [(y, .inr (11, mO a)), ((a 17), .inl (cI, 25, .inl (fun _ => 0))), ((a 16), .inl (cI, 5, .inl (fun _ => 0)))] s.heap := hP
  refine lv_aload_n hx hb dX12_keeping_0 rfl (lv_at hl 0 rfl) ?_
  refine lv_iconst (v := 0) hx hb dX12_keeping_1 (by decide) ?_
  refine va_put (D := g) (ci := 11) (v := .int 0) (ty := .int) (C := RX12) (T := TX12) (N := 56) hx hb hts iX12 tyX12 tyX12_ok nmX12 hown hK hP hD hS 0 rfl rfl 0 (by decide) (hts (.fieldLink RX12 107 "CardsAtYuleModel" "thrown" "I") (List.mem_cons_of_mem _ (List.mem_append_left _ (List.mem_of_getElem? (i := 0) rfl)))) (fun _ h9 => h9) rfl (by decide +kernel) rfl rfl (Nat.le_of_ble_eq_true rfl) dX12_keeping_2 (fun H locs hP hD hS => ?_)
  have hP : va_P g vwCl [(y, .inr (11, mO a)), ((a 17), .inl (cI, 25, .inl (fun _ => 0))), ((a 16), .inl (cI, 5, .inl (fun _ => 0)))] H := hP
  have hD : va_D A [(y, .inr (11, mO a)), ((a 17), .inl (cI, 25, .inl (fun _ => 0))), ((a 16), .inl (cI, 5, .inl (fun _ => 0)))] := hD
  refine lv_aload_n hx hb dX12_keeping_5 rfl (lv_at hl 0 rfl) ?_
  refine lv_iload_n hx hb dX12_keeping_6 rfl (lv_at hl 1 rfl) ?_
  refine lv_iload_n hx hb dX12_keeping_7 rfl (lv_at hl 2 rfl) ?_
  refine lv_iload_n hx hb dX12_keeping_8 rfl (lv_at hl 3 rfl) ?_
  refine ro_i (va_runV (As := [.int p0, .int p1, .int p2]) (rest := []) ⟨hx, hb, hml, hown, hts⟩ (k_X12_isWill l g cI cJ cB cZ cL y a p0 p1 p2 ip0 ip1 ip2 H.size hzp0 hzp1 hzp2) (cwV 3 hts (goodIn_app (g_4 (List.mem_cons_of_mem _ (List.mem_append_left _ (List.mem_of_getElem? (i := 1) rfl))) (List.mem_cons_of_mem _ (List.mem_append_left _ (List.mem_of_getElem? (i := 2) rfl))) (List.mem_cons_of_mem _ (List.mem_append_left _ (List.mem_of_getElem? (i := 3) rfl))) (List.mem_cons_of_mem _ (List.mem_append_left _ (List.mem_of_getElem? (i := 4) rfl))) (by decide +kernel)) (goodIn_sub (fun _ h => List.mem_cons_of_mem _ (List.mem_append_right _ (List.mem_append_left _ h))) good_v_X12_isWill)) rfl rfl rfl (by decide +kernel) ⟨Nat.le_of_ble_eq_true rfl, Nat.le_of_ble_eq_true rfl⟩) (pv_RO (q := (RX12, TX12, 56)) (ci := 11) (q0 := 0) (wc := [(y, .inr (11, mO a)), ((a 17), .inl (cI, 25, .inl (fun _ => 0))), ((a 16), .inl (cI, 5, .inl (fun _ => 0)))]) hK hP [0, 1, 2] rfl rfl rfl) rfl rfl hl.1 rfl (lv_room (Nat.le_of_ble_eq_true rfl)) dX12_keeping_9 ⟨Nat.le_of_ble_eq_true rfl, Nat.le_of_ble_eq_true rfl⟩) hS hA hP (fun r1 u2 H locs hw3 hP hS => ?_)
  subst hw3
  refine lv_if_eq (tgt := 26) hx hb dX12_keeping_12 (by decide) (fun _ => ?_) (fun c4 => absurd c4 (by decide))
  refine lv_bipush (v := (-2)) hx hb dX12_keeping_26 (by decide) ?_
  have hP9 := hP.sub (ws' := []) [] rfl
  have hD9 := hD.sub (ws' := []) [] (by decide) rfl
  exact W.iret (v := (-2)) hx hb hr (fun t ht hW => ⟨⟨(-2), (), rfl, rfl, by rw [ht]; exact hP9, va_K.moved hW.alike hK, hD9⟩, hS.F ht⟩) hS.2.2 dX12_keeping_28
def v_X12_pen : List Cond := .code yX12_pen cX12_pen 5 (some .int) :: (([.fieldLink RX12 107 "CardsAtYuleModel" "thrown" "I", .methodLink RX12 487 yX12_isWill, .instanceMethod yX12_isWill, .selects RX12 yX12_isWill yX12_isWill, .initialized RX12] : List Cond) ++ (v_X12_isWill ++ (wsX120 ++ ([] : List Cond))))
theorem good_v_X12_pen : v_X12_pen.all goodWord = true := ga_c (by decide +kernel) (ga_a (by decide +kernel) (ga_a good_v_X12_isWill (ga_a good_wsX120 rfl)))
set_option maxHeartbeats 4000000 in
set_option maxRecDepth 100000 in
theorem k_X12_pen (l : Launch) (g : va_G) (cI cJ cB cZ cL : ClassId) (y : Nat) (a : Nat → Nat) (p0 : Int32) (p1 : Int32) (p2 : Int32) (p3 : Int32) (ip0 : Int) (ip1 : Int) (ip2 : Int) (ip3 : Int) (sz : Nat) (hzp0 : p0.toInt = ip0) (hzp1 : p1.toInt = ip1) (hzp2 : p2.toInt = ip2) (hzp3 : p3.toInt = ip3) : Met l yX12_pen v_X12_pen ({ frames := 3, cells := 0, slots := 0, locals := 69 }) (va_Pc [.ref y, .int p0, .int p1, .int p2, .int p3] (pRW g (tyT cI cJ cB cZ cL) [(y, .inr (11, mO a)), ((a 17), .inl (cI, 25, .inl (fun _ => 0))), ((a 16), .inl (cI, 5, .inl (fun _ => 0)))] sz)) (va_Qi (fun (r : Int32) (u : Unit) => r = (-2)) (fun (_ : Unit) (t : State) => bRW g (tyT cI cJ cB cZ cL) (va_A [(y, .inr (11, mO a)), ((a 17), .inl (cI, 25, .inl (fun _ => 0))), ((a 16), .inl (cI, 5, .inl (fun _ => 0)))] sz) [] t) (va_A [(y, .inr (11, mO a)), ((a 17), .inl (cI, 25, .inl (fun _ => 0))), ((a 16), .inl (cI, 5, .inl (fun _ => 0)))] sz)) 0 0 (va_A [(y, .inr (11, mO a)), ((a 17), .inl (cI, 25, .inl (fun _ => 0))), ((a 16), .inl (cI, 5, .inl (fun _ => 0)))] sz) := by
  refine Met.ofW (cc := cX12_pen) (maxL := 5) (ret := (some .int)) (by decide) rfl ?_
  intro p e s m args below meth c s₁ B hml hv
  obtain ⟨rfl, hsz, hP, hK, hD0⟩ := hv
  have hx := B.exec
  have hb := B.bytes
  have hr := B.returns
  have hts := atoms_spec (ws := v_X12_pen) B.pre
  have hown : s.vm.findClass RX12 = some m.cls := findClass_of_methodNamed B.named
  have hlocks := B.notSynchronized
  subst hsz
  have iX12 : ∀ w ∈ wsX120, w ∈ v_X12_pen := (fun _ h => List.mem_cons_of_mem _ (List.mem_append_right _ (List.mem_append_right _ (List.mem_append_left _ h))))
  have hD := hD0.self (sz := s.heap.size)
  generalize hAe : (va_A [(y, .inr (11, mO a)), ((a 17), .inl (cI, 25, .inl (fun _ => 0))), ((a 16), .inl (cI, 5, .inl (fun _ => 0)))] s.heap.size) = A at hD ⊢
  have hA : ∀ q : Nat, s.heap.size ≤ q → A q := fun q h => by rw [← hAe]; exact Or.inr h
  have hS : va_S A s.heap s.heap [] := va_S.rf
  have hl := lv_entry ([.ref y, .int p0, .int p1, .int p2, .int p3]) (n := 5) (Nat.le_of_ble_eq_true rfl)
  rw [lg_entry_eq]
  generalize (lg_sl ([.ref y, .int p0, .int p1, .int p2, .int p3]) ++ List.replicate (5 - (lg_sl ([.ref y, .int p0, .int p1, .int p2, .int p3])).length) Slot.unset).toArray = ls at hl ⊢
  have hl : lv_has ls 5 [(0, .ref y), (1, .int p0), (2, .int p1), (3, .int p2), (4, .int p3)] := hl
  have hP : va_P g vwCl [(y, .inr (11, mO a)), ((a 17), .inl (cI, 25, .inl (fun _ => 0))), ((a 16), .inl (cI, 5, .inl (fun _ => 0)))] s.heap := hP
  refine lv_aload_n hx hb dX12_pen_0 rfl (lv_at hl 0 rfl) ?_
  refine lv_iconst (v := 0) hx hb dX12_pen_1 (by decide) ?_
  refine va_put (D := g) (ci := 11) (v := .int 0) (ty := .int) (C := RX12) (T := TX12) (N := 56) hx hb hts iX12 tyX12 tyX12_ok nmX12 hown hK hP hD hS 0 rfl rfl 0 (by decide) (hts (.fieldLink RX12 107 "CardsAtYuleModel" "thrown" "I") (List.mem_cons_of_mem _ (List.mem_append_left _ (List.mem_of_getElem? (i := 0) rfl)))) (fun _ h9 => h9) rfl (by decide +kernel) rfl rfl (Nat.le_of_ble_eq_true rfl) dX12_pen_2 (fun H locs hP hD hS => ?_)
  have hP : va_P g vwCl [(y, .inr (11, mO a)), ((a 17), .inl (cI, 25, .inl (fun _ => 0))), ((a 16), .inl (cI, 5, .inl (fun _ => 0)))] H := hP
  have hD : va_D A [(y, .inr (11, mO a)), ((a 17), .inl (cI, 25, .inl (fun _ => 0))), ((a 16), .inl (cI, 5, .inl (fun _ => 0)))] := hD
  refine lv_aload_n hx hb dX12_pen_5 rfl (lv_at hl 0 rfl) ?_
  refine lv_iload_n hx hb dX12_pen_6 rfl (lv_at hl 1 rfl) ?_
  refine lv_iload_n hx hb dX12_pen_7 rfl (lv_at hl 2 rfl) ?_
  refine lv_iload_n hx hb dX12_pen_8 rfl (lv_at hl 3 rfl) ?_
  refine ro_i (va_runV (As := [.int p0, .int p1, .int p2]) (rest := []) ⟨hx, hb, hml, hown, hts⟩ (k_X12_isWill l g cI cJ cB cZ cL y a p0 p1 p2 ip0 ip1 ip2 H.size hzp0 hzp1 hzp2) (cwV 3 hts (goodIn_app (g_4 (List.mem_cons_of_mem _ (List.mem_append_left _ (List.mem_of_getElem? (i := 1) rfl))) (List.mem_cons_of_mem _ (List.mem_append_left _ (List.mem_of_getElem? (i := 2) rfl))) (List.mem_cons_of_mem _ (List.mem_append_left _ (List.mem_of_getElem? (i := 3) rfl))) (List.mem_cons_of_mem _ (List.mem_append_left _ (List.mem_of_getElem? (i := 4) rfl))) (by decide +kernel)) (goodIn_sub (fun _ h => List.mem_cons_of_mem _ (List.mem_append_right _ (List.mem_append_left _ h))) good_v_X12_isWill)) rfl rfl rfl (by decide +kernel) ⟨Nat.le_of_ble_eq_true rfl, Nat.le_of_ble_eq_true rfl⟩) (pv_RO (q := (RX12, TX12, 56)) (ci := 11) (q0 := 0) (wc := [(y, .inr (11, mO a)), ((a 17), .inl (cI, 25, .inl (fun _ => 0))), ((a 16), .inl (cI, 5, .inl (fun _ => 0)))]) hK hP [0, 1, 2] rfl rfl rfl) rfl rfl hl.1 rfl (lv_room (Nat.le_of_ble_eq_true rfl)) dX12_pen_9 ⟨Nat.le_of_ble_eq_true rfl, Nat.le_of_ble_eq_true rfl⟩) hS hA hP (fun r1 u2 H locs hw3 hP hS => ?_)
  subst hw3
  refine lv_if_eq (tgt := 28) hx hb dX12_pen_12 (by decide) (fun _ => ?_) (fun c4 => absurd c4 (by decide))
  refine lv_bipush (v := (-2)) hx hb dX12_pen_28 (by decide) ?_
  have hP9 := hP.sub (ws' := []) [] rfl
  have hD9 := hD.sub (ws' := []) [] (by decide) rfl
  exact W.iret (v := (-2)) hx hb hr (fun t ht hW => ⟨⟨(-2), (), rfl, rfl, by rw [ht]; exact hP9, va_K.moved hW.alike hK, hD9⟩, hS.F ht⟩) hS.2.2 dX12_pen_30
def v_X12_quit : List Cond := .code yX12_quit cX12_quit 4 (some .int) :: (([.fieldLink RX12 107 "CardsAtYuleModel" "thrown" "I", .methodLink RX12 281 yX12_isPair, .instanceMethod yX12_isPair, .selects RX12 yX12_isPair yX12_isPair, .initialized RX12] : List Cond) ++ (v_X12_isPair ++ (wsX120 ++ ([] : List Cond))))
theorem good_v_X12_quit : v_X12_quit.all goodWord = true := ga_c (by decide +kernel) (ga_a (by decide +kernel) (ga_a good_v_X12_isPair (ga_a good_wsX120 rfl)))
set_option maxHeartbeats 4000000 in
set_option maxRecDepth 100000 in
theorem k_X12_quit (l : Launch) (g : va_G) (cI cJ cB cZ cL : ClassId) (y : Nat) (a : Nat → Nat) (p0 : Int32) (p1 : Int32) (p2 : Int32) (ip0 : Int) (ip1 : Int) (ip2 : Int) (sz : Nat) (hzp0 : p0.toInt = ip0) (hzp1 : p1.toInt = ip1) (hzp2 : p2.toInt = ip2) : Met l yX12_quit v_X12_quit ({ frames := 2, cells := 0, slots := 0, locals := 46 }) (va_Pc [.ref y, .int p0, .int p1, .int p2] (pRW g (tyT cI cJ cB cZ cL) [(y, .inr (11, mO a)), ((a 17), .inl (cI, 25, .inl (fun _ => 0))), ((a 16), .inl (cI, 5, .inl (fun _ => 0)))] sz)) (va_Qi (fun (r : Int32) (u : Unit) => r = (-2)) (fun (_ : Unit) (t : State) => bRW g (tyT cI cJ cB cZ cL) (va_A [(y, .inr (11, mO a)), ((a 17), .inl (cI, 25, .inl (fun _ => 0))), ((a 16), .inl (cI, 5, .inl (fun _ => 0)))] sz) [] t) (va_A [(y, .inr (11, mO a)), ((a 17), .inl (cI, 25, .inl (fun _ => 0))), ((a 16), .inl (cI, 5, .inl (fun _ => 0)))] sz)) 0 0 (va_A [(y, .inr (11, mO a)), ((a 17), .inl (cI, 25, .inl (fun _ => 0))), ((a 16), .inl (cI, 5, .inl (fun _ => 0)))] sz) := by
  refine Met.ofW (cc := cX12_quit) (maxL := 4) (ret := (some .int)) (by decide) rfl ?_
  intro p e s m args below meth c s₁ B hml hv
  obtain ⟨rfl, hsz, hP, hK, hD0⟩ := hv
  have hx := B.exec
  have hb := B.bytes
  have hr := B.returns
  have hts := atoms_spec (ws := v_X12_quit) B.pre
  have hown : s.vm.findClass RX12 = some m.cls := findClass_of_methodNamed B.named
  have hlocks := B.notSynchronized
  subst hsz
  have iX12 : ∀ w ∈ wsX120, w ∈ v_X12_quit := (fun _ h => List.mem_cons_of_mem _ (List.mem_append_right _ (List.mem_append_right _ (List.mem_append_left _ h))))
  have hD := hD0.self (sz := s.heap.size)
  generalize hAe : (va_A [(y, .inr (11, mO a)), ((a 17), .inl (cI, 25, .inl (fun _ => 0))), ((a 16), .inl (cI, 5, .inl (fun _ => 0)))] s.heap.size) = A at hD ⊢
  have hA : ∀ q : Nat, s.heap.size ≤ q → A q := fun q h => by rw [← hAe]; exact Or.inr h
  have hS : va_S A s.heap s.heap [] := va_S.rf
  have hl := lv_entry ([.ref y, .int p0, .int p1, .int p2]) (n := 4) (Nat.le_of_ble_eq_true rfl)
  rw [lg_entry_eq]
  generalize (lg_sl ([.ref y, .int p0, .int p1, .int p2]) ++ List.replicate (4 - (lg_sl ([.ref y, .int p0, .int p1, .int p2])).length) Slot.unset).toArray = ls at hl ⊢
  have hl : lv_has ls 4 [(0, .ref y), (1, .int p0), (2, .int p1), (3, .int p2)] := hl
  have hP : va_P g vwCl [(y, .inr (11, mO a)), ((a 17), .inl (cI, 25, .inl (fun _ => 0))), ((a 16), .inl (cI, 5, .inl (fun _ => 0)))] s.heap := hP
  refine lv_aload_n hx hb dX12_quit_0 rfl (lv_at hl 0 rfl) ?_
  refine lv_iconst (v := 0) hx hb dX12_quit_1 (by decide) ?_
  refine va_put (D := g) (ci := 11) (v := .int 0) (ty := .int) (C := RX12) (T := TX12) (N := 56) hx hb hts iX12 tyX12 tyX12_ok nmX12 hown hK hP hD hS 0 rfl rfl 0 (by decide) (hts (.fieldLink RX12 107 "CardsAtYuleModel" "thrown" "I") (List.mem_cons_of_mem _ (List.mem_append_left _ (List.mem_of_getElem? (i := 0) rfl)))) (fun _ h9 => h9) rfl (by decide +kernel) rfl rfl (Nat.le_of_ble_eq_true rfl) dX12_quit_2 (fun H locs hP hD hS => ?_)
  have hP : va_P g vwCl [(y, .inr (11, mO a)), ((a 17), .inl (cI, 25, .inl (fun _ => 0))), ((a 16), .inl (cI, 5, .inl (fun _ => 0)))] H := hP
  have hD : va_D A [(y, .inr (11, mO a)), ((a 17), .inl (cI, 25, .inl (fun _ => 0))), ((a 16), .inl (cI, 5, .inl (fun _ => 0)))] := hD
  refine lv_aload_n hx hb dX12_quit_5 rfl (lv_at hl 0 rfl) ?_
  refine lv_iload_n hx hb dX12_quit_6 rfl (lv_at hl 1 rfl) ?_
  refine ro_i (va_runV (As := [.int p0]) (rest := []) ⟨hx, hb, hml, hown, hts⟩ (k_X12_isPair l g cI cJ cB cZ cL y a p0 ip0 H.size hzp0) (cwV 1 hts (goodIn_app (g_4 (List.mem_cons_of_mem _ (List.mem_append_left _ (List.mem_of_getElem? (i := 1) rfl))) (List.mem_cons_of_mem _ (List.mem_append_left _ (List.mem_of_getElem? (i := 2) rfl))) (List.mem_cons_of_mem _ (List.mem_append_left _ (List.mem_of_getElem? (i := 3) rfl))) (List.mem_cons_of_mem _ (List.mem_append_left _ (List.mem_of_getElem? (i := 4) rfl))) (by decide +kernel)) (goodIn_sub (fun _ h => List.mem_cons_of_mem _ (List.mem_append_right _ (List.mem_append_left _ h))) good_v_X12_isPair)) rfl rfl rfl (by decide +kernel) ⟨Nat.le_of_ble_eq_true rfl, Nat.le_of_ble_eq_true rfl⟩) (pv_RO (q := (RX12, TX12, 56)) (ci := 11) (q0 := 0) (wc := [(y, .inr (11, mO a)), ((a 17), .inl (cI, 25, .inl (fun _ => 0))), ((a 16), .inl (cI, 5, .inl (fun _ => 0)))]) hK hP [0, 1, 2] rfl rfl rfl) rfl rfl hl.1 rfl (lv_room (Nat.le_of_ble_eq_true rfl)) dX12_quit_7 ⟨Nat.le_of_ble_eq_true rfl, Nat.le_of_ble_eq_true rfl⟩) hS hA hP (fun r1 u2 H locs hw3 hP hS => ?_)
  subst hw3
  refine lv_if_eq (tgt := 39) hx hb dX12_quit_10 (by decide) (fun _ => ?_) (fun c4 => absurd c4 (by decide))
  refine lv_bipush (v := (-2)) hx hb dX12_quit_39 (by decide) ?_
  have hP9 := hP.sub (ws' := []) [] rfl
  have hD9 := hD.sub (ws' := []) [] (by decide) rfl
  exact W.iret (v := (-2)) hx hb hr (fun t ht hW => ⟨⟨(-2), (), rfl, rfl, by rw [ht]; exact hP9, va_K.moved hW.alike hK, hD9⟩, hS.F ht⟩) hS.2.2 dX12_quit_41
def v_X12_when : List Cond := .code yX12_when cX12_when 5 (some .int) :: (([.fieldLink RX12 107 "CardsAtYuleModel" "thrown" "I", .methodLink RX12 281 yX12_isPair, .instanceMethod yX12_isPair, .selects RX12 yX12_isPair yX12_isPair, .initialized RX12] : List Cond) ++ (v_X12_isPair ++ (wsX120 ++ ([] : List Cond))))
theorem good_v_X12_when : v_X12_when.all goodWord = true := ga_c (by decide +kernel) (ga_a (by decide +kernel) (ga_a good_v_X12_isPair (ga_a good_wsX120 rfl)))
set_option maxHeartbeats 4000000 in
set_option maxRecDepth 100000 in
theorem k_X12_when (l : Launch) (g : va_G) (cI cJ cB cZ cL : ClassId) (y : Nat) (a : Nat → Nat) (p0 : Int32) (p1 : Int32) (ip0 : Int) (ip1 : Int) (sz : Nat) (hzp0 : p0.toInt = ip0) (hzp1 : p1.toInt = ip1) : Met l yX12_when v_X12_when ({ frames := 2, cells := 0, slots := 0, locals := 46 }) (va_Pc [.ref y, .int p0, .int p1] (pRW g (tyT cI cJ cB cZ cL) [(y, .inr (11, mO a)), ((a 17), .inl (cI, 25, .inl (fun _ => 0))), ((a 16), .inl (cI, 5, .inl (fun _ => 0)))] sz)) (va_Qi (fun (r : Int32) (u : Unit) => r = (-2)) (fun (_ : Unit) (t : State) => bRW g (tyT cI cJ cB cZ cL) (va_A [(y, .inr (11, mO a)), ((a 17), .inl (cI, 25, .inl (fun _ => 0))), ((a 16), .inl (cI, 5, .inl (fun _ => 0)))] sz) [] t) (va_A [(y, .inr (11, mO a)), ((a 17), .inl (cI, 25, .inl (fun _ => 0))), ((a 16), .inl (cI, 5, .inl (fun _ => 0)))] sz)) 0 0 (va_A [(y, .inr (11, mO a)), ((a 17), .inl (cI, 25, .inl (fun _ => 0))), ((a 16), .inl (cI, 5, .inl (fun _ => 0)))] sz) := by
  refine Met.ofW (cc := cX12_when) (maxL := 5) (ret := (some .int)) (by decide) rfl ?_
  intro p e s m args below meth c s₁ B hml hv
  obtain ⟨rfl, hsz, hP, hK, hD0⟩ := hv
  have hx := B.exec
  have hb := B.bytes
  have hr := B.returns
  have hts := atoms_spec (ws := v_X12_when) B.pre
  have hown : s.vm.findClass RX12 = some m.cls := findClass_of_methodNamed B.named
  have hlocks := B.notSynchronized
  subst hsz
  have iX12 : ∀ w ∈ wsX120, w ∈ v_X12_when := (fun _ h => List.mem_cons_of_mem _ (List.mem_append_right _ (List.mem_append_right _ (List.mem_append_left _ h))))
  have hD := hD0.self (sz := s.heap.size)
  generalize hAe : (va_A [(y, .inr (11, mO a)), ((a 17), .inl (cI, 25, .inl (fun _ => 0))), ((a 16), .inl (cI, 5, .inl (fun _ => 0)))] s.heap.size) = A at hD ⊢
  have hA : ∀ q : Nat, s.heap.size ≤ q → A q := fun q h => by rw [← hAe]; exact Or.inr h
  have hS : va_S A s.heap s.heap [] := va_S.rf
  have hl := lv_entry ([.ref y, .int p0, .int p1]) (n := 5) (Nat.le_of_ble_eq_true rfl)
  rw [lg_entry_eq]
  generalize (lg_sl ([.ref y, .int p0, .int p1]) ++ List.replicate (5 - (lg_sl ([.ref y, .int p0, .int p1])).length) Slot.unset).toArray = ls at hl ⊢
  have hl : lv_has ls 5 [(0, .ref y), (1, .int p0), (2, .int p1)] := hl
  have hP : va_P g vwCl [(y, .inr (11, mO a)), ((a 17), .inl (cI, 25, .inl (fun _ => 0))), ((a 16), .inl (cI, 5, .inl (fun _ => 0)))] s.heap := hP
  refine lv_aload_n hx hb dX12_when_0 rfl (lv_at hl 0 rfl) ?_
  refine lv_iconst (v := 0) hx hb dX12_when_1 (by decide) ?_
  refine va_put (D := g) (ci := 11) (v := .int 0) (ty := .int) (C := RX12) (T := TX12) (N := 56) hx hb hts iX12 tyX12 tyX12_ok nmX12 hown hK hP hD hS 0 rfl rfl 0 (by decide) (hts (.fieldLink RX12 107 "CardsAtYuleModel" "thrown" "I") (List.mem_cons_of_mem _ (List.mem_append_left _ (List.mem_of_getElem? (i := 0) rfl)))) (fun _ h9 => h9) rfl (by decide +kernel) rfl rfl (Nat.le_of_ble_eq_true rfl) dX12_when_2 (fun H locs hP hD hS => ?_)
  have hP : va_P g vwCl [(y, .inr (11, mO a)), ((a 17), .inl (cI, 25, .inl (fun _ => 0))), ((a 16), .inl (cI, 5, .inl (fun _ => 0)))] H := hP
  have hD : va_D A [(y, .inr (11, mO a)), ((a 17), .inl (cI, 25, .inl (fun _ => 0))), ((a 16), .inl (cI, 5, .inl (fun _ => 0)))] := hD
  refine lv_aload_n hx hb dX12_when_5 rfl (lv_at hl 0 rfl) ?_
  refine lv_iload_n hx hb dX12_when_6 rfl (lv_at hl 1 rfl) ?_
  refine ro_i (va_runV (As := [.int p0]) (rest := []) ⟨hx, hb, hml, hown, hts⟩ (k_X12_isPair l g cI cJ cB cZ cL y a p0 ip0 H.size hzp0) (cwV 1 hts (goodIn_app (g_4 (List.mem_cons_of_mem _ (List.mem_append_left _ (List.mem_of_getElem? (i := 1) rfl))) (List.mem_cons_of_mem _ (List.mem_append_left _ (List.mem_of_getElem? (i := 2) rfl))) (List.mem_cons_of_mem _ (List.mem_append_left _ (List.mem_of_getElem? (i := 3) rfl))) (List.mem_cons_of_mem _ (List.mem_append_left _ (List.mem_of_getElem? (i := 4) rfl))) (by decide +kernel)) (goodIn_sub (fun _ h => List.mem_cons_of_mem _ (List.mem_append_right _ (List.mem_append_left _ h))) good_v_X12_isPair)) rfl rfl rfl (by decide +kernel) ⟨Nat.le_of_ble_eq_true rfl, Nat.le_of_ble_eq_true rfl⟩) (pv_RO (q := (RX12, TX12, 56)) (ci := 11) (q0 := 0) (wc := [(y, .inr (11, mO a)), ((a 17), .inl (cI, 25, .inl (fun _ => 0))), ((a 16), .inl (cI, 5, .inl (fun _ => 0)))]) hK hP [0, 1, 2] rfl rfl rfl) rfl rfl hl.1 rfl (lv_room (Nat.le_of_ble_eq_true rfl)) dX12_when_7 ⟨Nat.le_of_ble_eq_true rfl, Nat.le_of_ble_eq_true rfl⟩) hS hA hP (fun r1 u2 H locs hw3 hP hS => ?_)
  subst hw3
  refine lv_if_eq (tgt := 20) hx hb dX12_when_10 (by decide) (fun _ => ?_) (fun c4 => absurd c4 (by decide))
  refine lv_bipush (v := (-2)) hx hb dX12_when_20 (by decide) ?_
  have hP9 := hP.sub (ws' := []) [] rfl
  have hD9 := hD.sub (ws' := []) [] (by decide) rfl
  exact W.iret (v := (-2)) hx hb hr (fun t ht hW => ⟨⟨(-2), (), rfl, rfl, by rw [ht]; exact hP9, va_K.moved hW.alike hK, hD9⟩, hS.F ht⟩) hS.2.2 dX12_when_22
def v_X12_best : List Cond := .code yX12_best cX12_best 2 (some .int) :: (([.fieldLink RX12 107 "CardsAtYuleModel" "thrown" "I", .methodLink RX12 276 yX12_isPerson, .instanceMethod yX12_isPerson, .selects RX12 yX12_isPerson yX12_isPerson, .initialized RX12] : List Cond) ++ (v_X12_isPerson ++ (wsX120 ++ ([] : List Cond))))
theorem good_v_X12_best : v_X12_best.all goodWord = true := ga_c (by decide +kernel) (ga_a (by decide +kernel) (ga_a good_v_X12_isPerson (ga_a good_wsX120 rfl)))
set_option maxHeartbeats 4000000 in
set_option maxRecDepth 100000 in
theorem k_X12_best (l : Launch) (g : va_G) (cI cJ cB cZ cL : ClassId) (y : Nat) (a : Nat → Nat) (p0 : Int32) (ip0 : Int) (sz : Nat) (hzp0 : p0.toInt = ip0) : Met l yX12_best v_X12_best ({ frames := 2, cells := 0, slots := 0, locals := 46 }) (va_Pc [.ref y, .int p0] (pRW g (tyT cI cJ cB cZ cL) [(y, .inr (11, mO a)), ((a 17), .inl (cI, 25, .inl (fun _ => 0))), ((a 16), .inl (cI, 5, .inl (fun _ => 0)))] sz)) (va_Qi (fun (r : Int32) (u : Unit) => r = (-2)) (fun (_ : Unit) (t : State) => bRW g (tyT cI cJ cB cZ cL) (va_A [(y, .inr (11, mO a)), ((a 17), .inl (cI, 25, .inl (fun _ => 0))), ((a 16), .inl (cI, 5, .inl (fun _ => 0)))] sz) [] t) (va_A [(y, .inr (11, mO a)), ((a 17), .inl (cI, 25, .inl (fun _ => 0))), ((a 16), .inl (cI, 5, .inl (fun _ => 0)))] sz)) 0 0 (va_A [(y, .inr (11, mO a)), ((a 17), .inl (cI, 25, .inl (fun _ => 0))), ((a 16), .inl (cI, 5, .inl (fun _ => 0)))] sz) := by
  refine Met.ofW (cc := cX12_best) (maxL := 2) (ret := (some .int)) (by decide) rfl ?_
  intro p e s m args below meth c s₁ B hml hv
  obtain ⟨rfl, hsz, hP, hK, hD0⟩ := hv
  have hx := B.exec
  have hb := B.bytes
  have hr := B.returns
  have hts := atoms_spec (ws := v_X12_best) B.pre
  have hown : s.vm.findClass RX12 = some m.cls := findClass_of_methodNamed B.named
  have hlocks := B.notSynchronized
  subst hsz
  have iX12 : ∀ w ∈ wsX120, w ∈ v_X12_best := (fun _ h => List.mem_cons_of_mem _ (List.mem_append_right _ (List.mem_append_right _ (List.mem_append_left _ h))))
  have hD := hD0.self (sz := s.heap.size)
  generalize hAe : (va_A [(y, .inr (11, mO a)), ((a 17), .inl (cI, 25, .inl (fun _ => 0))), ((a 16), .inl (cI, 5, .inl (fun _ => 0)))] s.heap.size) = A at hD ⊢
  have hA : ∀ q : Nat, s.heap.size ≤ q → A q := fun q h => by rw [← hAe]; exact Or.inr h
  have hS : va_S A s.heap s.heap [] := va_S.rf
  have hl := lv_entry ([.ref y, .int p0]) (n := 2) (Nat.le_of_ble_eq_true rfl)
  rw [lg_entry_eq]
  generalize (lg_sl ([.ref y, .int p0]) ++ List.replicate (2 - (lg_sl ([.ref y, .int p0])).length) Slot.unset).toArray = ls at hl ⊢
  have hl : lv_has ls 2 [(0, .ref y), (1, .int p0)] := hl
  have hP : va_P g vwCl [(y, .inr (11, mO a)), ((a 17), .inl (cI, 25, .inl (fun _ => 0))), ((a 16), .inl (cI, 5, .inl (fun _ => 0)))] s.heap := hP
  refine lv_aload_n hx hb dX12_best_0 rfl (lv_at hl 0 rfl) ?_
  refine lv_iconst (v := 0) hx hb dX12_best_1 (by decide) ?_
  refine va_put (D := g) (ci := 11) (v := .int 0) (ty := .int) (C := RX12) (T := TX12) (N := 56) hx hb hts iX12 tyX12 tyX12_ok nmX12 hown hK hP hD hS 0 rfl rfl 0 (by decide) (hts (.fieldLink RX12 107 "CardsAtYuleModel" "thrown" "I") (List.mem_cons_of_mem _ (List.mem_append_left _ (List.mem_of_getElem? (i := 0) rfl)))) (fun _ h9 => h9) rfl (by decide +kernel) rfl rfl (Nat.le_of_ble_eq_true rfl) dX12_best_2 (fun H locs hP hD hS => ?_)
  have hP : va_P g vwCl [(y, .inr (11, mO a)), ((a 17), .inl (cI, 25, .inl (fun _ => 0))), ((a 16), .inl (cI, 5, .inl (fun _ => 0)))] H := hP
  have hD : va_D A [(y, .inr (11, mO a)), ((a 17), .inl (cI, 25, .inl (fun _ => 0))), ((a 16), .inl (cI, 5, .inl (fun _ => 0)))] := hD
  refine lv_aload_n hx hb dX12_best_5 rfl (lv_at hl 0 rfl) ?_
  refine lv_iload_n hx hb dX12_best_6 rfl (lv_at hl 1 rfl) ?_
  refine ro_i (va_runV (As := [.int p0]) (rest := []) ⟨hx, hb, hml, hown, hts⟩ (k_X12_isPerson l g cI cJ cB cZ cL y a p0 ip0 H.size hzp0) (cwV 1 hts (goodIn_app (g_4 (List.mem_cons_of_mem _ (List.mem_append_left _ (List.mem_of_getElem? (i := 1) rfl))) (List.mem_cons_of_mem _ (List.mem_append_left _ (List.mem_of_getElem? (i := 2) rfl))) (List.mem_cons_of_mem _ (List.mem_append_left _ (List.mem_of_getElem? (i := 3) rfl))) (List.mem_cons_of_mem _ (List.mem_append_left _ (List.mem_of_getElem? (i := 4) rfl))) (by decide +kernel)) (goodIn_sub (fun _ h => List.mem_cons_of_mem _ (List.mem_append_right _ (List.mem_append_left _ h))) good_v_X12_isPerson)) rfl rfl rfl (by decide +kernel) ⟨Nat.le_of_ble_eq_true rfl, Nat.le_of_ble_eq_true rfl⟩) (pv_RO (q := (RX12, TX12, 56)) (ci := 11) (q0 := 0) (wc := [(y, .inr (11, mO a)), ((a 17), .inl (cI, 25, .inl (fun _ => 0))), ((a 16), .inl (cI, 5, .inl (fun _ => 0)))]) hK hP [0, 1, 2] rfl rfl rfl) rfl rfl hl.1 rfl (lv_room (Nat.le_of_ble_eq_true rfl)) dX12_best_7 ⟨Nat.le_of_ble_eq_true rfl, Nat.le_of_ble_eq_true rfl⟩) hS hA hP (fun r1 u2 H locs hw3 hP hS => ?_)
  subst hw3
  refine lv_if_eq (tgt := 23) hx hb dX12_best_10 (by decide) (fun _ => ?_) (fun c4 => absurd c4 (by decide))
  refine lv_bipush (v := (-2)) hx hb dX12_best_23 (by decide) ?_
  have hP9 := hP.sub (ws' := []) [] rfl
  have hD9 := hD.sub (ws' := []) [] (by decide) rfl
  exact W.iret (v := (-2)) hx hb hr (fun t ht hW => ⟨⟨(-2), (), rfl, rfl, by rw [ht]; exact hP9, va_K.moved hW.alike hK, hD9⟩, hS.F ht⟩) hS.2.2 dX12_best_25
def v_X12_bestCost : List Cond := .code yX12_bestCost cX12_bestCost 2 (some .int) :: (([.fieldLink RX12 107 "CardsAtYuleModel" "thrown" "I", .methodLink RX12 276 yX12_isPerson, .instanceMethod yX12_isPerson, .selects RX12 yX12_isPerson yX12_isPerson, .initialized RX12] : List Cond) ++ (v_X12_isPerson ++ (wsX120 ++ ([] : List Cond))))
theorem good_v_X12_bestCost : v_X12_bestCost.all goodWord = true := ga_c (by decide +kernel) (ga_a (by decide +kernel) (ga_a good_v_X12_isPerson (ga_a good_wsX120 rfl)))
set_option maxHeartbeats 4000000 in
set_option maxRecDepth 100000 in
theorem k_X12_bestCost (l : Launch) (g : va_G) (cI cJ cB cZ cL : ClassId) (y : Nat) (a : Nat → Nat) (p0 : Int32) (ip0 : Int) (sz : Nat) (hzp0 : p0.toInt = ip0) : Met l yX12_bestCost v_X12_bestCost ({ frames := 2, cells := 0, slots := 0, locals := 46 }) (va_Pc [.ref y, .int p0] (pRW g (tyT cI cJ cB cZ cL) [(y, .inr (11, mO a)), ((a 17), .inl (cI, 25, .inl (fun _ => 0))), ((a 16), .inl (cI, 5, .inl (fun _ => 0)))] sz)) (va_Qi (fun (r : Int32) (u : Unit) => r = (-2)) (fun (_ : Unit) (t : State) => bRW g (tyT cI cJ cB cZ cL) (va_A [(y, .inr (11, mO a)), ((a 17), .inl (cI, 25, .inl (fun _ => 0))), ((a 16), .inl (cI, 5, .inl (fun _ => 0)))] sz) [] t) (va_A [(y, .inr (11, mO a)), ((a 17), .inl (cI, 25, .inl (fun _ => 0))), ((a 16), .inl (cI, 5, .inl (fun _ => 0)))] sz)) 0 0 (va_A [(y, .inr (11, mO a)), ((a 17), .inl (cI, 25, .inl (fun _ => 0))), ((a 16), .inl (cI, 5, .inl (fun _ => 0)))] sz) := by
  refine Met.ofW (cc := cX12_bestCost) (maxL := 2) (ret := (some .int)) (by decide) rfl ?_
  intro p e s m args below meth c s₁ B hml hv
  obtain ⟨rfl, hsz, hP, hK, hD0⟩ := hv
  have hx := B.exec
  have hb := B.bytes
  have hr := B.returns
  have hts := atoms_spec (ws := v_X12_bestCost) B.pre
  have hown : s.vm.findClass RX12 = some m.cls := findClass_of_methodNamed B.named
  have hlocks := B.notSynchronized
  subst hsz
  have iX12 : ∀ w ∈ wsX120, w ∈ v_X12_bestCost := (fun _ h => List.mem_cons_of_mem _ (List.mem_append_right _ (List.mem_append_right _ (List.mem_append_left _ h))))
  have hD := hD0.self (sz := s.heap.size)
  generalize hAe : (va_A [(y, .inr (11, mO a)), ((a 17), .inl (cI, 25, .inl (fun _ => 0))), ((a 16), .inl (cI, 5, .inl (fun _ => 0)))] s.heap.size) = A at hD ⊢
  have hA : ∀ q : Nat, s.heap.size ≤ q → A q := fun q h => by rw [← hAe]; exact Or.inr h
  have hS : va_S A s.heap s.heap [] := va_S.rf
  have hl := lv_entry ([.ref y, .int p0]) (n := 2) (Nat.le_of_ble_eq_true rfl)
  rw [lg_entry_eq]
  generalize (lg_sl ([.ref y, .int p0]) ++ List.replicate (2 - (lg_sl ([.ref y, .int p0])).length) Slot.unset).toArray = ls at hl ⊢
  have hl : lv_has ls 2 [(0, .ref y), (1, .int p0)] := hl
  have hP : va_P g vwCl [(y, .inr (11, mO a)), ((a 17), .inl (cI, 25, .inl (fun _ => 0))), ((a 16), .inl (cI, 5, .inl (fun _ => 0)))] s.heap := hP
  refine lv_aload_n hx hb dX12_bestCost_0 rfl (lv_at hl 0 rfl) ?_
  refine lv_iconst (v := 0) hx hb dX12_bestCost_1 (by decide) ?_
  refine va_put (D := g) (ci := 11) (v := .int 0) (ty := .int) (C := RX12) (T := TX12) (N := 56) hx hb hts iX12 tyX12 tyX12_ok nmX12 hown hK hP hD hS 0 rfl rfl 0 (by decide) (hts (.fieldLink RX12 107 "CardsAtYuleModel" "thrown" "I") (List.mem_cons_of_mem _ (List.mem_append_left _ (List.mem_of_getElem? (i := 0) rfl)))) (fun _ h9 => h9) rfl (by decide +kernel) rfl rfl (Nat.le_of_ble_eq_true rfl) dX12_bestCost_2 (fun H locs hP hD hS => ?_)
  have hP : va_P g vwCl [(y, .inr (11, mO a)), ((a 17), .inl (cI, 25, .inl (fun _ => 0))), ((a 16), .inl (cI, 5, .inl (fun _ => 0)))] H := hP
  have hD : va_D A [(y, .inr (11, mO a)), ((a 17), .inl (cI, 25, .inl (fun _ => 0))), ((a 16), .inl (cI, 5, .inl (fun _ => 0)))] := hD
  refine lv_aload_n hx hb dX12_bestCost_5 rfl (lv_at hl 0 rfl) ?_
  refine lv_iload_n hx hb dX12_bestCost_6 rfl (lv_at hl 1 rfl) ?_
  refine ro_i (va_runV (As := [.int p0]) (rest := []) ⟨hx, hb, hml, hown, hts⟩ (k_X12_isPerson l g cI cJ cB cZ cL y a p0 ip0 H.size hzp0) (cwV 1 hts (goodIn_app (g_4 (List.mem_cons_of_mem _ (List.mem_append_left _ (List.mem_of_getElem? (i := 1) rfl))) (List.mem_cons_of_mem _ (List.mem_append_left _ (List.mem_of_getElem? (i := 2) rfl))) (List.mem_cons_of_mem _ (List.mem_append_left _ (List.mem_of_getElem? (i := 3) rfl))) (List.mem_cons_of_mem _ (List.mem_append_left _ (List.mem_of_getElem? (i := 4) rfl))) (by decide +kernel)) (goodIn_sub (fun _ h => List.mem_cons_of_mem _ (List.mem_append_right _ (List.mem_append_left _ h))) good_v_X12_isPerson)) rfl rfl rfl (by decide +kernel) ⟨Nat.le_of_ble_eq_true rfl, Nat.le_of_ble_eq_true rfl⟩) (pv_RO (q := (RX12, TX12, 56)) (ci := 11) (q0 := 0) (wc := [(y, .inr (11, mO a)), ((a 17), .inl (cI, 25, .inl (fun _ => 0))), ((a 16), .inl (cI, 5, .inl (fun _ => 0)))]) hK hP [0, 1, 2] rfl rfl rfl) rfl rfl hl.1 rfl (lv_room (Nat.le_of_ble_eq_true rfl)) dX12_bestCost_7 ⟨Nat.le_of_ble_eq_true rfl, Nat.le_of_ble_eq_true rfl⟩) hS hA hP (fun r1 u2 H locs hw3 hP hS => ?_)
  subst hw3
  refine lv_if_ne (tgt := 16) hx hb dX12_bestCost_10 (by decide) (fun c4 => absurd c4 (by decide)) (fun _ => ?_)
  refine lv_bipush (v := (-2)) hx hb dX12_bestCost_13 (by decide) ?_
  have hP9 := hP.sub (ws' := []) [] rfl
  have hD9 := hD.sub (ws' := []) [] (by decide) rfl
  exact W.iret (v := (-2)) hx hb hr (fun t ht hW => ⟨⟨(-2), (), rfl, rfl, by rw [ht]; exact hP9, va_K.moved hW.alike hK, hD9⟩, hS.F ht⟩) hS.2.2 dX12_bestCost_15
def v_X12_family : List Cond := .code yX12_family cX12_family 2 (some .int) :: (([.fieldLink RX12 107 "CardsAtYuleModel" "thrown" "I", .methodLink RX12 503 yX12_isSet, .instanceMethod yX12_isSet, .selects RX12 yX12_isSet yX12_isSet, .initialized RX12] : List Cond) ++ (v_X12_isSet ++ (wsX120 ++ ([] : List Cond))))
theorem good_v_X12_family : v_X12_family.all goodWord = true := ga_c (by decide +kernel) (ga_a (by decide +kernel) (ga_a good_v_X12_isSet (ga_a good_wsX120 rfl)))
set_option maxHeartbeats 4000000 in
set_option maxRecDepth 100000 in
theorem k_X12_family (l : Launch) (g : va_G) (cI cJ cB cZ cL : ClassId) (y : Nat) (a : Nat → Nat) (p0 : Int32) (ip0 : Int) (sz : Nat) (hzp0 : p0.toInt = ip0) : Met l yX12_family v_X12_family ({ frames := 2, cells := 0, slots := 0, locals := 41 }) (va_Pc [.ref y, .int p0] (pRW g (tyT cI cJ cB cZ cL) [(y, .inr (11, mO a)), ((a 17), .inl (cI, 25, .inl (fun _ => 0))), ((a 16), .inl (cI, 5, .inl (fun _ => 0)))] sz)) (va_Qi (fun (r : Int32) (u : Unit) => r = (-2)) (fun (_ : Unit) (t : State) => bRW g (tyT cI cJ cB cZ cL) (va_A [(y, .inr (11, mO a)), ((a 17), .inl (cI, 25, .inl (fun _ => 0))), ((a 16), .inl (cI, 5, .inl (fun _ => 0)))] sz) [] t) (va_A [(y, .inr (11, mO a)), ((a 17), .inl (cI, 25, .inl (fun _ => 0))), ((a 16), .inl (cI, 5, .inl (fun _ => 0)))] sz)) 0 0 (va_A [(y, .inr (11, mO a)), ((a 17), .inl (cI, 25, .inl (fun _ => 0))), ((a 16), .inl (cI, 5, .inl (fun _ => 0)))] sz) := by
  refine Met.ofW (cc := cX12_family) (maxL := 2) (ret := (some .int)) (by decide) rfl ?_
  intro p e s m args below meth c s₁ B hml hv
  obtain ⟨rfl, hsz, hP, hK, hD0⟩ := hv
  have hx := B.exec
  have hb := B.bytes
  have hr := B.returns
  have hts := atoms_spec (ws := v_X12_family) B.pre
  have hown : s.vm.findClass RX12 = some m.cls := findClass_of_methodNamed B.named
  have hlocks := B.notSynchronized
  subst hsz
  have iX12 : ∀ w ∈ wsX120, w ∈ v_X12_family := (fun _ h => List.mem_cons_of_mem _ (List.mem_append_right _ (List.mem_append_right _ (List.mem_append_left _ h))))
  have hD := hD0.self (sz := s.heap.size)
  generalize hAe : (va_A [(y, .inr (11, mO a)), ((a 17), .inl (cI, 25, .inl (fun _ => 0))), ((a 16), .inl (cI, 5, .inl (fun _ => 0)))] s.heap.size) = A at hD ⊢
  have hA : ∀ q : Nat, s.heap.size ≤ q → A q := fun q h => by rw [← hAe]; exact Or.inr h
  have hS : va_S A s.heap s.heap [] := va_S.rf
  have hl := lv_entry ([.ref y, .int p0]) (n := 2) (Nat.le_of_ble_eq_true rfl)
  rw [lg_entry_eq]
  generalize (lg_sl ([.ref y, .int p0]) ++ List.replicate (2 - (lg_sl ([.ref y, .int p0])).length) Slot.unset).toArray = ls at hl ⊢
  have hl : lv_has ls 2 [(0, .ref y), (1, .int p0)] := hl
  have hP : va_P g vwCl [(y, .inr (11, mO a)), ((a 17), .inl (cI, 25, .inl (fun _ => 0))), ((a 16), .inl (cI, 5, .inl (fun _ => 0)))] s.heap := hP
  refine lv_aload_n hx hb dX12_family_0 rfl (lv_at hl 0 rfl) ?_
  refine lv_iconst (v := 0) hx hb dX12_family_1 (by decide) ?_
  refine va_put (D := g) (ci := 11) (v := .int 0) (ty := .int) (C := RX12) (T := TX12) (N := 56) hx hb hts iX12 tyX12 tyX12_ok nmX12 hown hK hP hD hS 0 rfl rfl 0 (by decide) (hts (.fieldLink RX12 107 "CardsAtYuleModel" "thrown" "I") (List.mem_cons_of_mem _ (List.mem_append_left _ (List.mem_of_getElem? (i := 0) rfl)))) (fun _ h9 => h9) rfl (by decide +kernel) rfl rfl (Nat.le_of_ble_eq_true rfl) dX12_family_2 (fun H locs hP hD hS => ?_)
  have hP : va_P g vwCl [(y, .inr (11, mO a)), ((a 17), .inl (cI, 25, .inl (fun _ => 0))), ((a 16), .inl (cI, 5, .inl (fun _ => 0)))] H := hP
  have hD : va_D A [(y, .inr (11, mO a)), ((a 17), .inl (cI, 25, .inl (fun _ => 0))), ((a 16), .inl (cI, 5, .inl (fun _ => 0)))] := hD
  refine lv_aload_n hx hb dX12_family_5 rfl (lv_at hl 0 rfl) ?_
  refine lv_iload_n hx hb dX12_family_6 rfl (lv_at hl 1 rfl) ?_
  refine ro_i (va_runV (As := [.int p0]) (rest := []) ⟨hx, hb, hml, hown, hts⟩ (k_X12_isSet l g cI cJ cB cZ cL y a p0 ip0 H.size hzp0) (cwV 1 hts (goodIn_app (g_4 (List.mem_cons_of_mem _ (List.mem_append_left _ (List.mem_of_getElem? (i := 1) rfl))) (List.mem_cons_of_mem _ (List.mem_append_left _ (List.mem_of_getElem? (i := 2) rfl))) (List.mem_cons_of_mem _ (List.mem_append_left _ (List.mem_of_getElem? (i := 3) rfl))) (List.mem_cons_of_mem _ (List.mem_append_left _ (List.mem_of_getElem? (i := 4) rfl))) (by decide +kernel)) (goodIn_sub (fun _ h => List.mem_cons_of_mem _ (List.mem_append_right _ (List.mem_append_left _ h))) good_v_X12_isSet)) rfl rfl rfl (by decide +kernel) ⟨Nat.le_of_ble_eq_true rfl, Nat.le_of_ble_eq_true rfl⟩) (pv_RO (q := (RX12, TX12, 56)) (ci := 11) (q0 := 0) (wc := [(y, .inr (11, mO a)), ((a 17), .inl (cI, 25, .inl (fun _ => 0))), ((a 16), .inl (cI, 5, .inl (fun _ => 0)))]) hK hP [0, 1, 2] rfl rfl rfl) rfl rfl hl.1 rfl (lv_room (Nat.le_of_ble_eq_true rfl)) dX12_family_7 ⟨Nat.le_of_ble_eq_true rfl, Nat.le_of_ble_eq_true rfl⟩) hS hA hP (fun r1 u2 H locs hw3 hP hS => ?_)
  subst hw3
  refine lv_if_eq (tgt := 21) hx hb dX12_family_10 (by decide) (fun _ => ?_) (fun c4 => absurd c4 (by decide))
  refine lv_bipush (v := (-2)) hx hb dX12_family_21 (by decide) ?_
  have hP9 := hP.sub (ws' := []) [] rfl
  have hD9 := hD.sub (ws' := []) [] (by decide) rfl
  exact W.iret (v := (-2)) hx hb hr (fun t ht hW => ⟨⟨(-2), (), rfl, rfl, by rw [ht]; exact hP9, va_K.moved hW.alike hK, hD9⟩, hS.F ht⟩) hS.2.2 dX12_family_23
def v_X12_together : List Cond := .code yX12_together cX12_together 2 (some .int) :: (([.fieldLink RX12 107 "CardsAtYuleModel" "thrown" "I", .methodLink RX12 503 yX12_isSet, .instanceMethod yX12_isSet, .selects RX12 yX12_isSet yX12_isSet, .initialized RX12] : List Cond) ++ (v_X12_isSet ++ (wsX120 ++ ([] : List Cond))))
theorem good_v_X12_together : v_X12_together.all goodWord = true := ga_c (by decide +kernel) (ga_a (by decide +kernel) (ga_a good_v_X12_isSet (ga_a good_wsX120 rfl)))
set_option maxHeartbeats 4000000 in
set_option maxRecDepth 100000 in
theorem k_X12_together (l : Launch) (g : va_G) (cI cJ cB cZ cL : ClassId) (y : Nat) (a : Nat → Nat) (p0 : Int32) (ip0 : Int) (sz : Nat) (hzp0 : p0.toInt = ip0) : Met l yX12_together v_X12_together ({ frames := 2, cells := 0, slots := 0, locals := 41 }) (va_Pc [.ref y, .int p0] (pRW g (tyT cI cJ cB cZ cL) [(y, .inr (11, mO a)), ((a 17), .inl (cI, 25, .inl (fun _ => 0))), ((a 16), .inl (cI, 5, .inl (fun _ => 0)))] sz)) (va_Qi (fun (r : Int32) (u : Unit) => r = (-2)) (fun (_ : Unit) (t : State) => bRW g (tyT cI cJ cB cZ cL) (va_A [(y, .inr (11, mO a)), ((a 17), .inl (cI, 25, .inl (fun _ => 0))), ((a 16), .inl (cI, 5, .inl (fun _ => 0)))] sz) [] t) (va_A [(y, .inr (11, mO a)), ((a 17), .inl (cI, 25, .inl (fun _ => 0))), ((a 16), .inl (cI, 5, .inl (fun _ => 0)))] sz)) 0 0 (va_A [(y, .inr (11, mO a)), ((a 17), .inl (cI, 25, .inl (fun _ => 0))), ((a 16), .inl (cI, 5, .inl (fun _ => 0)))] sz) := by
  refine Met.ofW (cc := cX12_together) (maxL := 2) (ret := (some .int)) (by decide) rfl ?_
  intro p e s m args below meth c s₁ B hml hv
  obtain ⟨rfl, hsz, hP, hK, hD0⟩ := hv
  have hx := B.exec
  have hb := B.bytes
  have hr := B.returns
  have hts := atoms_spec (ws := v_X12_together) B.pre
  have hown : s.vm.findClass RX12 = some m.cls := findClass_of_methodNamed B.named
  have hlocks := B.notSynchronized
  subst hsz
  have iX12 : ∀ w ∈ wsX120, w ∈ v_X12_together := (fun _ h => List.mem_cons_of_mem _ (List.mem_append_right _ (List.mem_append_right _ (List.mem_append_left _ h))))
  have hD := hD0.self (sz := s.heap.size)
  generalize hAe : (va_A [(y, .inr (11, mO a)), ((a 17), .inl (cI, 25, .inl (fun _ => 0))), ((a 16), .inl (cI, 5, .inl (fun _ => 0)))] s.heap.size) = A at hD ⊢
  have hA : ∀ q : Nat, s.heap.size ≤ q → A q := fun q h => by rw [← hAe]; exact Or.inr h
  have hS : va_S A s.heap s.heap [] := va_S.rf
  have hl := lv_entry ([.ref y, .int p0]) (n := 2) (Nat.le_of_ble_eq_true rfl)
  rw [lg_entry_eq]
  generalize (lg_sl ([.ref y, .int p0]) ++ List.replicate (2 - (lg_sl ([.ref y, .int p0])).length) Slot.unset).toArray = ls at hl ⊢
  have hl : lv_has ls 2 [(0, .ref y), (1, .int p0)] := hl
  have hP : va_P g vwCl [(y, .inr (11, mO a)), ((a 17), .inl (cI, 25, .inl (fun _ => 0))), ((a 16), .inl (cI, 5, .inl (fun _ => 0)))] s.heap := hP
  refine lv_aload_n hx hb dX12_together_0 rfl (lv_at hl 0 rfl) ?_
  refine lv_iconst (v := 0) hx hb dX12_together_1 (by decide) ?_
  refine va_put (D := g) (ci := 11) (v := .int 0) (ty := .int) (C := RX12) (T := TX12) (N := 56) hx hb hts iX12 tyX12 tyX12_ok nmX12 hown hK hP hD hS 0 rfl rfl 0 (by decide) (hts (.fieldLink RX12 107 "CardsAtYuleModel" "thrown" "I") (List.mem_cons_of_mem _ (List.mem_append_left _ (List.mem_of_getElem? (i := 0) rfl)))) (fun _ h9 => h9) rfl (by decide +kernel) rfl rfl (Nat.le_of_ble_eq_true rfl) dX12_together_2 (fun H locs hP hD hS => ?_)
  have hP : va_P g vwCl [(y, .inr (11, mO a)), ((a 17), .inl (cI, 25, .inl (fun _ => 0))), ((a 16), .inl (cI, 5, .inl (fun _ => 0)))] H := hP
  have hD : va_D A [(y, .inr (11, mO a)), ((a 17), .inl (cI, 25, .inl (fun _ => 0))), ((a 16), .inl (cI, 5, .inl (fun _ => 0)))] := hD
  refine lv_aload_n hx hb dX12_together_5 rfl (lv_at hl 0 rfl) ?_
  refine lv_iload_n hx hb dX12_together_6 rfl (lv_at hl 1 rfl) ?_
  refine ro_i (va_runV (As := [.int p0]) (rest := []) ⟨hx, hb, hml, hown, hts⟩ (k_X12_isSet l g cI cJ cB cZ cL y a p0 ip0 H.size hzp0) (cwV 1 hts (goodIn_app (g_4 (List.mem_cons_of_mem _ (List.mem_append_left _ (List.mem_of_getElem? (i := 1) rfl))) (List.mem_cons_of_mem _ (List.mem_append_left _ (List.mem_of_getElem? (i := 2) rfl))) (List.mem_cons_of_mem _ (List.mem_append_left _ (List.mem_of_getElem? (i := 3) rfl))) (List.mem_cons_of_mem _ (List.mem_append_left _ (List.mem_of_getElem? (i := 4) rfl))) (by decide +kernel)) (goodIn_sub (fun _ h => List.mem_cons_of_mem _ (List.mem_append_right _ (List.mem_append_left _ h))) good_v_X12_isSet)) rfl rfl rfl (by decide +kernel) ⟨Nat.le_of_ble_eq_true rfl, Nat.le_of_ble_eq_true rfl⟩) (pv_RO (q := (RX12, TX12, 56)) (ci := 11) (q0 := 0) (wc := [(y, .inr (11, mO a)), ((a 17), .inl (cI, 25, .inl (fun _ => 0))), ((a 16), .inl (cI, 5, .inl (fun _ => 0)))]) hK hP [0, 1, 2] rfl rfl rfl) rfl rfl hl.1 rfl (lv_room (Nat.le_of_ble_eq_true rfl)) dX12_together_7 ⟨Nat.le_of_ble_eq_true rfl, Nat.le_of_ble_eq_true rfl⟩) hS hA hP (fun r1 u2 H locs hw3 hP hS => ?_)
  subst hw3
  refine lv_if_ne (tgt := 16) hx hb dX12_together_10 (by decide) (fun c4 => absurd c4 (by decide)) (fun _ => ?_)
  refine lv_bipush (v := (-2)) hx hb dX12_together_13 (by decide) ?_
  have hP9 := hP.sub (ws' := []) [] rfl
  have hD9 := hD.sub (ws' := []) [] (by decide) rfl
  exact W.iret (v := (-2)) hx hb hr (fun t ht hW => ⟨⟨(-2), (), rfl, rfl, by rw [ht]; exact hP9, va_K.moved hW.alike hK, hD9⟩, hS.F ht⟩) hS.2.2 dX12_together_15
def v_X12_fits : List Cond := .code yX12_fits cX12_fits 4 (some .int) :: (([.fieldLink RX12 107 "CardsAtYuleModel" "thrown" "I", .methodLink RX12 522 yX12_whyNot, .instanceMethod yX12_whyNot, .selects RX12 yX12_whyNot yX12_whyNot, .initialized RX12] : List Cond) ++ (v_X12_whyNot ++ (wsX120 ++ ([] : List Cond))))
theorem good_v_X12_fits : v_X12_fits.all goodWord = true := ga_c (by decide +kernel) (ga_a (by decide +kernel) (ga_a good_v_X12_whyNot (ga_a good_wsX120 rfl)))
set_option maxHeartbeats 4000000 in
set_option maxRecDepth 100000 in
theorem k_X12_fits (l : Launch) (g : va_G) (cI cJ cB cZ cL : ClassId) (y : Nat) (a : Nat → Nat) (p0 : Int32) (p1 : Int32) (ip0 : Int) (ip1 : Int) (sz : Nat) (hzp0 : p0.toInt = ip0) (hzp1 : p1.toInt = ip1) : Met l yX12_fits v_X12_fits ({ frames := 3, cells := 0, slots := 0, locals := 70 }) (va_Pc [.ref y, .int p0, .int p1] (pRW g (tyT cI cJ cB cZ cL) [(y, .inr (11, mO a)), ((a 17), .inl (cI, 25, .inl (fun _ => 0))), ((a 16), .inl (cI, 5, .inl (fun _ => 0)))] sz)) (va_Qi (fun (r : Int32) (u : Unit) => r = (-2)) (fun (_ : Unit) (t : State) => bRW g (tyT cI cJ cB cZ cL) (va_A [(y, .inr (11, mO a)), ((a 17), .inl (cI, 25, .inl (fun _ => 0))), ((a 16), .inl (cI, 5, .inl (fun _ => 0)))] sz) [] t) (va_A [(y, .inr (11, mO a)), ((a 17), .inl (cI, 25, .inl (fun _ => 0))), ((a 16), .inl (cI, 5, .inl (fun _ => 0)))] sz)) 0 0 (va_A [(y, .inr (11, mO a)), ((a 17), .inl (cI, 25, .inl (fun _ => 0))), ((a 16), .inl (cI, 5, .inl (fun _ => 0)))] sz) := by
  refine Met.ofW (cc := cX12_fits) (maxL := 4) (ret := (some .int)) (by decide) rfl ?_
  intro p e s m args below meth c s₁ B hml hv
  obtain ⟨rfl, hsz, hP, hK, hD0⟩ := hv
  have hx := B.exec
  have hb := B.bytes
  have hr := B.returns
  have hts := atoms_spec (ws := v_X12_fits) B.pre
  have hown : s.vm.findClass RX12 = some m.cls := findClass_of_methodNamed B.named
  have hlocks := B.notSynchronized
  subst hsz
  have iX12 : ∀ w ∈ wsX120, w ∈ v_X12_fits := (fun _ h => List.mem_cons_of_mem _ (List.mem_append_right _ (List.mem_append_right _ (List.mem_append_left _ h))))
  have hD := hD0.self (sz := s.heap.size)
  generalize hAe : (va_A [(y, .inr (11, mO a)), ((a 17), .inl (cI, 25, .inl (fun _ => 0))), ((a 16), .inl (cI, 5, .inl (fun _ => 0)))] s.heap.size) = A at hD ⊢
  have hA : ∀ q : Nat, s.heap.size ≤ q → A q := fun q h => by rw [← hAe]; exact Or.inr h
  have hS : va_S A s.heap s.heap [] := va_S.rf
  have hl := lv_entry ([.ref y, .int p0, .int p1]) (n := 4) (Nat.le_of_ble_eq_true rfl)
  rw [lg_entry_eq]
  generalize (lg_sl ([.ref y, .int p0, .int p1]) ++ List.replicate (4 - (lg_sl ([.ref y, .int p0, .int p1])).length) Slot.unset).toArray = ls at hl ⊢
  have hl : lv_has ls 4 [(0, .ref y), (1, .int p0), (2, .int p1)] := hl
  have hP : va_P g vwCl [(y, .inr (11, mO a)), ((a 17), .inl (cI, 25, .inl (fun _ => 0))), ((a 16), .inl (cI, 5, .inl (fun _ => 0)))] s.heap := hP
  refine lv_aload_n hx hb dX12_fits_0 rfl (lv_at hl 0 rfl) ?_
  refine lv_iconst (v := 0) hx hb dX12_fits_1 (by decide) ?_
  refine va_put (D := g) (ci := 11) (v := .int 0) (ty := .int) (C := RX12) (T := TX12) (N := 56) hx hb hts iX12 tyX12 tyX12_ok nmX12 hown hK hP hD hS 0 rfl rfl 0 (by decide) (hts (.fieldLink RX12 107 "CardsAtYuleModel" "thrown" "I") (List.mem_cons_of_mem _ (List.mem_append_left _ (List.mem_of_getElem? (i := 0) rfl)))) (fun _ h9 => h9) rfl (by decide +kernel) rfl rfl (Nat.le_of_ble_eq_true rfl) dX12_fits_2 (fun H locs hP hD hS => ?_)
  have hP : va_P g vwCl [(y, .inr (11, mO a)), ((a 17), .inl (cI, 25, .inl (fun _ => 0))), ((a 16), .inl (cI, 5, .inl (fun _ => 0)))] H := hP
  have hD : va_D A [(y, .inr (11, mO a)), ((a 17), .inl (cI, 25, .inl (fun _ => 0))), ((a 16), .inl (cI, 5, .inl (fun _ => 0)))] := hD
  refine lv_aload_n hx hb dX12_fits_5 rfl (lv_at hl 0 rfl) ?_
  refine lv_iload_n hx hb dX12_fits_6 rfl (lv_at hl 1 rfl) ?_
  refine lv_iload_n hx hb dX12_fits_7 rfl (lv_at hl 2 rfl) ?_
  refine ro_i (va_runV (As := [.int p0, .int p1]) (rest := []) ⟨hx, hb, hml, hown, hts⟩ (k_X12_whyNot l g cI cJ cB cZ cL y a p0 p1 ip0 ip1 H.size hzp0 hzp1) (cwV 2 hts (goodIn_app (g_4 (List.mem_cons_of_mem _ (List.mem_append_left _ (List.mem_of_getElem? (i := 1) rfl))) (List.mem_cons_of_mem _ (List.mem_append_left _ (List.mem_of_getElem? (i := 2) rfl))) (List.mem_cons_of_mem _ (List.mem_append_left _ (List.mem_of_getElem? (i := 3) rfl))) (List.mem_cons_of_mem _ (List.mem_append_left _ (List.mem_of_getElem? (i := 4) rfl))) (by decide +kernel)) (goodIn_sub (fun _ h => List.mem_cons_of_mem _ (List.mem_append_right _ (List.mem_append_left _ h))) good_v_X12_whyNot)) rfl rfl rfl (by decide +kernel) ⟨Nat.le_of_ble_eq_true rfl, Nat.le_of_ble_eq_true rfl⟩) (pv_RO (q := (RX12, TX12, 56)) (ci := 11) (q0 := 0) (wc := [(y, .inr (11, mO a)), ((a 17), .inl (cI, 25, .inl (fun _ => 0))), ((a 16), .inl (cI, 5, .inl (fun _ => 0)))]) hK hP [0, 1, 2] rfl rfl rfl) rfl rfl hl.1 rfl (lv_room (Nat.le_of_ble_eq_true rfl)) dX12_fits_8 ⟨Nat.le_of_ble_eq_true rfl, Nat.le_of_ble_eq_true rfl⟩) hS hA hP (fun r1 u2 H locs hw3 hP hS => ?_)
  subst hw3
  refine lv_istore_n (lv' := [(3, .int (-2)), (0, .ref y), (1, .int p0), (2, .int p1)]) hx hb dX12_fits_11 rfl hl (by decide) rfl (fun ls hl => ?_)
  refine lv_iload_n hx hb dX12_fits_12 rfl (lv_at hl 0 rfl) ?_
  refine lv_if_eq (tgt := 18) hx hb dX12_fits_13 (by decide) (fun c4 => absurd c4 (by decide)) (fun _ => ?_)
  refine lv_iload_n hx hb dX12_fits_16 rfl (lv_at hl 0 rfl) ?_
  have hP9 := hP.sub (ws' := []) [] rfl
  have hD9 := hD.sub (ws' := []) [] (by decide) rfl
  exact W.iret (v := (-2)) hx hb hr (fun t ht hW => ⟨⟨(-2), (), rfl, rfl, by rw [ht]; exact hP9, va_K.moved hW.alike hK, hD9⟩, hS.F ht⟩) hS.2.2 dX12_fits_17
def v_X12_begun : List Cond := .code yX12_begun cX12_begun 6 (some .int) :: (([.fieldLink RX12 107 "CardsAtYuleModel" "thrown" "I", .methodLink RX12 522 yX12_whyNot, .instanceMethod yX12_whyNot, .selects RX12 yX12_whyNot yX12_whyNot, .initialized RX12] : List Cond) ++ (v_X12_whyNot ++ (wsX120 ++ ([] : List Cond))))
theorem good_v_X12_begun : v_X12_begun.all goodWord = true := ga_c (by decide +kernel) (ga_a (by decide +kernel) (ga_a good_v_X12_whyNot (ga_a good_wsX120 rfl)))
set_option maxHeartbeats 4000000 in
set_option maxRecDepth 100000 in
theorem k_X12_begun (l : Launch) (g : va_G) (cI cJ cB cZ cL : ClassId) (y : Nat) (a : Nat → Nat) (p0 : Int32) (p1 : Int32) (ip0 : Int) (ip1 : Int) (sz : Nat) (hzp0 : p0.toInt = ip0) (hzp1 : p1.toInt = ip1) : Met l yX12_begun v_X12_begun ({ frames := 3, cells := 0, slots := 0, locals := 70 }) (va_Pc [.ref y, .int p0, .int p1] (pRW g (tyT cI cJ cB cZ cL) [(y, .inr (11, mO a)), ((a 17), .inl (cI, 25, .inl (fun _ => 0))), ((a 16), .inl (cI, 5, .inl (fun _ => 0)))] sz)) (va_Qi (fun (r : Int32) (u : Unit) => r = (-2)) (fun (_ : Unit) (t : State) => bRW g (tyT cI cJ cB cZ cL) (va_A [(y, .inr (11, mO a)), ((a 17), .inl (cI, 25, .inl (fun _ => 0))), ((a 16), .inl (cI, 5, .inl (fun _ => 0)))] sz) [] t) (va_A [(y, .inr (11, mO a)), ((a 17), .inl (cI, 25, .inl (fun _ => 0))), ((a 16), .inl (cI, 5, .inl (fun _ => 0)))] sz)) 0 0 (va_A [(y, .inr (11, mO a)), ((a 17), .inl (cI, 25, .inl (fun _ => 0))), ((a 16), .inl (cI, 5, .inl (fun _ => 0)))] sz) := by
  refine Met.ofW (cc := cX12_begun) (maxL := 6) (ret := (some .int)) (by decide) rfl ?_
  intro p e s m args below meth c s₁ B hml hv
  obtain ⟨rfl, hsz, hP, hK, hD0⟩ := hv
  have hx := B.exec
  have hb := B.bytes
  have hr := B.returns
  have hts := atoms_spec (ws := v_X12_begun) B.pre
  have hown : s.vm.findClass RX12 = some m.cls := findClass_of_methodNamed B.named
  have hlocks := B.notSynchronized
  subst hsz
  have iX12 : ∀ w ∈ wsX120, w ∈ v_X12_begun := (fun _ h => List.mem_cons_of_mem _ (List.mem_append_right _ (List.mem_append_right _ (List.mem_append_left _ h))))
  have hD := hD0.self (sz := s.heap.size)
  generalize hAe : (va_A [(y, .inr (11, mO a)), ((a 17), .inl (cI, 25, .inl (fun _ => 0))), ((a 16), .inl (cI, 5, .inl (fun _ => 0)))] s.heap.size) = A at hD ⊢
  have hA : ∀ q : Nat, s.heap.size ≤ q → A q := fun q h => by rw [← hAe]; exact Or.inr h
  have hS : va_S A s.heap s.heap [] := va_S.rf
  have hl := lv_entry ([.ref y, .int p0, .int p1]) (n := 6) (Nat.le_of_ble_eq_true rfl)
  rw [lg_entry_eq]
  generalize (lg_sl ([.ref y, .int p0, .int p1]) ++ List.replicate (6 - (lg_sl ([.ref y, .int p0, .int p1])).length) Slot.unset).toArray = ls at hl ⊢
  have hl : lv_has ls 6 [(0, .ref y), (1, .int p0), (2, .int p1)] := hl
  have hP : va_P g vwCl [(y, .inr (11, mO a)), ((a 17), .inl (cI, 25, .inl (fun _ => 0))), ((a 16), .inl (cI, 5, .inl (fun _ => 0)))] s.heap := hP
  refine lv_aload_n hx hb dX12_begun_0 rfl (lv_at hl 0 rfl) ?_
  refine lv_iconst (v := 0) hx hb dX12_begun_1 (by decide) ?_
  refine va_put (D := g) (ci := 11) (v := .int 0) (ty := .int) (C := RX12) (T := TX12) (N := 56) hx hb hts iX12 tyX12 tyX12_ok nmX12 hown hK hP hD hS 0 rfl rfl 0 (by decide) (hts (.fieldLink RX12 107 "CardsAtYuleModel" "thrown" "I") (List.mem_cons_of_mem _ (List.mem_append_left _ (List.mem_of_getElem? (i := 0) rfl)))) (fun _ h9 => h9) rfl (by decide +kernel) rfl rfl (Nat.le_of_ble_eq_true rfl) dX12_begun_2 (fun H locs hP hD hS => ?_)
  have hP : va_P g vwCl [(y, .inr (11, mO a)), ((a 17), .inl (cI, 25, .inl (fun _ => 0))), ((a 16), .inl (cI, 5, .inl (fun _ => 0)))] H := hP
  have hD : va_D A [(y, .inr (11, mO a)), ((a 17), .inl (cI, 25, .inl (fun _ => 0))), ((a 16), .inl (cI, 5, .inl (fun _ => 0)))] := hD
  refine lv_aload_n hx hb dX12_begun_5 rfl (lv_at hl 0 rfl) ?_
  refine lv_iload_n hx hb dX12_begun_6 rfl (lv_at hl 1 rfl) ?_
  refine lv_iload_n hx hb dX12_begun_7 rfl (lv_at hl 2 rfl) ?_
  refine ro_i (va_runV (As := [.int p0, .int p1]) (rest := []) ⟨hx, hb, hml, hown, hts⟩ (k_X12_whyNot l g cI cJ cB cZ cL y a p0 p1 ip0 ip1 H.size hzp0 hzp1) (cwV 2 hts (goodIn_app (g_4 (List.mem_cons_of_mem _ (List.mem_append_left _ (List.mem_of_getElem? (i := 1) rfl))) (List.mem_cons_of_mem _ (List.mem_append_left _ (List.mem_of_getElem? (i := 2) rfl))) (List.mem_cons_of_mem _ (List.mem_append_left _ (List.mem_of_getElem? (i := 3) rfl))) (List.mem_cons_of_mem _ (List.mem_append_left _ (List.mem_of_getElem? (i := 4) rfl))) (by decide +kernel)) (goodIn_sub (fun _ h => List.mem_cons_of_mem _ (List.mem_append_right _ (List.mem_append_left _ h))) good_v_X12_whyNot)) rfl rfl rfl (by decide +kernel) ⟨Nat.le_of_ble_eq_true rfl, Nat.le_of_ble_eq_true rfl⟩) (pv_RO (q := (RX12, TX12, 56)) (ci := 11) (q0 := 0) (wc := [(y, .inr (11, mO a)), ((a 17), .inl (cI, 25, .inl (fun _ => 0))), ((a 16), .inl (cI, 5, .inl (fun _ => 0)))]) hK hP [0, 1, 2] rfl rfl rfl) rfl rfl hl.1 rfl (lv_room (Nat.le_of_ble_eq_true rfl)) dX12_begun_8 ⟨Nat.le_of_ble_eq_true rfl, Nat.le_of_ble_eq_true rfl⟩) hS hA hP (fun r1 u2 H locs hw3 hP hS => ?_)
  subst hw3
  refine lv_istore_n (lv' := [(3, .int (-2)), (0, .ref y), (1, .int p0), (2, .int p1)]) hx hb dX12_begun_11 rfl hl (by decide) rfl (fun ls hl => ?_)
  refine lv_iload_n hx hb dX12_begun_12 rfl (lv_at hl 0 rfl) ?_
  refine lv_if_eq (tgt := 18) hx hb dX12_begun_13 (by decide) (fun c4 => absurd c4 (by decide)) (fun _ => ?_)
  refine lv_iload_n hx hb dX12_begun_16 rfl (lv_at hl 0 rfl) ?_
  have hP9 := hP.sub (ws' := []) [] rfl
  have hD9 := hD.sub (ws' := []) [] (by decide) rfl
  exact W.iret (v := (-2)) hx hb hr (fun t ht hW => ⟨⟨(-2), (), rfl, rfl, by rw [ht]; exact hP9, va_K.moved hW.alike hK, hD9⟩, hS.F ht⟩) hS.2.2 dX12_begun_17
def v_X12_odd : List Cond := .code yX12_odd cX12_odd 4 (some .int) :: (([.fieldLink RX12 107 "CardsAtYuleModel" "thrown" "I", .methodLink RX12 522 yX12_whyNot, .instanceMethod yX12_whyNot, .selects RX12 yX12_whyNot yX12_whyNot, .initialized RX12] : List Cond) ++ (v_X12_whyNot ++ (wsX120 ++ ([] : List Cond))))
theorem good_v_X12_odd : v_X12_odd.all goodWord = true := ga_c (by decide +kernel) (ga_a (by decide +kernel) (ga_a good_v_X12_whyNot (ga_a good_wsX120 rfl)))
set_option maxHeartbeats 4000000 in
set_option maxRecDepth 100000 in
theorem k_X12_odd (l : Launch) (g : va_G) (cI cJ cB cZ cL : ClassId) (y : Nat) (a : Nat → Nat) (p0 : Int32) (p1 : Int32) (ip0 : Int) (ip1 : Int) (sz : Nat) (hzp0 : p0.toInt = ip0) (hzp1 : p1.toInt = ip1) : Met l yX12_odd v_X12_odd ({ frames := 3, cells := 0, slots := 0, locals := 70 }) (va_Pc [.ref y, .int p0, .int p1] (pRW g (tyT cI cJ cB cZ cL) [(y, .inr (11, mO a)), ((a 17), .inl (cI, 25, .inl (fun _ => 0))), ((a 16), .inl (cI, 5, .inl (fun _ => 0)))] sz)) (va_Qi (fun (r : Int32) (u : Unit) => r = (-2)) (fun (_ : Unit) (t : State) => bRW g (tyT cI cJ cB cZ cL) (va_A [(y, .inr (11, mO a)), ((a 17), .inl (cI, 25, .inl (fun _ => 0))), ((a 16), .inl (cI, 5, .inl (fun _ => 0)))] sz) [] t) (va_A [(y, .inr (11, mO a)), ((a 17), .inl (cI, 25, .inl (fun _ => 0))), ((a 16), .inl (cI, 5, .inl (fun _ => 0)))] sz)) 0 0 (va_A [(y, .inr (11, mO a)), ((a 17), .inl (cI, 25, .inl (fun _ => 0))), ((a 16), .inl (cI, 5, .inl (fun _ => 0)))] sz) := by
  refine Met.ofW (cc := cX12_odd) (maxL := 4) (ret := (some .int)) (by decide) rfl ?_
  intro p e s m args below meth c s₁ B hml hv
  obtain ⟨rfl, hsz, hP, hK, hD0⟩ := hv
  have hx := B.exec
  have hb := B.bytes
  have hr := B.returns
  have hts := atoms_spec (ws := v_X12_odd) B.pre
  have hown : s.vm.findClass RX12 = some m.cls := findClass_of_methodNamed B.named
  have hlocks := B.notSynchronized
  subst hsz
  have iX12 : ∀ w ∈ wsX120, w ∈ v_X12_odd := (fun _ h => List.mem_cons_of_mem _ (List.mem_append_right _ (List.mem_append_right _ (List.mem_append_left _ h))))
  have hD := hD0.self (sz := s.heap.size)
  generalize hAe : (va_A [(y, .inr (11, mO a)), ((a 17), .inl (cI, 25, .inl (fun _ => 0))), ((a 16), .inl (cI, 5, .inl (fun _ => 0)))] s.heap.size) = A at hD ⊢
  have hA : ∀ q : Nat, s.heap.size ≤ q → A q := fun q h => by rw [← hAe]; exact Or.inr h
  have hS : va_S A s.heap s.heap [] := va_S.rf
  have hl := lv_entry ([.ref y, .int p0, .int p1]) (n := 4) (Nat.le_of_ble_eq_true rfl)
  rw [lg_entry_eq]
  generalize (lg_sl ([.ref y, .int p0, .int p1]) ++ List.replicate (4 - (lg_sl ([.ref y, .int p0, .int p1])).length) Slot.unset).toArray = ls at hl ⊢
  have hl : lv_has ls 4 [(0, .ref y), (1, .int p0), (2, .int p1)] := hl
  have hP : va_P g vwCl [(y, .inr (11, mO a)), ((a 17), .inl (cI, 25, .inl (fun _ => 0))), ((a 16), .inl (cI, 5, .inl (fun _ => 0)))] s.heap := hP
  refine lv_aload_n hx hb dX12_odd_0 rfl (lv_at hl 0 rfl) ?_
  refine lv_iconst (v := 0) hx hb dX12_odd_1 (by decide) ?_
  refine va_put (D := g) (ci := 11) (v := .int 0) (ty := .int) (C := RX12) (T := TX12) (N := 56) hx hb hts iX12 tyX12 tyX12_ok nmX12 hown hK hP hD hS 0 rfl rfl 0 (by decide) (hts (.fieldLink RX12 107 "CardsAtYuleModel" "thrown" "I") (List.mem_cons_of_mem _ (List.mem_append_left _ (List.mem_of_getElem? (i := 0) rfl)))) (fun _ h9 => h9) rfl (by decide +kernel) rfl rfl (Nat.le_of_ble_eq_true rfl) dX12_odd_2 (fun H locs hP hD hS => ?_)
  have hP : va_P g vwCl [(y, .inr (11, mO a)), ((a 17), .inl (cI, 25, .inl (fun _ => 0))), ((a 16), .inl (cI, 5, .inl (fun _ => 0)))] H := hP
  have hD : va_D A [(y, .inr (11, mO a)), ((a 17), .inl (cI, 25, .inl (fun _ => 0))), ((a 16), .inl (cI, 5, .inl (fun _ => 0)))] := hD
  refine lv_aload_n hx hb dX12_odd_5 rfl (lv_at hl 0 rfl) ?_
  refine lv_iload_n hx hb dX12_odd_6 rfl (lv_at hl 1 rfl) ?_
  refine lv_iload_n hx hb dX12_odd_7 rfl (lv_at hl 2 rfl) ?_
  refine ro_i (va_runV (As := [.int p0, .int p1]) (rest := []) ⟨hx, hb, hml, hown, hts⟩ (k_X12_whyNot l g cI cJ cB cZ cL y a p0 p1 ip0 ip1 H.size hzp0 hzp1) (cwV 2 hts (goodIn_app (g_4 (List.mem_cons_of_mem _ (List.mem_append_left _ (List.mem_of_getElem? (i := 1) rfl))) (List.mem_cons_of_mem _ (List.mem_append_left _ (List.mem_of_getElem? (i := 2) rfl))) (List.mem_cons_of_mem _ (List.mem_append_left _ (List.mem_of_getElem? (i := 3) rfl))) (List.mem_cons_of_mem _ (List.mem_append_left _ (List.mem_of_getElem? (i := 4) rfl))) (by decide +kernel)) (goodIn_sub (fun _ h => List.mem_cons_of_mem _ (List.mem_append_right _ (List.mem_append_left _ h))) good_v_X12_whyNot)) rfl rfl rfl (by decide +kernel) ⟨Nat.le_of_ble_eq_true rfl, Nat.le_of_ble_eq_true rfl⟩) (pv_RO (q := (RX12, TX12, 56)) (ci := 11) (q0 := 0) (wc := [(y, .inr (11, mO a)), ((a 17), .inl (cI, 25, .inl (fun _ => 0))), ((a 16), .inl (cI, 5, .inl (fun _ => 0)))]) hK hP [0, 1, 2] rfl rfl rfl) rfl rfl hl.1 rfl (lv_room (Nat.le_of_ble_eq_true rfl)) dX12_odd_8 ⟨Nat.le_of_ble_eq_true rfl, Nat.le_of_ble_eq_true rfl⟩) hS hA hP (fun r1 u2 H locs hw3 hP hS => ?_)
  subst hw3
  refine lv_istore_n (lv' := [(3, .int (-2)), (0, .ref y), (1, .int p0), (2, .int p1)]) hx hb dX12_odd_11 rfl hl (by decide) rfl (fun ls hl => ?_)
  refine lv_iload_n hx hb dX12_odd_12 rfl (lv_at hl 0 rfl) ?_
  refine lv_if_eq (tgt := 18) hx hb dX12_odd_13 (by decide) (fun c4 => absurd c4 (by decide)) (fun _ => ?_)
  refine lv_iload_n hx hb dX12_odd_16 rfl (lv_at hl 0 rfl) ?_
  have hP9 := hP.sub (ws' := []) [] rfl
  have hD9 := hD.sub (ws' := []) [] (by decide) rfl
  exact W.iret (v := (-2)) hx hb hr (fun t ht hW => ⟨⟨(-2), (), rfl, rfl, by rw [ht]; exact hP9, va_K.moved hW.alike hK, hD9⟩, hS.F ht⟩) hS.2.2 dX12_odd_17
def v_X12_life : List Cond := .code yX12_life cX12_life 5 (some .int) :: (([.fieldLink RX12 107 "CardsAtYuleModel" "thrown" "I", .methodLink RX12 530 yX12_isSeed, .static yX12_isSeed, .initialized RX12, .methodLink RX12 373 yX12_isLand, .instanceMethod yX12_isLand, .selects RX12 yX12_isLand yX12_isLand] : List Cond) ++ (v_X12_isSeed ++ (v_X12_isLand ++ (wsX120 ++ ([] : List Cond)))))
theorem good_v_X12_life : v_X12_life.all goodWord = true := ga_c (by decide +kernel) (ga_a (by decide +kernel) (ga_a good_v_X12_isSeed (ga_a good_v_X12_isLand (ga_a good_wsX120 rfl))))
set_option maxHeartbeats 4000000 in
set_option maxRecDepth 100000 in
theorem k_X12_life (l : Launch) (g : va_G) (cI cJ cB cZ cL : ClassId) (y : Nat) (a : Nat → Nat) (p0 : Int32) (p1 : Int32) (ip0 : Int) (ip1 : Int) (sz : Nat) (hzp0 : p0.toInt = ip0) (hzp1 : p1.toInt = ip1) : Met l yX12_life v_X12_life ({ frames := 2, cells := 0, slots := 0, locals := 45 }) (va_Pc [.ref y, .int p0, .int p1] (pRW g (tyT cI cJ cB cZ cL) [(y, .inr (11, mO a)), ((a 17), .inl (cI, 25, .inl (fun _ => 0))), ((a 16), .inl (cI, 5, .inl (fun _ => 0)))] sz)) (va_Qi (fun (r : Int32) (u : Unit) => r = (-2)) (fun (_ : Unit) (t : State) => bRW g (tyT cI cJ cB cZ cL) (va_A [(y, .inr (11, mO a)), ((a 17), .inl (cI, 25, .inl (fun _ => 0))), ((a 16), .inl (cI, 5, .inl (fun _ => 0)))] sz) [] t) (va_A [(y, .inr (11, mO a)), ((a 17), .inl (cI, 25, .inl (fun _ => 0))), ((a 16), .inl (cI, 5, .inl (fun _ => 0)))] sz)) 0 0 (va_A [(y, .inr (11, mO a)), ((a 17), .inl (cI, 25, .inl (fun _ => 0))), ((a 16), .inl (cI, 5, .inl (fun _ => 0)))] sz) := by
  refine Met.ofW (cc := cX12_life) (maxL := 5) (ret := (some .int)) (by decide) rfl ?_
  intro p e s m args below meth c s₁ B hml hv
  obtain ⟨rfl, hsz, hP, hK, hD0⟩ := hv
  have hx := B.exec
  have hb := B.bytes
  have hr := B.returns
  have hts := atoms_spec (ws := v_X12_life) B.pre
  have hown : s.vm.findClass RX12 = some m.cls := findClass_of_methodNamed B.named
  have hlocks := B.notSynchronized
  subst hsz
  have iX12 : ∀ w ∈ wsX120, w ∈ v_X12_life := (fun _ h => List.mem_cons_of_mem _ (List.mem_append_right _ (List.mem_append_right _ (List.mem_append_right _ (List.mem_append_left _ h)))))
  have hD := hD0.self (sz := s.heap.size)
  generalize hAe : (va_A [(y, .inr (11, mO a)), ((a 17), .inl (cI, 25, .inl (fun _ => 0))), ((a 16), .inl (cI, 5, .inl (fun _ => 0)))] s.heap.size) = A at hD ⊢
  have hA : ∀ q : Nat, s.heap.size ≤ q → A q := fun q h => by rw [← hAe]; exact Or.inr h
  have hS : va_S A s.heap s.heap [] := va_S.rf
  have hl := lv_entry ([.ref y, .int p0, .int p1]) (n := 5) (Nat.le_of_ble_eq_true rfl)
  rw [lg_entry_eq]
  generalize (lg_sl ([.ref y, .int p0, .int p1]) ++ List.replicate (5 - (lg_sl ([.ref y, .int p0, .int p1])).length) Slot.unset).toArray = ls at hl ⊢
  have hl : lv_has ls 5 [(0, .ref y), (1, .int p0), (2, .int p1)] := hl
  have hP : va_P g vwCl [(y, .inr (11, mO a)), ((a 17), .inl (cI, 25, .inl (fun _ => 0))), ((a 16), .inl (cI, 5, .inl (fun _ => 0)))] s.heap := hP
  refine lv_aload_n hx hb dX12_life_0 rfl (lv_at hl 0 rfl) ?_
  refine lv_iconst (v := 0) hx hb dX12_life_1 (by decide) ?_
  refine va_put (D := g) (ci := 11) (v := .int 0) (ty := .int) (C := RX12) (T := TX12) (N := 56) hx hb hts iX12 tyX12 tyX12_ok nmX12 hown hK hP hD hS 0 rfl rfl 0 (by decide) (hts (.fieldLink RX12 107 "CardsAtYuleModel" "thrown" "I") (List.mem_cons_of_mem _ (List.mem_append_left _ (List.mem_of_getElem? (i := 0) rfl)))) (fun _ h9 => h9) rfl (by decide +kernel) rfl rfl (Nat.le_of_ble_eq_true rfl) dX12_life_2 (fun H locs hP hD hS => ?_)
  have hP : va_P g vwCl [(y, .inr (11, mO a)), ((a 17), .inl (cI, 25, .inl (fun _ => 0))), ((a 16), .inl (cI, 5, .inl (fun _ => 0)))] H := hP
  have hD : va_D A [(y, .inr (11, mO a)), ((a 17), .inl (cI, 25, .inl (fun _ => 0))), ((a 16), .inl (cI, 5, .inl (fun _ => 0)))] := hD
  refine lv_iload_n hx hb dX12_life_5 rfl (lv_at hl 1 rfl) ?_
  refine ro_i (va_runS (As := [.int p0]) (rest := []) ⟨hx, hb, hml, hown, hts⟩ (k_X12_isSeed l g cI cJ cB cZ cL p0 ip0 H.size hzp0) (va_cwS 1 hts (goodIn_app (g_3 (List.mem_cons_of_mem _ (List.mem_append_left _ (List.mem_of_getElem? (i := 1) rfl))) (List.mem_cons_of_mem _ (List.mem_append_left _ (List.mem_of_getElem? (i := 2) rfl))) (List.mem_cons_of_mem _ (List.mem_append_left _ (List.mem_of_getElem? (i := 3) rfl))) (by decide +kernel)) (goodIn_sub (fun _ h => List.mem_cons_of_mem _ (List.mem_append_right _ (List.mem_append_left _ h))) good_v_X12_isSeed)) rfl rfl rfl (by decide +kernel) ⟨Nat.le_of_ble_eq_true rfl, Nat.le_of_ble_eq_true rfl⟩) (ps_RO (wc := []) hK hP [] rfl) rfl rfl hl.1 rfl (lv_room (Nat.le_of_ble_eq_true rfl)) dX12_life_6 ⟨Nat.le_of_ble_eq_true rfl, Nat.le_of_ble_eq_true rfl⟩) hS hA hP (fun r1 u2 H locs hw3 hP hS => ?_)
  rcases hw3 with ⟨rfl, hw3_0⟩ | ⟨rfl, hw3_0⟩
  · refine lv_if_eq (tgt := 31) hx hb dX12_life_9 (by decide) (fun c4 => absurd c4 (by decide)) (fun _ => ?_)
    refine lv_aload_n hx hb dX12_life_12 rfl (lv_at hl 0 rfl) ?_
    refine ro_i (va_runV (As := []) (rest := []) ⟨hx, hb, hml, hown, hts⟩ (k_X12_isLand l g cI cJ cB cZ cL y a H.size ) (cwV 0 hts (goodIn_app (g_4 (List.mem_cons_of_mem _ (List.mem_append_left _ (List.mem_of_getElem? (i := 4) rfl))) (List.mem_cons_of_mem _ (List.mem_append_left _ (List.mem_of_getElem? (i := 5) rfl))) (List.mem_cons_of_mem _ (List.mem_append_left _ (List.mem_of_getElem? (i := 6) rfl))) (List.mem_cons_of_mem _ (List.mem_append_left _ (List.mem_of_getElem? (i := 3) rfl))) (by decide +kernel)) (goodIn_sub (fun _ h => List.mem_cons_of_mem _ (List.mem_append_right _ (List.mem_append_right _ (List.mem_append_left _ h)))) good_v_X12_isLand)) rfl rfl rfl (by decide +kernel) ⟨Nat.le_of_ble_eq_true rfl, Nat.le_of_ble_eq_true rfl⟩) (pv_RO (q := (RX12, TX12, 56)) (ci := 11) (q0 := 0) (wc := [(y, .inr (11, mO a)), ((a 17), .inl (cI, 25, .inl (fun _ => 0))), ((a 16), .inl (cI, 5, .inl (fun _ => 0)))]) hK hP [0, 1, 2] rfl rfl rfl) rfl rfl hl.1 rfl (lv_room (Nat.le_of_ble_eq_true rfl)) dX12_life_13 ⟨Nat.le_of_ble_eq_true rfl, Nat.le_of_ble_eq_true rfl⟩) hS hA hP (fun r5 u6 H locs hw7 hP hS => ?_)
    subst hw7
    refine lv_if_eq (tgt := 31) hx hb dX12_life_16 (by decide) (fun _ => ?_) (fun c8 => absurd c8 (by decide))
    refine lv_bipush (v := (-2)) hx hb dX12_life_31 (by decide) ?_
    have hP9 := hP.sub (ws' := []) [] rfl
    have hD9 := hD.sub (ws' := []) [] (by decide) rfl
    exact W.iret (v := (-2)) hx hb hr (fun t ht hW => ⟨⟨(-2), (), rfl, rfl, by rw [ht]; exact hP9, va_K.moved hW.alike hK, hD9⟩, hS.F ht⟩) hS.2.2 dX12_life_33
  · refine lv_if_eq (tgt := 31) hx hb dX12_life_9 (by decide) (fun _ => ?_) (fun c9 => absurd c9 (by decide))
    refine lv_bipush (v := (-2)) hx hb dX12_life_31 (by decide) ?_
    have hP9 := hP.sub (ws' := []) [] rfl
    have hD9 := hD.sub (ws' := []) [] (by decide) rfl
    exact W.iret (v := (-2)) hx hb hr (fun t ht hW => ⟨⟨(-2), (), rfl, rfl, by rw [ht]; exact hP9, va_K.moved hW.alike hK, hD9⟩, hS.F ht⟩) hS.2.2 dX12_life_33
def v_X12_lives : List Cond := .code yX12_lives cX12_lives 3 (some .int) :: (([.fieldLink RX12 107 "CardsAtYuleModel" "thrown" "I", .methodLink RX12 530 yX12_isSeed, .static yX12_isSeed, .initialized RX12, .methodLink RX12 281 yX12_isPair, .instanceMethod yX12_isPair, .selects RX12 yX12_isPair yX12_isPair] : List Cond) ++ (v_X12_isSeed ++ (v_X12_isPair ++ (wsX120 ++ ([] : List Cond)))))
theorem good_v_X12_lives : v_X12_lives.all goodWord = true := ga_c (by decide +kernel) (ga_a (by decide +kernel) (ga_a good_v_X12_isSeed (ga_a good_v_X12_isPair (ga_a good_wsX120 rfl))))
set_option maxHeartbeats 4000000 in
set_option maxRecDepth 100000 in
theorem k_X12_lives (l : Launch) (g : va_G) (cI cJ cB cZ cL : ClassId) (y : Nat) (a : Nat → Nat) (p0 : Int32) (p1 : Int32) (ip0 : Int) (ip1 : Int) (sz : Nat) (hzp0 : p0.toInt = ip0) (hzp1 : p1.toInt = ip1) : Met l yX12_lives v_X12_lives ({ frames := 2, cells := 0, slots := 0, locals := 46 }) (va_Pc [.ref y, .int p0, .int p1] (pRW g (tyT cI cJ cB cZ cL) [(y, .inr (11, mO a)), ((a 17), .inl (cI, 25, .inl (fun _ => 0))), ((a 16), .inl (cI, 5, .inl (fun _ => 0)))] sz)) (va_Qi (fun (r : Int32) (u : Unit) => r = (-2)) (fun (_ : Unit) (t : State) => bRW g (tyT cI cJ cB cZ cL) (va_A [(y, .inr (11, mO a)), ((a 17), .inl (cI, 25, .inl (fun _ => 0))), ((a 16), .inl (cI, 5, .inl (fun _ => 0)))] sz) [] t) (va_A [(y, .inr (11, mO a)), ((a 17), .inl (cI, 25, .inl (fun _ => 0))), ((a 16), .inl (cI, 5, .inl (fun _ => 0)))] sz)) 0 0 (va_A [(y, .inr (11, mO a)), ((a 17), .inl (cI, 25, .inl (fun _ => 0))), ((a 16), .inl (cI, 5, .inl (fun _ => 0)))] sz) := by
  refine Met.ofW (cc := cX12_lives) (maxL := 3) (ret := (some .int)) (by decide) rfl ?_
  intro p e s m args below meth c s₁ B hml hv
  obtain ⟨rfl, hsz, hP, hK, hD0⟩ := hv
  have hx := B.exec
  have hb := B.bytes
  have hr := B.returns
  have hts := atoms_spec (ws := v_X12_lives) B.pre
  have hown : s.vm.findClass RX12 = some m.cls := findClass_of_methodNamed B.named
  have hlocks := B.notSynchronized
  subst hsz
  have iX12 : ∀ w ∈ wsX120, w ∈ v_X12_lives := (fun _ h => List.mem_cons_of_mem _ (List.mem_append_right _ (List.mem_append_right _ (List.mem_append_right _ (List.mem_append_left _ h)))))
  have hD := hD0.self (sz := s.heap.size)
  generalize hAe : (va_A [(y, .inr (11, mO a)), ((a 17), .inl (cI, 25, .inl (fun _ => 0))), ((a 16), .inl (cI, 5, .inl (fun _ => 0)))] s.heap.size) = A at hD ⊢
  have hA : ∀ q : Nat, s.heap.size ≤ q → A q := fun q h => by rw [← hAe]; exact Or.inr h
  have hS : va_S A s.heap s.heap [] := va_S.rf
  have hl := lv_entry ([.ref y, .int p0, .int p1]) (n := 3) (Nat.le_of_ble_eq_true rfl)
  rw [lg_entry_eq]
  generalize (lg_sl ([.ref y, .int p0, .int p1]) ++ List.replicate (3 - (lg_sl ([.ref y, .int p0, .int p1])).length) Slot.unset).toArray = ls at hl ⊢
  have hl : lv_has ls 3 [(0, .ref y), (1, .int p0), (2, .int p1)] := hl
  have hP : va_P g vwCl [(y, .inr (11, mO a)), ((a 17), .inl (cI, 25, .inl (fun _ => 0))), ((a 16), .inl (cI, 5, .inl (fun _ => 0)))] s.heap := hP
  refine lv_aload_n hx hb dX12_lives_0 rfl (lv_at hl 0 rfl) ?_
  refine lv_iconst (v := 0) hx hb dX12_lives_1 (by decide) ?_
  refine va_put (D := g) (ci := 11) (v := .int 0) (ty := .int) (C := RX12) (T := TX12) (N := 56) hx hb hts iX12 tyX12 tyX12_ok nmX12 hown hK hP hD hS 0 rfl rfl 0 (by decide) (hts (.fieldLink RX12 107 "CardsAtYuleModel" "thrown" "I") (List.mem_cons_of_mem _ (List.mem_append_left _ (List.mem_of_getElem? (i := 0) rfl)))) (fun _ h9 => h9) rfl (by decide +kernel) rfl rfl (Nat.le_of_ble_eq_true rfl) dX12_lives_2 (fun H locs hP hD hS => ?_)
  have hP : va_P g vwCl [(y, .inr (11, mO a)), ((a 17), .inl (cI, 25, .inl (fun _ => 0))), ((a 16), .inl (cI, 5, .inl (fun _ => 0)))] H := hP
  have hD : va_D A [(y, .inr (11, mO a)), ((a 17), .inl (cI, 25, .inl (fun _ => 0))), ((a 16), .inl (cI, 5, .inl (fun _ => 0)))] := hD
  refine lv_iload_n hx hb dX12_lives_5 rfl (lv_at hl 1 rfl) ?_
  refine ro_i (va_runS (As := [.int p0]) (rest := []) ⟨hx, hb, hml, hown, hts⟩ (k_X12_isSeed l g cI cJ cB cZ cL p0 ip0 H.size hzp0) (va_cwS 1 hts (goodIn_app (g_3 (List.mem_cons_of_mem _ (List.mem_append_left _ (List.mem_of_getElem? (i := 1) rfl))) (List.mem_cons_of_mem _ (List.mem_append_left _ (List.mem_of_getElem? (i := 2) rfl))) (List.mem_cons_of_mem _ (List.mem_append_left _ (List.mem_of_getElem? (i := 3) rfl))) (by decide +kernel)) (goodIn_sub (fun _ h => List.mem_cons_of_mem _ (List.mem_append_right _ (List.mem_append_left _ h))) good_v_X12_isSeed)) rfl rfl rfl (by decide +kernel) ⟨Nat.le_of_ble_eq_true rfl, Nat.le_of_ble_eq_true rfl⟩) (ps_RO (wc := []) hK hP [] rfl) rfl rfl hl.1 rfl (lv_room (Nat.le_of_ble_eq_true rfl)) dX12_lives_6 ⟨Nat.le_of_ble_eq_true rfl, Nat.le_of_ble_eq_true rfl⟩) hS hA hP (fun r1 u2 H locs hw3 hP hS => ?_)
  rcases hw3 with ⟨rfl, hw3_0⟩ | ⟨rfl, hw3_0⟩
  · refine lv_if_eq (tgt := 20) hx hb dX12_lives_9 (by decide) (fun c4 => absurd c4 (by decide)) (fun _ => ?_)
    refine lv_aload_n hx hb dX12_lives_12 rfl (lv_at hl 0 rfl) ?_
    refine lv_iload_n hx hb dX12_lives_13 rfl (lv_at hl 2 rfl) ?_
    refine ro_i (va_runV (As := [.int p1]) (rest := []) ⟨hx, hb, hml, hown, hts⟩ (k_X12_isPair l g cI cJ cB cZ cL y a p1 ip1 H.size hzp1) (cwV 1 hts (goodIn_app (g_4 (List.mem_cons_of_mem _ (List.mem_append_left _ (List.mem_of_getElem? (i := 4) rfl))) (List.mem_cons_of_mem _ (List.mem_append_left _ (List.mem_of_getElem? (i := 5) rfl))) (List.mem_cons_of_mem _ (List.mem_append_left _ (List.mem_of_getElem? (i := 6) rfl))) (List.mem_cons_of_mem _ (List.mem_append_left _ (List.mem_of_getElem? (i := 3) rfl))) (by decide +kernel)) (goodIn_sub (fun _ h => List.mem_cons_of_mem _ (List.mem_append_right _ (List.mem_append_right _ (List.mem_append_left _ h)))) good_v_X12_isPair)) rfl rfl rfl (by decide +kernel) ⟨Nat.le_of_ble_eq_true rfl, Nat.le_of_ble_eq_true rfl⟩) (pv_RO (q := (RX12, TX12, 56)) (ci := 11) (q0 := 0) (wc := [(y, .inr (11, mO a)), ((a 17), .inl (cI, 25, .inl (fun _ => 0))), ((a 16), .inl (cI, 5, .inl (fun _ => 0)))]) hK hP [0, 1, 2] rfl rfl rfl) rfl rfl hl.1 rfl (lv_room (Nat.le_of_ble_eq_true rfl)) dX12_lives_14 ⟨Nat.le_of_ble_eq_true rfl, Nat.le_of_ble_eq_true rfl⟩) hS hA hP (fun r5 u6 H locs hw7 hP hS => ?_)
    subst hw7
    refine lv_if_ne (tgt := 23) hx hb dX12_lives_17 (by decide) (fun c8 => absurd c8 (by decide)) (fun _ => ?_)
    refine lv_bipush (v := (-2)) hx hb dX12_lives_20 (by decide) ?_
    have hP9 := hP.sub (ws' := []) [] rfl
    have hD9 := hD.sub (ws' := []) [] (by decide) rfl
    exact W.iret (v := (-2)) hx hb hr (fun t ht hW => ⟨⟨(-2), (), rfl, rfl, by rw [ht]; exact hP9, va_K.moved hW.alike hK, hD9⟩, hS.F ht⟩) hS.2.2 dX12_lives_22
  · refine lv_if_eq (tgt := 20) hx hb dX12_lives_9 (by decide) (fun _ => ?_) (fun c9 => absurd c9 (by decide))
    refine lv_bipush (v := (-2)) hx hb dX12_lives_20 (by decide) ?_
    have hP9 := hP.sub (ws' := []) [] rfl
    have hD9 := hD.sub (ws' := []) [] (by decide) rfl
    exact W.iret (v := (-2)) hx hb hr (fun t ht hW => ⟨⟨(-2), (), rfl, rfl, by rw [ht]; exact hP9, va_K.moved hW.alike hK, hD9⟩, hS.F ht⟩) hS.2.2 dX12_lives_22
def v_X12_lasts : List Cond := .code yX12_lasts cX12_lasts 6 (some .int) :: (([.fieldLink RX12 107 "CardsAtYuleModel" "thrown" "I", .methodLink RX12 530 yX12_isSeed, .static yX12_isSeed, .initialized RX12, .constantLong RX12 536 (20), .methodLink RX12 112 yX12_in, .static yX12_in, .methodLink RX12 281 yX12_isPair, .instanceMethod yX12_isPair, .selects RX12 yX12_isPair yX12_isPair] : List Cond) ++ (v_X12_isSeed ++ (v_X12_in ++ (v_X12_isPair ++ (wsX120 ++ ([] : List Cond))))))
theorem good_v_X12_lasts : v_X12_lasts.all goodWord = true := ga_c (by decide +kernel) (ga_a (by decide +kernel) (ga_a good_v_X12_isSeed (ga_a good_v_X12_in (ga_a good_v_X12_isPair (ga_a good_wsX120 rfl)))))
set_option maxHeartbeats 4000000 in
set_option maxRecDepth 100000 in
theorem k_X12_lasts (l : Launch) (g : va_G) (cI cJ cB cZ cL : ClassId) (y : Nat) (a : Nat → Nat) (p0 : Int32) (p1 : Int32) (p2 : Int32) (ip0 : Int) (ip1 : Int) (ip2 : Int) (sz : Nat) (hzp0 : p0.toInt = ip0) (hzp1 : p1.toInt = ip1) (hzp2 : p2.toInt = ip2) : Met l yX12_lasts v_X12_lasts ({ frames := 2, cells := 0, slots := 0, locals := 46 }) (va_Pc [.ref y, .int p0, .int p1, .int p2] (pRW g (tyT cI cJ cB cZ cL) [(y, .inr (11, mO a)), ((a 17), .inl (cI, 25, .inl (fun _ => 0))), ((a 16), .inl (cI, 5, .inl (fun _ => 0)))] sz)) (va_Qi (fun (r : Int32) (u : Unit) => r = (-2)) (fun (_ : Unit) (t : State) => bRW g (tyT cI cJ cB cZ cL) (va_A [(y, .inr (11, mO a)), ((a 17), .inl (cI, 25, .inl (fun _ => 0))), ((a 16), .inl (cI, 5, .inl (fun _ => 0)))] sz) [] t) (va_A [(y, .inr (11, mO a)), ((a 17), .inl (cI, 25, .inl (fun _ => 0))), ((a 16), .inl (cI, 5, .inl (fun _ => 0)))] sz)) 0 0 (va_A [(y, .inr (11, mO a)), ((a 17), .inl (cI, 25, .inl (fun _ => 0))), ((a 16), .inl (cI, 5, .inl (fun _ => 0)))] sz) := by
  refine Met.ofW (cc := cX12_lasts) (maxL := 6) (ret := (some .int)) (by decide) rfl ?_
  intro p e s m args below meth c s₁ B hml hv
  obtain ⟨rfl, hsz, hP, hK, hD0⟩ := hv
  have hx := B.exec
  have hb := B.bytes
  have hr := B.returns
  have hts := atoms_spec (ws := v_X12_lasts) B.pre
  have hown : s.vm.findClass RX12 = some m.cls := findClass_of_methodNamed B.named
  have hlocks := B.notSynchronized
  subst hsz
  have iX12 : ∀ w ∈ wsX120, w ∈ v_X12_lasts := (fun _ h => List.mem_cons_of_mem _ (List.mem_append_right _ (List.mem_append_right _ (List.mem_append_right _ (List.mem_append_right _ (List.mem_append_left _ h))))))
  have hD := hD0.self (sz := s.heap.size)
  generalize hAe : (va_A [(y, .inr (11, mO a)), ((a 17), .inl (cI, 25, .inl (fun _ => 0))), ((a 16), .inl (cI, 5, .inl (fun _ => 0)))] s.heap.size) = A at hD ⊢
  have hA : ∀ q : Nat, s.heap.size ≤ q → A q := fun q h => by rw [← hAe]; exact Or.inr h
  have hS : va_S A s.heap s.heap [] := va_S.rf
  have hl := lv_entry ([.ref y, .int p0, .int p1, .int p2]) (n := 6) (Nat.le_of_ble_eq_true rfl)
  rw [lg_entry_eq]
  generalize (lg_sl ([.ref y, .int p0, .int p1, .int p2]) ++ List.replicate (6 - (lg_sl ([.ref y, .int p0, .int p1, .int p2])).length) Slot.unset).toArray = ls at hl ⊢
  have hl : lv_has ls 6 [(0, .ref y), (1, .int p0), (2, .int p1), (3, .int p2)] := hl
  have hP : va_P g vwCl [(y, .inr (11, mO a)), ((a 17), .inl (cI, 25, .inl (fun _ => 0))), ((a 16), .inl (cI, 5, .inl (fun _ => 0)))] s.heap := hP
  refine lv_aload_n hx hb dX12_lasts_0 rfl (lv_at hl 0 rfl) ?_
  refine lv_iconst (v := 0) hx hb dX12_lasts_1 (by decide) ?_
  refine va_put (D := g) (ci := 11) (v := .int 0) (ty := .int) (C := RX12) (T := TX12) (N := 56) hx hb hts iX12 tyX12 tyX12_ok nmX12 hown hK hP hD hS 0 rfl rfl 0 (by decide) (hts (.fieldLink RX12 107 "CardsAtYuleModel" "thrown" "I") (List.mem_cons_of_mem _ (List.mem_append_left _ (List.mem_of_getElem? (i := 0) rfl)))) (fun _ h9 => h9) rfl (by decide +kernel) rfl rfl (Nat.le_of_ble_eq_true rfl) dX12_lasts_2 (fun H locs hP hD hS => ?_)
  have hP : va_P g vwCl [(y, .inr (11, mO a)), ((a 17), .inl (cI, 25, .inl (fun _ => 0))), ((a 16), .inl (cI, 5, .inl (fun _ => 0)))] H := hP
  have hD : va_D A [(y, .inr (11, mO a)), ((a 17), .inl (cI, 25, .inl (fun _ => 0))), ((a 16), .inl (cI, 5, .inl (fun _ => 0)))] := hD
  refine lv_iload_n hx hb dX12_lasts_5 rfl (lv_at hl 1 rfl) ?_
  refine ro_i (va_runS (As := [.int p0]) (rest := []) ⟨hx, hb, hml, hown, hts⟩ (k_X12_isSeed l g cI cJ cB cZ cL p0 ip0 H.size hzp0) (va_cwS 1 hts (goodIn_app (g_3 (List.mem_cons_of_mem _ (List.mem_append_left _ (List.mem_of_getElem? (i := 1) rfl))) (List.mem_cons_of_mem _ (List.mem_append_left _ (List.mem_of_getElem? (i := 2) rfl))) (List.mem_cons_of_mem _ (List.mem_append_left _ (List.mem_of_getElem? (i := 3) rfl))) (by decide +kernel)) (goodIn_sub (fun _ h => List.mem_cons_of_mem _ (List.mem_append_right _ (List.mem_append_left _ h))) good_v_X12_isSeed)) rfl rfl rfl (by decide +kernel) ⟨Nat.le_of_ble_eq_true rfl, Nat.le_of_ble_eq_true rfl⟩) (ps_RO (wc := []) hK hP [] rfl) rfl rfl hl.1 rfl (lv_room (Nat.le_of_ble_eq_true rfl)) dX12_lasts_6 ⟨Nat.le_of_ble_eq_true rfl, Nat.le_of_ble_eq_true rfl⟩) hS hA hP (fun r1 u2 H locs hw3 hP hS => ?_)
  rcases hw3 with ⟨rfl, hw3_0⟩ | ⟨rfl, hw3_0⟩
  · refine lv_if_eq (tgt := 32) hx hb dX12_lasts_9 (by decide) (fun c4 => absurd c4 (by decide)) (fun _ => ?_)
    refine lv_iload_n hx hb dX12_lasts_12 rfl (lv_at hl 2 rfl) ?_
    refine lv_i2l (v := p1.toInt64) hx hb dX12_lasts_13 rfl ?_
    refine lv_lconst (v := 1) hx hb dX12_lasts_14 (by decide) ?_
    refine lv_ldc2 (v := 20) hx hb hown (hts (.constantLong RX12 536 (20)) (List.mem_cons_of_mem _ (List.mem_append_left _ (List.mem_of_getElem? (i := 4) rfl)))) dX12_lasts_15 ?_
    refine ro_i (va_runS (As := [.long p1.toInt64, .long 1, .long 20]) (rest := []) ⟨hx, hb, hml, hown, hts⟩ (k_X12_in l g cI cJ cB cZ cL p1.toInt64 1 20 ip1 1 20 H.size (z_i2l hzp1) rfl rfl) (va_cwS 3 hts (goodIn_app (g_3 (List.mem_cons_of_mem _ (List.mem_append_left _ (List.mem_of_getElem? (i := 5) rfl))) (List.mem_cons_of_mem _ (List.mem_append_left _ (List.mem_of_getElem? (i := 6) rfl))) (List.mem_cons_of_mem _ (List.mem_append_left _ (List.mem_of_getElem? (i := 3) rfl))) (by decide +kernel)) (goodIn_sub (fun _ h => List.mem_cons_of_mem _ (List.mem_append_right _ (List.mem_append_right _ (List.mem_append_left _ h)))) good_v_X12_in)) rfl rfl rfl (by decide +kernel) ⟨Nat.le_of_ble_eq_true rfl, Nat.le_of_ble_eq_true rfl⟩) (ps_RO (wc := []) hK hP [] rfl) rfl rfl hl.1 rfl (lv_room (Nat.le_of_ble_eq_true rfl)) dX12_lasts_18 ⟨Nat.le_of_ble_eq_true rfl, Nat.le_of_ble_eq_true rfl⟩) hS hA hP (fun r5 u6 H locs hw7 hP hS => ?_)
    rcases hw7 with ⟨rfl, hw7_0⟩ | ⟨rfl, hw7_0⟩
    · refine lv_if_eq (tgt := 32) hx hb dX12_lasts_21 (by decide) (fun c8 => absurd c8 (by decide)) (fun _ => ?_)
      refine lv_aload_n hx hb dX12_lasts_24 rfl (lv_at hl 0 rfl) ?_
      refine lv_iload_n hx hb dX12_lasts_25 rfl (lv_at hl 3 rfl) ?_
      refine ro_i (va_runV (As := [.int p2]) (rest := []) ⟨hx, hb, hml, hown, hts⟩ (k_X12_isPair l g cI cJ cB cZ cL y a p2 ip2 H.size hzp2) (cwV 1 hts (goodIn_app (g_4 (List.mem_cons_of_mem _ (List.mem_append_left _ (List.mem_of_getElem? (i := 7) rfl))) (List.mem_cons_of_mem _ (List.mem_append_left _ (List.mem_of_getElem? (i := 8) rfl))) (List.mem_cons_of_mem _ (List.mem_append_left _ (List.mem_of_getElem? (i := 9) rfl))) (List.mem_cons_of_mem _ (List.mem_append_left _ (List.mem_of_getElem? (i := 3) rfl))) (by decide +kernel)) (goodIn_sub (fun _ h => List.mem_cons_of_mem _ (List.mem_append_right _ (List.mem_append_right _ (List.mem_append_right _ (List.mem_append_left _ h))))) good_v_X12_isPair)) rfl rfl rfl (by decide +kernel) ⟨Nat.le_of_ble_eq_true rfl, Nat.le_of_ble_eq_true rfl⟩) (pv_RO (q := (RX12, TX12, 56)) (ci := 11) (q0 := 0) (wc := [(y, .inr (11, mO a)), ((a 17), .inl (cI, 25, .inl (fun _ => 0))), ((a 16), .inl (cI, 5, .inl (fun _ => 0)))]) hK hP [0, 1, 2] rfl rfl rfl) rfl rfl hl.1 rfl (lv_room (Nat.le_of_ble_eq_true rfl)) dX12_lasts_26 ⟨Nat.le_of_ble_eq_true rfl, Nat.le_of_ble_eq_true rfl⟩) hS hA hP (fun r9 u10 H locs hw11 hP hS => ?_)
      subst hw11
      refine lv_if_ne (tgt := 35) hx hb dX12_lasts_29 (by decide) (fun c12 => absurd c12 (by decide)) (fun _ => ?_)
      refine lv_bipush (v := (-2)) hx hb dX12_lasts_32 (by decide) ?_
      have hP9 := hP.sub (ws' := []) [] rfl
      have hD9 := hD.sub (ws' := []) [] (by decide) rfl
      exact W.iret (v := (-2)) hx hb hr (fun t ht hW => ⟨⟨(-2), (), rfl, rfl, by rw [ht]; exact hP9, va_K.moved hW.alike hK, hD9⟩, hS.F ht⟩) hS.2.2 dX12_lasts_34
    · refine lv_if_eq (tgt := 32) hx hb dX12_lasts_21 (by decide) (fun _ => ?_) (fun c13 => absurd c13 (by decide))
      refine lv_bipush (v := (-2)) hx hb dX12_lasts_32 (by decide) ?_
      have hP9 := hP.sub (ws' := []) [] rfl
      have hD9 := hD.sub (ws' := []) [] (by decide) rfl
      exact W.iret (v := (-2)) hx hb hr (fun t ht hW => ⟨⟨(-2), (), rfl, rfl, by rw [ht]; exact hP9, va_K.moved hW.alike hK, hD9⟩, hS.F ht⟩) hS.2.2 dX12_lasts_34
  · refine lv_if_eq (tgt := 32) hx hb dX12_lasts_9 (by decide) (fun _ => ?_) (fun c14 => absurd c14 (by decide))
    refine lv_bipush (v := (-2)) hx hb dX12_lasts_32 (by decide) ?_
    have hP9 := hP.sub (ws' := []) [] rfl
    have hD9 := hD.sub (ws' := []) [] (by decide) rfl
    exact W.iret (v := (-2)) hx hb hr (fun t ht hW => ⟨⟨(-2), (), rfl, rfl, by rw [ht]; exact hP9, va_K.moved hW.alike hK, hD9⟩, hS.F ht⟩) hS.2.2 dX12_lasts_34
def v_X12_train : List Cond := .code yX12_train cX12_train 5 (some .int) :: (([.fieldLink RX12 107 "CardsAtYuleModel" "thrown" "I", .methodLink RX12 276 yX12_isPerson, .instanceMethod yX12_isPerson, .selects RX12 yX12_isPerson yX12_isPerson, .initialized RX12] : List Cond) ++ (v_X12_isPerson ++ (wsX120 ++ ([] : List Cond))))
theorem good_v_X12_train : v_X12_train.all goodWord = true := ga_c (by decide +kernel) (ga_a (by decide +kernel) (ga_a good_v_X12_isPerson (ga_a good_wsX120 rfl)))
set_option maxHeartbeats 4000000 in
set_option maxRecDepth 100000 in
theorem k_X12_train (l : Launch) (g : va_G) (cI cJ cB cZ cL : ClassId) (y : Nat) (a : Nat → Nat) (p0 : Int32) (p1 : Int32) (p2 : Int32) (ip0 : Int) (ip1 : Int) (ip2 : Int) (sz : Nat) (hzp0 : p0.toInt = ip0) (hzp1 : p1.toInt = ip1) (hzp2 : p2.toInt = ip2) : Met l yX12_train v_X12_train ({ frames := 2, cells := 0, slots := 0, locals := 46 }) (va_Pc [.ref y, .int p0, .int p1, .int p2] (pRW g (tyT cI cJ cB cZ cL) [(y, .inr (11, mO a)), ((a 17), .inl (cI, 25, .inl (fun _ => 0))), ((a 16), .inl (cI, 5, .inl (fun _ => 0)))] sz)) (va_Qi (fun (r : Int32) (u : Unit) => r = (-2)) (fun (_ : Unit) (t : State) => bRW g (tyT cI cJ cB cZ cL) (va_A [(y, .inr (11, mO a)), ((a 17), .inl (cI, 25, .inl (fun _ => 0))), ((a 16), .inl (cI, 5, .inl (fun _ => 0)))] sz) [] t) (va_A [(y, .inr (11, mO a)), ((a 17), .inl (cI, 25, .inl (fun _ => 0))), ((a 16), .inl (cI, 5, .inl (fun _ => 0)))] sz)) 0 0 (va_A [(y, .inr (11, mO a)), ((a 17), .inl (cI, 25, .inl (fun _ => 0))), ((a 16), .inl (cI, 5, .inl (fun _ => 0)))] sz) := by
  refine Met.ofW (cc := cX12_train) (maxL := 5) (ret := (some .int)) (by decide) rfl ?_
  intro p e s m args below meth c s₁ B hml hv
  obtain ⟨rfl, hsz, hP, hK, hD0⟩ := hv
  have hx := B.exec
  have hb := B.bytes
  have hr := B.returns
  have hts := atoms_spec (ws := v_X12_train) B.pre
  have hown : s.vm.findClass RX12 = some m.cls := findClass_of_methodNamed B.named
  have hlocks := B.notSynchronized
  subst hsz
  have iX12 : ∀ w ∈ wsX120, w ∈ v_X12_train := (fun _ h => List.mem_cons_of_mem _ (List.mem_append_right _ (List.mem_append_right _ (List.mem_append_left _ h))))
  have hD := hD0.self (sz := s.heap.size)
  generalize hAe : (va_A [(y, .inr (11, mO a)), ((a 17), .inl (cI, 25, .inl (fun _ => 0))), ((a 16), .inl (cI, 5, .inl (fun _ => 0)))] s.heap.size) = A at hD ⊢
  have hA : ∀ q : Nat, s.heap.size ≤ q → A q := fun q h => by rw [← hAe]; exact Or.inr h
  have hS : va_S A s.heap s.heap [] := va_S.rf
  have hl := lv_entry ([.ref y, .int p0, .int p1, .int p2]) (n := 5) (Nat.le_of_ble_eq_true rfl)
  rw [lg_entry_eq]
  generalize (lg_sl ([.ref y, .int p0, .int p1, .int p2]) ++ List.replicate (5 - (lg_sl ([.ref y, .int p0, .int p1, .int p2])).length) Slot.unset).toArray = ls at hl ⊢
  have hl : lv_has ls 5 [(0, .ref y), (1, .int p0), (2, .int p1), (3, .int p2)] := hl
  have hP : va_P g vwCl [(y, .inr (11, mO a)), ((a 17), .inl (cI, 25, .inl (fun _ => 0))), ((a 16), .inl (cI, 5, .inl (fun _ => 0)))] s.heap := hP
  refine lv_aload_n hx hb dX12_train_0 rfl (lv_at hl 0 rfl) ?_
  refine lv_iconst (v := 0) hx hb dX12_train_1 (by decide) ?_
  refine va_put (D := g) (ci := 11) (v := .int 0) (ty := .int) (C := RX12) (T := TX12) (N := 56) hx hb hts iX12 tyX12 tyX12_ok nmX12 hown hK hP hD hS 0 rfl rfl 0 (by decide) (hts (.fieldLink RX12 107 "CardsAtYuleModel" "thrown" "I") (List.mem_cons_of_mem _ (List.mem_append_left _ (List.mem_of_getElem? (i := 0) rfl)))) (fun _ h9 => h9) rfl (by decide +kernel) rfl rfl (Nat.le_of_ble_eq_true rfl) dX12_train_2 (fun H locs hP hD hS => ?_)
  have hP : va_P g vwCl [(y, .inr (11, mO a)), ((a 17), .inl (cI, 25, .inl (fun _ => 0))), ((a 16), .inl (cI, 5, .inl (fun _ => 0)))] H := hP
  have hD : va_D A [(y, .inr (11, mO a)), ((a 17), .inl (cI, 25, .inl (fun _ => 0))), ((a 16), .inl (cI, 5, .inl (fun _ => 0)))] := hD
  refine lv_aload_n hx hb dX12_train_5 rfl (lv_at hl 0 rfl) ?_
  refine lv_iload_n hx hb dX12_train_6 rfl (lv_at hl 1 rfl) ?_
  refine ro_i (va_runV (As := [.int p0]) (rest := []) ⟨hx, hb, hml, hown, hts⟩ (k_X12_isPerson l g cI cJ cB cZ cL y a p0 ip0 H.size hzp0) (cwV 1 hts (goodIn_app (g_4 (List.mem_cons_of_mem _ (List.mem_append_left _ (List.mem_of_getElem? (i := 1) rfl))) (List.mem_cons_of_mem _ (List.mem_append_left _ (List.mem_of_getElem? (i := 2) rfl))) (List.mem_cons_of_mem _ (List.mem_append_left _ (List.mem_of_getElem? (i := 3) rfl))) (List.mem_cons_of_mem _ (List.mem_append_left _ (List.mem_of_getElem? (i := 4) rfl))) (by decide +kernel)) (goodIn_sub (fun _ h => List.mem_cons_of_mem _ (List.mem_append_right _ (List.mem_append_left _ h))) good_v_X12_isPerson)) rfl rfl rfl (by decide +kernel) ⟨Nat.le_of_ble_eq_true rfl, Nat.le_of_ble_eq_true rfl⟩) (pv_RO (q := (RX12, TX12, 56)) (ci := 11) (q0 := 0) (wc := [(y, .inr (11, mO a)), ((a 17), .inl (cI, 25, .inl (fun _ => 0))), ((a 16), .inl (cI, 5, .inl (fun _ => 0)))]) hK hP [0, 1, 2] rfl rfl rfl) rfl rfl hl.1 rfl (lv_room (Nat.le_of_ble_eq_true rfl)) dX12_train_7 ⟨Nat.le_of_ble_eq_true rfl, Nat.le_of_ble_eq_true rfl⟩) hS hA hP (fun r1 u2 H locs hw3 hP hS => ?_)
  subst hw3
  refine lv_if_eq (tgt := 56) hx hb dX12_train_10 (by decide) (fun _ => ?_) (fun c4 => absurd c4 (by decide))
  refine lv_bipush (v := (-2)) hx hb dX12_train_56 (by decide) ?_
  have hP9 := hP.sub (ws' := []) [] rfl
  have hD9 := hD.sub (ws' := []) [] (by decide) rfl
  exact W.iret (v := (-2)) hx hb hr (fun t ht hW => ⟨⟨(-2), (), rfl, rfl, by rw [ht]; exact hP9, va_K.moved hW.alike hK, hD9⟩, hS.F ht⟩) hS.2.2 dX12_train_58
def v_X12_begin : List Cond := .code yX12_begin cX12_begin 4 (some .int) :: (([.fieldLink RX12 107 "CardsAtYuleModel" "thrown" "I", .methodLink RX12 281 yX12_isPair, .instanceMethod yX12_isPair, .selects RX12 yX12_isPair yX12_isPair, .initialized RX12] : List Cond) ++ (v_X12_isPair ++ (wsX120 ++ ([] : List Cond))))
theorem good_v_X12_begin : v_X12_begin.all goodWord = true := ga_c (by decide +kernel) (ga_a (by decide +kernel) (ga_a good_v_X12_isPair (ga_a good_wsX120 rfl)))
set_option maxHeartbeats 4000000 in
set_option maxRecDepth 100000 in
theorem k_X12_begin (l : Launch) (g : va_G) (cI cJ cB cZ cL : ClassId) (y : Nat) (a : Nat → Nat) (p0 : Int32) (p1 : Int32) (ip0 : Int) (ip1 : Int) (sz : Nat) (hzp0 : p0.toInt = ip0) (hzp1 : p1.toInt = ip1) : Met l yX12_begin v_X12_begin ({ frames := 2, cells := 0, slots := 0, locals := 46 }) (va_Pc [.ref y, .int p0, .int p1] (pRW g (tyT cI cJ cB cZ cL) [(y, .inr (11, mO a)), ((a 17), .inl (cI, 25, .inl (fun _ => 0))), ((a 16), .inl (cI, 5, .inl (fun _ => 0)))] sz)) (va_Qi (fun (r : Int32) (u : Unit) => r = (-2)) (fun (_ : Unit) (t : State) => bRW g (tyT cI cJ cB cZ cL) (va_A [(y, .inr (11, mO a)), ((a 17), .inl (cI, 25, .inl (fun _ => 0))), ((a 16), .inl (cI, 5, .inl (fun _ => 0)))] sz) [] t) (va_A [(y, .inr (11, mO a)), ((a 17), .inl (cI, 25, .inl (fun _ => 0))), ((a 16), .inl (cI, 5, .inl (fun _ => 0)))] sz)) 0 0 (va_A [(y, .inr (11, mO a)), ((a 17), .inl (cI, 25, .inl (fun _ => 0))), ((a 16), .inl (cI, 5, .inl (fun _ => 0)))] sz) := by
  refine Met.ofW (cc := cX12_begin) (maxL := 4) (ret := (some .int)) (by decide) rfl ?_
  intro p e s m args below meth c s₁ B hml hv
  obtain ⟨rfl, hsz, hP, hK, hD0⟩ := hv
  have hx := B.exec
  have hb := B.bytes
  have hr := B.returns
  have hts := atoms_spec (ws := v_X12_begin) B.pre
  have hown : s.vm.findClass RX12 = some m.cls := findClass_of_methodNamed B.named
  have hlocks := B.notSynchronized
  subst hsz
  have iX12 : ∀ w ∈ wsX120, w ∈ v_X12_begin := (fun _ h => List.mem_cons_of_mem _ (List.mem_append_right _ (List.mem_append_right _ (List.mem_append_left _ h))))
  have hD := hD0.self (sz := s.heap.size)
  generalize hAe : (va_A [(y, .inr (11, mO a)), ((a 17), .inl (cI, 25, .inl (fun _ => 0))), ((a 16), .inl (cI, 5, .inl (fun _ => 0)))] s.heap.size) = A at hD ⊢
  have hA : ∀ q : Nat, s.heap.size ≤ q → A q := fun q h => by rw [← hAe]; exact Or.inr h
  have hS : va_S A s.heap s.heap [] := va_S.rf
  have hl := lv_entry ([.ref y, .int p0, .int p1]) (n := 4) (Nat.le_of_ble_eq_true rfl)
  rw [lg_entry_eq]
  generalize (lg_sl ([.ref y, .int p0, .int p1]) ++ List.replicate (4 - (lg_sl ([.ref y, .int p0, .int p1])).length) Slot.unset).toArray = ls at hl ⊢
  have hl : lv_has ls 4 [(0, .ref y), (1, .int p0), (2, .int p1)] := hl
  have hP : va_P g vwCl [(y, .inr (11, mO a)), ((a 17), .inl (cI, 25, .inl (fun _ => 0))), ((a 16), .inl (cI, 5, .inl (fun _ => 0)))] s.heap := hP
  refine lv_aload_n hx hb dX12_begin_0 rfl (lv_at hl 0 rfl) ?_
  refine lv_iconst (v := 0) hx hb dX12_begin_1 (by decide) ?_
  refine va_put (D := g) (ci := 11) (v := .int 0) (ty := .int) (C := RX12) (T := TX12) (N := 56) hx hb hts iX12 tyX12 tyX12_ok nmX12 hown hK hP hD hS 0 rfl rfl 0 (by decide) (hts (.fieldLink RX12 107 "CardsAtYuleModel" "thrown" "I") (List.mem_cons_of_mem _ (List.mem_append_left _ (List.mem_of_getElem? (i := 0) rfl)))) (fun _ h9 => h9) rfl (by decide +kernel) rfl rfl (Nat.le_of_ble_eq_true rfl) dX12_begin_2 (fun H locs hP hD hS => ?_)
  have hP : va_P g vwCl [(y, .inr (11, mO a)), ((a 17), .inl (cI, 25, .inl (fun _ => 0))), ((a 16), .inl (cI, 5, .inl (fun _ => 0)))] H := hP
  have hD : va_D A [(y, .inr (11, mO a)), ((a 17), .inl (cI, 25, .inl (fun _ => 0))), ((a 16), .inl (cI, 5, .inl (fun _ => 0)))] := hD
  refine lv_aload_n hx hb dX12_begin_5 rfl (lv_at hl 0 rfl) ?_
  refine lv_iload_n hx hb dX12_begin_6 rfl (lv_at hl 1 rfl) ?_
  refine ro_i (va_runV (As := [.int p0]) (rest := []) ⟨hx, hb, hml, hown, hts⟩ (k_X12_isPair l g cI cJ cB cZ cL y a p0 ip0 H.size hzp0) (cwV 1 hts (goodIn_app (g_4 (List.mem_cons_of_mem _ (List.mem_append_left _ (List.mem_of_getElem? (i := 1) rfl))) (List.mem_cons_of_mem _ (List.mem_append_left _ (List.mem_of_getElem? (i := 2) rfl))) (List.mem_cons_of_mem _ (List.mem_append_left _ (List.mem_of_getElem? (i := 3) rfl))) (List.mem_cons_of_mem _ (List.mem_append_left _ (List.mem_of_getElem? (i := 4) rfl))) (by decide +kernel)) (goodIn_sub (fun _ h => List.mem_cons_of_mem _ (List.mem_append_right _ (List.mem_append_left _ h))) good_v_X12_isPair)) rfl rfl rfl (by decide +kernel) ⟨Nat.le_of_ble_eq_true rfl, Nat.le_of_ble_eq_true rfl⟩) (pv_RO (q := (RX12, TX12, 56)) (ci := 11) (q0 := 0) (wc := [(y, .inr (11, mO a)), ((a 17), .inl (cI, 25, .inl (fun _ => 0))), ((a 16), .inl (cI, 5, .inl (fun _ => 0)))]) hK hP [0, 1, 2] rfl rfl rfl) rfl rfl hl.1 rfl (lv_room (Nat.le_of_ble_eq_true rfl)) dX12_begin_7 ⟨Nat.le_of_ble_eq_true rfl, Nat.le_of_ble_eq_true rfl⟩) hS hA hP (fun r1 u2 H locs hw3 hP hS => ?_)
  subst hw3
  refine lv_if_eq (tgt := 25) hx hb dX12_begin_10 (by decide) (fun _ => ?_) (fun c4 => absurd c4 (by decide))
  refine lv_bipush (v := (-2)) hx hb dX12_begin_25 (by decide) ?_
  have hP9 := hP.sub (ws' := []) [] rfl
  have hD9 := hD.sub (ws' := []) [] (by decide) rfl
  exact W.iret (v := (-2)) hx hb hr (fun t ht hW => ⟨⟨(-2), (), rfl, rfl, by rw [ht]; exact hP9, va_K.moved hW.alike hK, hD9⟩, hS.F ht⟩) hS.2.2 dX12_begin_27
def v_X12_lose : List Cond := .code yX12_lose cX12_lose 6 (some .int) :: (([.fieldLink RX12 107 "CardsAtYuleModel" "thrown" "I", .methodLink RX12 281 yX12_isPair, .instanceMethod yX12_isPair, .selects RX12 yX12_isPair yX12_isPair, .initialized RX12] : List Cond) ++ (v_X12_isPair ++ (wsX120 ++ ([] : List Cond))))
theorem good_v_X12_lose : v_X12_lose.all goodWord = true := ga_c (by decide +kernel) (ga_a (by decide +kernel) (ga_a good_v_X12_isPair (ga_a good_wsX120 rfl)))
set_option maxHeartbeats 4000000 in
set_option maxRecDepth 100000 in
theorem k_X12_lose (l : Launch) (g : va_G) (cI cJ cB cZ cL : ClassId) (y : Nat) (a : Nat → Nat) (p0 : Int32) (p1 : Int32) (p2 : Int32) (p3 : Int32) (ip0 : Int) (ip1 : Int) (ip2 : Int) (ip3 : Int) (sz : Nat) (hzp0 : p0.toInt = ip0) (hzp1 : p1.toInt = ip1) (hzp2 : p2.toInt = ip2) (hzp3 : p3.toInt = ip3) : Met l yX12_lose v_X12_lose ({ frames := 2, cells := 0, slots := 0, locals := 46 }) (va_Pc [.ref y, .int p0, .int p1, .int p2, .int p3] (pRW g (tyT cI cJ cB cZ cL) [(y, .inr (11, mO a)), ((a 17), .inl (cI, 25, .inl (fun _ => 0))), ((a 16), .inl (cI, 5, .inl (fun _ => 0)))] sz)) (va_Qi (fun (r : Int32) (u : Unit) => r = (-2)) (fun (_ : Unit) (t : State) => bRW g (tyT cI cJ cB cZ cL) (va_A [(y, .inr (11, mO a)), ((a 17), .inl (cI, 25, .inl (fun _ => 0))), ((a 16), .inl (cI, 5, .inl (fun _ => 0)))] sz) [] t) (va_A [(y, .inr (11, mO a)), ((a 17), .inl (cI, 25, .inl (fun _ => 0))), ((a 16), .inl (cI, 5, .inl (fun _ => 0)))] sz)) 0 0 (va_A [(y, .inr (11, mO a)), ((a 17), .inl (cI, 25, .inl (fun _ => 0))), ((a 16), .inl (cI, 5, .inl (fun _ => 0)))] sz) := by
  refine Met.ofW (cc := cX12_lose) (maxL := 6) (ret := (some .int)) (by decide) rfl ?_
  intro p e s m args below meth c s₁ B hml hv
  obtain ⟨rfl, hsz, hP, hK, hD0⟩ := hv
  have hx := B.exec
  have hb := B.bytes
  have hr := B.returns
  have hts := atoms_spec (ws := v_X12_lose) B.pre
  have hown : s.vm.findClass RX12 = some m.cls := findClass_of_methodNamed B.named
  have hlocks := B.notSynchronized
  subst hsz
  have iX12 : ∀ w ∈ wsX120, w ∈ v_X12_lose := (fun _ h => List.mem_cons_of_mem _ (List.mem_append_right _ (List.mem_append_right _ (List.mem_append_left _ h))))
  have hD := hD0.self (sz := s.heap.size)
  generalize hAe : (va_A [(y, .inr (11, mO a)), ((a 17), .inl (cI, 25, .inl (fun _ => 0))), ((a 16), .inl (cI, 5, .inl (fun _ => 0)))] s.heap.size) = A at hD ⊢
  have hA : ∀ q : Nat, s.heap.size ≤ q → A q := fun q h => by rw [← hAe]; exact Or.inr h
  have hS : va_S A s.heap s.heap [] := va_S.rf
  have hl := lv_entry ([.ref y, .int p0, .int p1, .int p2, .int p3]) (n := 6) (Nat.le_of_ble_eq_true rfl)
  rw [lg_entry_eq]
  generalize (lg_sl ([.ref y, .int p0, .int p1, .int p2, .int p3]) ++ List.replicate (6 - (lg_sl ([.ref y, .int p0, .int p1, .int p2, .int p3])).length) Slot.unset).toArray = ls at hl ⊢
  have hl : lv_has ls 6 [(0, .ref y), (1, .int p0), (2, .int p1), (3, .int p2), (4, .int p3)] := hl
  have hP : va_P g vwCl [(y, .inr (11, mO a)), ((a 17), .inl (cI, 25, .inl (fun _ => 0))), ((a 16), .inl (cI, 5, .inl (fun _ => 0)))] s.heap := hP
  refine lv_aload_n hx hb dX12_lose_0 rfl (lv_at hl 0 rfl) ?_
  refine lv_iconst (v := 0) hx hb dX12_lose_1 (by decide) ?_
  refine va_put (D := g) (ci := 11) (v := .int 0) (ty := .int) (C := RX12) (T := TX12) (N := 56) hx hb hts iX12 tyX12 tyX12_ok nmX12 hown hK hP hD hS 0 rfl rfl 0 (by decide) (hts (.fieldLink RX12 107 "CardsAtYuleModel" "thrown" "I") (List.mem_cons_of_mem _ (List.mem_append_left _ (List.mem_of_getElem? (i := 0) rfl)))) (fun _ h9 => h9) rfl (by decide +kernel) rfl rfl (Nat.le_of_ble_eq_true rfl) dX12_lose_2 (fun H locs hP hD hS => ?_)
  have hP : va_P g vwCl [(y, .inr (11, mO a)), ((a 17), .inl (cI, 25, .inl (fun _ => 0))), ((a 16), .inl (cI, 5, .inl (fun _ => 0)))] H := hP
  have hD : va_D A [(y, .inr (11, mO a)), ((a 17), .inl (cI, 25, .inl (fun _ => 0))), ((a 16), .inl (cI, 5, .inl (fun _ => 0)))] := hD
  refine lv_aload_n hx hb dX12_lose_5 rfl (lv_at hl 0 rfl) ?_
  refine lv_iload_n hx hb dX12_lose_6 rfl (lv_at hl 1 rfl) ?_
  refine ro_i (va_runV (As := [.int p0]) (rest := []) ⟨hx, hb, hml, hown, hts⟩ (k_X12_isPair l g cI cJ cB cZ cL y a p0 ip0 H.size hzp0) (cwV 1 hts (goodIn_app (g_4 (List.mem_cons_of_mem _ (List.mem_append_left _ (List.mem_of_getElem? (i := 1) rfl))) (List.mem_cons_of_mem _ (List.mem_append_left _ (List.mem_of_getElem? (i := 2) rfl))) (List.mem_cons_of_mem _ (List.mem_append_left _ (List.mem_of_getElem? (i := 3) rfl))) (List.mem_cons_of_mem _ (List.mem_append_left _ (List.mem_of_getElem? (i := 4) rfl))) (by decide +kernel)) (goodIn_sub (fun _ h => List.mem_cons_of_mem _ (List.mem_append_right _ (List.mem_append_left _ h))) good_v_X12_isPair)) rfl rfl rfl (by decide +kernel) ⟨Nat.le_of_ble_eq_true rfl, Nat.le_of_ble_eq_true rfl⟩) (pv_RO (q := (RX12, TX12, 56)) (ci := 11) (q0 := 0) (wc := [(y, .inr (11, mO a)), ((a 17), .inl (cI, 25, .inl (fun _ => 0))), ((a 16), .inl (cI, 5, .inl (fun _ => 0)))]) hK hP [0, 1, 2] rfl rfl rfl) rfl rfl hl.1 rfl (lv_room (Nat.le_of_ble_eq_true rfl)) dX12_lose_7 ⟨Nat.le_of_ble_eq_true rfl, Nat.le_of_ble_eq_true rfl⟩) hS hA hP (fun r1 u2 H locs hw3 hP hS => ?_)
  subst hw3
  refine lv_if_eq (tgt := 40) hx hb dX12_lose_10 (by decide) (fun _ => ?_) (fun c4 => absurd c4 (by decide))
  refine lv_bipush (v := (-2)) hx hb dX12_lose_40 (by decide) ?_
  have hP9 := hP.sub (ws' := []) [] rfl
  have hD9 := hD.sub (ws' := []) [] (by decide) rfl
  exact W.iret (v := (-2)) hx hb hr (fun t ht hW => ⟨⟨(-2), (), rfl, rfl, by rw [ht]; exact hP9, va_K.moved hW.alike hK, hD9⟩, hS.F ht⟩) hS.2.2 dX12_lose_42
def v_X12_calls : List Cond := .code yX12_calls cX12_calls 4 (some .int) :: (([.fieldLink RX12 107 "CardsAtYuleModel" "thrown" "I", .methodLink RX12 343 yX12_isYear, .instanceMethod yX12_isYear, .selects RX12 yX12_isYear yX12_isYear, .initialized RX12] : List Cond) ++ (v_X12_isYear ++ (wsX120 ++ ([] : List Cond))))
theorem good_v_X12_calls : v_X12_calls.all goodWord = true := ga_c (by decide +kernel) (ga_a (by decide +kernel) (ga_a good_v_X12_isYear (ga_a good_wsX120 rfl)))
set_option maxHeartbeats 4000000 in
set_option maxRecDepth 100000 in
theorem k_X12_calls (l : Launch) (g : va_G) (cI cJ cB cZ cL : ClassId) (y : Nat) (a : Nat → Nat) (p0 : Int32) (p1 : Int32) (ip0 : Int) (ip1 : Int) (sz : Nat) (hzp0 : p0.toInt = ip0) (hzp1 : p1.toInt = ip1) : Met l yX12_calls v_X12_calls ({ frames := 2, cells := 0, slots := 0, locals := 47 }) (va_Pc [.ref y, .int p0, .int p1] (pRW g (tyT cI cJ cB cZ cL) [(y, .inr (11, mO a)), ((a 17), .inl (cI, 25, .inl (fun _ => 0))), ((a 16), .inl (cI, 5, .inl (fun _ => 0)))] sz)) (va_Qi (fun (r : Int32) (u : Unit) => r = (-2)) (fun (_ : Unit) (t : State) => bRW g (tyT cI cJ cB cZ cL) (va_A [(y, .inr (11, mO a)), ((a 17), .inl (cI, 25, .inl (fun _ => 0))), ((a 16), .inl (cI, 5, .inl (fun _ => 0)))] sz) [] t) (va_A [(y, .inr (11, mO a)), ((a 17), .inl (cI, 25, .inl (fun _ => 0))), ((a 16), .inl (cI, 5, .inl (fun _ => 0)))] sz)) 0 0 (va_A [(y, .inr (11, mO a)), ((a 17), .inl (cI, 25, .inl (fun _ => 0))), ((a 16), .inl (cI, 5, .inl (fun _ => 0)))] sz) := by
  refine Met.ofW (cc := cX12_calls) (maxL := 4) (ret := (some .int)) (by decide) rfl ?_
  intro p e s m args below meth c s₁ B hml hv
  obtain ⟨rfl, hsz, hP, hK, hD0⟩ := hv
  have hx := B.exec
  have hb := B.bytes
  have hr := B.returns
  have hts := atoms_spec (ws := v_X12_calls) B.pre
  have hown : s.vm.findClass RX12 = some m.cls := findClass_of_methodNamed B.named
  have hlocks := B.notSynchronized
  subst hsz
  have iX12 : ∀ w ∈ wsX120, w ∈ v_X12_calls := (fun _ h => List.mem_cons_of_mem _ (List.mem_append_right _ (List.mem_append_right _ (List.mem_append_left _ h))))
  have hD := hD0.self (sz := s.heap.size)
  generalize hAe : (va_A [(y, .inr (11, mO a)), ((a 17), .inl (cI, 25, .inl (fun _ => 0))), ((a 16), .inl (cI, 5, .inl (fun _ => 0)))] s.heap.size) = A at hD ⊢
  have hA : ∀ q : Nat, s.heap.size ≤ q → A q := fun q h => by rw [← hAe]; exact Or.inr h
  have hS : va_S A s.heap s.heap [] := va_S.rf
  have hl := lv_entry ([.ref y, .int p0, .int p1]) (n := 4) (Nat.le_of_ble_eq_true rfl)
  rw [lg_entry_eq]
  generalize (lg_sl ([.ref y, .int p0, .int p1]) ++ List.replicate (4 - (lg_sl ([.ref y, .int p0, .int p1])).length) Slot.unset).toArray = ls at hl ⊢
  have hl : lv_has ls 4 [(0, .ref y), (1, .int p0), (2, .int p1)] := hl
  have hP : va_P g vwCl [(y, .inr (11, mO a)), ((a 17), .inl (cI, 25, .inl (fun _ => 0))), ((a 16), .inl (cI, 5, .inl (fun _ => 0)))] s.heap := hP
  refine lv_aload_n hx hb dX12_calls_0 rfl (lv_at hl 0 rfl) ?_
  refine lv_iconst (v := 0) hx hb dX12_calls_1 (by decide) ?_
  refine va_put (D := g) (ci := 11) (v := .int 0) (ty := .int) (C := RX12) (T := TX12) (N := 56) hx hb hts iX12 tyX12 tyX12_ok nmX12 hown hK hP hD hS 0 rfl rfl 0 (by decide) (hts (.fieldLink RX12 107 "CardsAtYuleModel" "thrown" "I") (List.mem_cons_of_mem _ (List.mem_append_left _ (List.mem_of_getElem? (i := 0) rfl)))) (fun _ h9 => h9) rfl (by decide +kernel) rfl rfl (Nat.le_of_ble_eq_true rfl) dX12_calls_2 (fun H locs hP hD hS => ?_)
  have hP : va_P g vwCl [(y, .inr (11, mO a)), ((a 17), .inl (cI, 25, .inl (fun _ => 0))), ((a 16), .inl (cI, 5, .inl (fun _ => 0)))] H := hP
  have hD : va_D A [(y, .inr (11, mO a)), ((a 17), .inl (cI, 25, .inl (fun _ => 0))), ((a 16), .inl (cI, 5, .inl (fun _ => 0)))] := hD
  refine lv_aload_n hx hb dX12_calls_5 rfl (lv_at hl 0 rfl) ?_
  refine lv_iload_n hx hb dX12_calls_6 rfl (lv_at hl 1 rfl) ?_
  refine lv_i2l (v := p0.toInt64) hx hb dX12_calls_7 rfl ?_
  refine ro_i (va_runV (As := [.long p0.toInt64]) (rest := []) ⟨hx, hb, hml, hown, hts⟩ (k_X12_isYear l g cI cJ cB cZ cL y a p0.toInt64 ip0 H.size (z_i2l hzp0)) (cwV 1 hts (goodIn_app (g_4 (List.mem_cons_of_mem _ (List.mem_append_left _ (List.mem_of_getElem? (i := 1) rfl))) (List.mem_cons_of_mem _ (List.mem_append_left _ (List.mem_of_getElem? (i := 2) rfl))) (List.mem_cons_of_mem _ (List.mem_append_left _ (List.mem_of_getElem? (i := 3) rfl))) (List.mem_cons_of_mem _ (List.mem_append_left _ (List.mem_of_getElem? (i := 4) rfl))) (by decide +kernel)) (goodIn_sub (fun _ h => List.mem_cons_of_mem _ (List.mem_append_right _ (List.mem_append_left _ h))) good_v_X12_isYear)) rfl rfl rfl (by decide +kernel) ⟨Nat.le_of_ble_eq_true rfl, Nat.le_of_ble_eq_true rfl⟩) (pv_RO (q := (RX12, TX12, 56)) (ci := 11) (q0 := 0) (wc := [(y, .inr (11, mO a)), ((a 17), .inl (cI, 25, .inl (fun _ => 0))), ((a 16), .inl (cI, 5, .inl (fun _ => 0)))]) hK hP [0, 1, 2] rfl rfl rfl) rfl rfl hl.1 rfl (lv_room (Nat.le_of_ble_eq_true rfl)) dX12_calls_8 ⟨Nat.le_of_ble_eq_true rfl, Nat.le_of_ble_eq_true rfl⟩) hS hA hP (fun r1 u2 H locs hw3 hP hS => ?_)
  subst hw3
  refine lv_if_eq (tgt := 24) hx hb dX12_calls_11 (by decide) (fun _ => ?_) (fun c4 => absurd c4 (by decide))
  refine lv_bipush (v := (-2)) hx hb dX12_calls_24 (by decide) ?_
  have hP9 := hP.sub (ws' := []) [] rfl
  have hD9 := hD.sub (ws' := []) [] (by decide) rfl
  exact W.iret (v := (-2)) hx hb hr (fun t ht hW => ⟨⟨(-2), (), rfl, rfl, by rw [ht]; exact hP9, va_K.moved hW.alike hK, hD9⟩, hS.F ht⟩) hS.2.2 dX12_calls_26
def v_X12_odds : List Cond := .code yX12_odds cX12_odds 4 (some .int) :: (([.fieldLink RX12 107 "CardsAtYuleModel" "thrown" "I", .methodLink RX12 281 yX12_isPair, .instanceMethod yX12_isPair, .selects RX12 yX12_isPair yX12_isPair, .initialized RX12] : List Cond) ++ (v_X12_isPair ++ (wsX120 ++ ([] : List Cond))))
theorem good_v_X12_odds : v_X12_odds.all goodWord = true := ga_c (by decide +kernel) (ga_a (by decide +kernel) (ga_a good_v_X12_isPair (ga_a good_wsX120 rfl)))
set_option maxHeartbeats 4000000 in
set_option maxRecDepth 100000 in
theorem k_X12_odds (l : Launch) (g : va_G) (cI cJ cB cZ cL : ClassId) (y : Nat) (a : Nat → Nat) (p0 : Int32) (ip0 : Int) (sz : Nat) (hzp0 : p0.toInt = ip0) : Met l yX12_odds v_X12_odds ({ frames := 2, cells := 0, slots := 0, locals := 46 }) (va_Pc [.ref y, .int p0] (pRW g (tyT cI cJ cB cZ cL) [(y, .inr (11, mO a)), ((a 17), .inl (cI, 25, .inl (fun _ => 0))), ((a 16), .inl (cI, 5, .inl (fun _ => 0)))] sz)) (va_Qi (fun (r : Int32) (u : Unit) => r = (-100)) (fun (_ : Unit) (t : State) => bRW g (tyT cI cJ cB cZ cL) (va_A [(y, .inr (11, mO a)), ((a 17), .inl (cI, 25, .inl (fun _ => 0))), ((a 16), .inl (cI, 5, .inl (fun _ => 0)))] sz) [] t) (va_A [(y, .inr (11, mO a)), ((a 17), .inl (cI, 25, .inl (fun _ => 0))), ((a 16), .inl (cI, 5, .inl (fun _ => 0)))] sz)) 0 0 (va_A [(y, .inr (11, mO a)), ((a 17), .inl (cI, 25, .inl (fun _ => 0))), ((a 16), .inl (cI, 5, .inl (fun _ => 0)))] sz) := by
  refine Met.ofW (cc := cX12_odds) (maxL := 4) (ret := (some .int)) (by decide) rfl ?_
  intro p e s m args below meth c s₁ B hml hv
  obtain ⟨rfl, hsz, hP, hK, hD0⟩ := hv
  have hx := B.exec
  have hb := B.bytes
  have hr := B.returns
  have hts := atoms_spec (ws := v_X12_odds) B.pre
  have hown : s.vm.findClass RX12 = some m.cls := findClass_of_methodNamed B.named
  have hlocks := B.notSynchronized
  subst hsz
  have iX12 : ∀ w ∈ wsX120, w ∈ v_X12_odds := (fun _ h => List.mem_cons_of_mem _ (List.mem_append_right _ (List.mem_append_right _ (List.mem_append_left _ h))))
  have hD := hD0.self (sz := s.heap.size)
  generalize hAe : (va_A [(y, .inr (11, mO a)), ((a 17), .inl (cI, 25, .inl (fun _ => 0))), ((a 16), .inl (cI, 5, .inl (fun _ => 0)))] s.heap.size) = A at hD ⊢
  have hA : ∀ q : Nat, s.heap.size ≤ q → A q := fun q h => by rw [← hAe]; exact Or.inr h
  have hS : va_S A s.heap s.heap [] := va_S.rf
  have hl := lv_entry ([.ref y, .int p0]) (n := 4) (Nat.le_of_ble_eq_true rfl)
  rw [lg_entry_eq]
  generalize (lg_sl ([.ref y, .int p0]) ++ List.replicate (4 - (lg_sl ([.ref y, .int p0])).length) Slot.unset).toArray = ls at hl ⊢
  have hl : lv_has ls 4 [(0, .ref y), (1, .int p0)] := hl
  have hP : va_P g vwCl [(y, .inr (11, mO a)), ((a 17), .inl (cI, 25, .inl (fun _ => 0))), ((a 16), .inl (cI, 5, .inl (fun _ => 0)))] s.heap := hP
  refine lv_aload_n hx hb dX12_odds_0 rfl (lv_at hl 0 rfl) ?_
  refine lv_iconst (v := 0) hx hb dX12_odds_1 (by decide) ?_
  refine va_put (D := g) (ci := 11) (v := .int 0) (ty := .int) (C := RX12) (T := TX12) (N := 56) hx hb hts iX12 tyX12 tyX12_ok nmX12 hown hK hP hD hS 0 rfl rfl 0 (by decide) (hts (.fieldLink RX12 107 "CardsAtYuleModel" "thrown" "I") (List.mem_cons_of_mem _ (List.mem_append_left _ (List.mem_of_getElem? (i := 0) rfl)))) (fun _ h9 => h9) rfl (by decide +kernel) rfl rfl (Nat.le_of_ble_eq_true rfl) dX12_odds_2 (fun H locs hP hD hS => ?_)
  have hP : va_P g vwCl [(y, .inr (11, mO a)), ((a 17), .inl (cI, 25, .inl (fun _ => 0))), ((a 16), .inl (cI, 5, .inl (fun _ => 0)))] H := hP
  have hD : va_D A [(y, .inr (11, mO a)), ((a 17), .inl (cI, 25, .inl (fun _ => 0))), ((a 16), .inl (cI, 5, .inl (fun _ => 0)))] := hD
  refine lv_aload_n hx hb dX12_odds_5 rfl (lv_at hl 0 rfl) ?_
  refine lv_iload_n hx hb dX12_odds_6 rfl (lv_at hl 1 rfl) ?_
  refine ro_i (va_runV (As := [.int p0]) (rest := []) ⟨hx, hb, hml, hown, hts⟩ (k_X12_isPair l g cI cJ cB cZ cL y a p0 ip0 H.size hzp0) (cwV 1 hts (goodIn_app (g_4 (List.mem_cons_of_mem _ (List.mem_append_left _ (List.mem_of_getElem? (i := 1) rfl))) (List.mem_cons_of_mem _ (List.mem_append_left _ (List.mem_of_getElem? (i := 2) rfl))) (List.mem_cons_of_mem _ (List.mem_append_left _ (List.mem_of_getElem? (i := 3) rfl))) (List.mem_cons_of_mem _ (List.mem_append_left _ (List.mem_of_getElem? (i := 4) rfl))) (by decide +kernel)) (goodIn_sub (fun _ h => List.mem_cons_of_mem _ (List.mem_append_right _ (List.mem_append_left _ h))) good_v_X12_isPair)) rfl rfl rfl (by decide +kernel) ⟨Nat.le_of_ble_eq_true rfl, Nat.le_of_ble_eq_true rfl⟩) (pv_RO (q := (RX12, TX12, 56)) (ci := 11) (q0 := 0) (wc := [(y, .inr (11, mO a)), ((a 17), .inl (cI, 25, .inl (fun _ => 0))), ((a 16), .inl (cI, 5, .inl (fun _ => 0)))]) hK hP [0, 1, 2] rfl rfl rfl) rfl rfl hl.1 rfl (lv_room (Nat.le_of_ble_eq_true rfl)) dX12_odds_7 ⟨Nat.le_of_ble_eq_true rfl, Nat.le_of_ble_eq_true rfl⟩) hS hA hP (fun r1 u2 H locs hw3 hP hS => ?_)
  subst hw3
  refine lv_if_ne (tgt := 16) hx hb dX12_odds_10 (by decide) (fun c4 => absurd c4 (by decide)) (fun _ => ?_)
  refine lv_bipush (v := (-100)) hx hb dX12_odds_13 (by decide) ?_
  have hP9 := hP.sub (ws' := []) [] rfl
  have hD9 := hD.sub (ws' := []) [] (by decide) rfl
  exact W.iret (v := (-100)) hx hb hr (fun t ht hW => ⟨⟨(-100), (), rfl, rfl, by rw [ht]; exact hP9, va_K.moved hW.alike hK, hD9⟩, hS.F ht⟩) hS.2.2 dX12_odds_15
def v_X12_alive : List Cond := .code yX12_alive cX12_alive 6 (some .long) :: (([.fieldLink RX12 107 "CardsAtYuleModel" "thrown" "I", .methodLink RX12 457 yX12_isChance, .instanceMethod yX12_isChance, .selects RX12 yX12_isChance yX12_isChance, .initialized RX12, .constantLong RX12 460 (-2)] : List Cond) ++ (v_X12_isChance ++ (wsX120 ++ ([] : List Cond))))
theorem good_v_X12_alive : v_X12_alive.all goodWord = true := ga_c (by decide +kernel) (ga_a (by decide +kernel) (ga_a good_v_X12_isChance (ga_a good_wsX120 rfl)))
set_option maxHeartbeats 4000000 in
set_option maxRecDepth 100000 in
theorem k_X12_alive (l : Launch) (g : va_G) (cI cJ cB cZ cL : ClassId) (y : Nat) (a : Nat → Nat) (p0 : Int32) (p1 : Int32) (p2 : Int32) (ip0 : Int) (ip1 : Int) (ip2 : Int) (sz : Nat) (hzp0 : p0.toInt = ip0) (hzp1 : p1.toInt = ip1) (hzp2 : p2.toInt = ip2) : Met l yX12_alive v_X12_alive ({ frames := 3, cells := 0, slots := 0, locals := 69 }) (va_Pc [.ref y, .int p0, .int p1, .int p2] (pRW g (tyT cI cJ cB cZ cL) [(y, .inr (11, mO a)), ((a 17), .inl (cI, 25, .inl (fun _ => 0))), ((a 16), .inl (cI, 5, .inl (fun _ => 0)))] sz)) (va_Ql (fun (r : Int64) (u : Unit) => r = (-2)) (fun (_ : Unit) (t : State) => bRW g (tyT cI cJ cB cZ cL) (va_A [(y, .inr (11, mO a)), ((a 17), .inl (cI, 25, .inl (fun _ => 0))), ((a 16), .inl (cI, 5, .inl (fun _ => 0)))] sz) [] t) (va_A [(y, .inr (11, mO a)), ((a 17), .inl (cI, 25, .inl (fun _ => 0))), ((a 16), .inl (cI, 5, .inl (fun _ => 0)))] sz)) 0 0 (va_A [(y, .inr (11, mO a)), ((a 17), .inl (cI, 25, .inl (fun _ => 0))), ((a 16), .inl (cI, 5, .inl (fun _ => 0)))] sz) := by
  refine Met.ofW (cc := cX12_alive) (maxL := 6) (ret := (some .long)) (by decide) rfl ?_
  intro p e s m args below meth c s₁ B hml hv
  obtain ⟨rfl, hsz, hP, hK, hD0⟩ := hv
  have hx := B.exec
  have hb := B.bytes
  have hr := B.returns
  have hts := atoms_spec (ws := v_X12_alive) B.pre
  have hown : s.vm.findClass RX12 = some m.cls := findClass_of_methodNamed B.named
  have hlocks := B.notSynchronized
  subst hsz
  have iX12 : ∀ w ∈ wsX120, w ∈ v_X12_alive := (fun _ h => List.mem_cons_of_mem _ (List.mem_append_right _ (List.mem_append_right _ (List.mem_append_left _ h))))
  have hD := hD0.self (sz := s.heap.size)
  generalize hAe : (va_A [(y, .inr (11, mO a)), ((a 17), .inl (cI, 25, .inl (fun _ => 0))), ((a 16), .inl (cI, 5, .inl (fun _ => 0)))] s.heap.size) = A at hD ⊢
  have hA : ∀ q : Nat, s.heap.size ≤ q → A q := fun q h => by rw [← hAe]; exact Or.inr h
  have hS : va_S A s.heap s.heap [] := va_S.rf
  have hl := lv_entry ([.ref y, .int p0, .int p1, .int p2]) (n := 6) (Nat.le_of_ble_eq_true rfl)
  rw [lg_entry_eq]
  generalize (lg_sl ([.ref y, .int p0, .int p1, .int p2]) ++ List.replicate (6 - (lg_sl ([.ref y, .int p0, .int p1, .int p2])).length) Slot.unset).toArray = ls at hl ⊢
  have hl : lv_has ls 6 [(0, .ref y), (1, .int p0), (2, .int p1), (3, .int p2)] := hl
  have hP : va_P g vwCl [(y, .inr (11, mO a)), ((a 17), .inl (cI, 25, .inl (fun _ => 0))), ((a 16), .inl (cI, 5, .inl (fun _ => 0)))] s.heap := hP
  refine lv_aload_n hx hb dX12_alive_0 rfl (lv_at hl 0 rfl) ?_
  refine lv_iconst (v := 0) hx hb dX12_alive_1 (by decide) ?_
  refine va_put (D := g) (ci := 11) (v := .int 0) (ty := .int) (C := RX12) (T := TX12) (N := 56) hx hb hts iX12 tyX12 tyX12_ok nmX12 hown hK hP hD hS 0 rfl rfl 0 (by decide) (hts (.fieldLink RX12 107 "CardsAtYuleModel" "thrown" "I") (List.mem_cons_of_mem _ (List.mem_append_left _ (List.mem_of_getElem? (i := 0) rfl)))) (fun _ h9 => h9) rfl (by decide +kernel) rfl rfl (Nat.le_of_ble_eq_true rfl) dX12_alive_2 (fun H locs hP hD hS => ?_)
  have hP : va_P g vwCl [(y, .inr (11, mO a)), ((a 17), .inl (cI, 25, .inl (fun _ => 0))), ((a 16), .inl (cI, 5, .inl (fun _ => 0)))] H := hP
  have hD : va_D A [(y, .inr (11, mO a)), ((a 17), .inl (cI, 25, .inl (fun _ => 0))), ((a 16), .inl (cI, 5, .inl (fun _ => 0)))] := hD
  refine lv_aload_n hx hb dX12_alive_5 rfl (lv_at hl 0 rfl) ?_
  refine lv_iload_n hx hb dX12_alive_6 rfl (lv_at hl 1 rfl) ?_
  refine lv_iload_n hx hb dX12_alive_7 rfl (lv_at hl 2 rfl) ?_
  refine lv_iload_n hx hb dX12_alive_8 rfl (lv_at hl 3 rfl) ?_
  refine ro_i (va_runV (As := [.int p0, .int p1, .int p2]) (rest := []) ⟨hx, hb, hml, hown, hts⟩ (k_X12_isChance l g cI cJ cB cZ cL y a p0 p1 p2 ip0 ip1 ip2 H.size hzp0 hzp1 hzp2) (cwV 3 hts (goodIn_app (g_4 (List.mem_cons_of_mem _ (List.mem_append_left _ (List.mem_of_getElem? (i := 1) rfl))) (List.mem_cons_of_mem _ (List.mem_append_left _ (List.mem_of_getElem? (i := 2) rfl))) (List.mem_cons_of_mem _ (List.mem_append_left _ (List.mem_of_getElem? (i := 3) rfl))) (List.mem_cons_of_mem _ (List.mem_append_left _ (List.mem_of_getElem? (i := 4) rfl))) (by decide +kernel)) (goodIn_sub (fun _ h => List.mem_cons_of_mem _ (List.mem_append_right _ (List.mem_append_left _ h))) good_v_X12_isChance)) rfl rfl rfl (by decide +kernel) ⟨Nat.le_of_ble_eq_true rfl, Nat.le_of_ble_eq_true rfl⟩) (pv_RO (q := (RX12, TX12, 56)) (ci := 11) (q0 := 0) (wc := [(y, .inr (11, mO a)), ((a 17), .inl (cI, 25, .inl (fun _ => 0))), ((a 16), .inl (cI, 5, .inl (fun _ => 0)))]) hK hP [0, 1, 2] rfl rfl rfl) rfl rfl hl.1 rfl (lv_room (Nat.le_of_ble_eq_true rfl)) dX12_alive_9 ⟨Nat.le_of_ble_eq_true rfl, Nat.le_of_ble_eq_true rfl⟩) hS hA hP (fun r1 u2 H locs hw3 hP hS => ?_)
  subst hw3
  refine lv_if_ne (tgt := 19) hx hb dX12_alive_12 (by decide) (fun c4 => absurd c4 (by decide)) (fun _ => ?_)
  refine lv_ldc2 (v := (-2)) hx hb hown (hts (.constantLong RX12 460 (-2)) (List.mem_cons_of_mem _ (List.mem_append_left _ (List.mem_of_getElem? (i := 5) rfl)))) dX12_alive_15 ?_
  have hP9 := hP.sub (ws' := []) [] rfl
  have hD9 := hD.sub (ws' := []) [] (by decide) rfl
  exact W.lret (v := (-2)) hx hb hr (fun t ht hW => ⟨⟨(-2), (), rfl, rfl, by rw [ht]; exact hP9, va_K.moved hW.alike hK, hD9⟩, hS.F ht⟩) hS.2.2 dX12_alive_18
def v_X12_both : List Cond := .code yX12_both cX12_both 6 (some .long) :: (([.fieldLink RX12 107 "CardsAtYuleModel" "thrown" "I", .methodLink RX12 457 yX12_isChance, .instanceMethod yX12_isChance, .selects RX12 yX12_isChance yX12_isChance, .initialized RX12, .constantLong RX12 460 (-2)] : List Cond) ++ (v_X12_isChance ++ (wsX120 ++ ([] : List Cond))))
theorem good_v_X12_both : v_X12_both.all goodWord = true := ga_c (by decide +kernel) (ga_a (by decide +kernel) (ga_a good_v_X12_isChance (ga_a good_wsX120 rfl)))
set_option maxHeartbeats 4000000 in
set_option maxRecDepth 100000 in
theorem k_X12_both (l : Launch) (g : va_G) (cI cJ cB cZ cL : ClassId) (y : Nat) (a : Nat → Nat) (p0 : Int32) (p1 : Int32) (p2 : Int32) (ip0 : Int) (ip1 : Int) (ip2 : Int) (sz : Nat) (hzp0 : p0.toInt = ip0) (hzp1 : p1.toInt = ip1) (hzp2 : p2.toInt = ip2) : Met l yX12_both v_X12_both ({ frames := 3, cells := 0, slots := 0, locals := 69 }) (va_Pc [.ref y, .int p0, .int p1, .int p2] (pRW g (tyT cI cJ cB cZ cL) [(y, .inr (11, mO a)), ((a 17), .inl (cI, 25, .inl (fun _ => 0))), ((a 16), .inl (cI, 5, .inl (fun _ => 0)))] sz)) (va_Ql (fun (r : Int64) (u : Unit) => r = (-2)) (fun (_ : Unit) (t : State) => bRW g (tyT cI cJ cB cZ cL) (va_A [(y, .inr (11, mO a)), ((a 17), .inl (cI, 25, .inl (fun _ => 0))), ((a 16), .inl (cI, 5, .inl (fun _ => 0)))] sz) [] t) (va_A [(y, .inr (11, mO a)), ((a 17), .inl (cI, 25, .inl (fun _ => 0))), ((a 16), .inl (cI, 5, .inl (fun _ => 0)))] sz)) 0 0 (va_A [(y, .inr (11, mO a)), ((a 17), .inl (cI, 25, .inl (fun _ => 0))), ((a 16), .inl (cI, 5, .inl (fun _ => 0)))] sz) := by
  refine Met.ofW (cc := cX12_both) (maxL := 6) (ret := (some .long)) (by decide) rfl ?_
  intro p e s m args below meth c s₁ B hml hv
  obtain ⟨rfl, hsz, hP, hK, hD0⟩ := hv
  have hx := B.exec
  have hb := B.bytes
  have hr := B.returns
  have hts := atoms_spec (ws := v_X12_both) B.pre
  have hown : s.vm.findClass RX12 = some m.cls := findClass_of_methodNamed B.named
  have hlocks := B.notSynchronized
  subst hsz
  have iX12 : ∀ w ∈ wsX120, w ∈ v_X12_both := (fun _ h => List.mem_cons_of_mem _ (List.mem_append_right _ (List.mem_append_right _ (List.mem_append_left _ h))))
  have hD := hD0.self (sz := s.heap.size)
  generalize hAe : (va_A [(y, .inr (11, mO a)), ((a 17), .inl (cI, 25, .inl (fun _ => 0))), ((a 16), .inl (cI, 5, .inl (fun _ => 0)))] s.heap.size) = A at hD ⊢
  have hA : ∀ q : Nat, s.heap.size ≤ q → A q := fun q h => by rw [← hAe]; exact Or.inr h
  have hS : va_S A s.heap s.heap [] := va_S.rf
  have hl := lv_entry ([.ref y, .int p0, .int p1, .int p2]) (n := 6) (Nat.le_of_ble_eq_true rfl)
  rw [lg_entry_eq]
  generalize (lg_sl ([.ref y, .int p0, .int p1, .int p2]) ++ List.replicate (6 - (lg_sl ([.ref y, .int p0, .int p1, .int p2])).length) Slot.unset).toArray = ls at hl ⊢
  have hl : lv_has ls 6 [(0, .ref y), (1, .int p0), (2, .int p1), (3, .int p2)] := hl
  have hP : va_P g vwCl [(y, .inr (11, mO a)), ((a 17), .inl (cI, 25, .inl (fun _ => 0))), ((a 16), .inl (cI, 5, .inl (fun _ => 0)))] s.heap := hP
  refine lv_aload_n hx hb dX12_both_0 rfl (lv_at hl 0 rfl) ?_
  refine lv_iconst (v := 0) hx hb dX12_both_1 (by decide) ?_
  refine va_put (D := g) (ci := 11) (v := .int 0) (ty := .int) (C := RX12) (T := TX12) (N := 56) hx hb hts iX12 tyX12 tyX12_ok nmX12 hown hK hP hD hS 0 rfl rfl 0 (by decide) (hts (.fieldLink RX12 107 "CardsAtYuleModel" "thrown" "I") (List.mem_cons_of_mem _ (List.mem_append_left _ (List.mem_of_getElem? (i := 0) rfl)))) (fun _ h9 => h9) rfl (by decide +kernel) rfl rfl (Nat.le_of_ble_eq_true rfl) dX12_both_2 (fun H locs hP hD hS => ?_)
  have hP : va_P g vwCl [(y, .inr (11, mO a)), ((a 17), .inl (cI, 25, .inl (fun _ => 0))), ((a 16), .inl (cI, 5, .inl (fun _ => 0)))] H := hP
  have hD : va_D A [(y, .inr (11, mO a)), ((a 17), .inl (cI, 25, .inl (fun _ => 0))), ((a 16), .inl (cI, 5, .inl (fun _ => 0)))] := hD
  refine lv_aload_n hx hb dX12_both_5 rfl (lv_at hl 0 rfl) ?_
  refine lv_iload_n hx hb dX12_both_6 rfl (lv_at hl 1 rfl) ?_
  refine lv_iload_n hx hb dX12_both_7 rfl (lv_at hl 2 rfl) ?_
  refine lv_iload_n hx hb dX12_both_8 rfl (lv_at hl 3 rfl) ?_
  refine ro_i (va_runV (As := [.int p0, .int p1, .int p2]) (rest := []) ⟨hx, hb, hml, hown, hts⟩ (k_X12_isChance l g cI cJ cB cZ cL y a p0 p1 p2 ip0 ip1 ip2 H.size hzp0 hzp1 hzp2) (cwV 3 hts (goodIn_app (g_4 (List.mem_cons_of_mem _ (List.mem_append_left _ (List.mem_of_getElem? (i := 1) rfl))) (List.mem_cons_of_mem _ (List.mem_append_left _ (List.mem_of_getElem? (i := 2) rfl))) (List.mem_cons_of_mem _ (List.mem_append_left _ (List.mem_of_getElem? (i := 3) rfl))) (List.mem_cons_of_mem _ (List.mem_append_left _ (List.mem_of_getElem? (i := 4) rfl))) (by decide +kernel)) (goodIn_sub (fun _ h => List.mem_cons_of_mem _ (List.mem_append_right _ (List.mem_append_left _ h))) good_v_X12_isChance)) rfl rfl rfl (by decide +kernel) ⟨Nat.le_of_ble_eq_true rfl, Nat.le_of_ble_eq_true rfl⟩) (pv_RO (q := (RX12, TX12, 56)) (ci := 11) (q0 := 0) (wc := [(y, .inr (11, mO a)), ((a 17), .inl (cI, 25, .inl (fun _ => 0))), ((a 16), .inl (cI, 5, .inl (fun _ => 0)))]) hK hP [0, 1, 2] rfl rfl rfl) rfl rfl hl.1 rfl (lv_room (Nat.le_of_ble_eq_true rfl)) dX12_both_9 ⟨Nat.le_of_ble_eq_true rfl, Nat.le_of_ble_eq_true rfl⟩) hS hA hP (fun r1 u2 H locs hw3 hP hS => ?_)
  subst hw3
  refine lv_if_ne (tgt := 19) hx hb dX12_both_12 (by decide) (fun c4 => absurd c4 (by decide)) (fun _ => ?_)
  refine lv_ldc2 (v := (-2)) hx hb hown (hts (.constantLong RX12 460 (-2)) (List.mem_cons_of_mem _ (List.mem_append_left _ (List.mem_of_getElem? (i := 5) rfl)))) dX12_both_15 ?_
  have hP9 := hP.sub (ws' := []) [] rfl
  have hD9 := hD.sub (ws' := []) [] (by decide) rfl
  exact W.lret (v := (-2)) hx hb hr (fun t ht hW => ⟨⟨(-2), (), rfl, rfl, by rw [ht]; exact hP9, va_K.moved hW.alike hK, hD9⟩, hS.F ht⟩) hS.2.2 dX12_both_18
def v_X12_mean : List Cond := .code yX12_mean cX12_mean 6 (some .long) :: (([.fieldLink RX12 107 "CardsAtYuleModel" "thrown" "I", .methodLink RX12 457 yX12_isChance, .instanceMethod yX12_isChance, .selects RX12 yX12_isChance yX12_isChance, .initialized RX12, .constantLong RX12 460 (-2)] : List Cond) ++ (v_X12_isChance ++ (wsX120 ++ ([] : List Cond))))
theorem good_v_X12_mean : v_X12_mean.all goodWord = true := ga_c (by decide +kernel) (ga_a (by decide +kernel) (ga_a good_v_X12_isChance (ga_a good_wsX120 rfl)))
set_option maxHeartbeats 4000000 in
set_option maxRecDepth 100000 in
theorem k_X12_mean (l : Launch) (g : va_G) (cI cJ cB cZ cL : ClassId) (y : Nat) (a : Nat → Nat) (p0 : Int32) (p1 : Int32) (p2 : Int32) (ip0 : Int) (ip1 : Int) (ip2 : Int) (sz : Nat) (hzp0 : p0.toInt = ip0) (hzp1 : p1.toInt = ip1) (hzp2 : p2.toInt = ip2) : Met l yX12_mean v_X12_mean ({ frames := 3, cells := 0, slots := 0, locals := 69 }) (va_Pc [.ref y, .int p0, .int p1, .int p2] (pRW g (tyT cI cJ cB cZ cL) [(y, .inr (11, mO a)), ((a 17), .inl (cI, 25, .inl (fun _ => 0))), ((a 16), .inl (cI, 5, .inl (fun _ => 0)))] sz)) (va_Ql (fun (r : Int64) (u : Unit) => r = (-2)) (fun (_ : Unit) (t : State) => bRW g (tyT cI cJ cB cZ cL) (va_A [(y, .inr (11, mO a)), ((a 17), .inl (cI, 25, .inl (fun _ => 0))), ((a 16), .inl (cI, 5, .inl (fun _ => 0)))] sz) [] t) (va_A [(y, .inr (11, mO a)), ((a 17), .inl (cI, 25, .inl (fun _ => 0))), ((a 16), .inl (cI, 5, .inl (fun _ => 0)))] sz)) 0 0 (va_A [(y, .inr (11, mO a)), ((a 17), .inl (cI, 25, .inl (fun _ => 0))), ((a 16), .inl (cI, 5, .inl (fun _ => 0)))] sz) := by
  refine Met.ofW (cc := cX12_mean) (maxL := 6) (ret := (some .long)) (by decide) rfl ?_
  intro p e s m args below meth c s₁ B hml hv
  obtain ⟨rfl, hsz, hP, hK, hD0⟩ := hv
  have hx := B.exec
  have hb := B.bytes
  have hr := B.returns
  have hts := atoms_spec (ws := v_X12_mean) B.pre
  have hown : s.vm.findClass RX12 = some m.cls := findClass_of_methodNamed B.named
  have hlocks := B.notSynchronized
  subst hsz
  have iX12 : ∀ w ∈ wsX120, w ∈ v_X12_mean := (fun _ h => List.mem_cons_of_mem _ (List.mem_append_right _ (List.mem_append_right _ (List.mem_append_left _ h))))
  have hD := hD0.self (sz := s.heap.size)
  generalize hAe : (va_A [(y, .inr (11, mO a)), ((a 17), .inl (cI, 25, .inl (fun _ => 0))), ((a 16), .inl (cI, 5, .inl (fun _ => 0)))] s.heap.size) = A at hD ⊢
  have hA : ∀ q : Nat, s.heap.size ≤ q → A q := fun q h => by rw [← hAe]; exact Or.inr h
  have hS : va_S A s.heap s.heap [] := va_S.rf
  have hl := lv_entry ([.ref y, .int p0, .int p1, .int p2]) (n := 6) (Nat.le_of_ble_eq_true rfl)
  rw [lg_entry_eq]
  generalize (lg_sl ([.ref y, .int p0, .int p1, .int p2]) ++ List.replicate (6 - (lg_sl ([.ref y, .int p0, .int p1, .int p2])).length) Slot.unset).toArray = ls at hl ⊢
  have hl : lv_has ls 6 [(0, .ref y), (1, .int p0), (2, .int p1), (3, .int p2)] := hl
  have hP : va_P g vwCl [(y, .inr (11, mO a)), ((a 17), .inl (cI, 25, .inl (fun _ => 0))), ((a 16), .inl (cI, 5, .inl (fun _ => 0)))] s.heap := hP
  refine lv_aload_n hx hb dX12_mean_0 rfl (lv_at hl 0 rfl) ?_
  refine lv_iconst (v := 0) hx hb dX12_mean_1 (by decide) ?_
  refine va_put (D := g) (ci := 11) (v := .int 0) (ty := .int) (C := RX12) (T := TX12) (N := 56) hx hb hts iX12 tyX12 tyX12_ok nmX12 hown hK hP hD hS 0 rfl rfl 0 (by decide) (hts (.fieldLink RX12 107 "CardsAtYuleModel" "thrown" "I") (List.mem_cons_of_mem _ (List.mem_append_left _ (List.mem_of_getElem? (i := 0) rfl)))) (fun _ h9 => h9) rfl (by decide +kernel) rfl rfl (Nat.le_of_ble_eq_true rfl) dX12_mean_2 (fun H locs hP hD hS => ?_)
  have hP : va_P g vwCl [(y, .inr (11, mO a)), ((a 17), .inl (cI, 25, .inl (fun _ => 0))), ((a 16), .inl (cI, 5, .inl (fun _ => 0)))] H := hP
  have hD : va_D A [(y, .inr (11, mO a)), ((a 17), .inl (cI, 25, .inl (fun _ => 0))), ((a 16), .inl (cI, 5, .inl (fun _ => 0)))] := hD
  refine lv_aload_n hx hb dX12_mean_5 rfl (lv_at hl 0 rfl) ?_
  refine lv_iload_n hx hb dX12_mean_6 rfl (lv_at hl 1 rfl) ?_
  refine lv_iload_n hx hb dX12_mean_7 rfl (lv_at hl 2 rfl) ?_
  refine lv_iload_n hx hb dX12_mean_8 rfl (lv_at hl 3 rfl) ?_
  refine ro_i (va_runV (As := [.int p0, .int p1, .int p2]) (rest := []) ⟨hx, hb, hml, hown, hts⟩ (k_X12_isChance l g cI cJ cB cZ cL y a p0 p1 p2 ip0 ip1 ip2 H.size hzp0 hzp1 hzp2) (cwV 3 hts (goodIn_app (g_4 (List.mem_cons_of_mem _ (List.mem_append_left _ (List.mem_of_getElem? (i := 1) rfl))) (List.mem_cons_of_mem _ (List.mem_append_left _ (List.mem_of_getElem? (i := 2) rfl))) (List.mem_cons_of_mem _ (List.mem_append_left _ (List.mem_of_getElem? (i := 3) rfl))) (List.mem_cons_of_mem _ (List.mem_append_left _ (List.mem_of_getElem? (i := 4) rfl))) (by decide +kernel)) (goodIn_sub (fun _ h => List.mem_cons_of_mem _ (List.mem_append_right _ (List.mem_append_left _ h))) good_v_X12_isChance)) rfl rfl rfl (by decide +kernel) ⟨Nat.le_of_ble_eq_true rfl, Nat.le_of_ble_eq_true rfl⟩) (pv_RO (q := (RX12, TX12, 56)) (ci := 11) (q0 := 0) (wc := [(y, .inr (11, mO a)), ((a 17), .inl (cI, 25, .inl (fun _ => 0))), ((a 16), .inl (cI, 5, .inl (fun _ => 0)))]) hK hP [0, 1, 2] rfl rfl rfl) rfl rfl hl.1 rfl (lv_room (Nat.le_of_ble_eq_true rfl)) dX12_mean_9 ⟨Nat.le_of_ble_eq_true rfl, Nat.le_of_ble_eq_true rfl⟩) hS hA hP (fun r1 u2 H locs hw3 hP hS => ?_)
  subst hw3
  refine lv_if_ne (tgt := 19) hx hb dX12_mean_12 (by decide) (fun c4 => absurd c4 (by decide)) (fun _ => ?_)
  refine lv_ldc2 (v := (-2)) hx hb hown (hts (.constantLong RX12 460 (-2)) (List.mem_cons_of_mem _ (List.mem_append_left _ (List.mem_of_getElem? (i := 5) rfl)))) dX12_mean_15 ?_
  have hP9 := hP.sub (ws' := []) [] rfl
  have hD9 := hD.sub (ws' := []) [] (by decide) rfl
  exact W.lret (v := (-2)) hx hb hr (fun t ht hW => ⟨⟨(-2), (), rfl, rfl, by rw [ht]; exact hP9, va_K.moved hW.alike hK, hD9⟩, hS.F ht⟩) hS.2.2 dX12_mean_18
def v_X12_which : List Cond := .code yX12_which cX12_which 5 (some .long) :: (([.fieldLink RX12 107 "CardsAtYuleModel" "thrown" "I", .methodLink RX12 340 yX12_isSide, .static yX12_isSide, .initialized RX12, .methodLink RX12 522 yX12_whyNot, .instanceMethod yX12_whyNot, .selects RX12 yX12_whyNot yX12_whyNot] : List Cond) ++ (v_X12_isSide ++ (v_X12_whyNot ++ (wsX120 ++ ([] : List Cond)))))
theorem good_v_X12_which : v_X12_which.all goodWord = true := ga_c (by decide +kernel) (ga_a (by decide +kernel) (ga_a good_v_X12_isSide (ga_a good_v_X12_whyNot (ga_a good_wsX120 rfl))))
set_option maxHeartbeats 4000000 in
set_option maxRecDepth 100000 in
theorem k_X12_which (l : Launch) (g : va_G) (cI cJ cB cZ cL : ClassId) (y : Nat) (a : Nat → Nat) (p0 : Int32) (p1 : Int32) (p2 : Int32) (ip0 : Int) (ip1 : Int) (ip2 : Int) (sz : Nat) (hzp0 : p0.toInt = ip0) (hzp1 : p1.toInt = ip1) (hzp2 : p2.toInt = ip2) : Met l yX12_which v_X12_which ({ frames := 3, cells := 0, slots := 0, locals := 70 }) (va_Pc [.ref y, .int p0, .int p1, .int p2] (pRW g (tyT cI cJ cB cZ cL) [(y, .inr (11, mO a)), ((a 17), .inl (cI, 25, .inl (fun _ => 0))), ((a 16), .inl (cI, 5, .inl (fun _ => 0)))] sz)) (va_Ql (fun (r : Int64) (u : Unit) => r = (-2)) (fun (_ : Unit) (t : State) => bRW g (tyT cI cJ cB cZ cL) (va_A [(y, .inr (11, mO a)), ((a 17), .inl (cI, 25, .inl (fun _ => 0))), ((a 16), .inl (cI, 5, .inl (fun _ => 0)))] sz) [] t) (va_A [(y, .inr (11, mO a)), ((a 17), .inl (cI, 25, .inl (fun _ => 0))), ((a 16), .inl (cI, 5, .inl (fun _ => 0)))] sz)) 0 0 (va_A [(y, .inr (11, mO a)), ((a 17), .inl (cI, 25, .inl (fun _ => 0))), ((a 16), .inl (cI, 5, .inl (fun _ => 0)))] sz) := by
  refine Met.ofW (cc := cX12_which) (maxL := 5) (ret := (some .long)) (by decide) rfl ?_
  intro p e s m args below meth c s₁ B hml hv
  obtain ⟨rfl, hsz, hP, hK, hD0⟩ := hv
  have hx := B.exec
  have hb := B.bytes
  have hr := B.returns
  have hts := atoms_spec (ws := v_X12_which) B.pre
  have hown : s.vm.findClass RX12 = some m.cls := findClass_of_methodNamed B.named
  have hlocks := B.notSynchronized
  subst hsz
  have iX12 : ∀ w ∈ wsX120, w ∈ v_X12_which := (fun _ h => List.mem_cons_of_mem _ (List.mem_append_right _ (List.mem_append_right _ (List.mem_append_right _ (List.mem_append_left _ h)))))
  have hD := hD0.self (sz := s.heap.size)
  generalize hAe : (va_A [(y, .inr (11, mO a)), ((a 17), .inl (cI, 25, .inl (fun _ => 0))), ((a 16), .inl (cI, 5, .inl (fun _ => 0)))] s.heap.size) = A at hD ⊢
  have hA : ∀ q : Nat, s.heap.size ≤ q → A q := fun q h => by rw [← hAe]; exact Or.inr h
  have hS : va_S A s.heap s.heap [] := va_S.rf
  have hl := lv_entry ([.ref y, .int p0, .int p1, .int p2]) (n := 5) (Nat.le_of_ble_eq_true rfl)
  rw [lg_entry_eq]
  generalize (lg_sl ([.ref y, .int p0, .int p1, .int p2]) ++ List.replicate (5 - (lg_sl ([.ref y, .int p0, .int p1, .int p2])).length) Slot.unset).toArray = ls at hl ⊢
  have hl : lv_has ls 5 [(0, .ref y), (1, .int p0), (2, .int p1), (3, .int p2)] := hl
  have hP : va_P g vwCl [(y, .inr (11, mO a)), ((a 17), .inl (cI, 25, .inl (fun _ => 0))), ((a 16), .inl (cI, 5, .inl (fun _ => 0)))] s.heap := hP
  refine lv_aload_n hx hb dX12_which_0 rfl (lv_at hl 0 rfl) ?_
  refine lv_iconst (v := 0) hx hb dX12_which_1 (by decide) ?_
  refine va_put (D := g) (ci := 11) (v := .int 0) (ty := .int) (C := RX12) (T := TX12) (N := 56) hx hb hts iX12 tyX12 tyX12_ok nmX12 hown hK hP hD hS 0 rfl rfl 0 (by decide) (hts (.fieldLink RX12 107 "CardsAtYuleModel" "thrown" "I") (List.mem_cons_of_mem _ (List.mem_append_left _ (List.mem_of_getElem? (i := 0) rfl)))) (fun _ h9 => h9) rfl (by decide +kernel) rfl rfl (Nat.le_of_ble_eq_true rfl) dX12_which_2 (fun H locs hP hD hS => ?_)
  have hP : va_P g vwCl [(y, .inr (11, mO a)), ((a 17), .inl (cI, 25, .inl (fun _ => 0))), ((a 16), .inl (cI, 5, .inl (fun _ => 0)))] H := hP
  have hD : va_D A [(y, .inr (11, mO a)), ((a 17), .inl (cI, 25, .inl (fun _ => 0))), ((a 16), .inl (cI, 5, .inl (fun _ => 0)))] := hD
  refine lv_iload_n hx hb dX12_which_5 rfl (lv_at hl 3 rfl) ?_
  refine ro_i (va_runS (As := [.int p2]) (rest := []) ⟨hx, hb, hml, hown, hts⟩ (k_X12_isSide l g cI cJ cB cZ cL p2 ip2 H.size hzp2) (va_cwS 1 hts (goodIn_app (g_3 (List.mem_cons_of_mem _ (List.mem_append_left _ (List.mem_of_getElem? (i := 1) rfl))) (List.mem_cons_of_mem _ (List.mem_append_left _ (List.mem_of_getElem? (i := 2) rfl))) (List.mem_cons_of_mem _ (List.mem_append_left _ (List.mem_of_getElem? (i := 3) rfl))) (by decide +kernel)) (goodIn_sub (fun _ h => List.mem_cons_of_mem _ (List.mem_append_right _ (List.mem_append_left _ h))) good_v_X12_isSide)) rfl rfl rfl (by decide +kernel) ⟨Nat.le_of_ble_eq_true rfl, Nat.le_of_ble_eq_true rfl⟩) (ps_RO (wc := []) hK hP [] rfl) rfl rfl hl.1 rfl (lv_room (Nat.le_of_ble_eq_true rfl)) dX12_which_6 ⟨Nat.le_of_ble_eq_true rfl, Nat.le_of_ble_eq_true rfl⟩) hS hA hP (fun r1 u2 H locs hw3 hP hS => ?_)
  rcases hw3 with ⟨rfl, hw3_0⟩ | ⟨rfl, hw3_0⟩
  · refine lv_if_eq (tgt := 21) hx hb dX12_which_9 (by decide) (fun c4 => absurd c4 (by decide)) (fun _ => ?_)
    refine lv_aload_n hx hb dX12_which_12 rfl (lv_at hl 0 rfl) ?_
    refine lv_iload_n hx hb dX12_which_13 rfl (lv_at hl 1 rfl) ?_
    refine lv_iload_n hx hb dX12_which_14 rfl (lv_at hl 2 rfl) ?_
    refine ro_i (va_runV (As := [.int p0, .int p1]) (rest := []) ⟨hx, hb, hml, hown, hts⟩ (k_X12_whyNot l g cI cJ cB cZ cL y a p0 p1 ip0 ip1 H.size hzp0 hzp1) (cwV 2 hts (goodIn_app (g_4 (List.mem_cons_of_mem _ (List.mem_append_left _ (List.mem_of_getElem? (i := 4) rfl))) (List.mem_cons_of_mem _ (List.mem_append_left _ (List.mem_of_getElem? (i := 5) rfl))) (List.mem_cons_of_mem _ (List.mem_append_left _ (List.mem_of_getElem? (i := 6) rfl))) (List.mem_cons_of_mem _ (List.mem_append_left _ (List.mem_of_getElem? (i := 3) rfl))) (by decide +kernel)) (goodIn_sub (fun _ h => List.mem_cons_of_mem _ (List.mem_append_right _ (List.mem_append_right _ (List.mem_append_left _ h)))) good_v_X12_whyNot)) rfl rfl rfl (by decide +kernel) ⟨Nat.le_of_ble_eq_true rfl, Nat.le_of_ble_eq_true rfl⟩) (pv_RO (q := (RX12, TX12, 56)) (ci := 11) (q0 := 0) (wc := [(y, .inr (11, mO a)), ((a 17), .inl (cI, 25, .inl (fun _ => 0))), ((a 16), .inl (cI, 5, .inl (fun _ => 0)))]) hK hP [0, 1, 2] rfl rfl rfl) rfl rfl hl.1 rfl (lv_room (Nat.le_of_ble_eq_true rfl)) dX12_which_15 ⟨Nat.le_of_ble_eq_true rfl, Nat.le_of_ble_eq_true rfl⟩) hS hA hP (fun r5 u6 H locs hw7 hP hS => ?_)
    subst hw7
    refine lv_goto (tgt := 23) hx hb dX12_which_18 (by decide) ?_
    refine lv_istore (lv' := [(4, .int (-2)), (0, .ref y), (1, .int p0), (2, .int p1), (3, .int p2)]) hx hb dX12_which_23 hl (by decide) rfl (fun ls hl => ?_)
    refine lv_iload hx hb dX12_which_25 (lv_at hl 0 rfl) ?_
    refine lv_if_eq (tgt := 34) hx hb dX12_which_27 (by decide) (fun c8 => absurd c8 (by decide)) (fun _ => ?_)
    refine lv_iload hx hb dX12_which_30 (lv_at hl 0 rfl) ?_
    refine lv_i2l (v := (-2)) hx hb dX12_which_32 (by decide) ?_
    have hP9 := hP.sub (ws' := []) [] rfl
    have hD9 := hD.sub (ws' := []) [] (by decide) rfl
    exact W.lret (v := (-2)) hx hb hr (fun t ht hW => ⟨⟨(-2), (), rfl, rfl, by rw [ht]; exact hP9, va_K.moved hW.alike hK, hD9⟩, hS.F ht⟩) hS.2.2 dX12_which_33
  · refine lv_if_eq (tgt := 21) hx hb dX12_which_9 (by decide) (fun _ => ?_) (fun c9 => absurd c9 (by decide))
    refine lv_bipush (v := (-2)) hx hb dX12_which_21 (by decide) ?_
    refine lv_istore (lv' := [(4, .int (-2)), (0, .ref y), (1, .int p0), (2, .int p1), (3, .int p2)]) hx hb dX12_which_23 hl (by decide) rfl (fun ls hl => ?_)
    refine lv_iload hx hb dX12_which_25 (lv_at hl 0 rfl) ?_
    refine lv_if_eq (tgt := 34) hx hb dX12_which_27 (by decide) (fun c10 => absurd c10 (by decide)) (fun _ => ?_)
    refine lv_iload hx hb dX12_which_30 (lv_at hl 0 rfl) ?_
    refine lv_i2l (v := (-2)) hx hb dX12_which_32 (by decide) ?_
    have hP9 := hP.sub (ws' := []) [] rfl
    have hD9 := hD.sub (ws' := []) [] (by decide) rfl
    exact W.lret (v := (-2)) hx hb hr (fun t ht hW => ⟨⟨(-2), (), rfl, rfl, by rw [ht]; exact hP9, va_K.moved hW.alike hK, hD9⟩, hS.F ht⟩) hS.2.2 dX12_which_33
