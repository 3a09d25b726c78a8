def v_fX0_init : List Cond := .code yX0_init cX0_init 1 none :: (([.methodLink RX0 3 objectInit, .instanceMethod objectInit, .code objectInit ⟨#[0xb1]⟩ 1 none, .fieldLink RX0 9 "CardsAtYule$Book" "stale" "Z", .arrayClass .long, .fieldLink RX0 15 "CardsAtYule$Book" "first" "[J", .fieldLink RX0 19 "CardsAtYule$Book" "back" "[J", .fieldLink RX0 22 "CardsAtYule$Book" "got" "[J"] : List Cond) ++ (wsX00 ++ ([] : List Cond)))
theorem good_v_fX0_init : v_fX0_init.all goodWord = true := ga_c (by decide +kernel) (ga_a (by decide +kernel) (ga_a good_wsX00 rfl))
set_option maxHeartbeats 4000000 in
set_option maxRecDepth 100000 in
theorem k_fX0_init (l : Launch) (g : va_G) (cI cJ cB cZ cL : ClassId) (q0 : Nat) (sz : Nat)  : Met l yX0_init v_fX0_init ({ frames := 1, cells := 3, slots := 96, locals := 12 }) (va_Pc [.ref q0] (pRW g (tyT cI cJ cB cZ cL) [(q0, .inr (0, [.int 0, .null, .null, .null]))] sz)) (va_Qv (fun (u : Nat × Nat × Nat) => match u with | (b0, b1, b2) => True) (fun (u : Nat × Nat × Nat) (t : State) => bRW g (tyT cI cJ cB cZ cL) (va_A [(q0, .inr (0, [.int 0, .null, .null, .null]))] sz) (match u with | (b0, b1, b2) => [(q0, .inr (0, [.int 1, .ref b0, .ref b1, .ref b2])), (b0, .inl (cJ, 32, .inr (.inl (fun _ => 0)))), (b1, .inl (cJ, 32, .inr (.inl (fun _ => 0)))), (b2, .inl (cJ, 32, .inr (.inl (fun _ => 0))))]) t) (va_A [(q0, .inr (0, [.int 0, .null, .null, .null]))] sz)) 3 96 (va_A [(q0, .inr (0, [.int 0, .null, .null, .null]))] sz) := by
  refine Met.ofW (cc := cX0_init) (maxL := 1) (ret := none) (by decide) rfl ?_
  intro p e s m args below meth c s₁ B hml hv
  obtain ⟨rfl, hsz, hP, hK, hD0⟩ := hv
  have hx := B.exec
  have hb := B.bytes
  have hr := B.returns
  have hts := atoms_spec (ws := v_fX0_init) B.pre
  have hown : s.vm.findClass RX0 = some m.cls := findClass_of_methodNamed B.named
  have hlocks := B.notSynchronized
  have hin : meth.name = "<init>" := (name_of_methodNamed B.named B.method).1
  subst hsz
  have iX0 : ∀ w ∈ wsX00, w ∈ v_fX0_init := (fun _ h => List.mem_cons_of_mem _ (List.mem_append_right _ (List.mem_append_left _ h)))
  have hD := hD0.self (sz := s.heap.size)
  generalize hAe : (va_A [(q0, .inr (0, [.int 0, .null, .null, .null]))] s.heap.size) = A at hD ⊢
  have hA : ∀ q : Nat, s.heap.size ≤ q → A q := fun q h => by rw [← hAe]; exact Or.inr h
  have hS : va_S A s.heap s.heap [] := va_S.rf
  have hl := lv_entry ([.ref q0]) (n := 1) (Nat.le_of_ble_eq_true rfl)
  rw [lg_entry_eq]
  generalize (lg_sl ([.ref q0]) ++ List.replicate (1 - (lg_sl ([.ref q0])).length) Slot.unset).toArray = ls at hl ⊢
  have hl : lv_has ls 1 [(0, .ref q0)] := hl
  have hP : va_P g vwCl [(q0, .inr (0, [.int 0, .null, .null, .null]))] s.heap := hP
  refine lv_aload_n hx hb dX0_init_0 rfl (lv_at hl 0 rfl) ?_
  refine W.objInit hx hb hown (hts (.methodLink RX0 3 objectInit) (List.mem_cons_of_mem _ (List.mem_append_left _ (List.mem_of_getElem? (i := 0) rfl)))) (hts (.instanceMethod objectInit) (List.mem_cons_of_mem _ (List.mem_append_left _ (List.mem_of_getElem? (i := 1) rfl)))) (hts (.code objectInit ⟨#[0xb1]⟩ 1 none) (List.mem_cons_of_mem _ (List.mem_append_left _ (List.mem_of_getElem? (i := 2) rfl)))) rfl (by rw [hml]; exact hl.1) rfl dX0_init_1 (Nat.le_of_ble_eq_true rfl) (Nat.le_of_ble_eq_true rfl) ?_
  refine W.eq (g2 := F0 m 4 ls []) rfl ?_
  refine lv_aload_n hx hb dX0_init_4 rfl (lv_at hl 0 rfl) ?_
  refine lv_iconst (v := 1) hx hb dX0_init_5 (by decide) ?_
  refine va_put (D := g) (ci := 0) (v := .int 1) (ty := .boolean) (C := RX0) (T := TX0) (N := 4) hx hb hts iX0 tyX0 tyX0_ok nmX0 hown hK hP hD hS 0 rfl rfl 0 (by decide) (hts (.fieldLink RX0 9 "CardsAtYule$Book" "stale" "Z") (List.mem_cons_of_mem _ (List.mem_append_left _ (List.mem_of_getElem? (i := 3) rfl)))) (fun _ h9 => h9) rfl (by decide +kernel) rfl rfl (Nat.le_of_ble_eq_true rfl) dX0_init_6 (fun H locs hP hD hS => ?_)
  have hP : va_P g vwCl [(q0, .inr (0, [.int 1, .null, .null, .null]))] H := hP
  have hD : va_D A [(q0, .inr (0, [.int 1, .null, .null, .null]))] := hD
  refine lv_aload_n hx hb dX0_init_9 rfl (lv_at hl 0 rfl) ?_
  refine lv_bipush (v := 32) hx hb dX0_init_10 (by decide) ?_
  refine nwa (g := g) (atype := .long) (a0 := (32, .inr (.inl (fun _ => 0)))) hx hb (hts (.arrayClass .long) (List.mem_cons_of_mem _ (List.mem_append_left _ (List.mem_of_getElem? (i := 4) rfl)))) rfl hK hP hD hS hA (un_l hK) (fun _ => rfl) (by decide) (by decide) (Nat.le_of_ble_eq_true rfl) (Nat.le_of_ble_eq_true rfl) (Nat.le_of_ble_eq_true rfl) dX0_init_12 (fun q1 H hP hD hS => ?_)
  have hP : va_P g vwCl [(q0, .inr (0, [.int 1, .null, .null, .null])), (q1, .inl (cJ, 32, .inr (.inl (fun _ => 0))))] H := hP
  have hD : va_D A [(q0, .inr (0, [.int 1, .null, .null, .null])), (q1, .inl (cJ, 32, .inr (.inl (fun _ => 0))))] := hD
  refine W.widen (k := 1) (n := 32) (Nat.le_of_ble_eq_true rfl) (Nat.le_of_ble_eq_true rfl) ?_
  refine va_putF (D := g) (ci := 0) (v := .ref q1) (ty := (.array .long)) (C := RX0) (T := TX0) (N := 4) hx hb hts iX0 tyX0 tyX0_ok nmX0 hown hK hP hD hS 0 rfl rfl 1 (by decide) (hts (.fieldLink RX0 15 "CardsAtYule$Book" "first" "[J") (List.mem_cons_of_mem _ (List.mem_append_left _ (List.mem_of_getElem? (i := 5) rfl)))) (fun _ h9 => h9) rfl hin rfl (by decide +kernel) rfl rfl (Nat.le_of_ble_eq_true rfl) dX0_init_14 (fun H locs hP hD hS => ?_)
  have hP : va_P g vwCl [(q0, .inr (0, [.int 1, .ref q1, .null, .null])), (q1, .inl (cJ, 32, .inr (.inl (fun _ => 0))))] H := hP
  have hD : va_D A [(q0, .inr (0, [.int 1, .ref q1, .null, .null])), (q1, .inl (cJ, 32, .inr (.inl (fun _ => 0))))] := hD
  refine lv_aload_n hx hb dX0_init_17 rfl (lv_at hl 0 rfl) ?_
  refine lv_bipush (v := 32) hx hb dX0_init_18 (by decide) ?_
  refine nwa (g := g) (atype := .long) (a0 := (32, .inr (.inl (fun _ => 0)))) hx hb (hts (.arrayClass .long) (List.mem_cons_of_mem _ (List.mem_append_left _ (List.mem_of_getElem? (i := 4) rfl)))) rfl hK hP hD hS hA (un_l hK) (fun _ => rfl) (by decide) (by decide) (Nat.le_of_ble_eq_true rfl) (Nat.le_of_ble_eq_true rfl) (Nat.le_of_ble_eq_true rfl) dX0_init_20 (fun q2 H hP hD hS => ?_)
  have hP : va_P g vwCl [(q0, .inr (0, [.int 1, .ref q1, .null, .null])), (q1, .inl (cJ, 32, .inr (.inl (fun _ => 0)))), (q2, .inl (cJ, 32, .inr (.inl (fun _ => 0))))] H := hP
  have hD : va_D A [(q0, .inr (0, [.int 1, .ref q1, .null, .null])), (q1, .inl (cJ, 32, .inr (.inl (fun _ => 0)))), (q2, .inl (cJ, 32, .inr (.inl (fun _ => 0))))] := hD
  refine W.widen (k := 2) (n := 64) (Nat.le_of_ble_eq_true rfl) (Nat.le_of_ble_eq_true rfl) ?_
  refine va_putF (D := g) (ci := 0) (v := .ref q2) (ty := (.array .long)) (C := RX0) (T := TX0) (N := 4) hx hb hts iX0 tyX0 tyX0_ok nmX0 hown hK hP hD hS 0 rfl rfl 2 (by decide) (hts (.fieldLink RX0 19 "CardsAtYule$Book" "back" "[J") (List.mem_cons_of_mem _ (List.mem_append_left _ (List.mem_of_getElem? (i := 6) rfl)))) (fun _ h9 => h9) rfl hin rfl (by decide +kernel) rfl rfl (Nat.le_of_ble_eq_true rfl) dX0_init_22 (fun H locs hP hD hS => ?_)
  have hP : va_P g vwCl [(q0, .inr (0, [.int 1, .ref q1, .ref q2, .null])), (q1, .inl (cJ, 32, .inr (.inl (fun _ => 0)))), (q2, .inl (cJ, 32, .inr (.inl (fun _ => 0))))] H := hP
  have hD : va_D A [(q0, .inr (0, [.int 1, .ref q1, .ref q2, .null])), (q1, .inl (cJ, 32, .inr (.inl (fun _ => 0)))), (q2, .inl (cJ, 32, .inr (.inl (fun _ => 0))))] := hD
  refine lv_aload_n hx hb dX0_init_25 rfl (lv_at hl 0 rfl) ?_
  refine lv_bipush (v := 32) hx hb dX0_init_26 (by decide) ?_
  refine nwa (g := g) (atype := .long) (a0 := (32, .inr (.inl (fun _ => 0)))) hx hb (hts (.arrayClass .long) (List.mem_cons_of_mem _ (List.mem_append_left _ (List.mem_of_getElem? (i := 4) rfl)))) rfl hK hP hD hS hA (un_l hK) (fun _ => rfl) (by decide) (by decide) (Nat.le_of_ble_eq_true rfl) (Nat.le_of_ble_eq_true rfl) (Nat.le_of_ble_eq_true rfl) dX0_init_28 (fun q3 H hP hD hS => ?_)
  have hP : va_P g vwCl [(q0, .inr (0, [.int 1, .ref q1, .ref q2, .null])), (q1, .inl (cJ, 32, .inr (.inl (fun _ => 0)))), (q2, .inl (cJ, 32, .inr (.inl (fun _ => 0)))), (q3, .inl (cJ, 32, .inr (.inl (fun _ => 0))))] H := hP
  have hD : va_D A [(q0, .inr (0, [.int 1, .ref q1, .ref q2, .null])), (q1, .inl (cJ, 32, .inr (.inl (fun _ => 0)))), (q2, .inl (cJ, 32, .inr (.inl (fun _ => 0)))), (q3, .inl (cJ, 32, .inr (.inl (fun _ => 0))))] := hD
  refine W.widen (k := 3) (n := 96) (Nat.le_of_ble_eq_true rfl) (Nat.le_of_ble_eq_true rfl) ?_
  refine va_putF (D := g) (ci := 0) (v := .ref q3) (ty := (.array .long)) (C := RX0) (T := TX0) (N := 4) hx hb hts iX0 tyX0 tyX0_ok nmX0 hown hK hP hD hS 0 rfl rfl 3 (by decide) (hts (.fieldLink RX0 22 "CardsAtYule$Book" "got" "[J") (List.mem_cons_of_mem _ (List.mem_append_left _ (List.mem_of_getElem? (i := 7) rfl)))) (fun _ h9 => h9) rfl hin rfl (by decide +kernel) rfl rfl (Nat.le_of_ble_eq_true rfl) dX0_init_30 (fun H locs hP hD hS => ?_)
  have hP : va_P g vwCl [(q0, .inr (0, [.int 1, .ref q1, .ref q2, .ref q3])), (q1, .inl (cJ, 32, .inr (.inl (fun _ => 0)))), (q2, .inl (cJ, 32, .inr (.inl (fun _ => 0)))), (q3, .inl (cJ, 32, .inr (.inl (fun _ => 0))))] H := hP
  have hD : va_D A [(q0, .inr (0, [.int 1, .ref q1, .ref q2, .ref q3])), (q1, .inl (cJ, 32, .inr (.inl (fun _ => 0)))), (q2, .inl (cJ, 32, .inr (.inl (fun _ => 0)))), (q3, .inl (cJ, 32, .inr (.inl (fun _ => 0))))] := hD
  have hP9 := hP.sub (ws' := [(q0, .inr (0, [.int 1, .ref q1, .ref q2, .ref q3])), (q1, .inl (cJ, 32, .inr (.inl (fun _ => 0)))), (q2, .inl (cJ, 32, .inr (.inl (fun _ => 0)))), (q3, .inl (cJ, 32, .inr (.inl (fun _ => 0))))]) [0, 1, 2, 3] rfl
  have hD9 := hD.sub (ws' := [(q0, .inr (0, [.int 1, .ref q1, .ref q2, .ref q3])), (q1, .inl (cJ, 32, .inr (.inl (fun _ => 0)))), (q2, .inl (cJ, 32, .inr (.inl (fun _ => 0)))), (q3, .inl (cJ, 32, .inr (.inl (fun _ => 0))))]) [0, 1, 2, 3] (by decide) rfl
  exact W.vret hx hb hr (fun t ht hW => ⟨⟨(q1, q2, q3), rfl, trivial, by rw [ht]; exact hP9, va_K.moved hW.alike hK, hD9⟩, hS.F ht⟩) hS.2.2 dX0_init_33
def v_fX2_init : List Cond := .code yX2_init cX2_init 1 none :: (([.methodLink RX2 1 objectInit, .instanceMethod objectInit, .code objectInit ⟨#[0xb1]⟩ 1 none, .arrayClass .int, .fieldLink RX2 7 "CardsAtYule$Course" "rule" "[I", .arrayClass .long, .fieldLink RX2 13 "CardsAtYule$Course" "may" "[J", .fieldLink RX2 17 "CardsAtYule$Course" "reach" "[J", .fieldLink RX2 20 "CardsAtYule$Course" "first" "[J", .fieldLink RX2 23 "CardsAtYule$Course" "back" "[J", .fieldLink RX2 26 "CardsAtYule$Course" "got" "[J"] : List Cond) ++ (wsX20 ++ ([] : List Cond)))
theorem good_v_fX2_init : v_fX2_init.all goodWord = true := ga_c (by decide +kernel) (ga_a (by decide +kernel) (ga_a good_wsX20 rfl))
set_option maxHeartbeats 4000000 in
set_option maxRecDepth 100000 in
theorem k_fX2_init (l : Launch) (g : va_G) (cI cJ cB cZ cL : ClassId) (q0 : Nat) (sz : Nat)  : Met l yX2_init v_fX2_init ({ frames := 1, cells := 6, slots := 12, locals := 12 }) (va_Pc [.ref q0] (pRW g (tyT cI cJ cB cZ cL) [(q0, .inr (2, [.int 0, .int 0, .null, .null, .null, .null, .null, .null]))] sz)) (va_Qv (fun (u : Nat × Nat × Nat × Nat × Nat × Nat) => match u with | (b0, b1, b2, b3, b4, b5) => True) (fun (u : Nat × Nat × Nat × Nat × Nat × Nat) (t : State) => bRW g (tyT cI cJ cB cZ cL) (va_A [(q0, .inr (2, [.int 0, .int 0, .null, .null, .null, .null, .null, .null]))] sz) (match u with | (b0, b1, b2, b3, b4, b5) => [(q0, .inr (2, [.int 0, .int 0, .ref b0, .ref b1, .ref b2, .ref b3, .ref b4, .ref b5])), (b0, .inl (cI, 2, .inl (fun _ => 0))), (b1, .inl (cJ, 2, .inr (.inl (fun _ => 0)))), (b2, .inl (cJ, 2, .inr (.inl (fun _ => 0)))), (b3, .inl (cJ, 2, .inr (.inl (fun _ => 0)))), (b4, .inl (cJ, 2, .inr (.inl (fun _ => 0)))), (b5, .inl (cJ, 2, .inr (.inl (fun _ => 0))))]) t) (va_A [(q0, .inr (2, [.int 0, .int 0, .null, .null, .null, .null, .null, .null]))] sz)) 6 12 (va_A [(q0, .inr (2, [.int 0, .int 0, .null, .null, .null, .null, .null, .null]))] sz) := by
  refine Met.ofW (cc := cX2_init) (maxL := 1) (ret := none) (by decide) rfl ?_
  intro p e s m args below meth c s₁ B hml hv
  obtain ⟨rfl, hsz, hP, hK, hD0⟩ := hv
  have hx := B.exec
  have hb := B.bytes
  have hr := B.returns
  have hts := atoms_spec (ws := v_fX2_init) B.pre
  have hown : s.vm.findClass RX2 = some m.cls := findClass_of_methodNamed B.named
  have hlocks := B.notSynchronized
  have hin : meth.name = "<init>" := (name_of_methodNamed B.named B.method).1
  subst hsz
  have iX2 : ∀ w ∈ wsX20, w ∈ v_fX2_init := (fun _ h => List.mem_cons_of_mem _ (List.mem_append_right _ (List.mem_append_left _ h)))
  have hD := hD0.self (sz := s.heap.size)
  generalize hAe : (va_A [(q0, .inr (2, [.int 0, .int 0, .null, .null, .null, .null, .null, .null]))] s.heap.size) = A at hD ⊢
  have hA : ∀ q : Nat, s.heap.size ≤ q → A q := fun q h => by rw [← hAe]; exact Or.inr h
  have hS : va_S A s.heap s.heap [] := va_S.rf
  have hl := lv_entry ([.ref q0]) (n := 1) (Nat.le_of_ble_eq_true rfl)
  rw [lg_entry_eq]
  generalize (lg_sl ([.ref q0]) ++ List.replicate (1 - (lg_sl ([.ref q0])).length) Slot.unset).toArray = ls at hl ⊢
  have hl : lv_has ls 1 [(0, .ref q0)] := hl
  have hP : va_P g vwCl [(q0, .inr (2, [.int 0, .int 0, .null, .null, .null, .null, .null, .null]))] s.heap := hP
  refine lv_aload_n hx hb dX2_init_0 rfl (lv_at hl 0 rfl) ?_
  refine W.objInit hx hb hown (hts (.methodLink RX2 1 objectInit) (List.mem_cons_of_mem _ (List.mem_append_left _ (List.mem_of_getElem? (i := 0) rfl)))) (hts (.instanceMethod objectInit) (List.mem_cons_of_mem _ (List.mem_append_left _ (List.mem_of_getElem? (i := 1) rfl)))) (hts (.code objectInit ⟨#[0xb1]⟩ 1 none) (List.mem_cons_of_mem _ (List.mem_append_left _ (List.mem_of_getElem? (i := 2) rfl)))) rfl (by rw [hml]; exact hl.1) rfl dX2_init_1 (Nat.le_of_ble_eq_true rfl) (Nat.le_of_ble_eq_true rfl) ?_
  refine W.eq (g2 := F0 m 4 ls []) rfl ?_
  refine lv_aload_n hx hb dX2_init_4 rfl (lv_at hl 0 rfl) ?_
  refine lv_iconst (v := 2) hx hb dX2_init_5 (by decide) ?_
  refine nwa (g := g) (atype := .int) (a0 := (2, .inl (fun _ => 0))) hx hb (hts (.arrayClass .int) (List.mem_cons_of_mem _ (List.mem_append_left _ (List.mem_of_getElem? (i := 3) rfl)))) rfl hK hP hD hS hA (un_i hK) (fun _ => rfl) (by decide) (by decide) (Nat.le_of_ble_eq_true rfl) (Nat.le_of_ble_eq_true rfl) (Nat.le_of_ble_eq_true rfl) dX2_init_6 (fun q1 H hP hD hS => ?_)
  have hP : va_P g vwCl [(q0, .inr (2, [.int 0, .int 0, .null, .null, .null, .null, .null, .null])), (q1, .inl (cI, 2, .inl (fun _ => 0)))] H := hP
  have hD : va_D A [(q0, .inr (2, [.int 0, .int 0, .null, .null, .null, .null, .null, .null])), (q1, .inl (cI, 2, .inl (fun _ => 0)))] := hD
  refine W.widen (k := 1) (n := 2) (Nat.le_of_ble_eq_true rfl) (Nat.le_of_ble_eq_true rfl) ?_
  refine va_putF (D := g) (ci := 2) (v := .ref q1) (ty := (.array .int)) (C := RX2) (T := TX2) (N := 8) hx hb hts iX2 tyX2 tyX2_ok nmX2 hown hK hP hD hS 0 rfl rfl 2 (by decide) (hts (.fieldLink RX2 7 "CardsAtYule$Course" "rule" "[I") (List.mem_cons_of_mem _ (List.mem_append_left _ (List.mem_of_getElem? (i := 4) rfl)))) (fun _ h9 => h9) rfl hin rfl (by decide +kernel) rfl rfl (Nat.le_of_ble_eq_true rfl) dX2_init_8 (fun H locs hP hD hS => ?_)
  have hP : va_P g vwCl [(q0, .inr (2, [.int 0, .int 0, .ref q1, .null, .null, .null, .null, .null])), (q1, .inl (cI, 2, .inl (fun _ => 0)))] H := hP
  have hD : va_D A [(q0, .inr (2, [.int 0, .int 0, .ref q1, .null, .null, .null, .null, .null])), (q1, .inl (cI, 2, .inl (fun _ => 0)))] := hD
  refine lv_aload_n hx hb dX2_init_11 rfl (lv_at hl 0 rfl) ?_
  refine lv_iconst (v := 2) hx hb dX2_init_12 (by decide) ?_
  refine nwa (g := g) (atype := .long) (a0 := (2, .inr (.inl (fun _ => 0)))) hx hb (hts (.arrayClass .long) (List.mem_cons_of_mem _ (List.mem_append_left _ (List.mem_of_getElem? (i := 5) rfl)))) rfl hK hP hD hS hA (un_l hK) (fun _ => rfl) (by decide) (by decide) (Nat.le_of_ble_eq_true rfl) (Nat.le_of_ble_eq_true rfl) (Nat.le_of_ble_eq_true rfl) dX2_init_13 (fun q2 H hP hD hS => ?_)
  have hP : va_P g vwCl [(q0, .inr (2, [.int 0, .int 0, .ref q1, .null, .null, .null, .null, .null])), (q1, .inl (cI, 2, .inl (fun _ => 0))), (q2, .inl (cJ, 2, .inr (.inl (fun _ => 0))))] H := hP
  have hD : va_D A [(q0, .inr (2, [.int 0, .int 0, .ref q1, .null, .null, .null, .null, .null])), (q1, .inl (cI, 2, .inl (fun _ => 0))), (q2, .inl (cJ, 2, .inr (.inl (fun _ => 0))))] := hD
  refine W.widen (k := 2) (n := 4) (Nat.le_of_ble_eq_true rfl) (Nat.le_of_ble_eq_true rfl) ?_
  refine va_putF (D := g) (ci := 2) (v := .ref q2) (ty := (.array .long)) (C := RX2) (T := TX2) (N := 8) hx hb hts iX2 tyX2 tyX2_ok nmX2 hown hK hP hD hS 0 rfl rfl 3 (by decide) (hts (.fieldLink RX2 13 "CardsAtYule$Course" "may" "[J") (List.mem_cons_of_mem _ (List.mem_append_left _ (List.mem_of_getElem? (i := 6) rfl)))) (fun _ h9 => h9) rfl hin rfl (by decide +kernel) rfl rfl (Nat.le_of_ble_eq_true rfl) dX2_init_15 (fun H locs hP hD hS => ?_)
  have hP : va_P g vwCl [(q0, .inr (2, [.int 0, .int 0, .ref q1, .ref q2, .null, .null, .null, .null])), (q1, .inl (cI, 2, .inl (fun _ => 0))), (q2, .inl (cJ, 2, .inr (.inl (fun _ => 0))))] H := hP
  have hD : va_D A [(q0, .inr (2, [.int 0, .int 0, .ref q1, .ref q2, .null, .null, .null, .null])), (q1, .inl (cI, 2, .inl (fun _ => 0))), (q2, .inl (cJ, 2, .inr (.inl (fun _ => 0))))] := hD
  refine lv_aload_n hx hb dX2_init_18 rfl (lv_at hl 0 rfl) ?_
  refine lv_iconst (v := 2) hx hb dX2_init_19 (by decide) ?_
  refine nwa (g := g) (atype := .long) (a0 := (2, .inr (.inl (fun _ => 0)))) hx hb (hts (.arrayClass .long) (List.mem_cons_of_mem _ (List.mem_append_left _ (List.mem_of_getElem? (i := 5) rfl)))) rfl hK hP hD hS hA (un_l hK) (fun _ => rfl) (by decide) (by decide) (Nat.le_of_ble_eq_true rfl) (Nat.le_of_ble_eq_true rfl) (Nat.le_of_ble_eq_true rfl) dX2_init_20 (fun q3 H hP hD hS => ?_)
  have hP : va_P g vwCl [(q0, .inr (2, [.int 0, .int 0, .ref q1, .ref q2, .null, .null, .null, .null])), (q1, .inl (cI, 2, .inl (fun _ => 0))), (q2, .inl (cJ, 2, .inr (.inl (fun _ => 0)))), (q3, .inl (cJ, 2, .inr (.inl (fun _ => 0))))] H := hP
  have hD : va_D A [(q0, .inr (2, [.int 0, .int 0, .ref q1, .ref q2, .null, .null, .null, .null])), (q1, .inl (cI, 2, .inl (fun _ => 0))), (q2, .inl (cJ, 2, .inr (.inl (fun _ => 0)))), (q3, .inl (cJ, 2, .inr (.inl (fun _ => 0))))] := hD
  refine W.widen (k := 3) (n := 6) (Nat.le_of_ble_eq_true rfl) (Nat.le_of_ble_eq_true rfl) ?_
  refine va_putF (D := g) (ci := 2) (v := .ref q3) (ty := (.array .long)) (C := RX2) (T := TX2) (N := 8) hx hb hts iX2 tyX2 tyX2_ok nmX2 hown hK hP hD hS 0 rfl rfl 4 (by decide) (hts (.fieldLink RX2 17 "CardsAtYule$Course" "reach" "[J") (List.mem_cons_of_mem _ (List.mem_append_left _ (List.mem_of_getElem? (i := 7) rfl)))) (fun _ h9 => h9) rfl hin rfl (by decide +kernel) rfl rfl (Nat.le_of_ble_eq_true rfl) dX2_init_22 (fun H locs hP hD hS => ?_)
  have hP : va_P g vwCl [(q0, .inr (2, [.int 0, .int 0, .ref q1, .ref q2, .ref q3, .null, .null, .null])), (q1, .inl (cI, 2, .inl (fun _ => 0))), (q2, .inl (cJ, 2, .inr (.inl (fun _ => 0)))), (q3, .inl (cJ, 2, .inr (.inl (fun _ => 0))))] H := hP
  have hD : va_D A [(q0, .inr (2, [.int 0, .int 0, .ref q1, .ref q2, .ref q3, .null, .null, .null])), (q1, .inl (cI, 2, .inl (fun _ => 0))), (q2, .inl (cJ, 2, .inr (.inl (fun _ => 0)))), (q3, .inl (cJ, 2, .inr (.inl (fun _ => 0))))] := hD
  refine lv_aload_n hx hb dX2_init_25 rfl (lv_at hl 0 rfl) ?_
  refine lv_iconst (v := 2) hx hb dX2_init_26 (by decide) ?_
  refine nwa (g := g) (atype := .long) (a0 := (2, .inr (.inl (fun _ => 0)))) hx hb (hts (.arrayClass .long) (List.mem_cons_of_mem _ (List.mem_append_left _ (List.mem_of_getElem? (i := 5) rfl)))) rfl hK hP hD hS hA (un_l hK) (fun _ => rfl) (by decide) (by decide) (Nat.le_of_ble_eq_true rfl) (Nat.le_of_ble_eq_true rfl) (Nat.le_of_ble_eq_true rfl) dX2_init_27 (fun q4 H hP hD hS => ?_)
  have hP : va_P g vwCl [(q0, .inr (2, [.int 0, .int 0, .ref q1, .ref q2, .ref q3, .null, .null, .null])), (q1, .inl (cI, 2, .inl (fun _ => 0))), (q2, .inl (cJ, 2, .inr (.inl (fun _ => 0)))), (q3, .inl (cJ, 2, .inr (.inl (fun _ => 0)))), (q4, .inl (cJ, 2, .inr (.inl (fun _ => 0))))] H := hP
  have hD : va_D A [(q0, .inr (2, [.int 0, .int 0, .ref q1, .ref q2, .ref q3, .null, .null, .null])), (q1, .inl (cI, 2, .inl (fun _ => 0))), (q2, .inl (cJ, 2, .inr (.inl (fun _ => 0)))), (q3, .inl (cJ, 2, .inr (.inl (fun _ => 0)))), (q4, .inl (cJ, 2, .inr (.inl (fun _ => 0))))] := hD
  refine W.widen (k := 4) (n := 8) (Nat.le_of_ble_eq_true rfl) (Nat.le_of_ble_eq_true rfl) ?_
  refine va_putF (D := g) (ci := 2) (v := .ref q4) (ty := (.array .long)) (C := RX2) (T := TX2) (N := 8) hx hb hts iX2 tyX2 tyX2_ok nmX2 hown hK hP hD hS 0 rfl rfl 5 (by decide) (hts (.fieldLink RX2 20 "CardsAtYule$Course" "first" "[J") (List.mem_cons_of_mem _ (List.mem_append_left _ (List.mem_of_getElem? (i := 8) rfl)))) (fun _ h9 => h9) rfl hin rfl (by decide +kernel) rfl rfl (Nat.le_of_ble_eq_true rfl) dX2_init_29 (fun H locs hP hD hS => ?_)
  have hP : va_P g vwCl [(q0, .inr (2, [.int 0, .int 0, .ref q1, .ref q2, .ref q3, .ref q4, .null, .null])), (q1, .inl (cI, 2, .inl (fun _ => 0))), (q2, .inl (cJ, 2, .inr (.inl (fun _ => 0)))), (q3, .inl (cJ, 2, .inr (.inl (fun _ => 0)))), (q4, .inl (cJ, 2, .inr (.inl (fun _ => 0))))] H := hP
  have hD : va_D A [(q0, .inr (2, [.int 0, .int 0, .ref q1, .ref q2, .ref q3, .ref q4, .null, .null])), (q1, .inl (cI, 2, .inl (fun _ => 0))), (q2, .inl (cJ, 2, .inr (.inl (fun _ => 0)))), (q3, .inl (cJ, 2, .inr (.inl (fun _ => 0)))), (q4, .inl (cJ, 2, .inr (.inl (fun _ => 0))))] := hD
  refine lv_aload_n hx hb dX2_init_32 rfl (lv_at hl 0 rfl) ?_
  refine lv_iconst (v := 2) hx hb dX2_init_33 (by decide) ?_
  refine nwa (g := g) (atype := .long) (a0 := (2, .inr (.inl (fun _ => 0)))) hx hb (hts (.arrayClass .long) (List.mem_cons_of_mem _ (List.mem_append_left _ (List.mem_of_getElem? (i := 5) rfl)))) rfl hK hP hD hS hA (un_l hK) (fun _ => rfl) (by decide) (by decide) (Nat.le_of_ble_eq_true rfl) (Nat.le_of_ble_eq_true rfl) (Nat.le_of_ble_eq_true rfl) dX2_init_34 (fun q5 H hP hD hS => ?_)
  have hP : va_P g vwCl [(q0, .inr (2, [.int 0, .int 0, .ref q1, .ref q2, .ref q3, .ref q4, .null, .null])), (q1, .inl (cI, 2, .inl (fun _ => 0))), (q2, .inl (cJ, 2, .inr (.inl (fun _ => 0)))), (q3, .inl (cJ, 2, .inr (.inl (fun _ => 0)))), (q4, .inl (cJ, 2, .inr (.inl (fun _ => 0)))), (q5, .inl (cJ, 2, .inr (.inl (fun _ => 0))))] H := hP
  have hD : va_D A [(q0, .inr (2, [.int 0, .int 0, .ref q1, .ref q2, .ref q3, .ref q4, .null, .null])), (q1, .inl (cI, 2, .inl (fun _ => 0))), (q2, .inl (cJ, 2, .inr (.inl (fun _ => 0)))), (q3, .inl (cJ, 2, .inr (.inl (fun _ => 0)))), (q4, .inl (cJ, 2, .inr (.inl (fun _ => 0)))), (q5, .inl (cJ, 2, .inr (.inl (fun _ => 0))))] := hD
  refine W.widen (k := 5) (n := 10) (Nat.le_of_ble_eq_true rfl) (Nat.le_of_ble_eq_true rfl) ?_
  refine va_putF (D := g) (ci := 2) (v := .ref q5) (ty := (.array .long)) (C := RX2) (T := TX2) (N := 8) hx hb hts iX2 tyX2 tyX2_ok nmX2 hown hK hP hD hS 0 rfl rfl 6 (by decide) (hts (.fieldLink RX2 23 "CardsAtYule$Course" "back" "[J") (List.mem_cons_of_mem _ (List.mem_append_left _ (List.mem_of_getElem? (i := 9) rfl)))) (fun _ h9 => h9) rfl hin rfl (by decide +kernel) rfl rfl (Nat.le_of_ble_eq_true rfl) dX2_init_36 (fun H locs hP hD hS => ?_)
  have hP : va_P g vwCl [(q0, .inr (2, [.int 0, .int 0, .ref q1, .ref q2, .ref q3, .ref q4, .ref q5, .null])), (q1, .inl (cI, 2, .inl (fun _ => 0))), (q2, .inl (cJ, 2, .inr (.inl (fun _ => 0)))), (q3, .inl (cJ, 2, .inr (.inl (fun _ => 0)))), (q4, .inl (cJ, 2, .inr (.inl (fun _ => 0)))), (q5, .inl (cJ, 2, .inr (.inl (fun _ => 0))))] H := hP
  have hD : va_D A [(q0, .inr (2, [.int 0, .int 0, .ref q1, .ref q2, .ref q3, .ref q4, .ref q5, .null])), (q1, .inl (cI, 2, .inl (fun _ => 0))), (q2, .inl (cJ, 2, .inr (.inl (fun _ => 0)))), (q3, .inl (cJ, 2, .inr (.inl (fun _ => 0)))), (q4, .inl (cJ, 2, .inr (.inl (fun _ => 0)))), (q5, .inl (cJ, 2, .inr (.inl (fun _ => 0))))] := hD
  refine lv_aload_n hx hb dX2_init_39 rfl (lv_at hl 0 rfl) ?_
  refine lv_iconst (v := 2) hx hb dX2_init_40 (by decide) ?_
  refine nwa (g := g) (atype := .long) (a0 := (2, .inr (.inl (fun _ => 0)))) hx hb (hts (.arrayClass .long) (List.mem_cons_of_mem _ (List.mem_append_left _ (List.mem_of_getElem? (i := 5) rfl)))) rfl hK hP hD hS hA (un_l hK) (fun _ => rfl) (by decide) (by decide) (Nat.le_of_ble_eq_true rfl) (Nat.le_of_ble_eq_true rfl) (Nat.le_of_ble_eq_true rfl) dX2_init_41 (fun q6 H hP hD hS => ?_)
  have hP : va_P g vwCl [(q0, .inr (2, [.int 0, .int 0, .ref q1, .ref q2, .ref q3, .ref q4, .ref q5, .null])), (q1, .inl (cI, 2, .inl (fun _ => 0))), (q2, .inl (cJ, 2, .inr (.inl (fun _ => 0)))), (q3, .inl (cJ, 2, .inr (.inl (fun _ => 0)))), (q4, .inl (cJ, 2, .inr (.inl (fun _ => 0)))), (q5, .inl (cJ, 2, .inr (.inl (fun _ => 0)))), (q6, .inl (cJ, 2, .inr (.inl (fun _ => 0))))] H := hP
  have hD : va_D A [(q0, .inr (2, [.int 0, .int 0, .ref q1, .ref q2, .ref q3, .ref q4, .ref q5, .null])), (q1, .inl (cI, 2, .inl (fun _ => 0))), (q2, .inl (cJ, 2, .inr (.inl (fun _ => 0)))), (q3, .inl (cJ, 2, .inr (.inl (fun _ => 0)))), (q4, .inl (cJ, 2, .inr (.inl (fun _ => 0)))), (q5, .inl (cJ, 2, .inr (.inl (fun _ => 0)))), (q6, .inl (cJ, 2, .inr (.inl (fun _ => 0))))] := hD
  refine W.widen (k := 6) (n := 12) (Nat.le_of_ble_eq_true rfl) (Nat.le_of_ble_eq_true rfl) ?_
  refine va_putF (D := g) (ci := 2) (v := .ref q6) (ty := (.array .long)) (C := RX2) (T := TX2) (N := 8) hx hb hts iX2 tyX2 tyX2_ok nmX2 hown hK hP hD hS 0 rfl rfl 7 (by decide) (hts (.fieldLink RX2 26 "CardsAtYule$Course" "got" "[J") (List.mem_cons_of_mem _ (List.mem_append_left _ (List.mem_of_getElem? (i := 10) rfl)))) (fun _ h9 => h9) rfl hin rfl (by decide +kernel) rfl rfl (Nat.le_of_ble_eq_true rfl) dX2_init_43 (fun H locs hP hD hS => ?_)
  have hP : va_P g vwCl [(q0, .inr (2, [.int 0, .int 0, .ref q1, .ref q2, .ref q3, .ref q4, .ref q5, .ref q6])), (q1, .inl (cI, 2, .inl (fun _ => 0))), (q2, .inl (cJ, 2, .inr (.inl (fun _ => 0)))), (q3, .inl (cJ, 2, .inr (.inl (fun _ => 0)))), (q4, .inl (cJ, 2, .inr (.inl (fun _ => 0)))), (q5, .inl (cJ, 2, .inr (.inl (fun _ => 0)))), (q6, .inl (cJ, 2, .inr (.inl (fun _ => 0))))] H := hP
  have hD : va_D A [(q0, .inr (2, [.int 0, .int 0, .ref q1, .ref q2, .ref q3, .ref q4, .ref q5, .ref q6])), (q1, .inl (cI, 2, .inl (fun _ => 0))), (q2, .inl (cJ, 2, .inr (.inl (fun _ => 0)))), (q3, .inl (cJ, 2, .inr (.inl (fun _ => 0)))), (q4, .inl (cJ, 2, .inr (.inl (fun _ => 0)))), (q5, .inl (cJ, 2, .inr (.inl (fun _ => 0)))), (q6, .inl (cJ, 2, .inr (.inl (fun _ => 0))))] := hD
  have hP9 := hP.sub (ws' := [(q0, .inr (2, [.int 0, .int 0, .ref q1, .ref q2, .ref q3, .ref q4, .ref q5, .ref q6])), (q1, .inl (cI, 2, .inl (fun _ => 0))), (q2, .inl (cJ, 2, .inr (.inl (fun _ => 0)))), (q3, .inl (cJ, 2, .inr (.inl (fun _ => 0)))), (q4, .inl (cJ, 2, .inr (.inl (fun _ => 0)))), (q5, .inl (cJ, 2, .inr (.inl (fun _ => 0)))), (q6, .inl (cJ, 2, .inr (.inl (fun _ => 0))))]) [0, 1, 2, 3, 4, 5, 6] rfl
  have hD9 := hD.sub (ws' := [(q0, .inr (2, [.int 0, .int 0, .ref q1, .ref q2, .ref q3, .ref q4, .ref q5, .ref q6])), (q1, .inl (cI, 2, .inl (fun _ => 0))), (q2, .inl (cJ, 2, .inr (.inl (fun _ => 0)))), (q3, .inl (cJ, 2, .inr (.inl (fun _ => 0)))), (q4, .inl (cJ, 2, .inr (.inl (fun _ => 0)))), (q5, .inl (cJ, 2, .inr (.inl (fun _ => 0)))), (q6, .inl (cJ, 2, .inr (.inl (fun _ => 0))))]) [0, 1, 2, 3, 4, 5, 6] (by decide) rfl
  exact W.vret hx hb hr (fun t ht hW => ⟨⟨(q1, q2, q3, q4, q5, q6), rfl, trivial, by rw [ht]; exact hP9, va_K.moved hW.alike hK, hD9⟩, hS.F ht⟩) hS.2.2 dX2_init_46
def v_fX1_init : List Cond := .code yX1_init cX1_init 1 none :: (([.methodLink RX1 3 objectInit, .instanceMethod objectInit, .code objectInit ⟨#[0xb1]⟩ 1 none, .arrayClass .int, .fieldLink RX1 9 "CardsAtYule$Chances" "forgets" "[I", .arrayClass .long, .fieldLink RX1 15 "CardsAtYule$Chances" "now" "[J", .fieldLink RX1 19 "CardsAtYule$Chances" "then" "[J"] : List Cond) ++ (wsX10 ++ ([] : List Cond)))
theorem good_v_fX1_init : v_fX1_init.all goodWord = true := ga_c (by decide +kernel) (ga_a (by decide +kernel) (ga_a good_wsX10 rfl))
set_option maxHeartbeats 4000000 in
set_option maxRecDepth 100000 in
theorem k_fX1_init (l : Launch) (g : va_G) (cI cJ cB cZ cL : ClassId) (q0 : Nat) (sz : Nat)  : Met l yX1_init v_fX1_init ({ frames := 1, cells := 3, slots := 34, locals := 12 }) (va_Pc [.ref q0] (pRW g (tyT cI cJ cB cZ cL) [(q0, .inr (1, [.long 0, .long 0, .long 0, .long 0, .int 0, .int 0, .null, .null, .null]))] sz)) (va_Qv (fun (u : Nat × Nat × Nat) => match u with | (b0, b1, b2) => True) (fun (u : Nat × Nat × Nat) (t : State) => bRW g (tyT cI cJ cB cZ cL) (va_A [(q0, .inr (1, [.long 0, .long 0, .long 0, .long 0, .int 0, .int 0, .null, .null, .null]))] sz) (match u with | (b0, b1, b2) => [(q0, .inr (1, [.long 0, .long 0, .long 0, .long 0, .int 0, .int 0, .ref b0, .ref b1, .ref b2])), (b0, .inl (cI, 2, .inl (fun _ => 0))), (b1, .inl (cJ, 16, .inr (.inl (fun _ => 0)))), (b2, .inl (cJ, 16, .inr (.inl (fun _ => 0))))]) t) (va_A [(q0, .inr (1, [.long 0, .long 0, .long 0, .long 0, .int 0, .int 0, .null, .null, .null]))] sz)) 3 34 (va_A [(q0, .inr (1, [.long 0, .long 0, .long 0, .long 0, .int 0, .int 0, .null, .null, .null]))] sz) := by
  refine Met.ofW (cc := cX1_init) (maxL := 1) (ret := none) (by decide) rfl ?_
  intro p e s m args below meth c s₁ B hml hv
  obtain ⟨rfl, hsz, hP, hK, hD0⟩ := hv
  have hx := B.exec
  have hb := B.bytes
  have hr := B.returns
  have hts := atoms_spec (ws := v_fX1_init) B.pre
  have hown : s.vm.findClass RX1 = some m.cls := findClass_of_methodNamed B.named
  have hlocks := B.notSynchronized
  have hin : meth.name = "<init>" := (name_of_methodNamed B.named B.method).1
  subst hsz
  have iX1 : ∀ w ∈ wsX10, w ∈ v_fX1_init := (fun _ h => List.mem_cons_of_mem _ (List.mem_append_right _ (List.mem_append_left _ h)))
  have hD := hD0.self (sz := s.heap.size)
  generalize hAe : (va_A [(q0, .inr (1, [.long 0, .long 0, .long 0, .long 0, .int 0, .int 0, .null, .null, .null]))] s.heap.size) = A at hD ⊢
  have hA : ∀ q : Nat, s.heap.size ≤ q → A q := fun q h => by rw [← hAe]; exact Or.inr h
  have hS : va_S A s.heap s.heap [] := va_S.rf
  have hl := lv_entry ([.ref q0]) (n := 1) (Nat.le_of_ble_eq_true rfl)
  rw [lg_entry_eq]
  generalize (lg_sl ([.ref q0]) ++ List.replicate (1 - (lg_sl ([.ref q0])).length) Slot.unset).toArray = ls at hl ⊢
  have hl : lv_has ls 1 [(0, .ref q0)] := hl
  have hP : va_P g vwCl [(q0, .inr (1, [.long 0, .long 0, .long 0, .long 0, .int 0, .int 0, .null, .null, .null]))] s.heap := hP
  refine lv_aload_n hx hb dX1_init_0 rfl (lv_at hl 0 rfl) ?_
  refine W.objInit hx hb hown (hts (.methodLink RX1 3 objectInit) (List.mem_cons_of_mem _ (List.mem_append_left _ (List.mem_of_getElem? (i := 0) rfl)))) (hts (.instanceMethod objectInit) (List.mem_cons_of_mem _ (List.mem_append_left _ (List.mem_of_getElem? (i := 1) rfl)))) (hts (.code objectInit ⟨#[0xb1]⟩ 1 none) (List.mem_cons_of_mem _ (List.mem_append_left _ (List.mem_of_getElem? (i := 2) rfl)))) rfl (by rw [hml]; exact hl.1) rfl dX1_init_1 (Nat.le_of_ble_eq_true rfl) (Nat.le_of_ble_eq_true rfl) ?_
  refine W.eq (g2 := F0 m 4 ls []) rfl ?_
  refine lv_aload_n hx hb dX1_init_4 rfl (lv_at hl 0 rfl) ?_
  refine lv_iconst (v := 2) hx hb dX1_init_5 (by decide) ?_
  refine nwa (g := g) (atype := .int) (a0 := (2, .inl (fun _ => 0))) hx hb (hts (.arrayClass .int) (List.mem_cons_of_mem _ (List.mem_append_left _ (List.mem_of_getElem? (i := 3) rfl)))) rfl hK hP hD hS hA (un_i hK) (fun _ => rfl) (by decide) (by decide) (Nat.le_of_ble_eq_true rfl) (Nat.le_of_ble_eq_true rfl) (Nat.le_of_ble_eq_true rfl) dX1_init_6 (fun q1 H hP hD hS => ?_)
  have hP : va_P g vwCl [(q0, .inr (1, [.long 0, .long 0, .long 0, .long 0, .int 0, .int 0, .null, .null, .null])), (q1, .inl (cI, 2, .inl (fun _ => 0)))] H := hP
  have hD : va_D A [(q0, .inr (1, [.long 0, .long 0, .long 0, .long 0, .int 0, .int 0, .null, .null, .null])), (q1, .inl (cI, 2, .inl (fun _ => 0)))] := hD
  refine W.widen (k := 1) (n := 2) (Nat.le_of_ble_eq_true rfl) (Nat.le_of_ble_eq_true rfl) ?_
  refine va_putF (D := g) (ci := 1) (v := .ref q1) (ty := (.array .int)) (C := RX1) (T := TX1) (N := 9) hx hb hts iX1 tyX1 tyX1_ok nmX1 hown hK hP hD hS 0 rfl rfl 6 (by decide) (hts (.fieldLink RX1 9 "CardsAtYule$Chances" "forgets" "[I") (List.mem_cons_of_mem _ (List.mem_append_left _ (List.mem_of_getElem? (i := 4) rfl)))) (fun _ h9 => h9) rfl hin rfl (by decide +kernel) rfl rfl (Nat.le_of_ble_eq_true rfl) dX1_init_8 (fun H locs hP hD hS => ?_)
  have hP : va_P g vwCl [(q0, .inr (1, [.long 0, .long 0, .long 0, .long 0, .int 0, .int 0, .ref q1, .null, .null])), (q1, .inl (cI, 2, .inl (fun _ => 0)))] H := hP
  have hD : va_D A [(q0, .inr (1, [.long 0, .long 0, .long 0, .long 0, .int 0, .int 0, .ref q1, .null, .null])), (q1, .inl (cI, 2, .inl (fun _ => 0)))] := hD
  refine lv_aload_n hx hb dX1_init_11 rfl (lv_at hl 0 rfl) ?_
  refine lv_bipush (v := 16) hx hb dX1_init_12 (by decide) ?_
  refine nwa (g := g) (atype := .long) (a0 := (16, .inr (.inl (fun _ => 0)))) hx hb (hts (.arrayClass .long) (List.mem_cons_of_mem _ (List.mem_append_left _ (List.mem_of_getElem? (i := 5) rfl)))) rfl hK hP hD hS hA (un_l hK) (fun _ => rfl) (by decide) (by decide) (Nat.le_of_ble_eq_true rfl) (Nat.le_of_ble_eq_true rfl) (Nat.le_of_ble_eq_true rfl) dX1_init_14 (fun q2 H hP hD hS => ?_)
  have hP : va_P g vwCl [(q0, .inr (1, [.long 0, .long 0, .long 0, .long 0, .int 0, .int 0, .ref q1, .null, .null])), (q1, .inl (cI, 2, .inl (fun _ => 0))), (q2, .inl (cJ, 16, .inr (.inl (fun _ => 0))))] H := hP
  have hD : va_D A [(q0, .inr (1, [.long 0, .long 0, .long 0, .long 0, .int 0, .int 0, .ref q1, .null, .null])), (q1, .inl (cI, 2, .inl (fun _ => 0))), (q2, .inl (cJ, 16, .inr (.inl (fun _ => 0))))] := hD
  refine W.widen (k := 2) (n := 18) (Nat.le_of_ble_eq_true rfl) (Nat.le_of_ble_eq_true rfl) ?_
  refine va_put (D := g) (ci := 1) (v := .ref q2) (ty := (.array .long)) (C := RX1) (T := TX1) (N := 9) hx hb hts iX1 tyX1 tyX1_ok nmX1 hown hK hP hD hS 0 rfl rfl 7 (by decide) (hts (.fieldLink RX1 15 "CardsAtYule$Chances" "now" "[J") (List.mem_cons_of_mem _ (List.mem_append_left _ (List.mem_of_getElem? (i := 6) rfl)))) (fun _ h9 => h9) rfl (by decide +kernel) rfl rfl (Nat.le_of_ble_eq_true rfl) dX1_init_16 (fun H locs hP hD hS => ?_)
  have hP : va_P g vwCl [(q0, .inr (1, [.long 0, .long 0, .long 0, .long 0, .int 0, .int 0, .ref q1, .ref q2, .null])), (q1, .inl (cI, 2, .inl (fun _ => 0))), (q2, .inl (cJ, 16, .inr (.inl (fun _ => 0))))] H := hP
  have hD : va_D A [(q0, .inr (1, [.long 0, .long 0, .long 0, .long 0, .int 0, .int 0, .ref q1, .ref q2, .null])), (q1, .inl (cI, 2, .inl (fun _ => 0))), (q2, .inl (cJ, 16, .inr (.inl (fun _ => 0))))] := hD
  refine lv_aload_n hx hb dX1_init_19 rfl (lv_at hl 0 rfl) ?_
  refine lv_bipush (v := 16) hx hb dX1_init_20 (by decide) ?_
  refine nwa (g := g) (atype := .long) (a0 := (16, .inr (.inl (fun _ => 0)))) hx hb (hts (.arrayClass .long) (List.mem_cons_of_mem _ (List.mem_append_left _ (List.mem_of_getElem? (i := 5) rfl)))) rfl hK hP hD hS hA (un_l hK) (fun _ => rfl) (by decide) (by decide) (Nat.le_of_ble_eq_true rfl) (Nat.le_of_ble_eq_true rfl) (Nat.le_of_ble_eq_true rfl) dX1_init_22 (fun q3 H hP hD hS => ?_)
  have hP : va_P g vwCl [(q0, .inr (1, [.long 0, .long 0, .long 0, .long 0, .int 0, .int 0, .ref q1, .ref q2, .null])), (q1, .inl (cI, 2, .inl (fun _ => 0))), (q2, .inl (cJ, 16, .inr (.inl (fun _ => 0)))), (q3, .inl (cJ, 16, .inr (.inl (fun _ => 0))))] H := hP
  have hD : va_D A [(q0, .inr (1, [.long 0, .long 0, .long 0, .long 0, .int 0, .int 0, .ref q1, .ref q2, .null])), (q1, .inl (cI, 2, .inl (fun _ => 0))), (q2, .inl (cJ, 16, .inr (.inl (fun _ => 0)))), (q3, .inl (cJ, 16, .inr (.inl (fun _ => 0))))] := hD
  refine W.widen (k := 3) (n := 34) (Nat.le_of_ble_eq_true rfl) (Nat.le_of_ble_eq_true rfl) ?_
  refine va_put (D := g) (ci := 1) (v := .ref q3) (ty := (.array .long)) (C := RX1) (T := TX1) (N := 9) hx hb hts iX1 tyX1 tyX1_ok nmX1 hown hK hP hD hS 0 rfl rfl 8 (by decide) (hts (.fieldLink RX1 19 "CardsAtYule$Chances" "then" "[J") (List.mem_cons_of_mem _ (List.mem_append_left _ (List.mem_of_getElem? (i := 7) rfl)))) (fun _ h9 => h9) rfl (by decide +kernel) rfl rfl (Nat.le_of_ble_eq_true rfl) dX1_init_24 (fun H locs hP hD hS => ?_)
  have hP : va_P g vwCl [(q0, .inr (1, [.long 0, .long 0, .long 0, .long 0, .int 0, .int 0, .ref q1, .ref q2, .ref q3])), (q1, .inl (cI, 2, .inl (fun _ => 0))), (q2, .inl (cJ, 16, .inr (.inl (fun _ => 0)))), (q3, .inl (cJ, 16, .inr (.inl (fun _ => 0))))] H := hP
  have hD : va_D A [(q0, .inr (1, [.long 0, .long 0, .long 0, .long 0, .int 0, .int 0, .ref q1, .ref q2, .ref q3])), (q1, .inl (cI, 2, .inl (fun _ => 0))), (q2, .inl (cJ, 16, .inr (.inl (fun _ => 0)))), (q3, .inl (cJ, 16, .inr (.inl (fun _ => 0))))] := hD
  have hP9 := hP.sub (ws' := [(q0, .inr (1, [.long 0, .long 0, .long 0, .long 0, .int 0, .int 0, .ref q1, .ref q2, .ref q3])), (q1, .inl (cI, 2, .inl (fun _ => 0))), (q2, .inl (cJ, 16, .inr (.inl (fun _ => 0)))), (q3, .inl (cJ, 16, .inr (.inl (fun _ => 0))))]) [0, 1, 2, 3] rfl
  have hD9 := hD.sub (ws' := [(q0, .inr (1, [.long 0, .long 0, .long 0, .long 0, .int 0, .int 0, .ref q1, .ref q2, .ref q3])), (q1, .inl (cI, 2, .inl (fun _ => 0))), (q2, .inl (cJ, 16, .inr (.inl (fun _ => 0)))), (q3, .inl (cJ, 16, .inr (.inl (fun _ => 0))))]) [0, 1, 2, 3] (by decide) rfl
  exact W.vret hx hb hr (fun t ht hW => ⟨⟨(q1, q2, q3), rfl, trivial, by rw [ht]; exact hP9, va_K.moved hW.alike hK, hD9⟩, hS.F ht⟩) hS.2.2 dX1_init_27
def v_fX9_init : List Cond := .code yX9_init cX9_init 1 none :: (([.methodLink RX9 3 objectInit, .instanceMethod objectInit, .code objectInit ⟨#[0xb1]⟩ 1 none, .arrayClass .int, .fieldLink RX9 9 "CardsAtYule$Will" "worth" "[I"] : List Cond) ++ (wsX90 ++ ([] : List Cond)))
theorem good_v_fX9_init : v_fX9_init.all goodWord = true := ga_c (by decide +kernel) (ga_a (by decide +kernel) (ga_a good_wsX90 rfl))
set_option maxHeartbeats 4000000 in
set_option maxRecDepth 100000 in
theorem k_fX9_init (l : Launch) (g : va_G) (cI cJ cB cZ cL : ClassId) (q0 : Nat) (sz : Nat)  : Met l yX9_init v_fX9_init ({ frames := 1, cells := 1, slots := 208, locals := 12 }) (va_Pc [.ref q0] (pRW g (tyT cI cJ cB cZ cL) [(q0, .inr (9, [.int 0, .int 0, .int 0, .int 0, .int 0, .int 0, .int 0, .null]))] sz)) (va_Qv (fun (u : Nat) => match u with | b0 => True) (fun (u : Nat) (t : State) => bRW g (tyT cI cJ cB cZ cL) (va_A [(q0, .inr (9, [.int 0, .int 0, .int 0, .int 0, .int 0, .int 0, .int 0, .null]))] sz) (match u with | b0 => [(q0, .inr (9, [.int 0, .int 0, .int 0, .int 0, .int 0, .int 0, .int 0, .ref b0])), (b0, .inl (cI, 208, .inl (fun _ => 0)))]) t) (va_A [(q0, .inr (9, [.int 0, .int 0, .int 0, .int 0, .int 0, .int 0, .int 0, .null]))] sz)) 1 208 (va_A [(q0, .inr (9, [.int 0, .int 0, .int 0, .int 0, .int 0, .int 0, .int 0, .null]))] sz) := by
  refine Met.ofW (cc := cX9_init) (maxL := 1) (ret := none) (by decide) rfl ?_
  intro p e s m args below meth c s₁ B hml hv
  obtain ⟨rfl, hsz, hP, hK, hD0⟩ := hv
  have hx := B.exec
  have hb := B.bytes
  have hr := B.returns
  have hts := atoms_spec (ws := v_fX9_init) B.pre
  have hown : s.vm.findClass RX9 = some m.cls := findClass_of_methodNamed B.named
  have hlocks := B.notSynchronized
  have hin : meth.name = "<init>" := (name_of_methodNamed B.named B.method).1
  subst hsz
  have iX9 : ∀ w ∈ wsX90, w ∈ v_fX9_init := (fun _ h => List.mem_cons_of_mem _ (List.mem_append_right _ (List.mem_append_left _ h)))
  have hD := hD0.self (sz := s.heap.size)
  generalize hAe : (va_A [(q0, .inr (9, [.int 0, .int 0, .int 0, .int 0, .int 0, .int 0, .int 0, .null]))] s.heap.size) = A at hD ⊢
  have hA : ∀ q : Nat, s.heap.size ≤ q → A q := fun q h => by rw [← hAe]; exact Or.inr h
  have hS : va_S A s.heap s.heap [] := va_S.rf
  have hl := lv_entry ([.ref q0]) (n := 1) (Nat.le_of_ble_eq_true rfl)
  rw [lg_entry_eq]
  generalize (lg_sl ([.ref q0]) ++ List.replicate (1 - (lg_sl ([.ref q0])).length) Slot.unset).toArray = ls at hl ⊢
  have hl : lv_has ls 1 [(0, .ref q0)] := hl
  have hP : va_P g vwCl [(q0, .inr (9, [.int 0, .int 0, .int 0, .int 0, .int 0, .int 0, .int 0, .null]))] s.heap := hP
  refine lv_aload_n hx hb dX9_init_0 rfl (lv_at hl 0 rfl) ?_
  refine W.objInit hx hb hown (hts (.methodLink RX9 3 objectInit) (List.mem_cons_of_mem _ (List.mem_append_left _ (List.mem_of_getElem? (i := 0) rfl)))) (hts (.instanceMethod objectInit) (List.mem_cons_of_mem _ (List.mem_append_left _ (List.mem_of_getElem? (i := 1) rfl)))) (hts (.code objectInit ⟨#[0xb1]⟩ 1 none) (List.mem_cons_of_mem _ (List.mem_append_left _ (List.mem_of_getElem? (i := 2) rfl)))) rfl (by rw [hml]; exact hl.1) rfl dX9_init_1 (Nat.le_of_ble_eq_true rfl) (Nat.le_of_ble_eq_true rfl) ?_
  refine W.eq (g2 := F0 m 4 ls []) rfl ?_
  refine lv_aload_n hx hb dX9_init_4 rfl (lv_at hl 0 rfl) ?_
  refine lv_sipush (v := 208) hx hb dX9_init_5 (by decide) ?_
  refine nwa (g := g) (atype := .int) (a0 := (208, .inl (fun _ => 0))) hx hb (hts (.arrayClass .int) (List.mem_cons_of_mem _ (List.mem_append_left _ (List.mem_of_getElem? (i := 3) rfl)))) rfl hK hP hD hS hA (un_i hK) (fun _ => rfl) (by decide) (by decide) (Nat.le_of_ble_eq_true rfl) (Nat.le_of_ble_eq_true rfl) (Nat.le_of_ble_eq_true rfl) dX9_init_8 (fun q1 H hP hD hS => ?_)
  have hP : va_P g vwCl [(q0, .inr (9, [.int 0, .int 0, .int 0, .int 0, .int 0, .int 0, .int 0, .null])), (q1, .inl (cI, 208, .inl (fun _ => 0)))] H := hP
  have hD : va_D A [(q0, .inr (9, [.int 0, .int 0, .int 0, .int 0, .int 0, .int 0, .int 0, .null])), (q1, .inl (cI, 208, .inl (fun _ => 0)))] := hD
  refine W.widen (k := 1) (n := 208) (Nat.le_of_ble_eq_true rfl) (Nat.le_of_ble_eq_true rfl) ?_
  refine va_putF (D := g) (ci := 9) (v := .ref q1) (ty := (.array .int)) (C := RX9) (T := TX9) (N := 8) hx hb hts iX9 tyX9 tyX9_ok nmX9 hown hK hP hD hS 0 rfl rfl 7 (by decide) (hts (.fieldLink RX9 9 "CardsAtYule$Will" "worth" "[I") (List.mem_cons_of_mem _ (List.mem_append_left _ (List.mem_of_getElem? (i := 4) rfl)))) (fun _ h9 => h9) rfl hin rfl (by decide +kernel) rfl rfl (Nat.le_of_ble_eq_true rfl) dX9_init_10 (fun H locs hP hD hS => ?_)
  have hP : va_P g vwCl [(q0, .inr (9, [.int 0, .int 0, .int 0, .int 0, .int 0, .int 0, .int 0, .ref q1])), (q1, .inl (cI, 208, .inl (fun _ => 0)))] H := hP
  have hD : va_D A [(q0, .inr (9, [.int 0, .int 0, .int 0, .int 0, .int 0, .int 0, .int 0, .ref q1])), (q1, .inl (cI, 208, .inl (fun _ => 0)))] := hD
  have hP9 := hP.sub (ws' := [(q0, .inr (9, [.int 0, .int 0, .int 0, .int 0, .int 0, .int 0, .int 0, .ref q1])), (q1, .inl (cI, 208, .inl (fun _ => 0)))]) [0, 1] rfl
  have hD9 := hD.sub (ws' := [(q0, .inr (9, [.int 0, .int 0, .int 0, .int 0, .int 0, .int 0, .int 0, .ref q1])), (q1, .inl (cI, 208, .inl (fun _ => 0)))]) [0, 1] (by decide) rfl
  exact W.vret hx hb hr (fun t ht hW => ⟨⟨q1, rfl, trivial, by rw [ht]; exact hP9, va_K.moved hW.alike hK, hD9⟩, hS.F ht⟩) hS.2.2 dX9_init_13
def v_fX6_init : List Cond := .code yX6_init cX6_init 1 none :: (([.methodLink RX6 3 objectInit, .instanceMethod objectInit, .code objectInit ⟨#[0xb1]⟩ 1 none] : List Cond) ++ ([] : List Cond))
theorem good_v_fX6_init : v_fX6_init.all goodWord = true := ga_c (by decide +kernel) (ga_a (by decide +kernel) rfl)
set_option maxHeartbeats 4000000 in
set_option maxRecDepth 100000 in
theorem k_fX6_init (l : Launch) (g : va_G) (cI cJ cB cZ cL : ClassId) (q0 : Nat) (sz : Nat)  : Met l yX6_init v_fX6_init ({ frames := 1, cells := 0, slots := 0, locals := 12 }) (va_Pc [.ref q0] (pRW g (tyT cI cJ cB cZ cL) [(q0, .inr (6, [.long 0, .long 0, .long 0, .int 0]))] sz)) (va_Qv (fun (u : Unit) => True) (fun (_ : Unit) (t : State) => bRW g (tyT cI cJ cB cZ cL) (va_A [(q0, .inr (6, [.long 0, .long 0, .long 0, .int 0]))] sz) [(q0, .inr (6, [.long 0, .long 0, .long 0, .int 0]))] t) (va_A [(q0, .inr (6, [.long 0, .long 0, .long 0, .int 0]))] sz)) 0 0 (va_A [(q0, .inr (6, [.long 0, .long 0, .long 0, .int 0]))] sz) := by
  refine Met.ofW (cc := cX6_init) (maxL := 1) (ret := none) (by decide) rfl ?_
  intro p e s m args below meth c s₁ B hml hv
  obtain ⟨rfl, hsz, hP, hK, hD0⟩ := hv
  have hx := B.exec
  have hb := B.bytes
  have hr := B.returns
  have hts := atoms_spec (ws := v_fX6_init) B.pre
  have hown : s.vm.findClass RX6 = some m.cls := findClass_of_methodNamed B.named
  have hlocks := B.notSynchronized
  have hin : meth.name = "<init>" := (name_of_methodNamed B.named B.method).1
  subst hsz
  have hD := hD0.self (sz := s.heap.size)
  generalize hAe : (va_A [(q0, .inr (6, [.long 0, .long 0, .long 0, .int 0]))] s.heap.size) = A at hD ⊢
  have hA : ∀ q : Nat, s.heap.size ≤ q → A q := fun q h => by rw [← hAe]; exact Or.inr h
  have hS : va_S A s.heap s.heap [] := va_S.rf
  have hl := lv_entry ([.ref q0]) (n := 1) (Nat.le_of_ble_eq_true rfl)
  rw [lg_entry_eq]
  generalize (lg_sl ([.ref q0]) ++ List.replicate (1 - (lg_sl ([.ref q0])).length) Slot.unset).toArray = ls at hl ⊢
  have hl : lv_has ls 1 [(0, .ref q0)] := hl
  have hP : va_P g vwCl [(q0, .inr (6, [.long 0, .long 0, .long 0, .int 0]))] s.heap := hP
  refine lv_aload_n hx hb dX6_init_0 rfl (lv_at hl 0 rfl) ?_
  refine W.objInit hx hb hown (hts (.methodLink RX6 3 objectInit) (List.mem_cons_of_mem _ (List.mem_append_left _ (List.mem_of_getElem? (i := 0) rfl)))) (hts (.instanceMethod objectInit) (List.mem_cons_of_mem _ (List.mem_append_left _ (List.mem_of_getElem? (i := 1) rfl)))) (hts (.code objectInit ⟨#[0xb1]⟩ 1 none) (List.mem_cons_of_mem _ (List.mem_append_left _ (List.mem_of_getElem? (i := 2) rfl)))) rfl (by rw [hml]; exact hl.1) rfl dX6_init_1 (Nat.le_of_ble_eq_true rfl) (Nat.le_of_ble_eq_true rfl) ?_
  refine W.eq (g2 := F0 m 4 ls []) rfl ?_
  have hP9 := hP.sub (ws' := [(q0, .inr (6, [.long 0, .long 0, .long 0, .int 0]))]) [0] rfl
  have hD9 := hD.sub (ws' := [(q0, .inr (6, [.long 0, .long 0, .long 0, .int 0]))]) [0] (by decide) rfl
  exact W.vret hx hb hr (fun t ht hW => ⟨⟨(), rfl, trivial, by rw [ht]; exact hP9, va_K.moved hW.alike hK, hD9⟩, hS.F ht⟩) hS.2.2 dX6_init_4
def v_fX5_init : List Cond := .code yX5_init cX5_init 1 none :: (([.methodLink RX5 3 objectInit, .instanceMethod objectInit, .code objectInit ⟨#[0xb1]⟩ 1 none, .arrayClass .int, .fieldLink RX5 9 "CardsAtYule$Lives" "lastSent" "[I", .fieldLink RX5 15 "CardsAtYule$Lives" "states" "[I", .arrayClass .long, .fieldLink RX5 18 "CardsAtYule$Lives" "may" "[J", .fieldLink RX5 22 "CardsAtYule$Lives" "reach" "[J"] : List Cond) ++ (wsX50 ++ ([] : List Cond)))
theorem good_v_fX5_init : v_fX5_init.all goodWord = true := ga_c (by decide +kernel) (ga_a (by decide +kernel) (ga_a good_wsX50 rfl))
set_option maxHeartbeats 4000000 in
set_option maxRecDepth 100000 in
theorem k_fX5_init (l : Launch) (g : va_G) (cI cJ cB cZ cL : ClassId) (q0 : Nat) (sz : Nat)  : Met l yX5_init v_fX5_init ({ frames := 1, cells := 4, slots := 96, locals := 12 }) (va_Pc [.ref q0] (pRW g (tyT cI cJ cB cZ cL) [(q0, .inr (5, [.int 0, .int 0, .null, .long 0, .null, .null, .null]))] sz)) (va_Qv (fun (u : Nat × Nat × Nat × Nat) => match u with | (b0, b1, b2, b3) => True) (fun (u : Nat × Nat × Nat × Nat) (t : State) => bRW g (tyT cI cJ cB cZ cL) (va_A [(q0, .inr (5, [.int 0, .int 0, .null, .long 0, .null, .null, .null]))] sz) (match u with | (b0, b1, b2, b3) => [(q0, .inr (5, [.int 0, .int 0, .ref b0, .long 0, .ref b1, .ref b2, .ref b3])), (b0, .inl (cI, 16, .inl (fun _ => 0))), (b1, .inl (cI, 16, .inl (fun _ => 0))), (b2, .inl (cJ, 32, .inr (.inl (fun _ => 0)))), (b3, .inl (cJ, 32, .inr (.inl (fun _ => 0))))]) t) (va_A [(q0, .inr (5, [.int 0, .int 0, .null, .long 0, .null, .null, .null]))] sz)) 4 96 (va_A [(q0, .inr (5, [.int 0, .int 0, .null, .long 0, .null, .null, .null]))] sz) := by
  refine Met.ofW (cc := cX5_init) (maxL := 1) (ret := none) (by decide) rfl ?_
  intro p e s m args below meth c s₁ B hml hv
  obtain ⟨rfl, hsz, hP, hK, hD0⟩ := hv
  have hx := B.exec
  have hb := B.bytes
  have hr := B.returns
  have hts := atoms_spec (ws := v_fX5_init) B.pre
  have hown : s.vm.findClass RX5 = some m.cls := findClass_of_methodNamed B.named
  have hlocks := B.notSynchronized
  have hin : meth.name = "<init>" := (name_of_methodNamed B.named B.method).1
  subst hsz
  have iX5 : ∀ w ∈ wsX50, w ∈ v_fX5_init := (fun _ h => List.mem_cons_of_mem _ (List.mem_append_right _ (List.mem_append_left _ h)))
  have hD := hD0.self (sz := s.heap.size)
  generalize hAe : (va_A [(q0, .inr (5, [.int 0, .int 0, .null, .long 0, .null, .null, .null]))] s.heap.size) = A at hD ⊢
  have hA : ∀ q : Nat, s.heap.size ≤ q → A q := fun q h => by rw [← hAe]; exact Or.inr h
  have hS : va_S A s.heap s.heap [] := va_S.rf
  have hl := lv_entry ([.ref q0]) (n := 1) (Nat.le_of_ble_eq_true rfl)
  rw [lg_entry_eq]
  generalize (lg_sl ([.ref q0]) ++ List.replicate (1 - (lg_sl ([.ref q0])).length) Slot.unset).toArray = ls at hl ⊢
  have hl : lv_has ls 1 [(0, .ref q0)] := hl
  have hP : va_P g vwCl [(q0, .inr (5, [.int 0, .int 0, .null, .long 0, .null, .null, .null]))] s.heap := hP
  refine lv_aload_n hx hb dX5_init_0 rfl (lv_at hl 0 rfl) ?_
  refine W.objInit hx hb hown (hts (.methodLink RX5 3 objectInit) (List.mem_cons_of_mem _ (List.mem_append_left _ (List.mem_of_getElem? (i := 0) rfl)))) (hts (.instanceMethod objectInit) (List.mem_cons_of_mem _ (List.mem_append_left _ (List.mem_of_getElem? (i := 1) rfl)))) (hts (.code objectInit ⟨#[0xb1]⟩ 1 none) (List.mem_cons_of_mem _ (List.mem_append_left _ (List.mem_of_getElem? (i := 2) rfl)))) rfl (by rw [hml]; exact hl.1) rfl dX5_init_1 (Nat.le_of_ble_eq_true rfl) (Nat.le_of_ble_eq_true rfl) ?_
  refine W.eq (g2 := F0 m 4 ls []) rfl ?_
  refine lv_aload_n hx hb dX5_init_4 rfl (lv_at hl 0 rfl) ?_
  refine lv_bipush (v := 16) hx hb dX5_init_5 (by decide) ?_
  refine nwa (g := g) (atype := .int) (a0 := (16, .inl (fun _ => 0))) hx hb (hts (.arrayClass .int) (List.mem_cons_of_mem _ (List.mem_append_left _ (List.mem_of_getElem? (i := 3) rfl)))) rfl hK hP hD hS hA (un_i hK) (fun _ => rfl) (by decide) (by decide) (Nat.le_of_ble_eq_true rfl) (Nat.le_of_ble_eq_true rfl) (Nat.le_of_ble_eq_true rfl) dX5_init_7 (fun q1 H hP hD hS => ?_)
  have hP : va_P g vwCl [(q0, .inr (5, [.int 0, .int 0, .null, .long 0, .null, .null, .null])), (q1, .inl (cI, 16, .inl (fun _ => 0)))] H := hP
  have hD : va_D A [(q0, .inr (5, [.int 0, .int 0, .null, .long 0, .null, .null, .null])), (q1, .inl (cI, 16, .inl (fun _ => 0)))] := hD
  refine W.widen (k := 1) (n := 16) (Nat.le_of_ble_eq_true rfl) (Nat.le_of_ble_eq_true rfl) ?_
  refine va_putF (D := g) (ci := 5) (v := .ref q1) (ty := (.array .int)) (C := RX5) (T := TX5) (N := 7) hx hb hts iX5 tyX5 tyX5_ok nmX5 hown hK hP hD hS 0 rfl rfl 2 (by decide) (hts (.fieldLink RX5 9 "CardsAtYule$Lives" "lastSent" "[I") (List.mem_cons_of_mem _ (List.mem_append_left _ (List.mem_of_getElem? (i := 4) rfl)))) (fun _ h9 => h9) rfl hin rfl (by decide +kernel) rfl rfl (Nat.le_of_ble_eq_true rfl) dX5_init_9 (fun H locs hP hD hS => ?_)
  have hP : va_P g vwCl [(q0, .inr (5, [.int 0, .int 0, .ref q1, .long 0, .null, .null, .null])), (q1, .inl (cI, 16, .inl (fun _ => 0)))] H := hP
  have hD : va_D A [(q0, .inr (5, [.int 0, .int 0, .ref q1, .long 0, .null, .null, .null])), (q1, .inl (cI, 16, .inl (fun _ => 0)))] := hD
  refine lv_aload_n hx hb dX5_init_12 rfl (lv_at hl 0 rfl) ?_
  refine lv_bipush (v := 16) hx hb dX5_init_13 (by decide) ?_
  refine nwa (g := g) (atype := .int) (a0 := (16, .inl (fun _ => 0))) hx hb (hts (.arrayClass .int) (List.mem_cons_of_mem _ (List.mem_append_left _ (List.mem_of_getElem? (i := 3) rfl)))) rfl hK hP hD hS hA (un_i hK) (fun _ => rfl) (by decide) (by decide) (Nat.le_of_ble_eq_true rfl) (Nat.le_of_ble_eq_true rfl) (Nat.le_of_ble_eq_true rfl) dX5_init_15 (fun q2 H hP hD hS => ?_)
  have hP : va_P g vwCl [(q0, .inr (5, [.int 0, .int 0, .ref q1, .long 0, .null, .null, .null])), (q1, .inl (cI, 16, .inl (fun _ => 0))), (q2, .inl (cI, 16, .inl (fun _ => 0)))] H := hP
  have hD : va_D A [(q0, .inr (5, [.int 0, .int 0, .ref q1, .long 0, .null, .null, .null])), (q1, .inl (cI, 16, .inl (fun _ => 0))), (q2, .inl (cI, 16, .inl (fun _ => 0)))] := hD
  refine W.widen (k := 2) (n := 32) (Nat.le_of_ble_eq_true rfl) (Nat.le_of_ble_eq_true rfl) ?_
  refine va_putF (D := g) (ci := 5) (v := .ref q2) (ty := (.array .int)) (C := RX5) (T := TX5) (N := 7) hx hb hts iX5 tyX5 tyX5_ok nmX5 hown hK hP hD hS 0 rfl rfl 4 (by decide) (hts (.fieldLink RX5 15 "CardsAtYule$Lives" "states" "[I") (List.mem_cons_of_mem _ (List.mem_append_left _ (List.mem_of_getElem? (i := 5) rfl)))) (fun _ h9 => h9) rfl hin rfl (by decide +kernel) rfl rfl (Nat.le_of_ble_eq_true rfl) dX5_init_17 (fun H locs hP hD hS => ?_)
  have hP : va_P g vwCl [(q0, .inr (5, [.int 0, .int 0, .ref q1, .long 0, .ref q2, .null, .null])), (q1, .inl (cI, 16, .inl (fun _ => 0))), (q2, .inl (cI, 16, .inl (fun _ => 0)))] H := hP
  have hD : va_D A [(q0, .inr (5, [.int 0, .int 0, .ref q1, .long 0, .ref q2, .null, .null])), (q1, .inl (cI, 16, .inl (fun _ => 0))), (q2, .inl (cI, 16, .inl (fun _ => 0)))] := hD
  refine lv_aload_n hx hb dX5_init_20 rfl (lv_at hl 0 rfl) ?_
  refine lv_bipush (v := 32) hx hb dX5_init_21 (by decide) ?_
  refine nwa (g := g) (atype := .long) (a0 := (32, .inr (.inl (fun _ => 0)))) hx hb (hts (.arrayClass .long) (List.mem_cons_of_mem _ (List.mem_append_left _ (List.mem_of_getElem? (i := 6) rfl)))) rfl hK hP hD hS hA (un_l hK) (fun _ => rfl) (by decide) (by decide) (Nat.le_of_ble_eq_true rfl) (Nat.le_of_ble_eq_true rfl) (Nat.le_of_ble_eq_true rfl) dX5_init_23 (fun q3 H hP hD hS => ?_)
  have hP : va_P g vwCl [(q0, .inr (5, [.int 0, .int 0, .ref q1, .long 0, .ref q2, .null, .null])), (q1, .inl (cI, 16, .inl (fun _ => 0))), (q2, .inl (cI, 16, .inl (fun _ => 0))), (q3, .inl (cJ, 32, .inr (.inl (fun _ => 0))))] H := hP
  have hD : va_D A [(q0, .inr (5, [.int 0, .int 0, .ref q1, .long 0, .ref q2, .null, .null])), (q1, .inl (cI, 16, .inl (fun _ => 0))), (q2, .inl (cI, 16, .inl (fun _ => 0))), (q3, .inl (cJ, 32, .inr (.inl (fun _ => 0))))] := hD
  refine W.widen (k := 3) (n := 64) (Nat.le_of_ble_eq_true rfl) (Nat.le_of_ble_eq_true rfl) ?_
  refine va_putF (D := g) (ci := 5) (v := .ref q3) (ty := (.array .long)) (C := RX5) (T := TX5) (N := 7) hx hb hts iX5 tyX5 tyX5_ok nmX5 hown hK hP hD hS 0 rfl rfl 5 (by decide) (hts (.fieldLink RX5 18 "CardsAtYule$Lives" "may" "[J") (List.mem_cons_of_mem _ (List.mem_append_left _ (List.mem_of_getElem? (i := 7) rfl)))) (fun _ h9 => h9) rfl hin rfl (by decide +kernel) rfl rfl (Nat.le_of_ble_eq_true rfl) dX5_init_25 (fun H locs hP hD hS => ?_)
  have hP : va_P g vwCl [(q0, .inr (5, [.int 0, .int 0, .ref q1, .long 0, .ref q2, .ref q3, .null])), (q1, .inl (cI, 16, .inl (fun _ => 0))), (q2, .inl (cI, 16, .inl (fun _ => 0))), (q3, .inl (cJ, 32, .inr (.inl (fun _ => 0))))] H := hP
  have hD : va_D A [(q0, .inr (5, [.int 0, .int 0, .ref q1, .long 0, .ref q2, .ref q3, .null])), (q1, .inl (cI, 16, .inl (fun _ => 0))), (q2, .inl (cI, 16, .inl (fun _ => 0))), (q3, .inl (cJ, 32, .inr (.inl (fun _ => 0))))] := hD
  refine lv_aload_n hx hb dX5_init_28 rfl (lv_at hl 0 rfl) ?_
  refine lv_bipush (v := 32) hx hb dX5_init_29 (by decide) ?_
  refine nwa (g := g) (atype := .long) (a0 := (32, .inr (.inl (fun _ => 0)))) hx hb (hts (.arrayClass .long) (List.mem_cons_of_mem _ (List.mem_append_left _ (List.mem_of_getElem? (i := 6) rfl)))) rfl hK hP hD hS hA (un_l hK) (fun _ => rfl) (by decide) (by decide) (Nat.le_of_ble_eq_true rfl) (Nat.le_of_ble_eq_true rfl) (Nat.le_of_ble_eq_true rfl) dX5_init_31 (fun q4 H hP hD hS => ?_)
  have hP : va_P g vwCl [(q0, .inr (5, [.int 0, .int 0, .ref q1, .long 0, .ref q2, .ref q3, .null])), (q1, .inl (cI, 16, .inl (fun _ => 0))), (q2, .inl (cI, 16, .inl (fun _ => 0))), (q3, .inl (cJ, 32, .inr (.inl (fun _ => 0)))), (q4, .inl (cJ, 32, .inr (.inl (fun _ => 0))))] H := hP
  have hD : va_D A [(q0, .inr (5, [.int 0, .int 0, .ref q1, .long 0, .ref q2, .ref q3, .null])), (q1, .inl (cI, 16, .inl (fun _ => 0))), (q2, .inl (cI, 16, .inl (fun _ => 0))), (q3, .inl (cJ, 32, .inr (.inl (fun _ => 0)))), (q4, .inl (cJ, 32, .inr (.inl (fun _ => 0))))] := hD
  refine W.widen (k := 4) (n := 96) (Nat.le_of_ble_eq_true rfl) (Nat.le_of_ble_eq_true rfl) ?_
  refine va_putF (D := g) (ci := 5) (v := .ref q4) (ty := (.array .long)) (C := RX5) (T := TX5) (N := 7) hx hb hts iX5 tyX5 tyX5_ok nmX5 hown hK hP hD hS 0 rfl rfl 6 (by decide) (hts (.fieldLink RX5 22 "CardsAtYule$Lives" "reach" "[J") (List.mem_cons_of_mem _ (List.mem_append_left _ (List.mem_of_getElem? (i := 8) rfl)))) (fun _ h9 => h9) rfl hin rfl (by decide +kernel) rfl rfl (Nat.le_of_ble_eq_true rfl) dX5_init_33 (fun H locs hP hD hS => ?_)
  have hP : va_P g vwCl [(q0, .inr (5, [.int 0, .int 0, .ref q1, .long 0, .ref q2, .ref q3, .ref q4])), (q1, .inl (cI, 16, .inl (fun _ => 0))), (q2, .inl (cI, 16, .inl (fun _ => 0))), (q3, .inl (cJ, 32, .inr (.inl (fun _ => 0)))), (q4, .inl (cJ, 32, .inr (.inl (fun _ => 0))))] H := hP
  have hD : va_D A [(q0, .inr (5, [.int 0, .int 0, .ref q1, .long 0, .ref q2, .ref q3, .ref q4])), (q1, .inl (cI, 16, .inl (fun _ => 0))), (q2, .inl (cI, 16, .inl (fun _ => 0))), (q3, .inl (cJ, 32, .inr (.inl (fun _ => 0)))), (q4, .inl (cJ, 32, .inr (.inl (fun _ => 0))))] := hD
  have hP9 := hP.sub (ws' := [(q0, .inr (5, [.int 0, .int 0, .ref q1, .long 0, .ref q2, .ref q3, .ref q4])), (q1, .inl (cI, 16, .inl (fun _ => 0))), (q2, .inl (cI, 16, .inl (fun _ => 0))), (q3, .inl (cJ, 32, .inr (.inl (fun _ => 0)))), (q4, .inl (cJ, 32, .inr (.inl (fun _ => 0))))]) [0, 1, 2, 3, 4] rfl
  have hD9 := hD.sub (ws' := [(q0, .inr (5, [.int 0, .int 0, .ref q1, .long 0, .ref q2, .ref q3, .ref q4])), (q1, .inl (cI, 16, .inl (fun _ => 0))), (q2, .inl (cI, 16, .inl (fun _ => 0))), (q3, .inl (cJ, 32, .inr (.inl (fun _ => 0)))), (q4, .inl (cJ, 32, .inr (.inl (fun _ => 0))))]) [0, 1, 2, 3, 4] (by decide) rfl
  exact W.vret hx hb hr (fun t ht hW => ⟨⟨(q1, q2, q3, q4), rfl, trivial, by rw [ht]; exact hP9, va_K.moved hW.alike hK, hD9⟩, hS.F ht⟩) hS.2.2 dX5_init_36
def v_fX3_init : List Cond := .code yX3_init cX3_init 1 none :: (([.methodLink RX3 3 objectInit, .instanceMethod objectInit, .code objectInit ⟨#[0xb1]⟩ 1 none, .arrayClass .int, .fieldLink RX3 9 "CardsAtYule$Fate" "yearOf" "[I"] : List Cond) ++ (wsX30 ++ ([] : List Cond)))
theorem good_v_fX3_init : v_fX3_init.all goodWord = true := ga_c (by decide +kernel) (ga_a (by decide +kernel) (ga_a good_wsX30 rfl))
set_option maxHeartbeats 4000000 in
set_option maxRecDepth 100000 in
theorem k_fX3_init (l : Launch) (g : va_G) (cI cJ cB cZ cL : ClassId) (q0 : Nat) (sz : Nat)  : Met l yX3_init v_fX3_init ({ frames := 1, cells := 1, slots := 16, locals := 12 }) (va_Pc [.ref q0] (pRW g (tyT cI cJ cB cZ cL) [(q0, .inr (3, [.int 0, .int 0, .int 0, .int 0, .int 0, .int 0, .null]))] sz)) (va_Qv (fun (u : Nat) => match u with | b0 => True) (fun (u : Nat) (t : State) => bRW g (tyT cI cJ cB cZ cL) (va_A [(q0, .inr (3, [.int 0, .int 0, .int 0, .int 0, .int 0, .int 0, .null]))] sz) (match u with | b0 => [(q0, .inr (3, [.int 0, .int 0, .int 0, .int 0, .int 0, .int 0, .ref b0])), (b0, .inl (cI, 16, .inl (fun _ => 0)))]) t) (va_A [(q0, .inr (3, [.int 0, .int 0, .int 0, .int 0, .int 0, .int 0, .null]))] sz)) 1 16 (va_A [(q0, .inr (3, [.int 0, .int 0, .int 0, .int 0, .int 0, .int 0, .null]))] sz) := by
  refine Met.ofW (cc := cX3_init) (maxL := 1) (ret := none) (by decide) rfl ?_
  intro p e s m args below meth c s₁ B hml hv
  obtain ⟨rfl, hsz, hP, hK, hD0⟩ := hv
  have hx := B.exec
  have hb := B.bytes
  have hr := B.returns
  have hts := atoms_spec (ws := v_fX3_init) B.pre
  have hown : s.vm.findClass RX3 = some m.cls := findClass_of_methodNamed B.named
  have hlocks := B.notSynchronized
  have hin : meth.name = "<init>" := (name_of_methodNamed B.named B.method).1
  subst hsz
  have iX3 : ∀ w ∈ wsX30, w ∈ v_fX3_init := (fun _ h => List.mem_cons_of_mem _ (List.mem_append_right _ (List.mem_append_left _ h)))
  have hD := hD0.self (sz := s.heap.size)
  generalize hAe : (va_A [(q0, .inr (3, [.int 0, .int 0, .int 0, .int 0, .int 0, .int 0, .null]))] s.heap.size) = A at hD ⊢
  have hA : ∀ q : Nat, s.heap.size ≤ q → A q := fun q h => by rw [← hAe]; exact Or.inr h
  have hS : va_S A s.heap s.heap [] := va_S.rf
  have hl := lv_entry ([.ref q0]) (n := 1) (Nat.le_of_ble_eq_true rfl)
  rw [lg_entry_eq]
  generalize (lg_sl ([.ref q0]) ++ List.replicate (1 - (lg_sl ([.ref q0])).length) Slot.unset).toArray = ls at hl ⊢
  have hl : lv_has ls 1 [(0, .ref q0)] := hl
  have hP : va_P g vwCl [(q0, .inr (3, [.int 0, .int 0, .int 0, .int 0, .int 0, .int 0, .null]))] s.heap := hP
  refine lv_aload_n hx hb dX3_init_0 rfl (lv_at hl 0 rfl) ?_
  refine W.objInit hx hb hown (hts (.methodLink RX3 3 objectInit) (List.mem_cons_of_mem _ (List.mem_append_left _ (List.mem_of_getElem? (i := 0) rfl)))) (hts (.instanceMethod objectInit) (List.mem_cons_of_mem _ (List.mem_append_left _ (List.mem_of_getElem? (i := 1) rfl)))) (hts (.code objectInit ⟨#[0xb1]⟩ 1 none) (List.mem_cons_of_mem _ (List.mem_append_left _ (List.mem_of_getElem? (i := 2) rfl)))) rfl (by rw [hml]; exact hl.1) rfl dX3_init_1 (Nat.le_of_ble_eq_true rfl) (Nat.le_of_ble_eq_true rfl) ?_
  refine W.eq (g2 := F0 m 4 ls []) rfl ?_
  refine lv_aload_n hx hb dX3_init_4 rfl (lv_at hl 0 rfl) ?_
  refine lv_bipush (v := 16) hx hb dX3_init_5 (by decide) ?_
  refine nwa (g := g) (atype := .int) (a0 := (16, .inl (fun _ => 0))) hx hb (hts (.arrayClass .int) (List.mem_cons_of_mem _ (List.mem_append_left _ (List.mem_of_getElem? (i := 3) rfl)))) rfl hK hP hD hS hA (un_i hK) (fun _ => rfl) (by decide) (by decide) (Nat.le_of_ble_eq_true rfl) (Nat.le_of_ble_eq_true rfl) (Nat.le_of_ble_eq_true rfl) dX3_init_7 (fun q1 H hP hD hS => ?_)
  have hP : va_P g vwCl [(q0, .inr (3, [.int 0, .int 0, .int 0, .int 0, .int 0, .int 0, .null])), (q1, .inl (cI, 16, .inl (fun _ => 0)))] H := hP
  have hD : va_D A [(q0, .inr (3, [.int 0, .int 0, .int 0, .int 0, .int 0, .int 0, .null])), (q1, .inl (cI, 16, .inl (fun _ => 0)))] := hD
  refine W.widen (k := 1) (n := 16) (Nat.le_of_ble_eq_true rfl) (Nat.le_of_ble_eq_true rfl) ?_
  refine va_putF (D := g) (ci := 3) (v := .ref q1) (ty := (.array .int)) (C := RX3) (T := TX3) (N := 7) hx hb hts iX3 tyX3 tyX3_ok nmX3 hown hK hP hD hS 0 rfl rfl 6 (by decide) (hts (.fieldLink RX3 9 "CardsAtYule$Fate" "yearOf" "[I") (List.mem_cons_of_mem _ (List.mem_append_left _ (List.mem_of_getElem? (i := 4) rfl)))) (fun _ h9 => h9) rfl hin rfl (by decide +kernel) rfl rfl (Nat.le_of_ble_eq_true rfl) dX3_init_9 (fun H locs hP hD hS => ?_)
  have hP : va_P g vwCl [(q0, .inr (3, [.int 0, .int 0, .int 0, .int 0, .int 0, .int 0, .ref q1])), (q1, .inl (cI, 16, .inl (fun _ => 0)))] H := hP
  have hD : va_D A [(q0, .inr (3, [.int 0, .int 0, .int 0, .int 0, .int 0, .int 0, .ref q1])), (q1, .inl (cI, 16, .inl (fun _ => 0)))] := hD
  have hP9 := hP.sub (ws' := [(q0, .inr (3, [.int 0, .int 0, .int 0, .int 0, .int 0, .int 0, .ref q1])), (q1, .inl (cI, 16, .inl (fun _ => 0)))]) [0, 1] rfl
  have hD9 := hD.sub (ws' := [(q0, .inr (3, [.int 0, .int 0, .int 0, .int 0, .int 0, .int 0, .ref q1])), (q1, .inl (cI, 16, .inl (fun _ => 0)))]) [0, 1] (by decide) rfl
  exact W.vret hx hb hr (fun t ht hW => ⟨⟨q1, rfl, trivial, by rw [ht]; exact hP9, va_K.moved hW.alike hK, hD9⟩, hS.F ht⟩) hS.2.2 dX3_init_12
def v_fX7_init : List Cond := .code yX7_init cX7_init 1 none :: (([.methodLink RX7 3 objectInit, .instanceMethod objectInit, .code objectInit ⟨#[0xb1]⟩ 1 none, .arrayClass .int, .fieldLink RX7 11 "CardsAtYule$Slots" "width" "[I", .fieldLink RX7 15 "CardsAtYule$Slots" "size" "[I", .arrayClass .long, .fieldLink RX7 18 "CardsAtYule$Slots" "numbers" "[J"] : List Cond) ++ (wsX70 ++ ([] : List Cond)))
theorem good_v_fX7_init : v_fX7_init.all goodWord = true := ga_c (by decide +kernel) (ga_a (by decide +kernel) (ga_a good_wsX70 rfl))
set_option maxHeartbeats 4000000 in
set_option maxRecDepth 100000 in
theorem k_fX7_init (l : Launch) (g : va_G) (cI cJ cB cZ cL : ClassId) (q0 : Nat) (sz : Nat)  : Met l yX7_init v_fX7_init ({ frames := 1, cells := 3, slots := 248, locals := 12 }) (va_Pc [.ref q0] (pRW g (tyT cI cJ cB cZ cL) [(q0, .inr (7, [.null, .null, .null]))] sz)) (va_Qv (fun (u : Nat × Nat × Nat × (Nat → Int32)) => match u with | (b0, b1, b2, fz) => ∀ k, k < 4 → fz k = (-1)) (fun (u : Nat × Nat × Nat × (Nat → Int32)) (t : State) => bRW g (tyT cI cJ cB cZ cL) (va_A [(q0, .inr (7, [.null, .null, .null]))] sz) (match u with | (b0, b1, b2, fz) => [(q0, .inr (7, [.ref b0, .ref b1, .ref b2])), (b0, .inl (cI, 4, .inl (fun _ => 0))), (b1, .inl (cI, 4, .inl fz)), (b2, .inl (cJ, 240, .inr (.inl (fun _ => 0))))]) t) (va_A [(q0, .inr (7, [.null, .null, .null]))] sz)) 3 248 (va_A [(q0, .inr (7, [.null, .null, .null]))] sz) := by
  refine Met.ofW (cc := cX7_init) (maxL := 1) (ret := none) (by decide) rfl ?_
  intro p e s m args below meth c s₁ B hml hv
  obtain ⟨rfl, hsz, hP, hK, hD0⟩ := hv
  have hx := B.exec
  have hb := B.bytes
  have hr := B.returns
  have hts := atoms_spec (ws := v_fX7_init) B.pre
  have hown : s.vm.findClass RX7 = some m.cls := findClass_of_methodNamed B.named
  have hlocks := B.notSynchronized
  have hin : meth.name = "<init>" := (name_of_methodNamed B.named B.method).1
  subst hsz
  have iX7 : ∀ w ∈ wsX70, w ∈ v_fX7_init := (fun _ h => List.mem_cons_of_mem _ (List.mem_append_right _ (List.mem_append_left _ h)))
  have hD := hD0.self (sz := s.heap.size)
  generalize hAe : (va_A [(q0, .inr (7, [.null, .null, .null]))] s.heap.size) = A at hD ⊢
  have hA : ∀ q : Nat, s.heap.size ≤ q → A q := fun q h => by rw [← hAe]; exact Or.inr h
  have hS : va_S A s.heap s.heap [] := va_S.rf
  have hl := lv_entry ([.ref q0]) (n := 1) (Nat.le_of_ble_eq_true rfl)
  rw [lg_entry_eq]
  generalize (lg_sl ([.ref q0]) ++ List.replicate (1 - (lg_sl ([.ref q0])).length) Slot.unset).toArray = ls at hl ⊢
  have hl : lv_has ls 1 [(0, .ref q0)] := hl
  have hP : va_P g vwCl [(q0, .inr (7, [.null, .null, .null]))] s.heap := hP
  refine lv_aload_n hx hb dX7_init_0 rfl (lv_at hl 0 rfl) ?_
  refine W.objInit hx hb hown (hts (.methodLink RX7 3 objectInit) (List.mem_cons_of_mem _ (List.mem_append_left _ (List.mem_of_getElem? (i := 0) rfl)))) (hts (.instanceMethod objectInit) (List.mem_cons_of_mem _ (List.mem_append_left _ (List.mem_of_getElem? (i := 1) rfl)))) (hts (.code objectInit ⟨#[0xb1]⟩ 1 none) (List.mem_cons_of_mem _ (List.mem_append_left _ (List.mem_of_getElem? (i := 2) rfl)))) rfl (by rw [hml]; exact hl.1) rfl dX7_init_1 (Nat.le_of_ble_eq_true rfl) (Nat.le_of_ble_eq_true rfl) ?_
  refine W.eq (g2 := F0 m 4 ls []) rfl ?_
  refine lv_aload_n hx hb dX7_init_4 rfl (lv_at hl 0 rfl) ?_
  refine lv_iconst (v := 4) hx hb dX7_init_5 (by decide) ?_
  refine nwa (g := g) (atype := .int) (a0 := (4, .inl (fun _ => 0))) hx hb (hts (.arrayClass .int) (List.mem_cons_of_mem _ (List.mem_append_left _ (List.mem_of_getElem? (i := 3) rfl)))) rfl hK hP hD hS hA (un_i hK) (fun _ => rfl) (by decide) (by decide) (Nat.le_of_ble_eq_true rfl) (Nat.le_of_ble_eq_true rfl) (Nat.le_of_ble_eq_true rfl) dX7_init_6 (fun q1 H hP hD hS => ?_)
  have hP : va_P g vwCl [(q0, .inr (7, [.null, .null, .null])), (q1, .inl (cI, 4, .inl (fun _ => 0)))] H := hP
  have hD : va_D A [(q0, .inr (7, [.null, .null, .null])), (q1, .inl (cI, 4, .inl (fun _ => 0)))] := hD
  refine W.widen (k := 1) (n := 4) (Nat.le_of_ble_eq_true rfl) (Nat.le_of_ble_eq_true rfl) ?_
  refine va_putF (D := g) (ci := 7) (v := .ref q1) (ty := (.array .int)) (C := RX7) (T := TX7) (N := 3) hx hb hts iX7 tyX7 tyX7_ok nmX7 hown hK hP hD hS 0 rfl rfl 0 (by decide) (hts (.fieldLink RX7 11 "CardsAtYule$Slots" "width" "[I") (List.mem_cons_of_mem _ (List.mem_append_left _ (List.mem_of_getElem? (i := 4) rfl)))) (fun _ h9 => h9) rfl hin rfl (by decide +kernel) rfl rfl (Nat.le_of_ble_eq_true rfl) dX7_init_8 (fun H locs hP hD hS => ?_)
  have hP : va_P g vwCl [(q0, .inr (7, [.ref q1, .null, .null])), (q1, .inl (cI, 4, .inl (fun _ => 0)))] H := hP
  have hD : va_D A [(q0, .inr (7, [.ref q1, .null, .null])), (q1, .inl (cI, 4, .inl (fun _ => 0)))] := hD
  refine lv_aload_n hx hb dX7_init_11 rfl (lv_at hl 0 rfl) ?_
  refine lv_iconst (v := 4) hx hb dX7_init_12 (by decide) ?_
  refine nwa (g := g) (atype := .int) (a0 := (4, .inl (fun _ => 0))) hx hb (hts (.arrayClass .int) (List.mem_cons_of_mem _ (List.mem_append_left _ (List.mem_of_getElem? (i := 3) rfl)))) rfl hK hP hD hS hA (un_i hK) (fun _ => rfl) (by decide) (by decide) (Nat.le_of_ble_eq_true rfl) (Nat.le_of_ble_eq_true rfl) (Nat.le_of_ble_eq_true rfl) dX7_init_13 (fun q2 H hP hD hS => ?_)
  have hP : va_P g vwCl [(q0, .inr (7, [.ref q1, .null, .null])), (q1, .inl (cI, 4, .inl (fun _ => 0))), (q2, .inl (cI, 4, .inl (fun _ => 0)))] H := hP
  have hD : va_D A [(q0, .inr (7, [.ref q1, .null, .null])), (q1, .inl (cI, 4, .inl (fun _ => 0))), (q2, .inl (cI, 4, .inl (fun _ => 0)))] := hD
  refine W.widen (k := 2) (n := 8) (Nat.le_of_ble_eq_true rfl) (Nat.le_of_ble_eq_true rfl) ?_
  refine lv_dup hx hb dX7_init_15 rfl ?_
  refine lv_iconst (v := 0) hx hb dX7_init_16 (by decide) ?_
  refine lv_iconst (v := (-1)) hx hb dX7_init_17 (by decide) ?_
  refine va_iast (D := g) hx hb hK hP hD hS 2 0 rfl rfl (vc_in (by decide)) dX7_init_18 (fun H locs hP hD hS => ?_)
  have hP : va_P g vwCl [(q0, .inr (7, [.ref q1, .null, .null])), (q1, .inl (cI, 4, .inl (fun _ => 0))), (q2, .inl (cI, 4, .inl (upd (fun _ => 0) 0 (-1))))] H := hP
  have hD : va_D A [(q0, .inr (7, [.ref q1, .null, .null])), (q1, .inl (cI, 4, .inl (fun _ => 0))), (q2, .inl (cI, 4, .inl (upd (fun _ => 0) 0 (-1))))] := hD
  refine lv_dup hx hb dX7_init_19 rfl ?_
  refine lv_iconst (v := 1) hx hb dX7_init_20 (by decide) ?_
  refine lv_iconst (v := (-1)) hx hb dX7_init_21 (by decide) ?_
  refine va_iast (D := g) hx hb hK hP hD hS 2 0 rfl rfl (vc_in (by decide)) dX7_init_22 (fun H locs hP hD hS => ?_)
  have hP : va_P g vwCl [(q0, .inr (7, [.ref q1, .null, .null])), (q1, .inl (cI, 4, .inl (fun _ => 0))), (q2, .inl (cI, 4, .inl (upd (upd (fun _ => 0) 0 (-1)) 1 (-1))))] H := hP
  have hD : va_D A [(q0, .inr (7, [.ref q1, .null, .null])), (q1, .inl (cI, 4, .inl (fun _ => 0))), (q2, .inl (cI, 4, .inl (upd (upd (fun _ => 0) 0 (-1)) 1 (-1))))] := hD
  refine lv_dup hx hb dX7_init_23 rfl ?_
  refine lv_iconst (v := 2) hx hb dX7_init_24 (by decide) ?_
  refine lv_iconst (v := (-1)) hx hb dX7_init_25 (by decide) ?_
  refine va_iast (D := g) hx hb hK hP hD hS 2 0 rfl rfl (vc_in (by decide)) dX7_init_26 (fun H locs hP hD hS => ?_)
  have hP : va_P g vwCl [(q0, .inr (7, [.ref q1, .null, .null])), (q1, .inl (cI, 4, .inl (fun _ => 0))), (q2, .inl (cI, 4, .inl (upd (upd (upd (fun _ => 0) 0 (-1)) 1 (-1)) 2 (-1))))] H := hP
  have hD : va_D A [(q0, .inr (7, [.ref q1, .null, .null])), (q1, .inl (cI, 4, .inl (fun _ => 0))), (q2, .inl (cI, 4, .inl (upd (upd (upd (fun _ => 0) 0 (-1)) 1 (-1)) 2 (-1))))] := hD
  refine lv_dup hx hb dX7_init_27 rfl ?_
  refine lv_iconst (v := 3) hx hb dX7_init_28 (by decide) ?_
  refine lv_iconst (v := (-1)) hx hb dX7_init_29 (by decide) ?_
  refine va_iast (D := g) hx hb hK hP hD hS 2 0 rfl rfl (vc_in (by decide)) dX7_init_30 (fun H locs hP hD hS => ?_)
  have hP : va_P g vwCl [(q0, .inr (7, [.ref q1, .null, .null])), (q1, .inl (cI, 4, .inl (fun _ => 0))), (q2, .inl (cI, 4, .inl (upd (upd (upd (upd (fun _ => 0) 0 (-1)) 1 (-1)) 2 (-1)) 3 (-1))))] H := hP
  have hD : va_D A [(q0, .inr (7, [.ref q1, .null, .null])), (q1, .inl (cI, 4, .inl (fun _ => 0))), (q2, .inl (cI, 4, .inl (upd (upd (upd (upd (fun _ => 0) 0 (-1)) 1 (-1)) 2 (-1)) 3 (-1))))] := hD
  refine va_putF (D := g) (ci := 7) (v := .ref q2) (ty := (.array .int)) (C := RX7) (T := TX7) (N := 3) hx hb hts iX7 tyX7 tyX7_ok nmX7 hown hK hP hD hS 0 rfl rfl 1 (by decide) (hts (.fieldLink RX7 15 "CardsAtYule$Slots" "size" "[I") (List.mem_cons_of_mem _ (List.mem_append_left _ (List.mem_of_getElem? (i := 5) rfl)))) (fun _ h9 => h9) rfl hin rfl (by decide +kernel) rfl rfl (Nat.le_of_ble_eq_true rfl) dX7_init_31 (fun H locs hP hD hS => ?_)
  have hP : va_P g vwCl [(q0, .inr (7, [.ref q1, .ref q2, .null])), (q1, .inl (cI, 4, .inl (fun _ => 0))), (q2, .inl (cI, 4, .inl (upd (upd (upd (upd (fun _ => 0) 0 (-1)) 1 (-1)) 2 (-1)) 3 (-1))))] H := hP
  have hD : va_D A [(q0, .inr (7, [.ref q1, .ref q2, .null])), (q1, .inl (cI, 4, .inl (fun _ => 0))), (q2, .inl (cI, 4, .inl (upd (upd (upd (upd (fun _ => 0) 0 (-1)) 1 (-1)) 2 (-1)) 3 (-1))))] := hD
  refine lv_aload_n hx hb dX7_init_34 rfl (lv_at hl 0 rfl) ?_
  refine lv_sipush (v := 240) hx hb dX7_init_35 (by decide) ?_
  refine nwa (g := g) (atype := .long) (a0 := (240, .inr (.inl (fun _ => 0)))) hx hb (hts (.arrayClass .long) (List.mem_cons_of_mem _ (List.mem_append_left _ (List.mem_of_getElem? (i := 6) rfl)))) rfl hK hP hD hS hA (un_l hK) (fun _ => rfl) (by decide) (by decide) (Nat.le_of_ble_eq_true rfl) (Nat.le_of_ble_eq_true rfl) (Nat.le_of_ble_eq_true rfl) dX7_init_38 (fun q3 H hP hD hS => ?_)
  have hP : va_P g vwCl [(q0, .inr (7, [.ref q1, .ref q2, .null])), (q1, .inl (cI, 4, .inl (fun _ => 0))), (q2, .inl (cI, 4, .inl (upd (upd (upd (upd (fun _ => 0) 0 (-1)) 1 (-1)) 2 (-1)) 3 (-1)))), (q3, .inl (cJ, 240, .inr (.inl (fun _ => 0))))] H := hP
  have hD : va_D A [(q0, .inr (7, [.ref q1, .ref q2, .null])), (q1, .inl (cI, 4, .inl (fun _ => 0))), (q2, .inl (cI, 4, .inl (upd (upd (upd (upd (fun _ => 0) 0 (-1)) 1 (-1)) 2 (-1)) 3 (-1)))), (q3, .inl (cJ, 240, .inr (.inl (fun _ => 0))))] := hD
  refine W.widen (k := 3) (n := 248) (Nat.le_of_ble_eq_true rfl) (Nat.le_of_ble_eq_true rfl) ?_
  refine va_putF (D := g) (ci := 7) (v := .ref q3) (ty := (.array .long)) (C := RX7) (T := TX7) (N := 3) hx hb hts iX7 tyX7 tyX7_ok nmX7 hown hK hP hD hS 0 rfl rfl 2 (by decide) (hts (.fieldLink RX7 18 "CardsAtYule$Slots" "numbers" "[J") (List.mem_cons_of_mem _ (List.mem_append_left _ (List.mem_of_getElem? (i := 7) rfl)))) (fun _ h9 => h9) rfl hin rfl (by decide +kernel) rfl rfl (Nat.le_of_ble_eq_true rfl) dX7_init_40 (fun H locs hP hD hS => ?_)
  have hP : va_P g vwCl [(q0, .inr (7, [.ref q1, .ref q2, .ref q3])), (q1, .inl (cI, 4, .inl (fun _ => 0))), (q2, .inl (cI, 4, .inl (upd (upd (upd (upd (fun _ => 0) 0 (-1)) 1 (-1)) 2 (-1)) 3 (-1)))), (q3, .inl (cJ, 240, .inr (.inl (fun _ => 0))))] H := hP
  have hD : va_D A [(q0, .inr (7, [.ref q1, .ref q2, .ref q3])), (q1, .inl (cI, 4, .inl (fun _ => 0))), (q2, .inl (cI, 4, .inl (upd (upd (upd (upd (fun _ => 0) 0 (-1)) 1 (-1)) 2 (-1)) 3 (-1)))), (q3, .inl (cJ, 240, .inr (.inl (fun _ => 0))))] := hD
  have hP9 := hP.sub (ws' := [(q0, .inr (7, [.ref q1, .ref q2, .ref q3])), (q1, .inl (cI, 4, .inl (fun _ => 0))), (q2, .inl (cI, 4, .inl (upd (upd (upd (upd (fun _ => 0) 0 (-1)) 1 (-1)) 2 (-1)) 3 (-1)))), (q3, .inl (cJ, 240, .inr (.inl (fun _ => 0))))]) [0, 1, 2, 3] rfl
  have hD9 := hD.sub (ws' := [(q0, .inr (7, [.ref q1, .ref q2, .ref q3])), (q1, .inl (cI, 4, .inl (fun _ => 0))), (q2, .inl (cI, 4, .inl (upd (upd (upd (upd (fun _ => 0) 0 (-1)) 1 (-1)) 2 (-1)) 3 (-1)))), (q3, .inl (cJ, 240, .inr (.inl (fun _ => 0))))]) [0, 1, 2, 3] (by decide) rfl
  exact W.vret hx hb hr (fun t ht hW => ⟨⟨(q1, q2, q3, (upd (upd (upd (upd (fun _ => 0) 0 (-1)) 1 (-1)) 2 (-1)) 3 (-1))), rfl, (fun k hk => match k, hk with | 0, _ => rfl | 1, _ => rfl | 2, _ => rfl | 3, _ => rfl), by rw [ht]; exact hP9, va_K.moved hW.alike hK, hD9⟩, hS.F ht⟩) hS.2.2 dX7_init_43
