def v_X12_four_0 : List Cond := .code yX12_four cX12_four 3 none :: (([.fieldLink RX12 23 "CardsAtYuleModel" "tape" "[B", .fieldLink RX12 124 "CardsAtYuleModel" "taped" "I"] : List Cond) ++ (wsX120 ++ ([] : List Cond)))
theorem good_v_X12_four_0 : v_X12_four_0.all goodWord = true := ga_c (by decide +kernel) (ga_a (by decide +kernel) (ga_a good_wsX120 rfl))
set_option maxHeartbeats 4000000 in
set_option maxRecDepth 100000 in
theorem k_X12_four_0 (l : Launch) (g : va_G) (cI cJ cB cZ cL : ClassId) (y : Nat) (a : Nat → Nat) (f0 : Nat → Int32) (p0 : Int32) (sz : Nat)  : Met l yX12_four v_X12_four_0 ({ frames := 0, cells := 0, slots := 0, locals := 0 }) (va_Pc [.ref y, .int p0] (pRW g (tyT cI cJ cB cZ cL) [(y, .inr (11, mO a)), ((a 5), .inl (cB, 1600, .inl f0))] sz)) (va_Qv (fun (u : Nat → Int32) => match u with | f1 => True) (fun (u : Nat → Int32) (t : State) => bRW g (tyT cI cJ cB cZ cL) (va_A [(y, .inr (11, mO a)), ((a 5), .inl (cB, 1600, .inl f0))] sz) (match u with | f1 => [(y, .inr (11, (mO a).set 6 (.int 4))), ((a 5), .inl (cB, 1600, .inl f1))]) t) (va_A [(y, .inr (11, mO a)), ((a 5), .inl (cB, 1600, .inl f0))] sz)) 0 0 (va_A [(y, .inr (11, mO a)), ((a 5), .inl (cB, 1600, .inl f0))] sz) := by
  refine Met.ofW (cc := cX12_four) (maxL := 3) (ret := none) (by decide) rfl ?_
  intro p e s m args below meth c s₁ B hml hv
  obtain ⟨rfl, hsz, hP, hK, hD0⟩ := hv
  have hx := B.exec
  have hb := B.bytes
  have hr := B.returns
  have hts := atoms_spec (ws := v_X12_four_0) B.pre
  have hown : s.vm.findClass RX12 = some m.cls := findClass_of_methodNamed B.named
  have hlocks := B.notSynchronized
  subst hsz
  have iX12 : ∀ w ∈ wsX120, w ∈ v_X12_four_0 := (fun _ h => List.mem_cons_of_mem _ (List.mem_append_right _ (List.mem_append_left _ h)))
  have hD := hD0.self (sz := s.heap.size)
  generalize hAe : (va_A [(y, .inr (11, mO a)), ((a 5), .inl (cB, 1600, .inl f0))] s.heap.size) = A at hD ⊢
  have hA : ∀ q : Nat, s.heap.size ≤ q → A q := fun q h => by rw [← hAe]; exact Or.inr h
  have hS : va_S A s.heap s.heap [] := va_S.rf
  have hl := lv_entry ([.ref y, .int p0]) (n := 3) (Nat.le_of_ble_eq_true rfl)
  rw [lg_entry_eq]
  generalize (lg_sl ([.ref y, .int p0]) ++ List.replicate (3 - (lg_sl ([.ref y, .int p0])).length) Slot.unset).toArray = ls at hl ⊢
  have hl : lv_has ls 3 [(0, .ref y), (1, .int p0)] := hl
  have hP : va_P g vwCl [(y, .inr (11, mO a)), ((a 5), .inl (cB, 1600, .inl f0))] s.heap := hP
  refine lv_bipush (v := 24) hx hb dX12_four_0 (by decide) ?_
  refine lv_istore_n (lv' := [(2, .int 24), (0, .ref y), (1, .int p0)]) hx hb dX12_four_2 rfl hl (by decide) rfl (fun ls hl => ?_)
  refine lv_iload_n hx hb dX12_four_3 rfl (lv_at hl 0 rfl) ?_
  refine lv_if_lt (tgt := 36) hx hb dX12_four_4 (by decide) (fun c1 => absurd c1 (by decide)) (fun _ => ?_)
  refine lv_aload_n hx hb dX12_four_7 rfl (lv_at hl 1 rfl) ?_
  refine va_get (D := g) (ci := 11) (v := .ref (a 5)) (C := RX12) (T := TX12) (N := 56) hx hb hts iX12 hown hK hP 0 rfl rfl 5 (by decide) (hts (.fieldLink RX12 23 "CardsAtYuleModel" "tape" "[B") (List.mem_cons_of_mem _ (List.mem_append_left _ (List.mem_of_getElem? (i := 0) rfl)))) (fun _ h9 => h9) rfl dX12_four_8 ?_
  refine lv_aload_n hx hb dX12_four_11 rfl (lv_at hl 1 rfl) ?_
  refine va_get (D := g) (ci := 11) (v := .int 0) (C := RX12) (T := TX12) (N := 56) hx hb hts iX12 hown hK hP 0 rfl rfl 6 (by decide) (hts (.fieldLink RX12 124 "CardsAtYuleModel" "taped" "I") (List.mem_cons_of_mem _ (List.mem_append_left _ (List.mem_of_getElem? (i := 1) rfl)))) (fun _ h9 => h9) rfl dX12_four_12 ?_
  refine lv_iload_n hx hb dX12_four_15 rfl (lv_at hl 2 rfl) ?_
  refine lv_iload_n hx hb dX12_four_16 rfl (lv_at hl 0 rfl) ?_
  refine lv_ishr hx hb dX12_four_17 ?_
  refine lv_i2b (v := (p0 >>> (24 &&& (31 : Int32))).toInt8.toInt32) hx hb dX12_four_18 rfl ?_
  refine va_bast (D := g) hx hb hK hP hD hS 1 2 rfl rfl (vc_in (by decide)) dX12_four_19 (fun H locs hP hD hS => ?_)
  have hP : va_P g vwCl [(y, .inr (11, mO a)), ((a 5), .inl (cB, 1600, .inl (upd f0 0 (vp_nar .byte ((p0 >>> (24 &&& (31 : Int32))).toInt8.toInt32)))))] H := hP
  have hD : va_D A [(y, .inr (11, mO a)), ((a 5), .inl (cB, 1600, .inl (upd f0 0 (vp_nar .byte ((p0 >>> (24 &&& (31 : Int32))).toInt8.toInt32)))))] := hD
  refine lv_aload_n hx hb dX12_four_20 rfl (lv_at hl 1 rfl) ?_
  refine lv_dup hx hb dX12_four_21 rfl ?_
  refine va_get (D := g) (ci := 11) (v := .int 0) (C := RX12) (T := TX12) (N := 56) hx hb hts iX12 hown hK hP 0 rfl rfl 6 (by decide) (hts (.fieldLink RX12 124 "CardsAtYuleModel" "taped" "I") (List.mem_cons_of_mem _ (List.mem_append_left _ (List.mem_of_getElem? (i := 1) rfl)))) (fun _ h9 => h9) rfl dX12_four_22 ?_
  refine lv_iconst (v := 1) hx hb dX12_four_25 (by decide) ?_
  refine lv_iadd hx hb dX12_four_26 ?_
  refine lv_topi (nm_r (e' := 1) (by decide) ?_)
  refine va_put (D := g) (ci := 11) (v := .int 1) (ty := .int) (C := RX12) (T := TX12) (N := 56) hx hb hts iX12 tyX12 tyX12_ok nmX12 hown hK hP hD hS 0 rfl rfl 6 (by decide) (hts (.fieldLink RX12 124 "CardsAtYuleModel" "taped" "I") (List.mem_cons_of_mem _ (List.mem_append_left _ (List.mem_of_getElem? (i := 1) rfl)))) (fun _ h9 => h9) rfl (by decide +kernel) rfl rfl (Nat.le_of_ble_eq_true rfl) dX12_four_27 (fun H locs hP hD hS => ?_)
  have hP : va_P g vwCl [(y, .inr (11, (mO a).set 6 (.int 1))), ((a 5), .inl (cB, 1600, .inl (upd f0 0 (vp_nar .byte ((p0 >>> (24 &&& (31 : Int32))).toInt8.toInt32)))))] H := hP
  have hD : va_D A [(y, .inr (11, (mO a).set 6 (.int 1))), ((a 5), .inl (cB, 1600, .inl (upd f0 0 (vp_nar .byte ((p0 >>> (24 &&& (31 : Int32))).toInt8.toInt32)))))] := hD
  refine lv_iinc (v := 16) (lv' := [(2, .int 16), (0, .ref y), (1, .int p0)]) hx hb dX12_four_30 hl (k := 0) rfl (by decide) (by decide) rfl (fun ls hl => ?_)
  refine lv_goto (tgt := 3) hx hb dX12_four_33 (by decide) ?_
  refine lv_iload_n hx hb dX12_four_3 rfl (lv_at hl 0 rfl) ?_
  refine lv_if_lt (tgt := 36) hx hb dX12_four_4 (by decide) (fun c2 => absurd c2 (by decide)) (fun _ => ?_)
  refine lv_aload_n hx hb dX12_four_7 rfl (lv_at hl 1 rfl) ?_
  refine va_get (D := g) (ci := 11) (v := .ref (a 5)) (C := RX12) (T := TX12) (N := 56) hx hb hts iX12 hown hK hP 0 rfl rfl 5 (by decide) (hts (.fieldLink RX12 23 "CardsAtYuleModel" "tape" "[B") (List.mem_cons_of_mem _ (List.mem_append_left _ (List.mem_of_getElem? (i := 0) rfl)))) (fun _ h9 => h9) rfl dX12_four_8 ?_
  refine lv_aload_n hx hb dX12_four_11 rfl (lv_at hl 1 rfl) ?_
  refine va_get (D := g) (ci := 11) (v := .int 1) (C := RX12) (T := TX12) (N := 56) hx hb hts iX12 hown hK hP 0 rfl rfl 6 (by decide) (hts (.fieldLink RX12 124 "CardsAtYuleModel" "taped" "I") (List.mem_cons_of_mem _ (List.mem_append_left _ (List.mem_of_getElem? (i := 1) rfl)))) (fun _ h9 => h9) rfl dX12_four_12 ?_
  refine lv_iload_n hx hb dX12_four_15 rfl (lv_at hl 2 rfl) ?_
  refine lv_iload_n hx hb dX12_four_16 rfl (lv_at hl 0 rfl) ?_
  refine lv_ishr hx hb dX12_four_17 ?_
  refine lv_i2b (v := (p0 >>> (16 &&& (31 : Int32))).toInt8.toInt32) hx hb dX12_four_18 rfl ?_
  refine va_bast (D := g) hx hb hK hP hD hS 1 2 rfl rfl (vc_in (by decide)) dX12_four_19 (fun H locs hP hD hS => ?_)
  have hP : va_P g vwCl [(y, .inr (11, (mO a).set 6 (.int 1))), ((a 5), .inl (cB, 1600, .inl (upd (upd f0 0 (vp_nar .byte ((p0 >>> (24 &&& (31 : Int32))).toInt8.toInt32))) 1 (vp_nar .byte ((p0 >>> (16 &&& (31 : Int32))).toInt8.toInt32)))))] H := hP
  have hD : va_D A [(y, .inr (11, (mO a).set 6 (.int 1))), ((a 5), .inl (cB, 1600, .inl (upd (upd f0 0 (vp_nar .byte ((p0 >>> (24 &&& (31 : Int32))).toInt8.toInt32))) 1 (vp_nar .byte ((p0 >>> (16 &&& (31 : Int32))).toInt8.toInt32)))))] := hD
  refine lv_aload_n hx hb dX12_four_20 rfl (lv_at hl 1 rfl) ?_
  refine lv_dup hx hb dX12_four_21 rfl ?_
  refine va_get (D := g) (ci := 11) (v := .int 1) (C := RX12) (T := TX12) (N := 56) hx hb hts iX12 hown hK hP 0 rfl rfl 6 (by decide) (hts (.fieldLink RX12 124 "CardsAtYuleModel" "taped" "I") (List.mem_cons_of_mem _ (List.mem_append_left _ (List.mem_of_getElem? (i := 1) rfl)))) (fun _ h9 => h9) rfl dX12_four_22 ?_
  refine lv_iconst (v := 1) hx hb dX12_four_25 (by decide) ?_
  refine lv_iadd hx hb dX12_four_26 ?_
  refine lv_topi (nm_r (e' := 2) (by decide) ?_)
  refine va_put (D := g) (ci := 11) (v := .int 2) (ty := .int) (C := RX12) (T := TX12) (N := 56) hx hb hts iX12 tyX12 tyX12_ok nmX12 hown hK hP hD hS 0 rfl rfl 6 (by decide) (hts (.fieldLink RX12 124 "CardsAtYuleModel" "taped" "I") (List.mem_cons_of_mem _ (List.mem_append_left _ (List.mem_of_getElem? (i := 1) rfl)))) (fun _ h9 => h9) rfl (by decide +kernel) rfl rfl (Nat.le_of_ble_eq_true rfl) dX12_four_27 (fun H locs hP hD hS => ?_)
  have hP : va_P g vwCl [(y, .inr (11, (mO a).set 6 (.int 2))), ((a 5), .inl (cB, 1600, .inl (upd (upd f0 0 (vp_nar .byte ((p0 >>> (24 &&& (31 : Int32))).toInt8.toInt32))) 1 (vp_nar .byte ((p0 >>> (16 &&& (31 : Int32))).toInt8.toInt32)))))] H := hP
  have hD : va_D A [(y, .inr (11, (mO a).set 6 (.int 2))), ((a 5), .inl (cB, 1600, .inl (upd (upd f0 0 (vp_nar .byte ((p0 >>> (24 &&& (31 : Int32))).toInt8.toInt32))) 1 (vp_nar .byte ((p0 >>> (16 &&& (31 : Int32))).toInt8.toInt32)))))] := hD
  refine lv_iinc (v := 8) (lv' := [(2, .int 8), (0, .ref y), (1, .int p0)]) hx hb dX12_four_30 hl (k := 0) rfl (by decide) (by decide) rfl (fun ls hl => ?_)
  refine lv_goto (tgt := 3) hx hb dX12_four_33 (by decide) ?_
  refine lv_iload_n hx hb dX12_four_3 rfl (lv_at hl 0 rfl) ?_
  refine lv_if_lt (tgt := 36) hx hb dX12_four_4 (by decide) (fun c3 => absurd c3 (by decide)) (fun _ => ?_)
  refine lv_aload_n hx hb dX12_four_7 rfl (lv_at hl 1 rfl) ?_
  refine va_get (D := g) (ci := 11) (v := .ref (a 5)) (C := RX12) (T := TX12) (N := 56) hx hb hts iX12 hown hK hP 0 rfl rfl 5 (by decide) (hts (.fieldLink RX12 23 "CardsAtYuleModel" "tape" "[B") (List.mem_cons_of_mem _ (List.mem_append_left _ (List.mem_of_getElem? (i := 0) rfl)))) (fun _ h9 => h9) rfl dX12_four_8 ?_
  refine lv_aload_n hx hb dX12_four_11 rfl (lv_at hl 1 rfl) ?_
  refine va_get (D := g) (ci := 11) (v := .int 2) (C := RX12) (T := TX12) (N := 56) hx hb hts iX12 hown hK hP 0 rfl rfl 6 (by decide) (hts (.fieldLink RX12 124 "CardsAtYuleModel" "taped" "I") (List.mem_cons_of_mem _ (List.mem_append_left _ (List.mem_of_getElem? (i := 1) rfl)))) (fun _ h9 => h9) rfl dX12_four_12 ?_
  refine lv_iload_n hx hb dX12_four_15 rfl (lv_at hl 2 rfl) ?_
  refine lv_iload_n hx hb dX12_four_16 rfl (lv_at hl 0 rfl) ?_
  refine lv_ishr hx hb dX12_four_17 ?_
  refine lv_i2b (v := (p0 >>> (8 &&& (31 : Int32))).toInt8.toInt32) hx hb dX12_four_18 rfl ?_
  refine va_bast (D := g) hx hb hK hP hD hS 1 2 rfl rfl (vc_in (by decide)) dX12_four_19 (fun H locs hP hD hS => ?_)
  have hP : va_P g vwCl [(y, .inr (11, (mO a).set 6 (.int 2))), ((a 5), .inl (cB, 1600, .inl (upd (upd (upd f0 0 (vp_nar .byte ((p0 >>> (24 &&& (31 : Int32))).toInt8.toInt32))) 1 (vp_nar .byte ((p0 >>> (16 &&& (31 : Int32))).toInt8.toInt32))) 2 (vp_nar .byte ((p0 >>> (8 &&& (31 : Int32))).toInt8.toInt32)))))] H := hP
  have hD : va_D A [(y, .inr (11, (mO a).set 6 (.int 2))), ((a 5), .inl (cB, 1600, .inl (upd (upd (upd f0 0 (vp_nar .byte ((p0 >>> (24 &&& (31 : Int32))).toInt8.toInt32))) 1 (vp_nar .byte ((p0 >>> (16 &&& (31 : Int32))).toInt8.toInt32))) 2 (vp_nar .byte ((p0 >>> (8 &&& (31 : Int32))).toInt8.toInt32)))))] := hD
  refine lv_aload_n hx hb dX12_four_20 rfl (lv_at hl 1 rfl) ?_
  refine lv_dup hx hb dX12_four_21 rfl ?_
  refine va_get (D := g) (ci := 11) (v := .int 2) (C := RX12) (T := TX12) (N := 56) hx hb hts iX12 hown hK hP 0 rfl rfl 6 (by decide) (hts (.fieldLink RX12 124 "CardsAtYuleModel" "taped" "I") (List.mem_cons_of_mem _ (List.mem_append_left _ (List.mem_of_getElem? (i := 1) rfl)))) (fun _ h9 => h9) rfl dX12_four_22 ?_
  refine lv_iconst (v := 1) hx hb dX12_four_25 (by decide) ?_
  refine lv_iadd hx hb dX12_four_26 ?_
  refine lv_topi (nm_r (e' := 3) (by decide) ?_)
  refine va_put (D := g) (ci := 11) (v := .int 3) (ty := .int) (C := RX12) (T := TX12) (N := 56) hx hb hts iX12 tyX12 tyX12_ok nmX12 hown hK hP hD hS 0 rfl rfl 6 (by decide) (hts (.fieldLink RX12 124 "CardsAtYuleModel" "taped" "I") (List.mem_cons_of_mem _ (List.mem_append_left _ (List.mem_of_getElem? (i := 1) rfl)))) (fun _ h9 => h9) rfl (by decide +kernel) rfl rfl (Nat.le_of_ble_eq_true rfl) dX12_four_27 (fun H locs hP hD hS => ?_)
  have hP : va_P g vwCl [(y, .inr (11, (mO a).set 6 (.int 3))), ((a 5), .inl (cB, 1600, .inl (upd (upd (upd f0 0 (vp_nar .byte ((p0 >>> (24 &&& (31 : Int32))).toInt8.toInt32))) 1 (vp_nar .byte ((p0 >>> (16 &&& (31 : Int32))).toInt8.toInt32))) 2 (vp_nar .byte ((p0 >>> (8 &&& (31 : Int32))).toInt8.toInt32)))))] H := hP
  have hD : va_D A [(y, .inr (11, (mO a).set 6 (.int 3))), ((a 5), .inl (cB, 1600, .inl (upd (upd (upd f0 0 (vp_nar .byte ((p0 >>> (24 &&& (31 : Int32))).toInt8.toInt32))) 1 (vp_nar .byte ((p0 >>> (16 &&& (31 : Int32))).toInt8.toInt32))) 2 (vp_nar .byte ((p0 >>> (8 &&& (31 : Int32))).toInt8.toInt32)))))] := hD
  refine lv_iinc (v := 0) (lv' := [(2, .int 0), (0, .ref y), (1, .int p0)]) hx hb dX12_four_30 hl (k := 0) rfl (by decide) (by decide) rfl (fun ls hl => ?_)
  refine lv_goto (tgt := 3) hx hb dX12_four_33 (by decide) ?_
  refine lv_iload_n hx hb dX12_four_3 rfl (lv_at hl 0 rfl) ?_
  refine lv_if_lt (tgt := 36) hx hb dX12_four_4 (by decide) (fun c4 => absurd c4 (by decide)) (fun _ => ?_)
  refine lv_aload_n hx hb dX12_four_7 rfl (lv_at hl 1 rfl) ?_
  refine va_get (D := g) (ci := 11) (v := .ref (a 5)) (C := RX12) (T := TX12) (N := 56) hx hb hts iX12 hown hK hP 0 rfl rfl 5 (by decide) (hts (.fieldLink RX12 23 "CardsAtYuleModel" "tape" "[B") (List.mem_cons_of_mem _ (List.mem_append_left _ (List.mem_of_getElem? (i := 0) rfl)))) (fun _ h9 => h9) rfl dX12_four_8 ?_
  refine lv_aload_n hx hb dX12_four_11 rfl (lv_at hl 1 rfl) ?_
  refine va_get (D := g) (ci := 11) (v := .int 3) (C := RX12) (T := TX12) (N := 56) hx hb hts iX12 hown hK hP 0 rfl rfl 6 (by decide) (hts (.fieldLink RX12 124 "CardsAtYuleModel" "taped" "I") (List.mem_cons_of_mem _ (List.mem_append_left _ (List.mem_of_getElem? (i := 1) rfl)))) (fun _ h9 => h9) rfl dX12_four_12 ?_
  refine lv_iload_n hx hb dX12_four_15 rfl (lv_at hl 2 rfl) ?_
  refine lv_iload_n hx hb dX12_four_16 rfl (lv_at hl 0 rfl) ?_
  refine lv_ishr hx hb dX12_four_17 ?_
  refine lv_i2b (v := (p0 >>> (0 &&& (31 : Int32))).toInt8.toInt32) hx hb dX12_four_18 rfl ?_
  refine va_bast (D := g) hx hb hK hP hD hS 1 2 rfl rfl (vc_in (by decide)) dX12_four_19 (fun H locs hP hD hS => ?_)
  have hP : va_P g vwCl [(y, .inr (11, (mO a).set 6 (.int 3))), ((a 5), .inl (cB, 1600, .inl (upd (upd (upd (upd f0 0 (vp_nar .byte ((p0 >>> (24 &&& (31 : Int32))).toInt8.toInt32))) 1 (vp_nar .byte ((p0 >>> (16 &&& (31 : Int32))).toInt8.toInt32))) 2 (vp_nar .byte ((p0 >>> (8 &&& (31 : Int32))).toInt8.toInt32))) 3 (vp_nar .byte ((p0 >>> (0 &&& (31 : Int32))).toInt8.toInt32)))))] H := hP
  have hD : va_D A [(y, .inr (11, (mO a).set 6 (.int 3))), ((a 5), .inl (cB, 1600, .inl (upd (upd (upd (upd f0 0 (vp_nar .byte ((p0 >>> (24 &&& (31 : Int32))).toInt8.toInt32))) 1 (vp_nar .byte ((p0 >>> (16 &&& (31 : Int32))).toInt8.toInt32))) 2 (vp_nar .byte ((p0 >>> (8 &&& (31 : Int32))).toInt8.toInt32))) 3 (vp_nar .byte ((p0 >>> (0 &&& (31 : Int32))).toInt8.toInt32)))))] := hD
  refine lv_aload_n hx hb dX12_four_20 rfl (lv_at hl 1 rfl) ?_
  refine lv_dup hx hb dX12_four_21 rfl ?_
  refine va_get (D := g) (ci := 11) (v := .int 3) (C := RX12) (T := TX12) (N := 56) hx hb hts iX12 hown hK hP 0 rfl rfl 6 (by decide) (hts (.fieldLink RX12 124 "CardsAtYuleModel" "taped" "I") (List.mem_cons_of_mem _ (List.mem_append_left _ (List.mem_of_getElem? (i := 1) rfl)))) (fun _ h9 => h9) rfl dX12_four_22 ?_
  refine lv_iconst (v := 1) hx hb dX12_four_25 (by decide) ?_
  refine lv_iadd hx hb dX12_four_26 ?_
  refine lv_topi (nm_r (e' := 4) (by decide) ?_)
  refine va_put (D := g) (ci := 11) (v := .int 4) (ty := .int) (C := RX12) (T := TX12) (N := 56) hx hb hts iX12 tyX12 tyX12_ok nmX12 hown hK hP hD hS 0 rfl rfl 6 (by decide) (hts (.fieldLink RX12 124 "CardsAtYuleModel" "taped" "I") (List.mem_cons_of_mem _ (List.mem_append_left _ (List.mem_of_getElem? (i := 1) rfl)))) (fun _ h9 => h9) rfl (by decide +kernel) rfl rfl (Nat.le_of_ble_eq_true rfl) dX12_four_27 (fun H locs hP hD hS => ?_)
  have hP : va_P g vwCl [(y, .inr (11, (mO a).set 6 (.int 4))), ((a 5), .inl (cB, 1600, .inl (upd (upd (upd (upd f0 0 (vp_nar .byte ((p0 >>> (24 &&& (31 : Int32))).toInt8.toInt32))) 1 (vp_nar .byte ((p0 >>> (16 &&& (31 : Int32))).toInt8.toInt32))) 2 (vp_nar .byte ((p0 >>> (8 &&& (31 : Int32))).toInt8.toInt32))) 3 (vp_nar .byte ((p0 >>> (0 &&& (31 : Int32))).toInt8.toInt32)))))] H := hP
  have hD : va_D A [(y, .inr (11, (mO a).set 6 (.int 4))), ((a 5), .inl (cB, 1600, .inl (upd (upd (upd (upd f0 0 (vp_nar .byte ((p0 >>> (24 &&& (31 : Int32))).toInt8.toInt32))) 1 (vp_nar .byte ((p0 >>> (16 &&& (31 : Int32))).toInt8.toInt32))) 2 (vp_nar .byte ((p0 >>> (8 &&& (31 : Int32))).toInt8.toInt32))) 3 (vp_nar .byte ((p0 >>> (0 &&& (31 : Int32))).toInt8.toInt32)))))] := hD
  refine lv_iinc (v := (-8)) (lv' := [(2, .int (-8)), (0, .ref y), (1, .int p0)]) hx hb dX12_four_30 hl (k := 0) rfl (by decide) (by decide) rfl (fun ls hl => ?_)
  refine lv_goto (tgt := 3) hx hb dX12_four_33 (by decide) ?_
  refine lv_iload_n hx hb dX12_four_3 rfl (lv_at hl 0 rfl) ?_
  refine lv_if_lt (tgt := 36) hx hb dX12_four_4 (by decide) (fun _ => ?_) (fun c5 => absurd c5 (by decide))
  have hP9 := hP.sub (ws' := [(y, .inr (11, (mO a).set 6 (.int 4))), ((a 5), .inl (cB, 1600, .inl (upd (upd (upd (upd f0 0 (vp_nar .byte ((p0 >>> (24 &&& (31 : Int32))).toInt8.toInt32))) 1 (vp_nar .byte ((p0 >>> (16 &&& (31 : Int32))).toInt8.toInt32))) 2 (vp_nar .byte ((p0 >>> (8 &&& (31 : Int32))).toInt8.toInt32))) 3 (vp_nar .byte ((p0 >>> (0 &&& (31 : Int32))).toInt8.toInt32)))))]) [0, 1] rfl
  have hD9 := hD.sub (ws' := [(y, .inr (11, (mO a).set 6 (.int 4))), ((a 5), .inl (cB, 1600, .inl (upd (upd (upd (upd f0 0 (vp_nar .byte ((p0 >>> (24 &&& (31 : Int32))).toInt8.toInt32))) 1 (vp_nar .byte ((p0 >>> (16 &&& (31 : Int32))).toInt8.toInt32))) 2 (vp_nar .byte ((p0 >>> (8 &&& (31 : Int32))).toInt8.toInt32))) 3 (vp_nar .byte ((p0 >>> (0 &&& (31 : Int32))).toInt8.toInt32)))))]) [0, 1] (by decide) rfl
  exact W.vret hx hb hr (fun t ht hW => ⟨⟨(upd (upd (upd (upd f0 0 (vp_nar .byte ((p0 >>> (24 &&& (31 : Int32))).toInt8.toInt32))) 1 (vp_nar .byte ((p0 >>> (16 &&& (31 : Int32))).toInt8.toInt32))) 2 (vp_nar .byte ((p0 >>> (8 &&& (31 : Int32))).toInt8.toInt32))) 3 (vp_nar .byte ((p0 >>> (0 &&& (31 : Int32))).toInt8.toInt32))), rfl, trivial, by rw [ht]; exact hP9, va_K.moved hW.alike hK, hD9⟩, hS.F ht⟩) hS.2.2 dX12_four_36
def v_X12_four_4 : List Cond := .code yX12_four cX12_four 3 none :: (([.fieldLink RX12 23 "CardsAtYuleModel" "tape" "[B", .fieldLink RX12 124 "CardsAtYuleModel" "taped" "I"] : List Cond) ++ (wsX120 ++ ([] : List Cond)))
theorem good_v_X12_four_4 : v_X12_four_4.all goodWord = true := ga_c (by decide +kernel) (ga_a (by decide +kernel) (ga_a good_wsX120 rfl))
set_option maxHeartbeats 4000000 in
set_option maxRecDepth 100000 in
theorem k_X12_four_4 (l : Launch) (g : va_G) (cI cJ cB cZ cL : ClassId) (y : Nat) (a : Nat → Nat) (f0 : Nat → Int32) (p0 : Int32) (sz : Nat)  : Met l yX12_four v_X12_four_4 ({ frames := 0, cells := 0, slots := 0, locals := 0 }) (va_Pc [.ref y, .int p0] (pRW g (tyT cI cJ cB cZ cL) [(y, .inr (11, (mO a).set 6 (.int 4))), ((a 5), .inl (cB, 1600, .inl f0))] sz)) (va_Qv (fun (u : Nat → Int32) => match u with | f1 => True) (fun (u : Nat → Int32) (t : State) => bRW g (tyT cI cJ cB cZ cL) (va_A [(y, .inr (11, (mO a).set 6 (.int 4))), ((a 5), .inl (cB, 1600, .inl f0))] sz) (match u with | f1 => [(y, .inr (11, (mO a).set 6 (.int 8))), ((a 5), .inl (cB, 1600, .inl f1))]) t) (va_A [(y, .inr (11, (mO a).set 6 (.int 4))), ((a 5), .inl (cB, 1600, .inl f0))] sz)) 0 0 (va_A [(y, .inr (11, (mO a).set 6 (.int 4))), ((a 5), .inl (cB, 1600, .inl f0))] sz) := by
  refine Met.ofW (cc := cX12_four) (maxL := 3) (ret := none) (by decide) rfl ?_
  intro p e s m args below meth c s₁ B hml hv
  obtain ⟨rfl, hsz, hP, hK, hD0⟩ := hv
  have hx := B.exec
  have hb := B.bytes
  have hr := B.returns
  have hts := atoms_spec (ws := v_X12_four_4) B.pre
  have hown : s.vm.findClass RX12 = some m.cls := findClass_of_methodNamed B.named
  have hlocks := B.notSynchronized
  subst hsz
  have iX12 : ∀ w ∈ wsX120, w ∈ v_X12_four_4 := (fun _ h => List.mem_cons_of_mem _ (List.mem_append_right _ (List.mem_append_left _ h)))
  have hD := hD0.self (sz := s.heap.size)
  generalize hAe : (va_A [(y, .inr (11, (mO a).set 6 (.int 4))), ((a 5), .inl (cB, 1600, .inl f0))] s.heap.size) = A at hD ⊢
  have hA : ∀ q : Nat, s.heap.size ≤ q → A q := fun q h => by rw [← hAe]; exact Or.inr h
  have hS : va_S A s.heap s.heap [] := va_S.rf
  have hl := lv_entry ([.ref y, .int p0]) (n := 3) (Nat.le_of_ble_eq_true rfl)
  rw [lg_entry_eq]
  generalize (lg_sl ([.ref y, .int p0]) ++ List.replicate (3 - (lg_sl ([.ref y, .int p0])).length) Slot.unset).toArray = ls at hl ⊢
  have hl : lv_has ls 3 [(0, .ref y), (1, .int p0)] := hl
  have hP : va_P g vwCl [(y, .inr (11, (mO a).set 6 (.int 4))), ((a 5), .inl (cB, 1600, .inl f0))] s.heap := hP
  refine lv_bipush (v := 24) hx hb dX12_four_0 (by decide) ?_
  refine lv_istore_n (lv' := [(2, .int 24), (0, .ref y), (1, .int p0)]) hx hb dX12_four_2 rfl hl (by decide) rfl (fun ls hl => ?_)
  refine lv_iload_n hx hb dX12_four_3 rfl (lv_at hl 0 rfl) ?_
  refine lv_if_lt (tgt := 36) hx hb dX12_four_4 (by decide) (fun c1 => absurd c1 (by decide)) (fun _ => ?_)
  refine lv_aload_n hx hb dX12_four_7 rfl (lv_at hl 1 rfl) ?_
  refine va_get (D := g) (ci := 11) (v := .ref (a 5)) (C := RX12) (T := TX12) (N := 56) hx hb hts iX12 hown hK hP 0 rfl rfl 5 (by decide) (hts (.fieldLink RX12 23 "CardsAtYuleModel" "tape" "[B") (List.mem_cons_of_mem _ (List.mem_append_left _ (List.mem_of_getElem? (i := 0) rfl)))) (fun _ h9 => h9) rfl dX12_four_8 ?_
  refine lv_aload_n hx hb dX12_four_11 rfl (lv_at hl 1 rfl) ?_
  refine va_get (D := g) (ci := 11) (v := .int 4) (C := RX12) (T := TX12) (N := 56) hx hb hts iX12 hown hK hP 0 rfl rfl 6 (by decide) (hts (.fieldLink RX12 124 "CardsAtYuleModel" "taped" "I") (List.mem_cons_of_mem _ (List.mem_append_left _ (List.mem_of_getElem? (i := 1) rfl)))) (fun _ h9 => h9) rfl dX12_four_12 ?_
  refine lv_iload_n hx hb dX12_four_15 rfl (lv_at hl 2 rfl) ?_
  refine lv_iload_n hx hb dX12_four_16 rfl (lv_at hl 0 rfl) ?_
  refine lv_ishr hx hb dX12_four_17 ?_
  refine lv_i2b (v := (p0 >>> (24 &&& (31 : Int32))).toInt8.toInt32) hx hb dX12_four_18 rfl ?_
  refine va_bast (D := g) hx hb hK hP hD hS 1 2 rfl rfl (vc_in (by decide)) dX12_four_19 (fun H locs hP hD hS => ?_)
  have hP : va_P g vwCl [(y, .inr (11, (mO a).set 6 (.int 4))), ((a 5), .inl (cB, 1600, .inl (upd f0 4 (vp_nar .byte ((p0 >>> (24 &&& (31 : Int32))).toInt8.toInt32)))))] H := hP
  have hD : va_D A [(y, .inr (11, (mO a).set 6 (.int 4))), ((a 5), .inl (cB, 1600, .inl (upd f0 4 (vp_nar .byte ((p0 >>> (24 &&& (31 : Int32))).toInt8.toInt32)))))] := hD
  refine lv_aload_n hx hb dX12_four_20 rfl (lv_at hl 1 rfl) ?_
  refine lv_dup hx hb dX12_four_21 rfl ?_
  refine va_get (D := g) (ci := 11) (v := .int 4) (C := RX12) (T := TX12) (N := 56) hx hb hts iX12 hown hK hP 0 rfl rfl 6 (by decide) (hts (.fieldLink RX12 124 "CardsAtYuleModel" "taped" "I") (List.mem_cons_of_mem _ (List.mem_append_left _ (List.mem_of_getElem? (i := 1) rfl)))) (fun _ h9 => h9) rfl dX12_four_22 ?_
  refine lv_iconst (v := 1) hx hb dX12_four_25 (by decide) ?_
  refine lv_iadd hx hb dX12_four_26 ?_
  refine lv_topi (nm_r (e' := 5) (by decide) ?_)
  refine va_put (D := g) (ci := 11) (v := .int 5) (ty := .int) (C := RX12) (T := TX12) (N := 56) hx hb hts iX12 tyX12 tyX12_ok nmX12 hown hK hP hD hS 0 rfl rfl 6 (by decide) (hts (.fieldLink RX12 124 "CardsAtYuleModel" "taped" "I") (List.mem_cons_of_mem _ (List.mem_append_left _ (List.mem_of_getElem? (i := 1) rfl)))) (fun _ h9 => h9) rfl (by decide +kernel) rfl rfl (Nat.le_of_ble_eq_true rfl) dX12_four_27 (fun H locs hP hD hS => ?_)
  have hP : va_P g vwCl [(y, .inr (11, (mO a).set 6 (.int 5))), ((a 5), .inl (cB, 1600, .inl (upd f0 4 (vp_nar .byte ((p0 >>> (24 &&& (31 : Int32))).toInt8.toInt32)))))] H := hP
  have hD : va_D A [(y, .inr (11, (mO a).set 6 (.int 5))), ((a 5), .inl (cB, 1600, .inl (upd f0 4 (vp_nar .byte ((p0 >>> (24 &&& (31 : Int32))).toInt8.toInt32)))))] := hD
  refine lv_iinc (v := 16) (lv' := [(2, .int 16), (0, .ref y), (1, .int p0)]) hx hb dX12_four_30 hl (k := 0) rfl (by decide) (by decide) rfl (fun ls hl => ?_)
  refine lv_goto (tgt := 3) hx hb dX12_four_33 (by decide) ?_
  refine lv_iload_n hx hb dX12_four_3 rfl (lv_at hl 0 rfl) ?_
  refine lv_if_lt (tgt := 36) hx hb dX12_four_4 (by decide) (fun c2 => absurd c2 (by decide)) (fun _ => ?_)
  refine lv_aload_n hx hb dX12_four_7 rfl (lv_at hl 1 rfl) ?_
  refine va_get (D := g) (ci := 11) (v := .ref (a 5)) (C := RX12) (T := TX12) (N := 56) hx hb hts iX12 hown hK hP 0 rfl rfl 5 (by decide) (hts (.fieldLink RX12 23 "CardsAtYuleModel" "tape" "[B") (List.mem_cons_of_mem _ (List.mem_append_left _ (List.mem_of_getElem? (i := 0) rfl)))) (fun _ h9 => h9) rfl dX12_four_8 ?_
  refine lv_aload_n hx hb dX12_four_11 rfl (lv_at hl 1 rfl) ?_
  refine va_get (D := g) (ci := 11) (v := .int 5) (C := RX12) (T := TX12) (N := 56) hx hb hts iX12 hown hK hP 0 rfl rfl 6 (by decide) (hts (.fieldLink RX12 124 "CardsAtYuleModel" "taped" "I") (List.mem_cons_of_mem _ (List.mem_append_left _ (List.mem_of_getElem? (i := 1) rfl)))) (fun _ h9 => h9) rfl dX12_four_12 ?_
  refine lv_iload_n hx hb dX12_four_15 rfl (lv_at hl 2 rfl) ?_
  refine lv_iload_n hx hb dX12_four_16 rfl (lv_at hl 0 rfl) ?_
  refine lv_ishr hx hb dX12_four_17 ?_
  refine lv_i2b (v := (p0 >>> (16 &&& (31 : Int32))).toInt8.toInt32) hx hb dX12_four_18 rfl ?_
  refine va_bast (D := g) hx hb hK hP hD hS 1 2 rfl rfl (vc_in (by decide)) dX12_four_19 (fun H locs hP hD hS => ?_)
  have hP : va_P g vwCl [(y, .inr (11, (mO a).set 6 (.int 5))), ((a 5), .inl (cB, 1600, .inl (upd (upd f0 4 (vp_nar .byte ((p0 >>> (24 &&& (31 : Int32))).toInt8.toInt32))) 5 (vp_nar .byte ((p0 >>> (16 &&& (31 : Int32))).toInt8.toInt32)))))] H := hP
  have hD : va_D A [(y, .inr (11, (mO a).set 6 (.int 5))), ((a 5), .inl (cB, 1600, .inl (upd (upd f0 4 (vp_nar .byte ((p0 >>> (24 &&& (31 : Int32))).toInt8.toInt32))) 5 (vp_nar .byte ((p0 >>> (16 &&& (31 : Int32))).toInt8.toInt32)))))] := hD
  refine lv_aload_n hx hb dX12_four_20 rfl (lv_at hl 1 rfl) ?_
  refine lv_dup hx hb dX12_four_21 rfl ?_
  refine va_get (D := g) (ci := 11) (v := .int 5) (C := RX12) (T := TX12) (N := 56) hx hb hts iX12 hown hK hP 0 rfl rfl 6 (by decide) (hts (.fieldLink RX12 124 "CardsAtYuleModel" "taped" "I") (List.mem_cons_of_mem _ (List.mem_append_left _ (List.mem_of_getElem? (i := 1) rfl)))) (fun _ h9 => h9) rfl dX12_four_22 ?_
  refine lv_iconst (v := 1) hx hb dX12_four_25 (by decide) ?_
  refine lv_iadd hx hb dX12_four_26 ?_
  refine lv_topi (nm_r (e' := 6) (by decide) ?_)
  refine va_put (D := g) (ci := 11) (v := .int 6) (ty := .int) (C := RX12) (T := TX12) (N := 56) hx hb hts iX12 tyX12 tyX12_ok nmX12 hown hK hP hD hS 0 rfl rfl 6 (by decide) (hts (.fieldLink RX12 124 "CardsAtYuleModel" "taped" "I") (List.mem_cons_of_mem _ (List.mem_append_left _ (List.mem_of_getElem? (i := 1) rfl)))) (fun _ h9 => h9) rfl (by decide +kernel) rfl rfl (Nat.le_of_ble_eq_true rfl) dX12_four_27 (fun H locs hP hD hS => ?_)
  have hP : va_P g vwCl [(y, .inr (11, (mO a).set 6 (.int 6))), ((a 5), .inl (cB, 1600, .inl (upd (upd f0 4 (vp_nar .byte ((p0 >>> (24 &&& (31 : Int32))).toInt8.toInt32))) 5 (vp_nar .byte ((p0 >>> (16 &&& (31 : Int32))).toInt8.toInt32)))))] H := hP
  have hD : va_D A [(y, .inr (11, (mO a).set 6 (.int 6))), ((a 5), .inl (cB, 1600, .inl (upd (upd f0 4 (vp_nar .byte ((p0 >>> (24 &&& (31 : Int32))).toInt8.toInt32))) 5 (vp_nar .byte ((p0 >>> (16 &&& (31 : Int32))).toInt8.toInt32)))))] := hD
  refine lv_iinc (v := 8) (lv' := [(2, .int 8), (0, .ref y), (1, .int p0)]) hx hb dX12_four_30 hl (k := 0) rfl (by decide) (by decide) rfl (fun ls hl => ?_)
  refine lv_goto (tgt := 3) hx hb dX12_four_33 (by decide) ?_
  refine lv_iload_n hx hb dX12_four_3 rfl (lv_at hl 0 rfl) ?_
  refine lv_if_lt (tgt := 36) hx hb dX12_four_4 (by decide) (fun c3 => absurd c3 (by decide)) (fun _ => ?_)
  refine lv_aload_n hx hb dX12_four_7 rfl (lv_at hl 1 rfl) ?_
  refine va_get (D := g) (ci := 11) (v := .ref (a 5)) (C := RX12) (T := TX12) (N := 56) hx hb hts iX12 hown hK hP 0 rfl rfl 5 (by decide) (hts (.fieldLink RX12 23 "CardsAtYuleModel" "tape" "[B") (List.mem_cons_of_mem _ (List.mem_append_left _ (List.mem_of_getElem? (i := 0) rfl)))) (fun _ h9 => h9) rfl dX12_four_8 ?_
  refine lv_aload_n hx hb dX12_four_11 rfl (lv_at hl 1 rfl) ?_
  refine va_get (D := g) (ci := 11) (v := .int 6) (C := RX12) (T := TX12) (N := 56) hx hb hts iX12 hown hK hP 0 rfl rfl 6 (by decide) (hts (.fieldLink RX12 124 "CardsAtYuleModel" "taped" "I") (List.mem_cons_of_mem _ (List.mem_append_left _ (List.mem_of_getElem? (i := 1) rfl)))) (fun _ h9 => h9) rfl dX12_four_12 ?_
  refine lv_iload_n hx hb dX12_four_15 rfl (lv_at hl 2 rfl) ?_
  refine lv_iload_n hx hb dX12_four_16 rfl (lv_at hl 0 rfl) ?_
  refine lv_ishr hx hb dX12_four_17 ?_
  refine lv_i2b (v := (p0 >>> (8 &&& (31 : Int32))).toInt8.toInt32) hx hb dX12_four_18 rfl ?_
  refine va_bast (D := g) hx hb hK hP hD hS 1 2 rfl rfl (vc_in (by decide)) dX12_four_19 (fun H locs hP hD hS => ?_)
  have hP : va_P g vwCl [(y, .inr (11, (mO a).set 6 (.int 6))), ((a 5), .inl (cB, 1600, .inl (upd (upd (upd f0 4 (vp_nar .byte ((p0 >>> (24 &&& (31 : Int32))).toInt8.toInt32))) 5 (vp_nar .byte ((p0 >>> (16 &&& (31 : Int32))).toInt8.toInt32))) 6 (vp_nar .byte ((p0 >>> (8 &&& (31 : Int32))).toInt8.toInt32)))))] H := hP
  have hD : va_D A [(y, .inr (11, (mO a).set 6 (.int 6))), ((a 5), .inl (cB, 1600, .inl (upd (upd (upd f0 4 (vp_nar .byte ((p0 >>> (24 &&& (31 : Int32))).toInt8.toInt32))) 5 (vp_nar .byte ((p0 >>> (16 &&& (31 : Int32))).toInt8.toInt32))) 6 (vp_nar .byte ((p0 >>> (8 &&& (31 : Int32))).toInt8.toInt32)))))] := hD
  refine lv_aload_n hx hb dX12_four_20 rfl (lv_at hl 1 rfl) ?_
  refine lv_dup hx hb dX12_four_21 rfl ?_
  refine va_get (D := g) (ci := 11) (v := .int 6) (C := RX12) (T := TX12) (N := 56) hx hb hts iX12 hown hK hP 0 rfl rfl 6 (by decide) (hts (.fieldLink RX12 124 "CardsAtYuleModel" "taped" "I") (List.mem_cons_of_mem _ (List.mem_append_left _ (List.mem_of_getElem? (i := 1) rfl)))) (fun _ h9 => h9) rfl dX12_four_22 ?_
  refine lv_iconst (v := 1) hx hb dX12_four_25 (by decide) ?_
  refine lv_iadd hx hb dX12_four_26 ?_
  refine lv_topi (nm_r (e' := 7) (by decide) ?_)
  refine va_put (D := g) (ci := 11) (v := .int 7) (ty := .int) (C := RX12) (T := TX12) (N := 56) hx hb hts iX12 tyX12 tyX12_ok nmX12 hown hK hP hD hS 0 rfl rfl 6 (by decide) (hts (.fieldLink RX12 124 "CardsAtYuleModel" "taped" "I") (List.mem_cons_of_mem _ (List.mem_append_left _ (List.mem_of_getElem? (i := 1) rfl)))) (fun _ h9 => h9) rfl (by decide +kernel) rfl rfl (Nat.le_of_ble_eq_true rfl) dX12_four_27 (fun H locs hP hD hS => ?_)
  have hP : va_P g vwCl [(y, .inr (11, (mO a).set 6 (.int 7))), ((a 5), .inl (cB, 1600, .inl (upd (upd (upd f0 4 (vp_nar .byte ((p0 >>> (24 &&& (31 : Int32))).toInt8.toInt32))) 5 (vp_nar .byte ((p0 >>> (16 &&& (31 : Int32))).toInt8.toInt32))) 6 (vp_nar .byte ((p0 >>> (8 &&& (31 : Int32))).toInt8.toInt32)))))] H := hP
  have hD : va_D A [(y, .inr (11, (mO a).set 6 (.int 7))), ((a 5), .inl (cB, 1600, .inl (upd (upd (upd f0 4 (vp_nar .byte ((p0 >>> (24 &&& (31 : Int32))).toInt8.toInt32))) 5 (vp_nar .byte ((p0 >>> (16 &&& (31 : Int32))).toInt8.toInt32))) 6 (vp_nar .byte ((p0 >>> (8 &&& (31 : Int32))).toInt8.toInt32)))))] := hD
  refine lv_iinc (v := 0) (lv' := [(2, .int 0), (0, .ref y), (1, .int p0)]) hx hb dX12_four_30 hl (k := 0) rfl (by decide) (by decide) rfl (fun ls hl => ?_)
  refine lv_goto (tgt := 3) hx hb dX12_four_33 (by decide) ?_
  refine lv_iload_n hx hb dX12_four_3 rfl (lv_at hl 0 rfl) ?_
  refine lv_if_lt (tgt := 36) hx hb dX12_four_4 (by decide) (fun c4 => absurd c4 (by decide)) (fun _ => ?_)
  refine lv_aload_n hx hb dX12_four_7 rfl (lv_at hl 1 rfl) ?_
  refine va_get (D := g) (ci := 11) (v := .ref (a 5)) (C := RX12) (T := TX12) (N := 56) hx hb hts iX12 hown hK hP 0 rfl rfl 5 (by decide) (hts (.fieldLink RX12 23 "CardsAtYuleModel" "tape" "[B") (List.mem_cons_of_mem _ (List.mem_append_left _ (List.mem_of_getElem? (i := 0) rfl)))) (fun _ h9 => h9) rfl dX12_four_8 ?_
  refine lv_aload_n hx hb dX12_four_11 rfl (lv_at hl 1 rfl) ?_
  refine va_get (D := g) (ci := 11) (v := .int 7) (C := RX12) (T := TX12) (N := 56) hx hb hts iX12 hown hK hP 0 rfl rfl 6 (by decide) (hts (.fieldLink RX12 124 "CardsAtYuleModel" "taped" "I") (List.mem_cons_of_mem _ (List.mem_append_left _ (List.mem_of_getElem? (i := 1) rfl)))) (fun _ h9 => h9) rfl dX12_four_12 ?_
  refine lv_iload_n hx hb dX12_four_15 rfl (lv_at hl 2 rfl) ?_
  refine lv_iload_n hx hb dX12_four_16 rfl (lv_at hl 0 rfl) ?_
  refine lv_ishr hx hb dX12_four_17 ?_
  refine lv_i2b (v := (p0 >>> (0 &&& (31 : Int32))).toInt8.toInt32) hx hb dX12_four_18 rfl ?_
  refine va_bast (D := g) hx hb hK hP hD hS 1 2 rfl rfl (vc_in (by decide)) dX12_four_19 (fun H locs hP hD hS => ?_)
  have hP : va_P g vwCl [(y, .inr (11, (mO a).set 6 (.int 7))), ((a 5), .inl (cB, 1600, .inl (upd (upd (upd (upd f0 4 (vp_nar .byte ((p0 >>> (24 &&& (31 : Int32))).toInt8.toInt32))) 5 (vp_nar .byte ((p0 >>> (16 &&& (31 : Int32))).toInt8.toInt32))) 6 (vp_nar .byte ((p0 >>> (8 &&& (31 : Int32))).toInt8.toInt32))) 7 (vp_nar .byte ((p0 >>> (0 &&& (31 : Int32))).toInt8.toInt32)))))] H := hP
  have hD : va_D A [(y, .inr (11, (mO a).set 6 (.int 7))), ((a 5), .inl (cB, 1600, .inl (upd (upd (upd (upd f0 4 (vp_nar .byte ((p0 >>> (24 &&& (31 : Int32))).toInt8.toInt32))) 5 (vp_nar .byte ((p0 >>> (16 &&& (31 : Int32))).toInt8.toInt32))) 6 (vp_nar .byte ((p0 >>> (8 &&& (31 : Int32))).toInt8.toInt32))) 7 (vp_nar .byte ((p0 >>> (0 &&& (31 : Int32))).toInt8.toInt32)))))] := hD
  refine lv_aload_n hx hb dX12_four_20 rfl (lv_at hl 1 rfl) ?_
  refine lv_dup hx hb dX12_four_21 rfl ?_
  refine va_get (D := g) (ci := 11) (v := .int 7) (C := RX12) (T := TX12) (N := 56) hx hb hts iX12 hown hK hP 0 rfl rfl 6 (by decide) (hts (.fieldLink RX12 124 "CardsAtYuleModel" "taped" "I") (List.mem_cons_of_mem _ (List.mem_append_left _ (List.mem_of_getElem? (i := 1) rfl)))) (fun _ h9 => h9) rfl dX12_four_22 ?_
  refine lv_iconst (v := 1) hx hb dX12_four_25 (by decide) ?_
  refine lv_iadd hx hb dX12_four_26 ?_
  refine lv_topi (nm_r (e' := 8) (by decide) ?_)
  refine va_put (D := g) (ci := 11) (v := .int 8) (ty := .int) (C := RX12) (T := TX12) (N := 56) hx hb hts iX12 tyX12 tyX12_ok nmX12 hown hK hP hD hS 0 rfl rfl 6 (by decide) (hts (.fieldLink RX12 124 "CardsAtYuleModel" "taped" "I") (List.mem_cons_of_mem _ (List.mem_append_left _ (List.mem_of_getElem? (i := 1) rfl)))) (fun _ h9 => h9) rfl (by decide +kernel) rfl rfl (Nat.le_of_ble_eq_true rfl) dX12_four_27 (fun H locs hP hD hS => ?_)
  have hP : va_P g vwCl [(y, .inr (11, (mO a).set 6 (.int 8))), ((a 5), .inl (cB, 1600, .inl (upd (upd (upd (upd f0 4 (vp_nar .byte ((p0 >>> (24 &&& (31 : Int32))).toInt8.toInt32))) 5 (vp_nar .byte ((p0 >>> (16 &&& (31 : Int32))).toInt8.toInt32))) 6 (vp_nar .byte ((p0 >>> (8 &&& (31 : Int32))).toInt8.toInt32))) 7 (vp_nar .byte ((p0 >>> (0 &&& (31 : Int32))).toInt8.toInt32)))))] H := hP
  have hD : va_D A [(y, .inr (11, (mO a).set 6 (.int 8))), ((a 5), .inl (cB, 1600, .inl (upd (upd (upd (upd f0 4 (vp_nar .byte ((p0 >>> (24 &&& (31 : Int32))).toInt8.toInt32))) 5 (vp_nar .byte ((p0 >>> (16 &&& (31 : Int32))).toInt8.toInt32))) 6 (vp_nar .byte ((p0 >>> (8 &&& (31 : Int32))).toInt8.toInt32))) 7 (vp_nar .byte ((p0 >>> (0 &&& (31 : Int32))).toInt8.toInt32)))))] := hD
  refine lv_iinc (v := (-8)) (lv' := [(2, .int (-8)), (0, .ref y), (1, .int p0)]) hx hb dX12_four_30 hl (k := 0) rfl (by decide) (by decide) rfl (fun ls hl => ?_)
  refine lv_goto (tgt := 3) hx hb dX12_four_33 (by decide) ?_
  refine lv_iload_n hx hb dX12_four_3 rfl (lv_at hl 0 rfl) ?_
  refine lv_if_lt (tgt := 36) hx hb dX12_four_4 (by decide) (fun _ => ?_) (fun c5 => absurd c5 (by decide))
  have hP9 := hP.sub (ws' := [(y, .inr (11, (mO a).set 6 (.int 8))), ((a 5), .inl (cB, 1600, .inl (upd (upd (upd (upd f0 4 (vp_nar .byte ((p0 >>> (24 &&& (31 : Int32))).toInt8.toInt32))) 5 (vp_nar .byte ((p0 >>> (16 &&& (31 : Int32))).toInt8.toInt32))) 6 (vp_nar .byte ((p0 >>> (8 &&& (31 : Int32))).toInt8.toInt32))) 7 (vp_nar .byte ((p0 >>> (0 &&& (31 : Int32))).toInt8.toInt32)))))]) [0, 1] rfl
  have hD9 := hD.sub (ws' := [(y, .inr (11, (mO a).set 6 (.int 8))), ((a 5), .inl (cB, 1600, .inl (upd (upd (upd (upd f0 4 (vp_nar .byte ((p0 >>> (24 &&& (31 : Int32))).toInt8.toInt32))) 5 (vp_nar .byte ((p0 >>> (16 &&& (31 : Int32))).toInt8.toInt32))) 6 (vp_nar .byte ((p0 >>> (8 &&& (31 : Int32))).toInt8.toInt32))) 7 (vp_nar .byte ((p0 >>> (0 &&& (31 : Int32))).toInt8.toInt32)))))]) [0, 1] (by decide) rfl
  exact W.vret hx hb hr (fun t ht hW => ⟨⟨(upd (upd (upd (upd f0 4 (vp_nar .byte ((p0 >>> (24 &&& (31 : Int32))).toInt8.toInt32))) 5 (vp_nar .byte ((p0 >>> (16 &&& (31 : Int32))).toInt8.toInt32))) 6 (vp_nar .byte ((p0 >>> (8 &&& (31 : Int32))).toInt8.toInt32))) 7 (vp_nar .byte ((p0 >>> (0 &&& (31 : Int32))).toInt8.toInt32))), rfl, trivial, by rw [ht]; exact hP9, va_K.moved hW.alike hK, hD9⟩, hS.F ht⟩) hS.2.2 dX12_four_36
def v_X12_four_8 : List Cond := .code yX12_four cX12_four 3 none :: (([.fieldLink RX12 23 "CardsAtYuleModel" "tape" "[B", .fieldLink RX12 124 "CardsAtYuleModel" "taped" "I"] : List Cond) ++ (wsX120 ++ ([] : List Cond)))
theorem good_v_X12_four_8 : v_X12_four_8.all goodWord = true := ga_c (by decide +kernel) (ga_a (by decide +kernel) (ga_a good_wsX120 rfl))
set_option maxHeartbeats 4000000 in
set_option maxRecDepth 100000 in
theorem k_X12_four_8 (l : Launch) (g : va_G) (cI cJ cB cZ cL : ClassId) (y : Nat) (a : Nat → Nat) (f0 : Nat → Int32) (p0 : Int32) (sz : Nat)  : Met l yX12_four v_X12_four_8 ({ frames := 0, cells := 0, slots := 0, locals := 0 }) (va_Pc [.ref y, .int p0] (pRW g (tyT cI cJ cB cZ cL) [(y, .inr (11, (mO a).set 6 (.int 8))), ((a 5), .inl (cB, 1600, .inl f0))] sz)) (va_Qv (fun (u : Nat → Int32) => match u with | f1 => True) (fun (u : Nat → Int32) (t : State) => bRW g (tyT cI cJ cB cZ cL) (va_A [(y, .inr (11, (mO a).set 6 (.int 8))), ((a 5), .inl (cB, 1600, .inl f0))] sz) (match u with | f1 => [(y, .inr (11, (mO a).set 6 (.int 12))), ((a 5), .inl (cB, 1600, .inl f1))]) t) (va_A [(y, .inr (11, (mO a).set 6 (.int 8))), ((a 5), .inl (cB, 1600, .inl f0))] sz)) 0 0 (va_A [(y, .inr (11, (mO a).set 6 (.int 8))), ((a 5), .inl (cB, 1600, .inl f0))] sz) := by
  refine Met.ofW (cc := cX12_four) (maxL := 3) (ret := none) (by decide) rfl ?_
  intro p e s m args below meth c s₁ B hml hv
  obtain ⟨rfl, hsz, hP, hK, hD0⟩ := hv
  have hx := B.exec
  have hb := B.bytes
  have hr := B.returns
  have hts := atoms_spec (ws := v_X12_four_8) B.pre
  have hown : s.vm.findClass RX12 = some m.cls := findClass_of_methodNamed B.named
  have hlocks := B.notSynchronized
  subst hsz
  have iX12 : ∀ w ∈ wsX120, w ∈ v_X12_four_8 := (fun _ h => List.mem_cons_of_mem _ (List.mem_append_right _ (List.mem_append_left _ h)))
  have hD := hD0.self (sz := s.heap.size)
  generalize hAe : (va_A [(y, .inr (11, (mO a).set 6 (.int 8))), ((a 5), .inl (cB, 1600, .inl f0))] s.heap.size) = A at hD ⊢
  have hA : ∀ q : Nat, s.heap.size ≤ q → A q := fun q h => by rw [← hAe]; exact Or.inr h
  have hS : va_S A s.heap s.heap [] := va_S.rf
  have hl := lv_entry ([.ref y, .int p0]) (n := 3) (Nat.le_of_ble_eq_true rfl)
  rw [lg_entry_eq]
  generalize (lg_sl ([.ref y, .int p0]) ++ List.replicate (3 - (lg_sl ([.ref y, .int p0])).length) Slot.unset).toArray = ls at hl ⊢
  have hl : lv_has ls 3 [(0, .ref y), (1, .int p0)] := hl
  have hP : va_P g vwCl [(y, .inr (11, (mO a).set 6 (.int 8))), ((a 5), .inl (cB, 1600, .inl f0))] s.heap := hP
  refine lv_bipush (v := 24) hx hb dX12_four_0 (by decide) ?_
  refine lv_istore_n (lv' := [(2, .int 24), (0, .ref y), (1, .int p0)]) hx hb dX12_four_2 rfl hl (by decide) rfl (fun ls hl => ?_)
  refine lv_iload_n hx hb dX12_four_3 rfl (lv_at hl 0 rfl) ?_
  refine lv_if_lt (tgt := 36) hx hb dX12_four_4 (by decide) (fun c1 => absurd c1 (by decide)) (fun _ => ?_)
  refine lv_aload_n hx hb dX12_four_7 rfl (lv_at hl 1 rfl) ?_
  refine va_get (D := g) (ci := 11) (v := .ref (a 5)) (C := RX12) (T := TX12) (N := 56) hx hb hts iX12 hown hK hP 0 rfl rfl 5 (by decide) (hts (.fieldLink RX12 23 "CardsAtYuleModel" "tape" "[B") (List.mem_cons_of_mem _ (List.mem_append_left _ (List.mem_of_getElem? (i := 0) rfl)))) (fun _ h9 => h9) rfl dX12_four_8 ?_
  refine lv_aload_n hx hb dX12_four_11 rfl (lv_at hl 1 rfl) ?_
  refine va_get (D := g) (ci := 11) (v := .int 8) (C := RX12) (T := TX12) (N := 56) hx hb hts iX12 hown hK hP 0 rfl rfl 6 (by decide) (hts (.fieldLink RX12 124 "CardsAtYuleModel" "taped" "I") (List.mem_cons_of_mem _ (List.mem_append_left _ (List.mem_of_getElem? (i := 1) rfl)))) (fun _ h9 => h9) rfl dX12_four_12 ?_
  refine lv_iload_n hx hb dX12_four_15 rfl (lv_at hl 2 rfl) ?_
  refine lv_iload_n hx hb dX12_four_16 rfl (lv_at hl 0 rfl) ?_
  refine lv_ishr hx hb dX12_four_17 ?_
  refine lv_i2b (v := (p0 >>> (24 &&& (31 : Int32))).toInt8.toInt32) hx hb dX12_four_18 rfl ?_
  refine va_bast (D := g) hx hb hK hP hD hS 1 2 rfl rfl (vc_in (by decide)) dX12_four_19 (fun H locs hP hD hS => ?_)
  have hP : va_P g vwCl [(y, .inr (11, (mO a).set 6 (.int 8))), ((a 5), .inl (cB, 1600, .inl (upd f0 8 (vp_nar .byte ((p0 >>> (24 &&& (31 : Int32))).toInt8.toInt32)))))] H := hP
  have hD : va_D A [(y, .inr (11, (mO a).set 6 (.int 8))), ((a 5), .inl (cB, 1600, .inl (upd f0 8 (vp_nar .byte ((p0 >>> (24 &&& (31 : Int32))).toInt8.toInt32)))))] := hD
  refine lv_aload_n hx hb dX12_four_20 rfl (lv_at hl 1 rfl) ?_
  refine lv_dup hx hb dX12_four_21 rfl ?_
  refine va_get (D := g) (ci := 11) (v := .int 8) (C := RX12) (T := TX12) (N := 56) hx hb hts iX12 hown hK hP 0 rfl rfl 6 (by decide) (hts (.fieldLink RX12 124 "CardsAtYuleModel" "taped" "I") (List.mem_cons_of_mem _ (List.mem_append_left _ (List.mem_of_getElem? (i := 1) rfl)))) (fun _ h9 => h9) rfl dX12_four_22 ?_
  refine lv_iconst (v := 1) hx hb dX12_four_25 (by decide) ?_
  refine lv_iadd hx hb dX12_four_26 ?_
  refine lv_topi (nm_r (e' := 9) (by decide) ?_)
  refine va_put (D := g) (ci := 11) (v := .int 9) (ty := .int) (C := RX12) (T := TX12) (N := 56) hx hb hts iX12 tyX12 tyX12_ok nmX12 hown hK hP hD hS 0 rfl rfl 6 (by decide) (hts (.fieldLink RX12 124 "CardsAtYuleModel" "taped" "I") (List.mem_cons_of_mem _ (List.mem_append_left _ (List.mem_of_getElem? (i := 1) rfl)))) (fun _ h9 => h9) rfl (by decide +kernel) rfl rfl (Nat.le_of_ble_eq_true rfl) dX12_four_27 (fun H locs hP hD hS => ?_)
  have hP : va_P g vwCl [(y, .inr (11, (mO a).set 6 (.int 9))), ((a 5), .inl (cB, 1600, .inl (upd f0 8 (vp_nar .byte ((p0 >>> (24 &&& (31 : Int32))).toInt8.toInt32)))))] H := hP
  have hD : va_D A [(y, .inr (11, (mO a).set 6 (.int 9))), ((a 5), .inl (cB, 1600, .inl (upd f0 8 (vp_nar .byte ((p0 >>> (24 &&& (31 : Int32))).toInt8.toInt32)))))] := hD
  refine lv_iinc (v := 16) (lv' := [(2, .int 16), (0, .ref y), (1, .int p0)]) hx hb dX12_four_30 hl (k := 0) rfl (by decide) (by decide) rfl (fun ls hl => ?_)
  refine lv_goto (tgt := 3) hx hb dX12_four_33 (by decide) ?_
  refine lv_iload_n hx hb dX12_four_3 rfl (lv_at hl 0 rfl) ?_
  refine lv_if_lt (tgt := 36) hx hb dX12_four_4 (by decide) (fun c2 => absurd c2 (by decide)) (fun _ => ?_)
  refine lv_aload_n hx hb dX12_four_7 rfl (lv_at hl 1 rfl) ?_
  refine va_get (D := g) (ci := 11) (v := .ref (a 5)) (C := RX12) (T := TX12) (N := 56) hx hb hts iX12 hown hK hP 0 rfl rfl 5 (by decide) (hts (.fieldLink RX12 23 "CardsAtYuleModel" "tape" "[B") (List.mem_cons_of_mem _ (List.mem_append_left _ (List.mem_of_getElem? (i := 0) rfl)))) (fun _ h9 => h9) rfl dX12_four_8 ?_
  refine lv_aload_n hx hb dX12_four_11 rfl (lv_at hl 1 rfl) ?_
  refine va_get (D := g) (ci := 11) (v := .int 9) (C := RX12) (T := TX12) (N := 56) hx hb hts iX12 hown hK hP 0 rfl rfl 6 (by decide) (hts (.fieldLink RX12 124 "CardsAtYuleModel" "taped" "I") (List.mem_cons_of_mem _ (List.mem_append_left _ (List.mem_of_getElem? (i := 1) rfl)))) (fun _ h9 => h9) rfl dX12_four_12 ?_
  refine lv_iload_n hx hb dX12_four_15 rfl (lv_at hl 2 rfl) ?_
  refine lv_iload_n hx hb dX12_four_16 rfl (lv_at hl 0 rfl) ?_
  refine lv_ishr hx hb dX12_four_17 ?_
  refine lv_i2b (v := (p0 >>> (16 &&& (31 : Int32))).toInt8.toInt32) hx hb dX12_four_18 rfl ?_
  refine va_bast (D := g) hx hb hK hP hD hS 1 2 rfl rfl (vc_in (by decide)) dX12_four_19 (fun H locs hP hD hS => ?_)
  have hP : va_P g vwCl [(y, .inr (11, (mO a).set 6 (.int 9))), ((a 5), .inl (cB, 1600, .inl (upd (upd f0 8 (vp_nar .byte ((p0 >>> (24 &&& (31 : Int32))).toInt8.toInt32))) 9 (vp_nar .byte ((p0 >>> (16 &&& (31 : Int32))).toInt8.toInt32)))))] H := hP
  have hD : va_D A [(y, .inr (11, (mO a).set 6 (.int 9))), ((a 5), .inl (cB, 1600, .inl (upd (upd f0 8 (vp_nar .byte ((p0 >>> (24 &&& (31 : Int32))).toInt8.toInt32))) 9 (vp_nar .byte ((p0 >>> (16 &&& (31 : Int32))).toInt8.toInt32)))))] := hD
  refine lv_aload_n hx hb dX12_four_20 rfl (lv_at hl 1 rfl) ?_
  refine lv_dup hx hb dX12_four_21 rfl ?_
  refine va_get (D := g) (ci := 11) (v := .int 9) (C := RX12) (T := TX12) (N := 56) hx hb hts iX12 hown hK hP 0 rfl rfl 6 (by decide) (hts (.fieldLink RX12 124 "CardsAtYuleModel" "taped" "I") (List.mem_cons_of_mem _ (List.mem_append_left _ (List.mem_of_getElem? (i := 1) rfl)))) (fun _ h9 => h9) rfl dX12_four_22 ?_
  refine lv_iconst (v := 1) hx hb dX12_four_25 (by decide) ?_
  refine lv_iadd hx hb dX12_four_26 ?_
  refine lv_topi (nm_r (e' := 10) (by decide) ?_)
  refine va_put (D := g) (ci := 11) (v := .int 10) (ty := .int) (C := RX12) (T := TX12) (N := 56) hx hb hts iX12 tyX12 tyX12_ok nmX12 hown hK hP hD hS 0 rfl rfl 6 (by decide) (hts (.fieldLink RX12 124 "CardsAtYuleModel" "taped" "I") (List.mem_cons_of_mem _ (List.mem_append_left _ (List.mem_of_getElem? (i := 1) rfl)))) (fun _ h9 => h9) rfl (by decide +kernel) rfl rfl (Nat.le_of_ble_eq_true rfl) dX12_four_27 (fun H locs hP hD hS => ?_)
  have hP : va_P g vwCl [(y, .inr (11, (mO a).set 6 (.int 10))), ((a 5), .inl (cB, 1600, .inl (upd (upd f0 8 (vp_nar .byte ((p0 >>> (24 &&& (31 : Int32))).toInt8.toInt32))) 9 (vp_nar .byte ((p0 >>> (16 &&& (31 : Int32))).toInt8.toInt32)))))] H := hP
  have hD : va_D A [(y, .inr (11, (mO a).set 6 (.int 10))), ((a 5), .inl (cB, 1600, .inl (upd (upd f0 8 (vp_nar .byte ((p0 >>> (24 &&& (31 : Int32))).toInt8.toInt32))) 9 (vp_nar .byte ((p0 >>> (16 &&& (31 : Int32))).toInt8.toInt32)))))] := hD
  refine lv_iinc (v := 8) (lv' := [(2, .int 8), (0, .ref y), (1, .int p0)]) hx hb dX12_four_30 hl (k := 0) rfl (by decide) (by decide) rfl (fun ls hl => ?_)
  refine lv_goto (tgt := 3) hx hb dX12_four_33 (by decide) ?_
  refine lv_iload_n hx hb dX12_four_3 rfl (lv_at hl 0 rfl) ?_
  refine lv_if_lt (tgt := 36) hx hb dX12_four_4 (by decide) (fun c3 => absurd c3 (by decide)) (fun _ => ?_)
  refine lv_aload_n hx hb dX12_four_7 rfl (lv_at hl 1 rfl) ?_
  refine va_get (D := g) (ci := 11) (v := .ref (a 5)) (C := RX12) (T := TX12) (N := 56) hx hb hts iX12 hown hK hP 0 rfl rfl 5 (by decide) (hts (.fieldLink RX12 23 "CardsAtYuleModel" "tape" "[B") (List.mem_cons_of_mem _ (List.mem_append_left _ (List.mem_of_getElem? (i := 0) rfl)))) (fun _ h9 => h9) rfl dX12_four_8 ?_
  refine lv_aload_n hx hb dX12_four_11 rfl (lv_at hl 1 rfl) ?_
  refine va_get (D := g) (ci := 11) (v := .int 10) (C := RX12) (T := TX12) (N := 56) hx hb hts iX12 hown hK hP 0 rfl rfl 6 (by decide) (hts (.fieldLink RX12 124 "CardsAtYuleModel" "taped" "I") (List.mem_cons_of_mem _ (List.mem_append_left _ (List.mem_of_getElem? (i := 1) rfl)))) (fun _ h9 => h9) rfl dX12_four_12 ?_
  refine lv_iload_n hx hb dX12_four_15 rfl (lv_at hl 2 rfl) ?_
  refine lv_iload_n hx hb dX12_four_16 rfl (lv_at hl 0 rfl) ?_
  refine lv_ishr hx hb dX12_four_17 ?_
  refine lv_i2b (v := (p0 >>> (8 &&& (31 : Int32))).toInt8.toInt32) hx hb dX12_four_18 rfl ?_
  refine va_bast (D := g) hx hb hK hP hD hS 1 2 rfl rfl (vc_in (by decide)) dX12_four_19 (fun H locs hP hD hS => ?_)
  have hP : va_P g vwCl [(y, .inr (11, (mO a).set 6 (.int 10))), ((a 5), .inl (cB, 1600, .inl (upd (upd (upd f0 8 (vp_nar .byte ((p0 >>> (24 &&& (31 : Int32))).toInt8.toInt32))) 9 (vp_nar .byte ((p0 >>> (16 &&& (31 : Int32))).toInt8.toInt32))) 10 (vp_nar .byte ((p0 >>> (8 &&& (31 : Int32))).toInt8.toInt32)))))] H := hP
  have hD : va_D A [(y, .inr (11, (mO a).set 6 (.int 10))), ((a 5), .inl (cB, 1600, .inl (upd (upd (upd f0 8 (vp_nar .byte ((p0 >>> (24 &&& (31 : Int32))).toInt8.toInt32))) 9 (vp_nar .byte ((p0 >>> (16 &&& (31 : Int32))).toInt8.toInt32))) 10 (vp_nar .byte ((p0 >>> (8 &&& (31 : Int32))).toInt8.toInt32)))))] := hD
  refine lv_aload_n hx hb dX12_four_20 rfl (lv_at hl 1 rfl) ?_
  refine lv_dup hx hb dX12_four_21 rfl ?_
  refine va_get (D := g) (ci := 11) (v := .int 10) (C := RX12) (T := TX12) (N := 56) hx hb hts iX12 hown hK hP 0 rfl rfl 6 (by decide) (hts (.fieldLink RX12 124 "CardsAtYuleModel" "taped" "I") (List.mem_cons_of_mem _ (List.mem_append_left _ (List.mem_of_getElem? (i := 1) rfl)))) (fun _ h9 => h9) rfl dX12_four_22 ?_
  refine lv_iconst (v := 1) hx hb dX12_four_25 (by decide) ?_
  refine lv_iadd hx hb dX12_four_26 ?_
  refine lv_topi (nm_r (e' := 11) (by decide) ?_)
  refine va_put (D := g) (ci := 11) (v := .int 11) (ty := .int) (C := RX12) (T := TX12) (N := 56) hx hb hts iX12 tyX12 tyX12_ok nmX12 hown hK hP hD hS 0 rfl rfl 6 (by decide) (hts (.fieldLink RX12 124 "CardsAtYuleModel" "taped" "I") (List.mem_cons_of_mem _ (List.mem_append_left _ (List.mem_of_getElem? (i := 1) rfl)))) (fun _ h9 => h9) rfl (by decide +kernel) rfl rfl (Nat.le_of_ble_eq_true rfl) dX12_four_27 (fun H locs hP hD hS => ?_)
  have hP : va_P g vwCl [(y, .inr (11, (mO a).set 6 (.int 11))), ((a 5), .inl (cB, 1600, .inl (upd (upd (upd f0 8 (vp_nar .byte ((p0 >>> (24 &&& (31 : Int32))).toInt8.toInt32))) 9 (vp_nar .byte ((p0 >>> (16 &&& (31 : Int32))).toInt8.toInt32))) 10 (vp_nar .byte ((p0 >>> (8 &&& (31 : Int32))).toInt8.toInt32)))))] H := hP
  have hD : va_D A [(y, .inr (11, (mO a).set 6 (.int 11))), ((a 5), .inl (cB, 1600, .inl (upd (upd (upd f0 8 (vp_nar .byte ((p0 >>> (24 &&& (31 : Int32))).toInt8.toInt32))) 9 (vp_nar .byte ((p0 >>> (16 &&& (31 : Int32))).toInt8.toInt32))) 10 (vp_nar .byte ((p0 >>> (8 &&& (31 : Int32))).toInt8.toInt32)))))] := hD
  refine lv_iinc (v := 0) (lv' := [(2, .int 0), (0, .ref y), (1, .int p0)]) hx hb dX12_four_30 hl (k := 0) rfl (by decide) (by decide) rfl (fun ls hl => ?_)
  refine lv_goto (tgt := 3) hx hb dX12_four_33 (by decide) ?_
  refine lv_iload_n hx hb dX12_four_3 rfl (lv_at hl 0 rfl) ?_
  refine lv_if_lt (tgt := 36) hx hb dX12_four_4 (by decide) (fun c4 => absurd c4 (by decide)) (fun _ => ?_)
  refine lv_aload_n hx hb dX12_four_7 rfl (lv_at hl 1 rfl) ?_
  refine va_get (D := g) (ci := 11) (v := .ref (a 5)) (C := RX12) (T := TX12) (N := 56) hx hb hts iX12 hown hK hP 0 rfl rfl 5 (by decide) (hts (.fieldLink RX12 23 "CardsAtYuleModel" "tape" "[B") (List.mem_cons_of_mem _ (List.mem_append_left _ (List.mem_of_getElem? (i := 0) rfl)))) (fun _ h9 => h9) rfl dX12_four_8 ?_
  refine lv_aload_n hx hb dX12_four_11 rfl (lv_at hl 1 rfl) ?_
  refine va_get (D := g) (ci := 11) (v := .int 11) (C := RX12) (T := TX12) (N := 56) hx hb hts iX12 hown hK hP 0 rfl rfl 6 (by decide) (hts (.fieldLink RX12 124 "CardsAtYuleModel" "taped" "I") (List.mem_cons_of_mem _ (List.mem_append_left _ (List.mem_of_getElem? (i := 1) rfl)))) (fun _ h9 => h9) rfl dX12_four_12 ?_
  refine lv_iload_n hx hb dX12_four_15 rfl (lv_at hl 2 rfl) ?_
  refine lv_iload_n hx hb dX12_four_16 rfl (lv_at hl 0 rfl) ?_
  refine lv_ishr hx hb dX12_four_17 ?_
  refine lv_i2b (v := (p0 >>> (0 &&& (31 : Int32))).toInt8.toInt32) hx hb dX12_four_18 rfl ?_
  refine va_bast (D := g) hx hb hK hP hD hS 1 2 rfl rfl (vc_in (by decide)) dX12_four_19 (fun H locs hP hD hS => ?_)
  have hP : va_P g vwCl [(y, .inr (11, (mO a).set 6 (.int 11))), ((a 5), .inl (cB, 1600, .inl (upd (upd (upd (upd f0 8 (vp_nar .byte ((p0 >>> (24 &&& (31 : Int32))).toInt8.toInt32))) 9 (vp_nar .byte ((p0 >>> (16 &&& (31 : Int32))).toInt8.toInt32))) 10 (vp_nar .byte ((p0 >>> (8 &&& (31 : Int32))).toInt8.toInt32))) 11 (vp_nar .byte ((p0 >>> (0 &&& (31 : Int32))).toInt8.toInt32)))))] H := hP
  have hD : va_D A [(y, .inr (11, (mO a).set 6 (.int 11))), ((a 5), .inl (cB, 1600, .inl (upd (upd (upd (upd f0 8 (vp_nar .byte ((p0 >>> (24 &&& (31 : Int32))).toInt8.toInt32))) 9 (vp_nar .byte ((p0 >>> (16 &&& (31 : Int32))).toInt8.toInt32))) 10 (vp_nar .byte ((p0 >>> (8 &&& (31 : Int32))).toInt8.toInt32))) 11 (vp_nar .byte ((p0 >>> (0 &&& (31 : Int32))).toInt8.toInt32)))))] := hD
  refine lv_aload_n hx hb dX12_four_20 rfl (lv_at hl 1 rfl) ?_
  refine lv_dup hx hb dX12_four_21 rfl ?_
  refine va_get (D := g) (ci := 11) (v := .int 11) (C := RX12) (T := TX12) (N := 56) hx hb hts iX12 hown hK hP 0 rfl rfl 6 (by decide) (hts (.fieldLink RX12 124 "CardsAtYuleModel" "taped" "I") (List.mem_cons_of_mem _ (List.mem_append_left _ (List.mem_of_getElem? (i := 1) rfl)))) (fun _ h9 => h9) rfl dX12_four_22 ?_
  refine lv_iconst (v := 1) hx hb dX12_four_25 (by decide) ?_
  refine lv_iadd hx hb dX12_four_26 ?_
  refine lv_topi (nm_r (e' := 12) (by decide) ?_)
  refine va_put (D := g) (ci := 11) (v := .int 12) (ty := .int) (C := RX12) (T := TX12) (N := 56) hx hb hts iX12 tyX12 tyX12_ok nmX12 hown hK hP hD hS 0 rfl rfl 6 (by decide) (hts (.fieldLink RX12 124 "CardsAtYuleModel" "taped" "I") (List.mem_cons_of_mem _ (List.mem_append_left _ (List.mem_of_getElem? (i := 1) rfl)))) (fun _ h9 => h9) rfl (by decide +kernel) rfl rfl (Nat.le_of_ble_eq_true rfl) dX12_four_27 (fun H locs hP hD hS => ?_)
  have hP : va_P g vwCl [(y, .inr (11, (mO a).set 6 (.int 12))), ((a 5), .inl (cB, 1600, .inl (upd (upd (upd (upd f0 8 (vp_nar .byte ((p0 >>> (24 &&& (31 : Int32))).toInt8.toInt32))) 9 (vp_nar .byte ((p0 >>> (16 &&& (31 : Int32))).toInt8.toInt32))) 10 (vp_nar .byte ((p0 >>> (8 &&& (31 : Int32))).toInt8.toInt32))) 11 (vp_nar .byte ((p0 >>> (0 &&& (31 : Int32))).toInt8.toInt32)))))] H := hP
  have hD : va_D A [(y, .inr (11, (mO a).set 6 (.int 12))), ((a 5), .inl (cB, 1600, .inl (upd (upd (upd (upd f0 8 (vp_nar .byte ((p0 >>> (24 &&& (31 : Int32))).toInt8.toInt32))) 9 (vp_nar .byte ((p0 >>> (16 &&& (31 : Int32))).toInt8.toInt32))) 10 (vp_nar .byte ((p0 >>> (8 &&& (31 : Int32))).toInt8.toInt32))) 11 (vp_nar .byte ((p0 >>> (0 &&& (31 : Int32))).toInt8.toInt32)))))] := hD
  refine lv_iinc (v := (-8)) (lv' := [(2, .int (-8)), (0, .ref y), (1, .int p0)]) hx hb dX12_four_30 hl (k := 0) rfl (by decide) (by decide) rfl (fun ls hl => ?_)
  refine lv_goto (tgt := 3) hx hb dX12_four_33 (by decide) ?_
  refine lv_iload_n hx hb dX12_four_3 rfl (lv_at hl 0 rfl) ?_
  refine lv_if_lt (tgt := 36) hx hb dX12_four_4 (by decide) (fun _ => ?_) (fun c5 => absurd c5 (by decide))
  have hP9 := hP.sub (ws' := [(y, .inr (11, (mO a).set 6 (.int 12))), ((a 5), .inl (cB, 1600, .inl (upd (upd (upd (upd f0 8 (vp_nar .byte ((p0 >>> (24 &&& (31 : Int32))).toInt8.toInt32))) 9 (vp_nar .byte ((p0 >>> (16 &&& (31 : Int32))).toInt8.toInt32))) 10 (vp_nar .byte ((p0 >>> (8 &&& (31 : Int32))).toInt8.toInt32))) 11 (vp_nar .byte ((p0 >>> (0 &&& (31 : Int32))).toInt8.toInt32)))))]) [0, 1] rfl
  have hD9 := hD.sub (ws' := [(y, .inr (11, (mO a).set 6 (.int 12))), ((a 5), .inl (cB, 1600, .inl (upd (upd (upd (upd f0 8 (vp_nar .byte ((p0 >>> (24 &&& (31 : Int32))).toInt8.toInt32))) 9 (vp_nar .byte ((p0 >>> (16 &&& (31 : Int32))).toInt8.toInt32))) 10 (vp_nar .byte ((p0 >>> (8 &&& (31 : Int32))).toInt8.toInt32))) 11 (vp_nar .byte ((p0 >>> (0 &&& (31 : Int32))).toInt8.toInt32)))))]) [0, 1] (by decide) rfl
  exact W.vret hx hb hr (fun t ht hW => ⟨⟨(upd (upd (upd (upd f0 8 (vp_nar .byte ((p0 >>> (24 &&& (31 : Int32))).toInt8.toInt32))) 9 (vp_nar .byte ((p0 >>> (16 &&& (31 : Int32))).toInt8.toInt32))) 10 (vp_nar .byte ((p0 >>> (8 &&& (31 : Int32))).toInt8.toInt32))) 11 (vp_nar .byte ((p0 >>> (0 &&& (31 : Int32))).toInt8.toInt32))), rfl, trivial, by rw [ht]; exact hP9, va_K.moved hW.alike hK, hD9⟩, hS.F ht⟩) hS.2.2 dX12_four_36
def v_X12_four_12 : List Cond := .code yX12_four cX12_four 3 none :: (([.fieldLink RX12 23 "CardsAtYuleModel" "tape" "[B", .fieldLink RX12 124 "CardsAtYuleModel" "taped" "I"] : List Cond) ++ (wsX120 ++ ([] : List Cond)))
theorem good_v_X12_four_12 : v_X12_four_12.all goodWord = true := ga_c (by decide +kernel) (ga_a (by decide +kernel) (ga_a good_wsX120 rfl))
set_option maxHeartbeats 4000000 in
set_option maxRecDepth 100000 in
theorem k_X12_four_12 (l : Launch) (g : va_G) (cI cJ cB cZ cL : ClassId) (y : Nat) (a : Nat → Nat) (f0 : Nat → Int32) (p0 : Int32) (sz : Nat)  : Met l yX12_four v_X12_four_12 ({ frames := 0, cells := 0, slots := 0, locals := 0 }) (va_Pc [.ref y, .int p0] (pRW g (tyT cI cJ cB cZ cL) [(y, .inr (11, (mO a).set 6 (.int 12))), ((a 5), .inl (cB, 1600, .inl f0))] sz)) (va_Qv (fun (u : Nat → Int32) => match u with | f1 => True) (fun (u : Nat → Int32) (t : State) => bRW g (tyT cI cJ cB cZ cL) (va_A [(y, .inr (11, (mO a).set 6 (.int 12))), ((a 5), .inl (cB, 1600, .inl f0))] sz) (match u with | f1 => [(y, .inr (11, (mO a).set 6 (.int 16))), ((a 5), .inl (cB, 1600, .inl f1))]) t) (va_A [(y, .inr (11, (mO a).set 6 (.int 12))), ((a 5), .inl (cB, 1600, .inl f0))] sz)) 0 0 (va_A [(y, .inr (11, (mO a).set 6 (.int 12))), ((a 5), .inl (cB, 1600, .inl f0))] sz) := by
  refine Met.ofW (cc := cX12_four) (maxL := 3) (ret := none) (by decide) rfl ?_
  intro p e s m args below meth c s₁ B hml hv
  obtain ⟨rfl, hsz, hP, hK, hD0⟩ := hv
  have hx := B.exec
  have hb := B.bytes
  have hr := B.returns
  have hts := atoms_spec (ws := v_X12_four_12) B.pre
  have hown : s.vm.findClass RX12 = some m.cls := findClass_of_methodNamed B.named
  have hlocks := B.notSynchronized
  subst hsz
  have iX12 : ∀ w ∈ wsX120, w ∈ v_X12_four_12 := (fun _ h => List.mem_cons_of_mem _ (List.mem_append_right _ (List.mem_append_left _ h)))
  have hD := hD0.self (sz := s.heap.size)
  generalize hAe : (va_A [(y, .inr (11, (mO a).set 6 (.int 12))), ((a 5), .inl (cB, 1600, .inl f0))] s.heap.size) = A at hD ⊢
  have hA : ∀ q : Nat, s.heap.size ≤ q → A q := fun q h => by rw [← hAe]; exact Or.inr h
  have hS : va_S A s.heap s.heap [] := va_S.rf
  have hl := lv_entry ([.ref y, .int p0]) (n := 3) (Nat.le_of_ble_eq_true rfl)
  rw [lg_entry_eq]
  generalize (lg_sl ([.ref y, .int p0]) ++ List.replicate (3 - (lg_sl ([.ref y, .int p0])).length) Slot.unset).toArray = ls at hl ⊢
  have hl : lv_has ls 3 [(0, .ref y), (1, .int p0)] := hl
  have hP : va_P g vwCl [(y, .inr (11, (mO a).set 6 (.int 12))), ((a 5), .inl (cB, 1600, .inl f0))] s.heap := hP
  refine lv_bipush (v := 24) hx hb dX12_four_0 (by decide) ?_
  refine lv_istore_n (lv' := [(2, .int 24), (0, .ref y), (1, .int p0)]) hx hb dX12_four_2 rfl hl (by decide) rfl (fun ls hl => ?_)
  refine lv_iload_n hx hb dX12_four_3 rfl (lv_at hl 0 rfl) ?_
  refine lv_if_lt (tgt := 36) hx hb dX12_four_4 (by decide) (fun c1 => absurd c1 (by decide)) (fun _ => ?_)
  refine lv_aload_n hx hb dX12_four_7 rfl (lv_at hl 1 rfl) ?_
  refine va_get (D := g) (ci := 11) (v := .ref (a 5)) (C := RX12) (T := TX12) (N := 56) hx hb hts iX12 hown hK hP 0 rfl rfl 5 (by decide) (hts (.fieldLink RX12 23 "CardsAtYuleModel" "tape" "[B") (List.mem_cons_of_mem _ (List.mem_append_left _ (List.mem_of_getElem? (i := 0) rfl)))) (fun _ h9 => h9) rfl dX12_four_8 ?_
  refine lv_aload_n hx hb dX12_four_11 rfl (lv_at hl 1 rfl) ?_
  refine va_get (D := g) (ci := 11) (v := .int 12) (C := RX12) (T := TX12) (N := 56) hx hb hts iX12 hown hK hP 0 rfl rfl 6 (by decide) (hts (.fieldLink RX12 124 "CardsAtYuleModel" "taped" "I") (List.mem_cons_of_mem _ (List.mem_append_left _ (List.mem_of_getElem? (i := 1) rfl)))) (fun _ h9 => h9) rfl dX12_four_12 ?_
  refine lv_iload_n hx hb dX12_four_15 rfl (lv_at hl 2 rfl) ?_
  refine lv_iload_n hx hb dX12_four_16 rfl (lv_at hl 0 rfl) ?_
  refine lv_ishr hx hb dX12_four_17 ?_
  refine lv_i2b (v := (p0 >>> (24 &&& (31 : Int32))).toInt8.toInt32) hx hb dX12_four_18 rfl ?_
  refine va_bast (D := g) hx hb hK hP hD hS 1 2 rfl rfl (vc_in (by decide)) dX12_four_19 (fun H locs hP hD hS => ?_)
  have hP : va_P g vwCl [(y, .inr (11, (mO a).set 6 (.int 12))), ((a 5), .inl (cB, 1600, .inl (upd f0 12 (vp_nar .byte ((p0 >>> (24 &&& (31 : Int32))).toInt8.toInt32)))))] H := hP
  have hD : va_D A [(y, .inr (11, (mO a).set 6 (.int 12))), ((a 5), .inl (cB, 1600, .inl (upd f0 12 (vp_nar .byte ((p0 >>> (24 &&& (31 : Int32))).toInt8.toInt32)))))] := hD
  refine lv_aload_n hx hb dX12_four_20 rfl (lv_at hl 1 rfl) ?_
  refine lv_dup hx hb dX12_four_21 rfl ?_
  refine va_get (D := g) (ci := 11) (v := .int 12) (C := RX12) (T := TX12) (N := 56) hx hb hts iX12 hown hK hP 0 rfl rfl 6 (by decide) (hts (.fieldLink RX12 124 "CardsAtYuleModel" "taped" "I") (List.mem_cons_of_mem _ (List.mem_append_left _ (List.mem_of_getElem? (i := 1) rfl)))) (fun _ h9 => h9) rfl dX12_four_22 ?_
  refine lv_iconst (v := 1) hx hb dX12_four_25 (by decide) ?_
  refine lv_iadd hx hb dX12_four_26 ?_
  refine lv_topi (nm_r (e' := 13) (by decide) ?_)
  refine va_put (D := g) (ci := 11) (v := .int 13) (ty := .int) (C := RX12) (T := TX12) (N := 56) hx hb hts iX12 tyX12 tyX12_ok nmX12 hown hK hP hD hS 0 rfl rfl 6 (by decide) (hts (.fieldLink RX12 124 "CardsAtYuleModel" "taped" "I") (List.mem_cons_of_mem _ (List.mem_append_left _ (List.mem_of_getElem? (i := 1) rfl)))) (fun _ h9 => h9) rfl (by decide +kernel) rfl rfl (Nat.le_of_ble_eq_true rfl) dX12_four_27 (fun H locs hP hD hS => ?_)
  have hP : va_P g vwCl [(y, .inr (11, (mO a).set 6 (.int 13))), ((a 5), .inl (cB, 1600, .inl (upd f0 12 (vp_nar .byte ((p0 >>> (24 &&& (31 : Int32))).toInt8.toInt32)))))] H := hP
  have hD : va_D A [(y, .inr (11, (mO a).set 6 (.int 13))), ((a 5), .inl (cB, 1600, .inl (upd f0 12 (vp_nar .byte ((p0 >>> (24 &&& (31 : Int32))).toInt8.toInt32)))))] := hD
  refine lv_iinc (v := 16) (lv' := [(2, .int 16), (0, .ref y), (1, .int p0)]) hx hb dX12_four_30 hl (k := 0) rfl (by decide) (by decide) rfl (fun ls hl => ?_)
  refine lv_goto (tgt := 3) hx hb dX12_four_33 (by decide) ?_
  refine lv_iload_n hx hb dX12_four_3 rfl (lv_at hl 0 rfl) ?_
  refine lv_if_lt (tgt := 36) hx hb dX12_four_4 (by decide) (fun c2 => absurd c2 (by decide)) (fun _ => ?_)
  refine lv_aload_n hx hb dX12_four_7 rfl (lv_at hl 1 rfl) ?_
  refine va_get (D := g) (ci := 11) (v := .ref (a 5)) (C := RX12) (T := TX12) (N := 56) hx hb hts iX12 hown hK hP 0 rfl rfl 5 (by decide) (hts (.fieldLink RX12 23 "CardsAtYuleModel" "tape" "[B") (List.mem_cons_of_mem _ (List.mem_append_left _ (List.mem_of_getElem? (i := 0) rfl)))) (fun _ h9 => h9) rfl dX12_four_8 ?_
  refine lv_aload_n hx hb dX12_four_11 rfl (lv_at hl 1 rfl) ?_
  refine va_get (D := g) (ci := 11) (v := .int 13) (C := RX12) (T := TX12) (N := 56) hx hb hts iX12 hown hK hP 0 rfl rfl 6 (by decide) (hts (.fieldLink RX12 124 "CardsAtYuleModel" "taped" "I") (List.mem_cons_of_mem _ (List.mem_append_left _ (List.mem_of_getElem? (i := 1) rfl)))) (fun _ h9 => h9) rfl dX12_four_12 ?_
  refine lv_iload_n hx hb dX12_four_15 rfl (lv_at hl 2 rfl) ?_
  refine lv_iload_n hx hb dX12_four_16 rfl (lv_at hl 0 rfl) ?_
  refine lv_ishr hx hb dX12_four_17 ?_
  refine lv_i2b (v := (p0 >>> (16 &&& (31 : Int32))).toInt8.toInt32) hx hb dX12_four_18 rfl ?_
  refine va_bast (D := g) hx hb hK hP hD hS 1 2 rfl rfl (vc_in (by decide)) dX12_four_19 (fun H locs hP hD hS => ?_)
  have hP : va_P g vwCl [(y, .inr (11, (mO a).set 6 (.int 13))), ((a 5), .inl (cB, 1600, .inl (upd (upd f0 12 (vp_nar .byte ((p0 >>> (24 &&& (31 : Int32))).toInt8.toInt32))) 13 (vp_nar .byte ((p0 >>> (16 &&& (31 : Int32))).toInt8.toInt32)))))] H := hP
  have hD : va_D A [(y, .inr (11, (mO a).set 6 (.int 13))), ((a 5), .inl (cB, 1600, .inl (upd (upd f0 12 (vp_nar .byte ((p0 >>> (24 &&& (31 : Int32))).toInt8.toInt32))) 13 (vp_nar .byte ((p0 >>> (16 &&& (31 : Int32))).toInt8.toInt32)))))] := hD
  refine lv_aload_n hx hb dX12_four_20 rfl (lv_at hl 1 rfl) ?_
  refine lv_dup hx hb dX12_four_21 rfl ?_
  refine va_get (D := g) (ci := 11) (v := .int 13) (C := RX12) (T := TX12) (N := 56) hx hb hts iX12 hown hK hP 0 rfl rfl 6 (by decide) (hts (.fieldLink RX12 124 "CardsAtYuleModel" "taped" "I") (List.mem_cons_of_mem _ (List.mem_append_left _ (List.mem_of_getElem? (i := 1) rfl)))) (fun _ h9 => h9) rfl dX12_four_22 ?_
  refine lv_iconst (v := 1) hx hb dX12_four_25 (by decide) ?_
  refine lv_iadd hx hb dX12_four_26 ?_
  refine lv_topi (nm_r (e' := 14) (by decide) ?_)
  refine va_put (D := g) (ci := 11) (v := .int 14) (ty := .int) (C := RX12) (T := TX12) (N := 56) hx hb hts iX12 tyX12 tyX12_ok nmX12 hown hK hP hD hS 0 rfl rfl 6 (by decide) (hts (.fieldLink RX12 124 "CardsAtYuleModel" "taped" "I") (List.mem_cons_of_mem _ (List.mem_append_left _ (List.mem_of_getElem? (i := 1) rfl)))) (fun _ h9 => h9) rfl (by decide +kernel) rfl rfl (Nat.le_of_ble_eq_true rfl) dX12_four_27 (fun H locs hP hD hS => ?_)
  have hP : va_P g vwCl [(y, .inr (11, (mO a).set 6 (.int 14))), ((a 5), .inl (cB, 1600, .inl (upd (upd f0 12 (vp_nar .byte ((p0 >>> (24 &&& (31 : Int32))).toInt8.toInt32))) 13 (vp_nar .byte ((p0 >>> (16 &&& (31 : Int32))).toInt8.toInt32)))))] H := hP
  have hD : va_D A [(y, .inr (11, (mO a).set 6 (.int 14))), ((a 5), .inl (cB, 1600, .inl (upd (upd f0 12 (vp_nar .byte ((p0 >>> (24 &&& (31 : Int32))).toInt8.toInt32))) 13 (vp_nar .byte ((p0 >>> (16 &&& (31 : Int32))).toInt8.toInt32)))))] := hD
  refine lv_iinc (v := 8) (lv' := [(2, .int 8), (0, .ref y), (1, .int p0)]) hx hb dX12_four_30 hl (k := 0) rfl (by decide) (by decide) rfl (fun ls hl => ?_)
  refine lv_goto (tgt := 3) hx hb dX12_four_33 (by decide) ?_
  refine lv_iload_n hx hb dX12_four_3 rfl (lv_at hl 0 rfl) ?_
  refine lv_if_lt (tgt := 36) hx hb dX12_four_4 (by decide) (fun c3 => absurd c3 (by decide)) (fun _ => ?_)
  refine lv_aload_n hx hb dX12_four_7 rfl (lv_at hl 1 rfl) ?_
  refine va_get (D := g) (ci := 11) (v := .ref (a 5)) (C := RX12) (T := TX12) (N := 56) hx hb hts iX12 hown hK hP 0 rfl rfl 5 (by decide) (hts (.fieldLink RX12 23 "CardsAtYuleModel" "tape" "[B") (List.mem_cons_of_mem _ (List.mem_append_left _ (List.mem_of_getElem? (i := 0) rfl)))) (fun _ h9 => h9) rfl dX12_four_8 ?_
  refine lv_aload_n hx hb dX12_four_11 rfl (lv_at hl 1 rfl) ?_
  refine va_get (D := g) (ci := 11) (v := .int 14) (C := RX12) (T := TX12) (N := 56) hx hb hts iX12 hown hK hP 0 rfl rfl 6 (by decide) (hts (.fieldLink RX12 124 "CardsAtYuleModel" "taped" "I") (List.mem_cons_of_mem _ (List.mem_append_left _ (List.mem_of_getElem? (i := 1) rfl)))) (fun _ h9 => h9) rfl dX12_four_12 ?_
  refine lv_iload_n hx hb dX12_four_15 rfl (lv_at hl 2 rfl) ?_
  refine lv_iload_n hx hb dX12_four_16 rfl (lv_at hl 0 rfl) ?_
  refine lv_ishr hx hb dX12_four_17 ?_
  refine lv_i2b (v := (p0 >>> (8 &&& (31 : Int32))).toInt8.toInt32) hx hb dX12_four_18 rfl ?_
  refine va_bast (D := g) hx hb hK hP hD hS 1 2 rfl rfl (vc_in (by decide)) dX12_four_19 (fun H locs hP hD hS => ?_)
  have hP : va_P g vwCl [(y, .inr (11, (mO a).set 6 (.int 14))), ((a 5), .inl (cB, 1600, .inl (upd (upd (upd f0 12 (vp_nar .byte ((p0 >>> (24 &&& (31 : Int32))).toInt8.toInt32))) 13 (vp_nar .byte ((p0 >>> (16 &&& (31 : Int32))).toInt8.toInt32))) 14 (vp_nar .byte ((p0 >>> (8 &&& (31 : Int32))).toInt8.toInt32)))))] H := hP
  have hD : va_D A [(y, .inr (11, (mO a).set 6 (.int 14))), ((a 5), .inl (cB, 1600, .inl (upd (upd (upd f0 12 (vp_nar .byte ((p0 >>> (24 &&& (31 : Int32))).toInt8.toInt32))) 13 (vp_nar .byte ((p0 >>> (16 &&& (31 : Int32))).toInt8.toInt32))) 14 (vp_nar .byte ((p0 >>> (8 &&& (31 : Int32))).toInt8.toInt32)))))] := hD
  refine lv_aload_n hx hb dX12_four_20 rfl (lv_at hl 1 rfl) ?_
  refine lv_dup hx hb dX12_four_21 rfl ?_
  refine va_get (D := g) (ci := 11) (v := .int 14) (C := RX12) (T := TX12) (N := 56) hx hb hts iX12 hown hK hP 0 rfl rfl 6 (by decide) (hts (.fieldLink RX12 124 "CardsAtYuleModel" "taped" "I") (List.mem_cons_of_mem _ (List.mem_append_left _ (List.mem_of_getElem? (i := 1) rfl)))) (fun _ h9 => h9) rfl dX12_four_22 ?_
  refine lv_iconst (v := 1) hx hb dX12_four_25 (by decide) ?_
  refine lv_iadd hx hb dX12_four_26 ?_
  refine lv_topi (nm_r (e' := 15) (by decide) ?_)
  refine va_put (D := g) (ci := 11) (v := .int 15) (ty := .int) (C := RX12) (T := TX12) (N := 56) hx hb hts iX12 tyX12 tyX12_ok nmX12 hown hK hP hD hS 0 rfl rfl 6 (by decide) (hts (.fieldLink RX12 124 "CardsAtYuleModel" "taped" "I") (List.mem_cons_of_mem _ (List.mem_append_left _ (List.mem_of_getElem? (i := 1) rfl)))) (fun _ h9 => h9) rfl (by decide +kernel) rfl rfl (Nat.le_of_ble_eq_true rfl) dX12_four_27 (fun H locs hP hD hS => ?_)
  have hP : va_P g vwCl [(y, .inr (11, (mO a).set 6 (.int 15))), ((a 5), .inl (cB, 1600, .inl (upd (upd (upd f0 12 (vp_nar .byte ((p0 >>> (24 &&& (31 : Int32))).toInt8.toInt32))) 13 (vp_nar .byte ((p0 >>> (16 &&& (31 : Int32))).toInt8.toInt32))) 14 (vp_nar .byte ((p0 >>> (8 &&& (31 : Int32))).toInt8.toInt32)))))] H := hP
  have hD : va_D A [(y, .inr (11, (mO a).set 6 (.int 15))), ((a 5), .inl (cB, 1600, .inl (upd (upd (upd f0 12 (vp_nar .byte ((p0 >>> (24 &&& (31 : Int32))).toInt8.toInt32))) 13 (vp_nar .byte ((p0 >>> (16 &&& (31 : Int32))).toInt8.toInt32))) 14 (vp_nar .byte ((p0 >>> (8 &&& (31 : Int32))).toInt8.toInt32)))))] := hD
  refine lv_iinc (v := 0) (lv' := [(2, .int 0), (0, .ref y), (1, .int p0)]) hx hb dX12_four_30 hl (k := 0) rfl (by decide) (by decide) rfl (fun ls hl => ?_)
  refine lv_goto (tgt := 3) hx hb dX12_four_33 (by decide) ?_
  refine lv_iload_n hx hb dX12_four_3 rfl (lv_at hl 0 rfl) ?_
  refine lv_if_lt (tgt := 36) hx hb dX12_four_4 (by decide) (fun c4 => absurd c4 (by decide)) (fun _ => ?_)
  refine lv_aload_n hx hb dX12_four_7 rfl (lv_at hl 1 rfl) ?_
  refine va_get (D := g) (ci := 11) (v := .ref (a 5)) (C := RX12) (T := TX12) (N := 56) hx hb hts iX12 hown hK hP 0 rfl rfl 5 (by decide) (hts (.fieldLink RX12 23 "CardsAtYuleModel" "tape" "[B") (List.mem_cons_of_mem _ (List.mem_append_left _ (List.mem_of_getElem? (i := 0) rfl)))) (fun _ h9 => h9) rfl dX12_four_8 ?_
  refine lv_aload_n hx hb dX12_four_11 rfl (lv_at hl 1 rfl) ?_
  refine va_get (D := g) (ci := 11) (v := .int 15) (C := RX12) (T := TX12) (N := 56) hx hb hts iX12 hown hK hP 0 rfl rfl 6 (by decide) (hts (.fieldLink RX12 124 "CardsAtYuleModel" "taped" "I") (List.mem_cons_of_mem _ (List.mem_append_left _ (List.mem_of_getElem? (i := 1) rfl)))) (fun _ h9 => h9) rfl dX12_four_12 ?_
  refine lv_iload_n hx hb dX12_four_15 rfl (lv_at hl 2 rfl) ?_
  refine lv_iload_n hx hb dX12_four_16 rfl (lv_at hl 0 rfl) ?_
  refine lv_ishr hx hb dX12_four_17 ?_
  refine lv_i2b (v := (p0 >>> (0 &&& (31 : Int32))).toInt8.toInt32) hx hb dX12_four_18 rfl ?_
  refine va_bast (D := g) hx hb hK hP hD hS 1 2 rfl rfl (vc_in (by decide)) dX12_four_19 (fun H locs hP hD hS => ?_)
  have hP : va_P g vwCl [(y, .inr (11, (mO a).set 6 (.int 15))), ((a 5), .inl (cB, 1600, .inl (upd (upd (upd (upd f0 12 (vp_nar .byte ((p0 >>> (24 &&& (31 : Int32))).toInt8.toInt32))) 13 (vp_nar .byte ((p0 >>> (16 &&& (31 : Int32))).toInt8.toInt32))) 14 (vp_nar .byte ((p0 >>> (8 &&& (31 : Int32))).toInt8.toInt32))) 15 (vp_nar .byte ((p0 >>> (0 &&& (31 : Int32))).toInt8.toInt32)))))] H := hP
  have hD : va_D A [(y, .inr (11, (mO a).set 6 (.int 15))), ((a 5), .inl (cB, 1600, .inl (upd (upd (upd (upd f0 12 (vp_nar .byte ((p0 >>> (24 &&& (31 : Int32))).toInt8.toInt32))) 13 (vp_nar .byte ((p0 >>> (16 &&& (31 : Int32))).toInt8.toInt32))) 14 (vp_nar .byte ((p0 >>> (8 &&& (31 : Int32))).toInt8.toInt32))) 15 (vp_nar .byte ((p0 >>> (0 &&& (31 : Int32))).toInt8.toInt32)))))] := hD
  refine lv_aload_n hx hb dX12_four_20 rfl (lv_at hl 1 rfl) ?_
  refine lv_dup hx hb dX12_four_21 rfl ?_
  refine va_get (D := g) (ci := 11) (v := .int 15) (C := RX12) (T := TX12) (N := 56) hx hb hts iX12 hown hK hP 0 rfl rfl 6 (by decide) (hts (.fieldLink RX12 124 "CardsAtYuleModel" "taped" "I") (List.mem_cons_of_mem _ (List.mem_append_left _ (List.mem_of_getElem? (i := 1) rfl)))) (fun _ h9 => h9) rfl dX12_four_22 ?_
  refine lv_iconst (v := 1) hx hb dX12_four_25 (by decide) ?_
  refine lv_iadd hx hb dX12_four_26 ?_
  refine lv_topi (nm_r (e' := 16) (by decide) ?_)
  refine va_put (D := g) (ci := 11) (v := .int 16) (ty := .int) (C := RX12) (T := TX12) (N := 56) hx hb hts iX12 tyX12 tyX12_ok nmX12 hown hK hP hD hS 0 rfl rfl 6 (by decide) (hts (.fieldLink RX12 124 "CardsAtYuleModel" "taped" "I") (List.mem_cons_of_mem _ (List.mem_append_left _ (List.mem_of_getElem? (i := 1) rfl)))) (fun _ h9 => h9) rfl (by decide +kernel) rfl rfl (Nat.le_of_ble_eq_true rfl) dX12_four_27 (fun H locs hP hD hS => ?_)
  have hP : va_P g vwCl [(y, .inr (11, (mO a).set 6 (.int 16))), ((a 5), .inl (cB, 1600, .inl (upd (upd (upd (upd f0 12 (vp_nar .byte ((p0 >>> (24 &&& (31 : Int32))).toInt8.toInt32))) 13 (vp_nar .byte ((p0 >>> (16 &&& (31 : Int32))).toInt8.toInt32))) 14 (vp_nar .byte ((p0 >>> (8 &&& (31 : Int32))).toInt8.toInt32))) 15 (vp_nar .byte ((p0 >>> (0 &&& (31 : Int32))).toInt8.toInt32)))))] H := hP
  have hD : va_D A [(y, .inr (11, (mO a).set 6 (.int 16))), ((a 5), .inl (cB, 1600, .inl (upd (upd (upd (upd f0 12 (vp_nar .byte ((p0 >>> (24 &&& (31 : Int32))).toInt8.toInt32))) 13 (vp_nar .byte ((p0 >>> (16 &&& (31 : Int32))).toInt8.toInt32))) 14 (vp_nar .byte ((p0 >>> (8 &&& (31 : Int32))).toInt8.toInt32))) 15 (vp_nar .byte ((p0 >>> (0 &&& (31 : Int32))).toInt8.toInt32)))))] := hD
  refine lv_iinc (v := (-8)) (lv' := [(2, .int (-8)), (0, .ref y), (1, .int p0)]) hx hb dX12_four_30 hl (k := 0) rfl (by decide) (by decide) rfl (fun ls hl => ?_)
  refine lv_goto (tgt := 3) hx hb dX12_four_33 (by decide) ?_
  refine lv_iload_n hx hb dX12_four_3 rfl (lv_at hl 0 rfl) ?_
  refine lv_if_lt (tgt := 36) hx hb dX12_four_4 (by decide) (fun _ => ?_) (fun c5 => absurd c5 (by decide))
  have hP9 := hP.sub (ws' := [(y, .inr (11, (mO a).set 6 (.int 16))), ((a 5), .inl (cB, 1600, .inl (upd (upd (upd (upd f0 12 (vp_nar .byte ((p0 >>> (24 &&& (31 : Int32))).toInt8.toInt32))) 13 (vp_nar .byte ((p0 >>> (16 &&& (31 : Int32))).toInt8.toInt32))) 14 (vp_nar .byte ((p0 >>> (8 &&& (31 : Int32))).toInt8.toInt32))) 15 (vp_nar .byte ((p0 >>> (0 &&& (31 : Int32))).toInt8.toInt32)))))]) [0, 1] rfl
  have hD9 := hD.sub (ws' := [(y, .inr (11, (mO a).set 6 (.int 16))), ((a 5), .inl (cB, 1600, .inl (upd (upd (upd (upd f0 12 (vp_nar .byte ((p0 >>> (24 &&& (31 : Int32))).toInt8.toInt32))) 13 (vp_nar .byte ((p0 >>> (16 &&& (31 : Int32))).toInt8.toInt32))) 14 (vp_nar .byte ((p0 >>> (8 &&& (31 : Int32))).toInt8.toInt32))) 15 (vp_nar .byte ((p0 >>> (0 &&& (31 : Int32))).toInt8.toInt32)))))]) [0, 1] (by decide) rfl
  exact W.vret hx hb hr (fun t ht hW => ⟨⟨(upd (upd (upd (upd f0 12 (vp_nar .byte ((p0 >>> (24 &&& (31 : Int32))).toInt8.toInt32))) 13 (vp_nar .byte ((p0 >>> (16 &&& (31 : Int32))).toInt8.toInt32))) 14 (vp_nar .byte ((p0 >>> (8 &&& (31 : Int32))).toInt8.toInt32))) 15 (vp_nar .byte ((p0 >>> (0 &&& (31 : Int32))).toInt8.toInt32))), rfl, trivial, by rw [ht]; exact hP9, va_K.moved hW.alike hK, hD9⟩, hS.F ht⟩) hS.2.2 dX12_four_36
def v_X12_four_16 : List Cond := .code yX12_four cX12_four 3 none :: (([.fieldLink RX12 23 "CardsAtYuleModel" "tape" "[B", .fieldLink RX12 124 "CardsAtYuleModel" "taped" "I"] : List Cond) ++ (wsX120 ++ ([] : List Cond)))
theorem good_v_X12_four_16 : v_X12_four_16.all goodWord = true := ga_c (by decide +kernel) (ga_a (by decide +kernel) (ga_a good_wsX120 rfl))
set_option maxHeartbeats 4000000 in
set_option maxRecDepth 100000 in
theorem k_X12_four_16 (l : Launch) (g : va_G) (cI cJ cB cZ cL : ClassId) (y : Nat) (a : Nat → Nat) (f0 : Nat → Int32) (p0 : Int32) (sz : Nat)  : Met l yX12_four v_X12_four_16 ({ frames := 0, cells := 0, slots := 0, locals := 0 }) (va_Pc [.ref y, .int p0] (pRW g (tyT cI cJ cB cZ cL) [(y, .inr (11, (mO a).set 6 (.int 16))), ((a 5), .inl (cB, 1600, .inl f0))] sz)) (va_Qv (fun (u : Nat → Int32) => match u with | f1 => True) (fun (u : Nat → Int32) (t : State) => bRW g (tyT cI cJ cB cZ cL) (va_A [(y, .inr (11, (mO a).set 6 (.int 16))), ((a 5), .inl (cB, 1600, .inl f0))] sz) (match u with | f1 => [(y, .inr (11, (mO a).set 6 (.int 20))), ((a 5), .inl (cB, 1600, .inl f1))]) t) (va_A [(y, .inr (11, (mO a).set 6 (.int 16))), ((a 5), .inl (cB, 1600, .inl f0))] sz)) 0 0 (va_A [(y, .inr (11, (mO a).set 6 (.int 16))), ((a 5), .inl (cB, 1600, .inl f0))] sz) := by
  refine Met.ofW (cc := cX12_four) (maxL := 3) (ret := none) (by decide) rfl ?_
  intro p e s m args below meth c s₁ B hml hv
  obtain ⟨rfl, hsz, hP, hK, hD0⟩ := hv
  have hx := B.exec
  have hb := B.bytes
  have hr := B.returns
  have hts := atoms_spec (ws := v_X12_four_16) B.pre
  have hown : s.vm.findClass RX12 = some m.cls := findClass_of_methodNamed B.named
  have hlocks := B.notSynchronized
  subst hsz
  have iX12 : ∀ w ∈ wsX120, w ∈ v_X12_four_16 := (fun _ h => List.mem_cons_of_mem _ (List.mem_append_right _ (List.mem_append_left _ h)))
  have hD := hD0.self (sz := s.heap.size)
  generalize hAe : (va_A [(y, .inr (11, (mO a).set 6 (.int 16))), ((a 5), .inl (cB, 1600, .inl f0))] s.heap.size) = A at hD ⊢
  have hA : ∀ q : Nat, s.heap.size ≤ q → A q := fun q h => by rw [← hAe]; exact Or.inr h
  have hS : va_S A s.heap s.heap [] := va_S.rf
  have hl := lv_entry ([.ref y, .int p0]) (n := 3) (Nat.le_of_ble_eq_true rfl)
  rw [lg_entry_eq]
  generalize (lg_sl ([.ref y, .int p0]) ++ List.replicate (3 - (lg_sl ([.ref y, .int p0])).length) Slot.unset).toArray = ls at hl ⊢
  have hl : lv_has ls 3 [(0, .ref y), (1, .int p0)] := hl
  have hP : va_P g vwCl [(y, .inr (11, (mO a).set 6 (.int 16))), ((a 5), .inl (cB, 1600, .inl f0))] s.heap := hP
  refine lv_bipush (v := 24) hx hb dX12_four_0 (by decide) ?_
  refine lv_istore_n (lv' := [(2, .int 24), (0, .ref y), (1, .int p0)]) hx hb dX12_four_2 rfl hl (by decide) rfl (fun ls hl => ?_)
  refine lv_iload_n hx hb dX12_four_3 rfl (lv_at hl 0 rfl) ?_
  refine lv_if_lt (tgt := 36) hx hb dX12_four_4 (by decide) (fun c1 => absurd c1 (by decide)) (fun _ => ?_)
  refine lv_aload_n hx hb dX12_four_7 rfl (lv_at hl 1 rfl) ?_
  refine va_get (D := g) (ci := 11) (v := .ref (a 5)) (C := RX12) (T := TX12) (N := 56) hx hb hts iX12 hown hK hP 0 rfl rfl 5 (by decide) (hts (.fieldLink RX12 23 "CardsAtYuleModel" "tape" "[B") (List.mem_cons_of_mem _ (List.mem_append_left _ (List.mem_of_getElem? (i := 0) rfl)))) (fun _ h9 => h9) rfl dX12_four_8 ?_
  refine lv_aload_n hx hb dX12_four_11 rfl (lv_at hl 1 rfl) ?_
  refine va_get (D := g) (ci := 11) (v := .int 16) (C := RX12) (T := TX12) (N := 56) hx hb hts iX12 hown hK hP 0 rfl rfl 6 (by decide) (hts (.fieldLink RX12 124 "CardsAtYuleModel" "taped" "I") (List.mem_cons_of_mem _ (List.mem_append_left _ (List.mem_of_getElem? (i := 1) rfl)))) (fun _ h9 => h9) rfl dX12_four_12 ?_
  refine lv_iload_n hx hb dX12_four_15 rfl (lv_at hl 2 rfl) ?_
  refine lv_iload_n hx hb dX12_four_16 rfl (lv_at hl 0 rfl) ?_
  refine lv_ishr hx hb dX12_four_17 ?_
  refine lv_i2b (v := (p0 >>> (24 &&& (31 : Int32))).toInt8.toInt32) hx hb dX12_four_18 rfl ?_
  refine va_bast (D := g) hx hb hK hP hD hS 1 2 rfl rfl (vc_in (by decide)) dX12_four_19 (fun H locs hP hD hS => ?_)
  have hP : va_P g vwCl [(y, .inr (11, (mO a).set 6 (.int 16))), ((a 5), .inl (cB, 1600, .inl (upd f0 16 (vp_nar .byte ((p0 >>> (24 &&& (31 : Int32))).toInt8.toInt32)))))] H := hP
  have hD : va_D A [(y, .inr (11, (mO a).set 6 (.int 16))), ((a 5), .inl (cB, 1600, .inl (upd f0 16 (vp_nar .byte ((p0 >>> (24 &&& (31 : Int32))).toInt8.toInt32)))))] := hD
  refine lv_aload_n hx hb dX12_four_20 rfl (lv_at hl 1 rfl) ?_
  refine lv_dup hx hb dX12_four_21 rfl ?_
  refine va_get (D := g) (ci := 11) (v := .int 16) (C := RX12) (T := TX12) (N := 56) hx hb hts iX12 hown hK hP 0 rfl rfl 6 (by decide) (hts (.fieldLink RX12 124 "CardsAtYuleModel" "taped" "I") (List.mem_cons_of_mem _ (List.mem_append_left _ (List.mem_of_getElem? (i := 1) rfl)))) (fun _ h9 => h9) rfl dX12_four_22 ?_
  refine lv_iconst (v := 1) hx hb dX12_four_25 (by decide) ?_
  refine lv_iadd hx hb dX12_four_26 ?_
  refine lv_topi (nm_r (e' := 17) (by decide) ?_)
  refine va_put (D := g) (ci := 11) (v := .int 17) (ty := .int) (C := RX12) (T := TX12) (N := 56) hx hb hts iX12 tyX12 tyX12_ok nmX12 hown hK hP hD hS 0 rfl rfl 6 (by decide) (hts (.fieldLink RX12 124 "CardsAtYuleModel" "taped" "I") (List.mem_cons_of_mem _ (List.mem_append_left _ (List.mem_of_getElem? (i := 1) rfl)))) (fun _ h9 => h9) rfl (by decide +kernel) rfl rfl (Nat.le_of_ble_eq_true rfl) dX12_four_27 (fun H locs hP hD hS => ?_)
  have hP : va_P g vwCl [(y, .inr (11, (mO a).set 6 (.int 17))), ((a 5), .inl (cB, 1600, .inl (upd f0 16 (vp_nar .byte ((p0 >>> (24 &&& (31 : Int32))).toInt8.toInt32)))))] H := hP
  have hD : va_D A [(y, .inr (11, (mO a).set 6 (.int 17))), ((a 5), .inl (cB, 1600, .inl (upd f0 16 (vp_nar .byte ((p0 >>> (24 &&& (31 : Int32))).toInt8.toInt32)))))] := hD
  refine lv_iinc (v := 16) (lv' := [(2, .int 16), (0, .ref y), (1, .int p0)]) hx hb dX12_four_30 hl (k := 0) rfl (by decide) (by decide) rfl (fun ls hl => ?_)
  refine lv_goto (tgt := 3) hx hb dX12_four_33 (by decide) ?_
  refine lv_iload_n hx hb dX12_four_3 rfl (lv_at hl 0 rfl) ?_
  refine lv_if_lt (tgt := 36) hx hb dX12_four_4 (by decide) (fun c2 => absurd c2 (by decide)) (fun _ => ?_)
  refine lv_aload_n hx hb dX12_four_7 rfl (lv_at hl 1 rfl) ?_
  refine va_get (D := g) (ci := 11) (v := .ref (a 5)) (C := RX12) (T := TX12) (N := 56) hx hb hts iX12 hown hK hP 0 rfl rfl 5 (by decide) (hts (.fieldLink RX12 23 "CardsAtYuleModel" "tape" "[B") (List.mem_cons_of_mem _ (List.mem_append_left _ (List.mem_of_getElem? (i := 0) rfl)))) (fun _ h9 => h9) rfl dX12_four_8 ?_
  refine lv_aload_n hx hb dX12_four_11 rfl (lv_at hl 1 rfl) ?_
  refine va_get (D := g) (ci := 11) (v := .int 17) (C := RX12) (T := TX12) (N := 56) hx hb hts iX12 hown hK hP 0 rfl rfl 6 (by decide) (hts (.fieldLink RX12 124 "CardsAtYuleModel" "taped" "I") (List.mem_cons_of_mem _ (List.mem_append_left _ (List.mem_of_getElem? (i := 1) rfl)))) (fun _ h9 => h9) rfl dX12_four_12 ?_
  refine lv_iload_n hx hb dX12_four_15 rfl (lv_at hl 2 rfl) ?_
  refine lv_iload_n hx hb dX12_four_16 rfl (lv_at hl 0 rfl) ?_
  refine lv_ishr hx hb dX12_four_17 ?_
  refine lv_i2b (v := (p0 >>> (16 &&& (31 : Int32))).toInt8.toInt32) hx hb dX12_four_18 rfl ?_
  refine va_bast (D := g) hx hb hK hP hD hS 1 2 rfl rfl (vc_in (by decide)) dX12_four_19 (fun H locs hP hD hS => ?_)
  have hP : va_P g vwCl [(y, .inr (11, (mO a).set 6 (.int 17))), ((a 5), .inl (cB, 1600, .inl (upd (upd f0 16 (vp_nar .byte ((p0 >>> (24 &&& (31 : Int32))).toInt8.toInt32))) 17 (vp_nar .byte ((p0 >>> (16 &&& (31 : Int32))).toInt8.toInt32)))))] H := hP
  have hD : va_D A [(y, .inr (11, (mO a).set 6 (.int 17))), ((a 5), .inl (cB, 1600, .inl (upd (upd f0 16 (vp_nar .byte ((p0 >>> (24 &&& (31 : Int32))).toInt8.toInt32))) 17 (vp_nar .byte ((p0 >>> (16 &&& (31 : Int32))).toInt8.toInt32)))))] := hD
  refine lv_aload_n hx hb dX12_four_20 rfl (lv_at hl 1 rfl) ?_
  refine lv_dup hx hb dX12_four_21 rfl ?_
  refine va_get (D := g) (ci := 11) (v := .int 17) (C := RX12) (T := TX12) (N := 56) hx hb hts iX12 hown hK hP 0 rfl rfl 6 (by decide) (hts (.fieldLink RX12 124 "CardsAtYuleModel" "taped" "I") (List.mem_cons_of_mem _ (List.mem_append_left _ (List.mem_of_getElem? (i := 1) rfl)))) (fun _ h9 => h9) rfl dX12_four_22 ?_
  refine lv_iconst (v := 1) hx hb dX12_four_25 (by decide) ?_
  refine lv_iadd hx hb dX12_four_26 ?_
  refine lv_topi (nm_r (e' := 18) (by decide) ?_)
  refine va_put (D := g) (ci := 11) (v := .int 18) (ty := .int) (C := RX12) (T := TX12) (N := 56) hx hb hts iX12 tyX12 tyX12_ok nmX12 hown hK hP hD hS 0 rfl rfl 6 (by decide) (hts (.fieldLink RX12 124 "CardsAtYuleModel" "taped" "I") (List.mem_cons_of_mem _ (List.mem_append_left _ (List.mem_of_getElem? (i := 1) rfl)))) (fun _ h9 => h9) rfl (by decide +kernel) rfl rfl (Nat.le_of_ble_eq_true rfl) dX12_four_27 (fun H locs hP hD hS => ?_)
  have hP : va_P g vwCl [(y, .inr (11, (mO a).set 6 (.int 18))), ((a 5), .inl (cB, 1600, .inl (upd (upd f0 16 (vp_nar .byte ((p0 >>> (24 &&& (31 : Int32))).toInt8.toInt32))) 17 (vp_nar .byte ((p0 >>> (16 &&& (31 : Int32))).toInt8.toInt32)))))] H := hP
  have hD : va_D A [(y, .inr (11, (mO a).set 6 (.int 18))), ((a 5), .inl (cB, 1600, .inl (upd (upd f0 16 (vp_nar .byte ((p0 >>> (24 &&& (31 : Int32))).toInt8.toInt32))) 17 (vp_nar .byte ((p0 >>> (16 &&& (31 : Int32))).toInt8.toInt32)))))] := hD
  refine lv_iinc (v := 8) (lv' := [(2, .int 8), (0, .ref y), (1, .int p0)]) hx hb dX12_four_30 hl (k := 0) rfl (by decide) (by decide) rfl (fun ls hl => ?_)
  refine lv_goto (tgt := 3) hx hb dX12_four_33 (by decide) ?_
  refine lv_iload_n hx hb dX12_four_3 rfl (lv_at hl 0 rfl) ?_
  refine lv_if_lt (tgt := 36) hx hb dX12_four_4 (by decide) (fun c3 => absurd c3 (by decide)) (fun _ => ?_)
  refine lv_aload_n hx hb dX12_four_7 rfl (lv_at hl 1 rfl) ?_
  refine va_get (D := g) (ci := 11) (v := .ref (a 5)) (C := RX12) (T := TX12) (N := 56) hx hb hts iX12 hown hK hP 0 rfl rfl 5 (by decide) (hts (.fieldLink RX12 23 "CardsAtYuleModel" "tape" "[B") (List.mem_cons_of_mem _ (List.mem_append_left _ (List.mem_of_getElem? (i := 0) rfl)))) (fun _ h9 => h9) rfl dX12_four_8 ?_
  refine lv_aload_n hx hb dX12_four_11 rfl (lv_at hl 1 rfl) ?_
  refine va_get (D := g) (ci := 11) (v := .int 18) (C := RX12) (T := TX12) (N := 56) hx hb hts iX12 hown hK hP 0 rfl rfl 6 (by decide) (hts (.fieldLink RX12 124 "CardsAtYuleModel" "taped" "I") (List.mem_cons_of_mem _ (List.mem_append_left _ (List.mem_of_getElem? (i := 1) rfl)))) (fun _ h9 => h9) rfl dX12_four_12 ?_
  refine lv_iload_n hx hb dX12_four_15 rfl (lv_at hl 2 rfl) ?_
  refine lv_iload_n hx hb dX12_four_16 rfl (lv_at hl 0 rfl) ?_
  refine lv_ishr hx hb dX12_four_17 ?_
  refine lv_i2b (v := (p0 >>> (8 &&& (31 : Int32))).toInt8.toInt32) hx hb dX12_four_18 rfl ?_
  refine va_bast (D := g) hx hb hK hP hD hS 1 2 rfl rfl (vc_in (by decide)) dX12_four_19 (fun H locs hP hD hS => ?_)
  have hP : va_P g vwCl [(y, .inr (11, (mO a).set 6 (.int 18))), ((a 5), .inl (cB, 1600, .inl (upd (upd (upd f0 16 (vp_nar .byte ((p0 >>> (24 &&& (31 : Int32))).toInt8.toInt32))) 17 (vp_nar .byte ((p0 >>> (16 &&& (31 : Int32))).toInt8.toInt32))) 18 (vp_nar .byte ((p0 >>> (8 &&& (31 : Int32))).toInt8.toInt32)))))] H := hP
  have hD : va_D A [(y, .inr (11, (mO a).set 6 (.int 18))), ((a 5), .inl (cB, 1600, .inl (upd (upd (upd f0 16 (vp_nar .byte ((p0 >>> (24 &&& (31 : Int32))).toInt8.toInt32))) 17 (vp_nar .byte ((p0 >>> (16 &&& (31 : Int32))).toInt8.toInt32))) 18 (vp_nar .byte ((p0 >>> (8 &&& (31 : Int32))).toInt8.toInt32)))))] := hD
  refine lv_aload_n hx hb dX12_four_20 rfl (lv_at hl 1 rfl) ?_
  refine lv_dup hx hb dX12_four_21 rfl ?_
  refine va_get (D := g) (ci := 11) (v := .int 18) (C := RX12) (T := TX12) (N := 56) hx hb hts iX12 hown hK hP 0 rfl rfl 6 (by decide) (hts (.fieldLink RX12 124 "CardsAtYuleModel" "taped" "I") (List.mem_cons_of_mem _ (List.mem_append_left _ (List.mem_of_getElem? (i := 1) rfl)))) (fun _ h9 => h9) rfl dX12_four_22 ?_
  refine lv_iconst (v := 1) hx hb dX12_four_25 (by decide) ?_
  refine lv_iadd hx hb dX12_four_26 ?_
  refine lv_topi (nm_r (e' := 19) (by decide) ?_)
  refine va_put (D := g) (ci := 11) (v := .int 19) (ty := .int) (C := RX12) (T := TX12) (N := 56) hx hb hts iX12 tyX12 tyX12_ok nmX12 hown hK hP hD hS 0 rfl rfl 6 (by decide) (hts (.fieldLink RX12 124 "CardsAtYuleModel" "taped" "I") (List.mem_cons_of_mem _ (List.mem_append_left _ (List.mem_of_getElem? (i := 1) rfl)))) (fun _ h9 => h9) rfl (by decide +kernel) rfl rfl (Nat.le_of_ble_eq_true rfl) dX12_four_27 (fun H locs hP hD hS => ?_)
  have hP : va_P g vwCl [(y, .inr (11, (mO a).set 6 (.int 19))), ((a 5), .inl (cB, 1600, .inl (upd (upd (upd f0 16 (vp_nar .byte ((p0 >>> (24 &&& (31 : Int32))).toInt8.toInt32))) 17 (vp_nar .byte ((p0 >>> (16 &&& (31 : Int32))).toInt8.toInt32))) 18 (vp_nar .byte ((p0 >>> (8 &&& (31 : Int32))).toInt8.toInt32)))))] H := hP
  have hD : va_D A [(y, .inr (11, (mO a).set 6 (.int 19))), ((a 5), .inl (cB, 1600, .inl (upd (upd (upd f0 16 (vp_nar .byte ((p0 >>> (24 &&& (31 : Int32))).toInt8.toInt32))) 17 (vp_nar .byte ((p0 >>> (16 &&& (31 : Int32))).toInt8.toInt32))) 18 (vp_nar .byte ((p0 >>> (8 &&& (31 : Int32))).toInt8.toInt32)))))] := hD
  refine lv_iinc (v := 0) (lv' := [(2, .int 0), (0, .ref y), (1, .int p0)]) hx hb dX12_four_30 hl (k := 0) rfl (by decide) (by decide) rfl (fun ls hl => ?_)
  refine lv_goto (tgt := 3) hx hb dX12_four_33 (by decide) ?_
  refine lv_iload_n hx hb dX12_four_3 rfl (lv_at hl 0 rfl) ?_
  refine lv_if_lt (tgt := 36) hx hb dX12_four_4 (by decide) (fun c4 => absurd c4 (by decide)) (fun _ => ?_)
  refine lv_aload_n hx hb dX12_four_7 rfl (lv_at hl 1 rfl) ?_
  refine va_get (D := g) (ci := 11) (v := .ref (a 5)) (C := RX12) (T := TX12) (N := 56) hx hb hts iX12 hown hK hP 0 rfl rfl 5 (by decide) (hts (.fieldLink RX12 23 "CardsAtYuleModel" "tape" "[B") (List.mem_cons_of_mem _ (List.mem_append_left _ (List.mem_of_getElem? (i := 0) rfl)))) (fun _ h9 => h9) rfl dX12_four_8 ?_
  refine lv_aload_n hx hb dX12_four_11 rfl (lv_at hl 1 rfl) ?_
  refine va_get (D := g) (ci := 11) (v := .int 19) (C := RX12) (T := TX12) (N := 56) hx hb hts iX12 hown hK hP 0 rfl rfl 6 (by decide) (hts (.fieldLink RX12 124 "CardsAtYuleModel" "taped" "I") (List.mem_cons_of_mem _ (List.mem_append_left _ (List.mem_of_getElem? (i := 1) rfl)))) (fun _ h9 => h9) rfl dX12_four_12 ?_
  refine lv_iload_n hx hb dX12_four_15 rfl (lv_at hl 2 rfl) ?_
  refine lv_iload_n hx hb dX12_four_16 rfl (lv_at hl 0 rfl) ?_
  refine lv_ishr hx hb dX12_four_17 ?_
  refine lv_i2b (v := (p0 >>> (0 &&& (31 : Int32))).toInt8.toInt32) hx hb dX12_four_18 rfl ?_
  refine va_bast (D := g) hx hb hK hP hD hS 1 2 rfl rfl (vc_in (by decide)) dX12_four_19 (fun H locs hP hD hS => ?_)
  have hP : va_P g vwCl [(y, .inr (11, (mO a).set 6 (.int 19))), ((a 5), .inl (cB, 1600, .inl (upd (upd (upd (upd f0 16 (vp_nar .byte ((p0 >>> (24 &&& (31 : Int32))).toInt8.toInt32))) 17 (vp_nar .byte ((p0 >>> (16 &&& (31 : Int32))).toInt8.toInt32))) 18 (vp_nar .byte ((p0 >>> (8 &&& (31 : Int32))).toInt8.toInt32))) 19 (vp_nar .byte ((p0 >>> (0 &&& (31 : Int32))).toInt8.toInt32)))))] H := hP
  have hD : va_D A [(y, .inr (11, (mO a).set 6 (.int 19))), ((a 5), .inl (cB, 1600, .inl (upd (upd (upd (upd f0 16 (vp_nar .byte ((p0 >>> (24 &&& (31 : Int32))).toInt8.toInt32))) 17 (vp_nar .byte ((p0 >>> (16 &&& (31 : Int32))).toInt8.toInt32))) 18 (vp_nar .byte ((p0 >>> (8 &&& (31 : Int32))).toInt8.toInt32))) 19 (vp_nar .byte ((p0 >>> (0 &&& (31 : Int32))).toInt8.toInt32)))))] := hD
  refine lv_aload_n hx hb dX12_four_20 rfl (lv_at hl 1 rfl) ?_
  refine lv_dup hx hb dX12_four_21 rfl ?_
  refine va_get (D := g) (ci := 11) (v := .int 19) (C := RX12) (T := TX12) (N := 56) hx hb hts iX12 hown hK hP 0 rfl rfl 6 (by decide) (hts (.fieldLink RX12 124 "CardsAtYuleModel" "taped" "I") (List.mem_cons_of_mem _ (List.mem_append_left _ (List.mem_of_getElem? (i := 1) rfl)))) (fun _ h9 => h9) rfl dX12_four_22 ?_
  refine lv_iconst (v := 1) hx hb dX12_four_25 (by decide) ?_
  refine lv_iadd hx hb dX12_four_26 ?_
  refine lv_topi (nm_r (e' := 20) (by decide) ?_)
  refine va_put (D := g) (ci := 11) (v := .int 20) (ty := .int) (C := RX12) (T := TX12) (N := 56) hx hb hts iX12 tyX12 tyX12_ok nmX12 hown hK hP hD hS 0 rfl rfl 6 (by decide) (hts (.fieldLink RX12 124 "CardsAtYuleModel" "taped" "I") (List.mem_cons_of_mem _ (List.mem_append_left _ (List.mem_of_getElem? (i := 1) rfl)))) (fun _ h9 => h9) rfl (by decide +kernel) rfl rfl (Nat.le_of_ble_eq_true rfl) dX12_four_27 (fun H locs hP hD hS => ?_)
  have hP : va_P g vwCl [(y, .inr (11, (mO a).set 6 (.int 20))), ((a 5), .inl (cB, 1600, .inl (upd (upd (upd (upd f0 16 (vp_nar .byte ((p0 >>> (24 &&& (31 : Int32))).toInt8.toInt32))) 17 (vp_nar .byte ((p0 >>> (16 &&& (31 : Int32))).toInt8.toInt32))) 18 (vp_nar .byte ((p0 >>> (8 &&& (31 : Int32))).toInt8.toInt32))) 19 (vp_nar .byte ((p0 >>> (0 &&& (31 : Int32))).toInt8.toInt32)))))] H := hP
  have hD : va_D A [(y, .inr (11, (mO a).set 6 (.int 20))), ((a 5), .inl (cB, 1600, .inl (upd (upd (upd (upd f0 16 (vp_nar .byte ((p0 >>> (24 &&& (31 : Int32))).toInt8.toInt32))) 17 (vp_nar .byte ((p0 >>> (16 &&& (31 : Int32))).toInt8.toInt32))) 18 (vp_nar .byte ((p0 >>> (8 &&& (31 : Int32))).toInt8.toInt32))) 19 (vp_nar .byte ((p0 >>> (0 &&& (31 : Int32))).toInt8.toInt32)))))] := hD
  refine lv_iinc (v := (-8)) (lv' := [(2, .int (-8)), (0, .ref y), (1, .int p0)]) hx hb dX12_four_30 hl (k := 0) rfl (by decide) (by decide) rfl (fun ls hl => ?_)
  refine lv_goto (tgt := 3) hx hb dX12_four_33 (by decide) ?_
  refine lv_iload_n hx hb dX12_four_3 rfl (lv_at hl 0 rfl) ?_
  refine lv_if_lt (tgt := 36) hx hb dX12_four_4 (by decide) (fun _ => ?_) (fun c5 => absurd c5 (by decide))
  have hP9 := hP.sub (ws' := [(y, .inr (11, (mO a).set 6 (.int 20))), ((a 5), .inl (cB, 1600, .inl (upd (upd (upd (upd f0 16 (vp_nar .byte ((p0 >>> (24 &&& (31 : Int32))).toInt8.toInt32))) 17 (vp_nar .byte ((p0 >>> (16 &&& (31 : Int32))).toInt8.toInt32))) 18 (vp_nar .byte ((p0 >>> (8 &&& (31 : Int32))).toInt8.toInt32))) 19 (vp_nar .byte ((p0 >>> (0 &&& (31 : Int32))).toInt8.toInt32)))))]) [0, 1] rfl
  have hD9 := hD.sub (ws' := [(y, .inr (11, (mO a).set 6 (.int 20))), ((a 5), .inl (cB, 1600, .inl (upd (upd (upd (upd f0 16 (vp_nar .byte ((p0 >>> (24 &&& (31 : Int32))).toInt8.toInt32))) 17 (vp_nar .byte ((p0 >>> (16 &&& (31 : Int32))).toInt8.toInt32))) 18 (vp_nar .byte ((p0 >>> (8 &&& (31 : Int32))).toInt8.toInt32))) 19 (vp_nar .byte ((p0 >>> (0 &&& (31 : Int32))).toInt8.toInt32)))))]) [0, 1] (by decide) rfl
  exact W.vret hx hb hr (fun t ht hW => ⟨⟨(upd (upd (upd (upd f0 16 (vp_nar .byte ((p0 >>> (24 &&& (31 : Int32))).toInt8.toInt32))) 17 (vp_nar .byte ((p0 >>> (16 &&& (31 : Int32))).toInt8.toInt32))) 18 (vp_nar .byte ((p0 >>> (8 &&& (31 : Int32))).toInt8.toInt32))) 19 (vp_nar .byte ((p0 >>> (0 &&& (31 : Int32))).toInt8.toInt32))), rfl, trivial, by rw [ht]; exact hP9, va_K.moved hW.alike hK, hD9⟩, hS.F ht⟩) hS.2.2 dX12_four_36
def v_X12_feed : List Cond := .code yX12_feed cX12_feed 6 (some .int) :: (([.fieldLink RX12 107 "CardsAtYuleModel" "thrown" "I", .fieldLink RX12 124 "CardsAtYuleModel" "taped" "I", .methodLink RX12 127 yX12_four, .instanceMethod yX12_four, .selects RX12 yX12_four yX12_four, .initialized RX12] : List Cond) ++ (v_X12_four_0 ++ (v_X12_four_4 ++ (v_X12_four_8 ++ (v_X12_four_12 ++ (v_X12_four_16 ++ (wsX120 ++ ([] : List Cond))))))))
theorem good_v_X12_feed : v_X12_feed.all goodWord = true := ga_c (by decide +kernel) (ga_a (by decide +kernel) (ga_a good_v_X12_four_0 (ga_a good_v_X12_four_4 (ga_a good_v_X12_four_8 (ga_a good_v_X12_four_12 (ga_a good_v_X12_four_16 (ga_a good_wsX120 rfl)))))))
set_option maxHeartbeats 4000000 in
set_option maxRecDepth 100000 in
theorem k_X12_feed (l : Launch) (g : va_G) (cI cJ cB cZ cL : ClassId) (y : Nat) (a : Nat → Nat) (p0 : Int32) (p1 : Int32) (p2 : Int32) (p3 : Int32) (p4 : Int32) (ip0 : Int) (ip1 : Int) (ip2 : Int) (ip3 : Int) (ip4 : Int) (sz : Nat) (hzp0 : p0.toInt = ip0) (hzp1 : p1.toInt = ip1) (hzp2 : p2.toInt = ip2) (hzp3 : p3.toInt = ip3) (hzp4 : p4.toInt = ip4) : Met l yX12_feed v_X12_feed ({ frames := 1, cells := 0, slots := 0, locals := 22 }) (va_Pc [.ref y, .int p0, .int p1, .int p2, .int p3, .int p4] (pRW g (tyT cI cJ cB cZ cL) [(y, .inr (11, mO a)), ((a 5), .inl (cB, 1600, .inl (fun _ => 0)))] sz)) (va_Qi (fun (r : Int32) (u : Unit) => r = 20) (fun (_ : Unit) (t : State) => bRW g (tyT cI cJ cB cZ cL) (va_A [(y, .inr (11, mO a)), ((a 5), .inl (cB, 1600, .inl (fun _ => 0)))] sz) [] t) (va_A [(y, .inr (11, mO a)), ((a 5), .inl (cB, 1600, .inl (fun _ => 0)))] sz)) 0 0 (va_A [(y, .inr (11, mO a)), ((a 5), .inl (cB, 1600, .inl (fun _ => 0)))] sz) := by
  refine Met.ofW (cc := cX12_feed) (maxL := 6) (ret := (some .int)) (by decide) rfl ?_
  intro p e s m args below meth c s₁ B hml hv
  obtain ⟨rfl, hsz, hP, hK, hD0⟩ := hv
  have hx := B.exec
  have hb := B.bytes
  have hr := B.returns
  have hts := atoms_spec (ws := v_X12_feed) B.pre
  have hown : s.vm.findClass RX12 = some m.cls := findClass_of_methodNamed B.named
  have hlocks := B.notSynchronized
  subst hsz
  have iX12 : ∀ w ∈ wsX120, w ∈ v_X12_feed := (fun _ h => List.mem_cons_of_mem _ (List.mem_append_right _ (List.mem_append_right _ (List.mem_append_right _ (List.mem_append_right _ (List.mem_append_right _ (List.mem_append_right _ (List.mem_append_left _ h))))))))
  have hD := hD0.self (sz := s.heap.size)
  generalize hAe : (va_A [(y, .inr (11, mO a)), ((a 5), .inl (cB, 1600, .inl (fun _ => 0)))] s.heap.size) = A at hD ⊢
  have hA : ∀ q : Nat, s.heap.size ≤ q → A q := fun q h => by rw [← hAe]; exact Or.inr h
  have hS : va_S A s.heap s.heap [] := va_S.rf
  have hl := lv_entry ([.ref y, .int p0, .int p1, .int p2, .int p3, .int p4]) (n := 6) (Nat.le_of_ble_eq_true rfl)
  rw [lg_entry_eq]
  generalize (lg_sl ([.ref y, .int p0, .int p1, .int p2, .int p3, .int p4]) ++ List.replicate (6 - (lg_sl ([.ref y, .int p0, .int p1, .int p2, .int p3, .int p4])).length) Slot.unset).toArray = ls at hl ⊢
  have hl : lv_has ls 6 [(0, .ref y), (1, .int p0), (2, .int p1), (3, .int p2), (4, .int p3), (5, .int p4)] := hl
  have hP : va_P g vwCl [(y, .inr (11, mO a)), ((a 5), .inl (cB, 1600, .inl (fun _ => 0)))] s.heap := hP
  refine lv_aload_n hx hb dX12_feed_0 rfl (lv_at hl 0 rfl) ?_
  refine lv_iconst (v := 0) hx hb dX12_feed_1 (by decide) ?_
  refine va_put (D := g) (ci := 11) (v := .int 0) (ty := .int) (C := RX12) (T := TX12) (N := 56) hx hb hts iX12 tyX12 tyX12_ok nmX12 hown hK hP hD hS 0 rfl rfl 0 (by decide) (hts (.fieldLink RX12 107 "CardsAtYuleModel" "thrown" "I") (List.mem_cons_of_mem _ (List.mem_append_left _ (List.mem_of_getElem? (i := 0) rfl)))) (fun _ h9 => h9) rfl (by decide +kernel) rfl rfl (Nat.le_of_ble_eq_true rfl) dX12_feed_2 (fun H locs hP hD hS => ?_)
  have hP : va_P g vwCl [(y, .inr (11, mO a)), ((a 5), .inl (cB, 1600, .inl (fun _ => 0)))] H := hP
  have hD : va_D A [(y, .inr (11, mO a)), ((a 5), .inl (cB, 1600, .inl (fun _ => 0)))] := hD
  refine lv_aload_n hx hb dX12_feed_5 rfl (lv_at hl 0 rfl) ?_
  refine va_get (D := g) (ci := 11) (v := .int 0) (C := RX12) (T := TX12) (N := 56) hx hb hts iX12 hown hK hP 0 rfl rfl 6 (by decide) (hts (.fieldLink RX12 124 "CardsAtYuleModel" "taped" "I") (List.mem_cons_of_mem _ (List.mem_append_left _ (List.mem_of_getElem? (i := 1) rfl)))) (fun _ h9 => h9) rfl dX12_feed_6 ?_
  refine lv_bipush (v := 20) hx hb dX12_feed_9 (by decide) ?_
  refine lv_iadd hx hb dX12_feed_11 ?_
  refine lv_topi (nm_r (e' := 20) (by decide) ?_)
  refine lv_sipush (v := 1600) hx hb dX12_feed_12 (by decide) ?_
  refine lv_icmp_le (tgt := 20) hx hb dX12_feed_15 (by decide) (fun _ => ?_) (fun c1 => absurd c1 (by decide))
  refine lv_aload_n hx hb dX12_feed_20 rfl (lv_at hl 0 rfl) ?_
  refine lv_iload_n hx hb dX12_feed_21 rfl (lv_at hl 1 rfl) ?_
  refine rw_v (wr := []) (va_runV (As := [.int p0]) (rest := []) ⟨hx, hb, hml, hown, hts⟩ (k_X12_four_0 l g cI cJ cB cZ cL y a (fun _ => 0) p0 H.size ) (cwV 1 hts (goodIn_app (g_4 (List.mem_cons_of_mem _ (List.mem_append_left _ (List.mem_of_getElem? (i := 2) rfl))) (List.mem_cons_of_mem _ (List.mem_append_left _ (List.mem_of_getElem? (i := 3) rfl))) (List.mem_cons_of_mem _ (List.mem_append_left _ (List.mem_of_getElem? (i := 4) rfl))) (List.mem_cons_of_mem _ (List.mem_append_left _ (List.mem_of_getElem? (i := 5) rfl))) (by decide +kernel)) (goodIn_sub (fun _ h => List.mem_cons_of_mem _ (List.mem_append_right _ (List.mem_append_left _ h))) good_v_X12_four_0)) rfl rfl rfl (by decide +kernel) ⟨Nat.le_of_ble_eq_true rfl, Nat.le_of_ble_eq_true rfl⟩) (pv_RW (q := (RX12, TX12, 56)) (ci := 11) (q0 := 0) (wc := [(y, .inr (11, mO a)), ((a 5), .inl (cB, 1600, .inl (fun _ => 0)))]) hK hP hD [0, 1] (by decide) rfl rfl rfl) rfl rfl hl.1 rfl (lv_room (Nat.le_of_ble_eq_true rfl)) dX12_feed_22 ⟨Nat.le_of_ble_eq_true rfl, Nat.le_of_ble_eq_true rfl⟩) hS hA hP hD [0, 1] [] rfl rfl (by decide) (by decide) (fun u3 H locs hw4 hP hD hS => ?_)
  generalize u3 = u_f15 at hw4 hP hD
  try dsimp only at hw4
  have hP : va_P g vwCl [(y, .inr (11, (mO a).set 6 (.int 4))), ((a 5), .inl (cB, 1600, .inl u_f15))] H := hP
  have hD : va_D A [(y, .inr (11, (mO a).set 6 (.int 4))), ((a 5), .inl (cB, 1600, .inl u_f15))] := hD
  refine lv_aload_n hx hb dX12_feed_25 rfl (lv_at hl 0 rfl) ?_
  refine lv_iload_n hx hb dX12_feed_26 rfl (lv_at hl 2 rfl) ?_
  refine rw_v (wr := []) (va_runV (As := [.int p1]) (rest := []) ⟨hx, hb, hml, hown, hts⟩ (k_X12_four_4 l g cI cJ cB cZ cL y a u_f15 p1 H.size ) (cwV 1 hts (goodIn_app (g_4 (List.mem_cons_of_mem _ (List.mem_append_left _ (List.mem_of_getElem? (i := 2) rfl))) (List.mem_cons_of_mem _ (List.mem_append_left _ (List.mem_of_getElem? (i := 3) rfl))) (List.mem_cons_of_mem _ (List.mem_append_left _ (List.mem_of_getElem? (i := 4) rfl))) (List.mem_cons_of_mem _ (List.mem_append_left _ (List.mem_of_getElem? (i := 5) rfl))) (by decide +kernel)) (goodIn_sub (fun _ h => List.mem_cons_of_mem _ (List.mem_append_right _ (List.mem_append_right _ (List.mem_append_left _ h)))) good_v_X12_four_4)) rfl rfl rfl (by decide +kernel) ⟨Nat.le_of_ble_eq_true rfl, Nat.le_of_ble_eq_true rfl⟩) (pv_RW (q := (RX12, TX12, 56)) (ci := 11) (q0 := 0) (wc := [(y, .inr (11, (mO a).set 6 (.int 4))), ((a 5), .inl (cB, 1600, .inl u_f15))]) hK hP hD [0, 1] (by decide) rfl rfl rfl) rfl rfl hl.1 rfl (lv_room (Nat.le_of_ble_eq_true rfl)) dX12_feed_27 ⟨Nat.le_of_ble_eq_true rfl, Nat.le_of_ble_eq_true rfl⟩) hS hA hP hD [0, 1] [] rfl rfl (by decide) (by decide) (fun u7 H locs hw8 hP hD hS => ?_)
  generalize u7 = u_f19 at hw8 hP hD
  try dsimp only at hw8
  have hP : va_P g vwCl [(y, .inr (11, (mO a).set 6 (.int 8))), ((a 5), .inl (cB, 1600, .inl u_f19))] H := hP
  have hD : va_D A [(y, .inr (11, (mO a).set 6 (.int 8))), ((a 5), .inl (cB, 1600, .inl u_f19))] := hD
  refine lv_aload_n hx hb dX12_feed_30 rfl (lv_at hl 0 rfl) ?_
  refine lv_iload_n hx hb dX12_feed_31 rfl (lv_at hl 3 rfl) ?_
  refine rw_v (wr := []) (va_runV (As := [.int p2]) (rest := []) ⟨hx, hb, hml, hown, hts⟩ (k_X12_four_8 l g cI cJ cB cZ cL y a u_f19 p2 H.size ) (cwV 1 hts (goodIn_app (g_4 (List.mem_cons_of_mem _ (List.mem_append_left _ (List.mem_of_getElem? (i := 2) rfl))) (List.mem_cons_of_mem _ (List.mem_append_left _ (List.mem_of_getElem? (i := 3) rfl))) (List.mem_cons_of_mem _ (List.mem_append_left _ (List.mem_of_getElem? (i := 4) rfl))) (List.mem_cons_of_mem _ (List.mem_append_left _ (List.mem_of_getElem? (i := 5) rfl))) (by decide +kernel)) (goodIn_sub (fun _ h => List.mem_cons_of_mem _ (List.mem_append_right _ (List.mem_append_right _ (List.mem_append_right _ (List.mem_append_left _ h))))) good_v_X12_four_8)) rfl rfl rfl (by decide +kernel) ⟨Nat.le_of_ble_eq_true rfl, Nat.le_of_ble_eq_true rfl⟩) (pv_RW (q := (RX12, TX12, 56)) (ci := 11) (q0 := 0) (wc := [(y, .inr (11, (mO a).set 6 (.int 8))), ((a 5), .inl (cB, 1600, .inl u_f19))]) hK hP hD [0, 1] (by decide) rfl rfl rfl) rfl rfl hl.1 rfl (lv_room (Nat.le_of_ble_eq_true rfl)) dX12_feed_32 ⟨Nat.le_of_ble_eq_true rfl, Nat.le_of_ble_eq_true rfl⟩) hS hA hP hD [0, 1] [] rfl rfl (by decide) (by decide) (fun u11 H locs hw12 hP hD hS => ?_)
  generalize u11 = u_f113 at hw12 hP hD
  try dsimp only at hw12
  have hP : va_P g vwCl [(y, .inr (11, (mO a).set 6 (.int 12))), ((a 5), .inl (cB, 1600, .inl u_f113))] H := hP
  have hD : va_D A [(y, .inr (11, (mO a).set 6 (.int 12))), ((a 5), .inl (cB, 1600, .inl u_f113))] := hD
  refine lv_aload_n hx hb dX12_feed_35 rfl (lv_at hl 0 rfl) ?_
  refine lv_iload hx hb dX12_feed_36 (lv_at hl 4 rfl) ?_
  refine rw_v (wr := []) (va_runV (As := [.int p3]) (rest := []) ⟨hx, hb, hml, hown, hts⟩ (k_X12_four_12 l g cI cJ cB cZ cL y a u_f113 p3 H.size ) (cwV 1 hts (goodIn_app (g_4 (List.mem_cons_of_mem _ (List.mem_append_left _ (List.mem_of_getElem? (i := 2) rfl))) (List.mem_cons_of_mem _ (List.mem_append_left _ (List.mem_of_getElem? (i := 3) rfl))) (List.mem_cons_of_mem _ (List.mem_append_left _ (List.mem_of_getElem? (i := 4) rfl))) (List.mem_cons_of_mem _ (List.mem_append_left _ (List.mem_of_getElem? (i := 5) rfl))) (by decide +kernel)) (goodIn_sub (fun _ h => List.mem_cons_of_mem _ (List.mem_append_right _ (List.mem_append_right _ (List.mem_append_right _ (List.mem_append_right _ (List.mem_append_left _ h)))))) good_v_X12_four_12)) rfl rfl rfl (by decide +kernel) ⟨Nat.le_of_ble_eq_true rfl, Nat.le_of_ble_eq_true rfl⟩) (pv_RW (q := (RX12, TX12, 56)) (ci := 11) (q0 := 0) (wc := [(y, .inr (11, (mO a).set 6 (.int 12))), ((a 5), .inl (cB, 1600, .inl u_f113))]) hK hP hD [0, 1] (by decide) rfl rfl rfl) rfl rfl hl.1 rfl (lv_room (Nat.le_of_ble_eq_true rfl)) dX12_feed_38 ⟨Nat.le_of_ble_eq_true rfl, Nat.le_of_ble_eq_true rfl⟩) hS hA hP hD [0, 1] [] rfl rfl (by decide) (by decide) (fun u15 H locs hw16 hP hD hS => ?_)
  generalize u15 = u_f117 at hw16 hP hD
  try dsimp only at hw16
  have hP : va_P g vwCl [(y, .inr (11, (mO a).set 6 (.int 16))), ((a 5), .inl (cB, 1600, .inl u_f117))] H := hP
  have hD : va_D A [(y, .inr (11, (mO a).set 6 (.int 16))), ((a 5), .inl (cB, 1600, .inl u_f117))] := hD
  refine lv_aload_n hx hb dX12_feed_41 rfl (lv_at hl 0 rfl) ?_
  refine lv_iload hx hb dX12_feed_42 (lv_at hl 5 rfl) ?_
  refine rw_v (wr := []) (va_runV (As := [.int p4]) (rest := []) ⟨hx, hb, hml, hown, hts⟩ (k_X12_four_16 l g cI cJ cB cZ cL y a u_f117 p4 H.size ) (cwV 1 hts (goodIn_app (g_4 (List.mem_cons_of_mem _ (List.mem_append_left _ (List.mem_of_getElem? (i := 2) rfl))) (List.mem_cons_of_mem _ (List.mem_append_left _ (List.mem_of_getElem? (i := 3) rfl))) (List.mem_cons_of_mem _ (List.mem_append_left _ (List.mem_of_getElem? (i := 4) rfl))) (List.mem_cons_of_mem _ (List.mem_append_left _ (List.mem_of_getElem? (i := 5) rfl))) (by decide +kernel)) (goodIn_sub (fun _ h => List.mem_cons_of_mem _ (List.mem_append_right _ (List.mem_append_right _ (List.mem_append_right _ (List.mem_append_right _ (List.mem_append_right _ (List.mem_append_left _ h))))))) good_v_X12_four_16)) rfl rfl rfl (by decide +kernel) ⟨Nat.le_of_ble_eq_true rfl, Nat.le_of_ble_eq_true rfl⟩) (pv_RW (q := (RX12, TX12, 56)) (ci := 11) (q0 := 0) (wc := [(y, .inr (11, (mO a).set 6 (.int 16))), ((a 5), .inl (cB, 1600, .inl u_f117))]) hK hP hD [0, 1] (by decide) rfl rfl rfl) rfl rfl hl.1 rfl (lv_room (Nat.le_of_ble_eq_true rfl)) dX12_feed_44 ⟨Nat.le_of_ble_eq_true rfl, Nat.le_of_ble_eq_true rfl⟩) hS hA hP hD [0, 1] [] rfl rfl (by decide) (by decide) (fun u19 H locs hw20 hP hD hS => ?_)
  generalize u19 = u_f121 at hw20 hP hD
  try dsimp only at hw20
  have hP : va_P g vwCl [(y, .inr (11, (mO a).set 6 (.int 20))), ((a 5), .inl (cB, 1600, .inl u_f121))] H := hP
  have hD : va_D A [(y, .inr (11, (mO a).set 6 (.int 20))), ((a 5), .inl (cB, 1600, .inl u_f121))] := hD
  refine lv_aload_n hx hb dX12_feed_47 rfl (lv_at hl 0 rfl) ?_
  refine va_get (D := g) (ci := 11) (v := .int 20) (C := RX12) (T := TX12) (N := 56) hx hb hts iX12 hown hK hP 0 rfl rfl 6 (by decide) (hts (.fieldLink RX12 124 "CardsAtYuleModel" "taped" "I") (List.mem_cons_of_mem _ (List.mem_append_left _ (List.mem_of_getElem? (i := 1) rfl)))) (fun _ h9 => h9) rfl dX12_feed_48 ?_
  have hP9 := hP.sub (ws' := []) [] rfl
  have hD9 := hD.sub (ws' := []) [] (by decide) rfl
  exact W.iret (v := 20) hx hb hr (fun t ht hW => ⟨⟨20, (), rfl, rfl, by rw [ht]; exact hP9, va_K.moved hW.alike hK, hD9⟩, hS.F ht⟩) hS.2.2 dX12_feed_51
def v_X12_end : List Cond := .code yX12_end cX12_end 2 (some .int) :: (([.fieldLink RX12 107 "CardsAtYuleModel" "thrown" "I", .fieldLink RX12 124 "CardsAtYuleModel" "taped" "I", .methodLink RX12 112 yX12_in, .static yX12_in, .initialized RX12] : List Cond) ++ (v_X12_in ++ (wsX120 ++ ([] : List Cond))))
theorem good_v_X12_end : v_X12_end.all goodWord = true := ga_c (by decide +kernel) (ga_a (by decide +kernel) (ga_a good_v_X12_in (ga_a good_wsX120 rfl)))
set_option maxHeartbeats 4000000 in
set_option maxRecDepth 100000 in
theorem k_X12_end (l : Launch) (g : va_G) (cI cJ cB cZ cL : ClassId) (y : Nat) (a : Nat → Nat) (p0 : Int32) (ip0 : Int) (sz : Nat) (hzp0 : p0.toInt = ip0) : Met l yX12_end v_X12_end ({ frames := 1, cells := 0, slots := 0, locals := 25 }) (va_Pc [.ref y, .int p0] (pRW g (tyT cI cJ cB cZ cL) [(y, .inr (11, mO a))] sz)) (va_Qi (fun (r : Int32) (u : Unit) => (r = p0 ∧ 0 ≤ ip0 ∧ ip0 ≤ 0) ∨ (r = (-1) ∧ ¬ (0 ≤ ip0 ∧ ip0 ≤ 0))) (fun (_ : Unit) (t : State) => bRW g (tyT cI cJ cB cZ cL) (va_A [(y, .inr (11, mO a))] sz) [] t) (va_A [(y, .inr (11, mO a))] sz)) 0 0 (va_A [(y, .inr (11, mO a))] sz) := by
  refine Met.ofW (cc := cX12_end) (maxL := 2) (ret := (some .int)) (by decide) rfl ?_
  intro p e s m args below meth c s₁ B hml hv
  obtain ⟨rfl, hsz, hP, hK, hD0⟩ := hv
  have hx := B.exec
  have hb := B.bytes
  have hr := B.returns
  have hts := atoms_spec (ws := v_X12_end) B.pre
  have hown : s.vm.findClass RX12 = some m.cls := findClass_of_methodNamed B.named
  have hlocks := B.notSynchronized
  subst hsz
  have iX12 : ∀ w ∈ wsX120, w ∈ v_X12_end := (fun _ h => List.mem_cons_of_mem _ (List.mem_append_right _ (List.mem_append_right _ (List.mem_append_left _ h))))
  have hD := hD0.self (sz := s.heap.size)
  generalize hAe : (va_A [(y, .inr (11, mO a))] s.heap.size) = A at hD ⊢
  have hA : ∀ q : Nat, s.heap.size ≤ q → A q := fun q h => by rw [← hAe]; exact Or.inr h
  have hS : va_S A s.heap s.heap [] := va_S.rf
  have hl := lv_entry ([.ref y, .int p0]) (n := 2) (Nat.le_of_ble_eq_true rfl)
  rw [lg_entry_eq]
  generalize (lg_sl ([.ref y, .int p0]) ++ List.replicate (2 - (lg_sl ([.ref y, .int p0])).length) Slot.unset).toArray = ls at hl ⊢
  have hl : lv_has ls 2 [(0, .ref y), (1, .int p0)] := hl
  have hP : va_P g vwCl [(y, .inr (11, mO a))] s.heap := hP
  refine lv_aload_n hx hb dX12_end_0 rfl (lv_at hl 0 rfl) ?_
  refine lv_iconst (v := 0) hx hb dX12_end_1 (by decide) ?_
  refine va_put (D := g) (ci := 11) (v := .int 0) (ty := .int) (C := RX12) (T := TX12) (N := 56) hx hb hts iX12 tyX12 tyX12_ok nmX12 hown hK hP hD hS 0 rfl rfl 0 (by decide) (hts (.fieldLink RX12 107 "CardsAtYuleModel" "thrown" "I") (List.mem_cons_of_mem _ (List.mem_append_left _ (List.mem_of_getElem? (i := 0) rfl)))) (fun _ h9 => h9) rfl (by decide +kernel) rfl rfl (Nat.le_of_ble_eq_true rfl) dX12_end_2 (fun H locs hP hD hS => ?_)
  have hP : va_P g vwCl [(y, .inr (11, mO a))] H := hP
  have hD : va_D A [(y, .inr (11, mO a))] := hD
  refine lv_iload_n hx hb dX12_end_5 rfl (lv_at hl 1 rfl) ?_
  refine lv_i2l (v := p0.toInt64) hx hb dX12_end_6 rfl ?_
  refine lv_lconst (v := 0) hx hb dX12_end_7 (by decide) ?_
  refine lv_aload_n hx hb dX12_end_8 rfl (lv_at hl 0 rfl) ?_
  refine va_get (D := g) (ci := 11) (v := .int 0) (C := RX12) (T := TX12) (N := 56) hx hb hts iX12 hown hK hP 0 rfl rfl 6 (by decide) (hts (.fieldLink RX12 124 "CardsAtYuleModel" "taped" "I") (List.mem_cons_of_mem _ (List.mem_append_left _ (List.mem_of_getElem? (i := 1) rfl)))) (fun _ h9 => h9) rfl dX12_end_9 ?_
  refine lv_i2l (v := 0) hx hb dX12_end_12 (by decide) ?_
  refine ro_i (va_runS (As := [.long p0.toInt64, .long 0, .long 0]) (rest := []) ⟨hx, hb, hml, hown, hts⟩ (k_X12_in l g cI cJ cB cZ cL p0.toInt64 0 0 ip0 0 0 H.size (z_i2l hzp0) rfl rfl) (va_cwS 3 hts (goodIn_app (g_3 (List.mem_cons_of_mem _ (List.mem_append_left _ (List.mem_of_getElem? (i := 2) rfl))) (List.mem_cons_of_mem _ (List.mem_append_left _ (List.mem_of_getElem? (i := 3) rfl))) (List.mem_cons_of_mem _ (List.mem_append_left _ (List.mem_of_getElem? (i := 4) rfl))) (by decide +kernel)) (goodIn_sub (fun _ h => List.mem_cons_of_mem _ (List.mem_append_right _ (List.mem_append_left _ h))) good_v_X12_in)) rfl rfl rfl (by decide +kernel) ⟨Nat.le_of_ble_eq_true rfl, Nat.le_of_ble_eq_true rfl⟩) (ps_RO (wc := []) hK hP [] rfl) rfl rfl hl.1 rfl (lv_room (Nat.le_of_ble_eq_true rfl)) dX12_end_13 ⟨Nat.le_of_ble_eq_true rfl, Nat.le_of_ble_eq_true rfl⟩) hS hA hP (fun r1 u2 H locs hw3 hP hS => ?_)
  rcases hw3 with ⟨rfl, hw3_0⟩ | ⟨rfl, hw3_0⟩
  · refine lv_if_ne (tgt := 21) hx hb dX12_end_16 (by decide) (fun _ => ?_) (fun c4 => absurd c4 (by decide))
    refine lv_aload_n hx hb dX12_end_21 rfl (lv_at hl 0 rfl) ?_
    refine lv_iload_n hx hb dX12_end_22 rfl (lv_at hl 1 rfl) ?_
    refine va_put (D := g) (ci := 11) (v := .int p0) (ty := .int) (C := RX12) (T := TX12) (N := 56) hx hb hts iX12 tyX12 tyX12_ok nmX12 hown hK hP hD hS 0 rfl rfl 6 (by decide) (hts (.fieldLink RX12 124 "CardsAtYuleModel" "taped" "I") (List.mem_cons_of_mem _ (List.mem_append_left _ (List.mem_of_getElem? (i := 1) rfl)))) (fun _ h9 => h9) rfl (by decide +kernel) rfl rfl (Nat.le_of_ble_eq_true rfl) dX12_end_23 (fun H locs hP hD hS => ?_)
    have hP : va_P g vwCl [(y, .inr (11, (mO a).set 6 (.int p0)))] H := hP
    have hD : va_D A [(y, .inr (11, (mO a).set 6 (.int p0)))] := hD
    refine lv_iload_n hx hb dX12_end_26 rfl (lv_at hl 1 rfl) ?_
    have hP9 := hP.sub (ws' := []) [] rfl
    have hD9 := hD.sub (ws' := []) [] (by decide) rfl
    exact W.iret (v := p0) hx hb hr (fun t ht hW => ⟨⟨p0, (), rfl, Or.inl ⟨rfl, by omega, by omega⟩, by rw [ht]; exact hP9, va_K.moved hW.alike hK, hD9⟩, hS.F ht⟩) hS.2.2 dX12_end_27
  · refine lv_if_ne (tgt := 21) hx hb dX12_end_16 (by decide) (fun c5 => absurd c5 (by decide)) (fun _ => ?_)
    refine lv_iconst (v := (-1)) hx hb dX12_end_19 (by decide) ?_
    have hP9 := hP.sub (ws' := []) [] rfl
    have hD9 := hD.sub (ws' := []) [] (by decide) rfl
    exact W.iret (v := (-1)) hx hb hr (fun t ht hW => ⟨⟨(-1), (), rfl, Or.inr ⟨rfl, by omega⟩, by rw [ht]; exact hP9, va_K.moved hW.alike hK, hD9⟩, hS.F ht⟩) hS.2.2 dX12_end_20
def v_X12_fault : List Cond := .code yX12_fault cX12_fault 2 (some .int) :: (([.fieldLink RX12 107 "CardsAtYuleModel" "thrown" "I", .fieldLink RX12 27 "CardsAtYuleModel" "faultPlace" "I", .fieldLink RX12 186 "CardsAtYuleModel" "fault" "I"] : List Cond) ++ (wsX120 ++ ([] : List Cond)))
theorem good_v_X12_fault : v_X12_fault.all goodWord = true := ga_c (by decide +kernel) (ga_a (by decide +kernel) (ga_a good_wsX120 rfl))
set_option maxHeartbeats 4000000 in
set_option maxRecDepth 100000 in
theorem k_X12_fault (l : Launch) (g : va_G) (cI cJ cB cZ cL : ClassId) (y : Nat) (a : Nat → Nat) (p0 : Int32) (ip0 : Int) (sz : Nat) (hzp0 : p0.toInt = ip0) : Met l yX12_fault v_X12_fault ({ frames := 0, cells := 0, slots := 0, locals := 0 }) (va_Pc [.ref y, .int p0] (pRW g (tyT cI cJ cB cZ cL) [(y, .inr (11, mO a))] sz)) (va_Qi (fun (r : Int32) (u : Unit) => (r = 0 ∧ ip0 = 0) ∨ (r = (-1) ∧ ip0 ≠ 0)) (fun (_ : Unit) (t : State) => bRW g (tyT cI cJ cB cZ cL) (va_A [(y, .inr (11, mO a))] sz) [] t) (va_A [(y, .inr (11, mO a))] sz)) 0 0 (va_A [(y, .inr (11, mO a))] sz) := by
  refine Met.ofW (cc := cX12_fault) (maxL := 2) (ret := (some .int)) (by decide) rfl ?_
  intro p e s m args below meth c s₁ B hml hv
  obtain ⟨rfl, hsz, hP, hK, hD0⟩ := hv
  have hx := B.exec
  have hb := B.bytes
  have hr := B.returns
  have hts := atoms_spec (ws := v_X12_fault) B.pre
  have hown : s.vm.findClass RX12 = some m.cls := findClass_of_methodNamed B.named
  have hlocks := B.notSynchronized
  subst hsz
  have iX12 : ∀ w ∈ wsX120, w ∈ v_X12_fault := (fun _ h => List.mem_cons_of_mem _ (List.mem_append_right _ (List.mem_append_left _ h)))
  have hD := hD0.self (sz := s.heap.size)
  generalize hAe : (va_A [(y, .inr (11, mO a))] s.heap.size) = A at hD ⊢
  have hA : ∀ q : Nat, s.heap.size ≤ q → A q := fun q h => by rw [← hAe]; exact Or.inr h
  have hS : va_S A s.heap s.heap [] := va_S.rf
  have hl := lv_entry ([.ref y, .int p0]) (n := 2) (Nat.le_of_ble_eq_true rfl)
  rw [lg_entry_eq]
  generalize (lg_sl ([.ref y, .int p0]) ++ List.replicate (2 - (lg_sl ([.ref y, .int p0])).length) Slot.unset).toArray = ls at hl ⊢
  have hl : lv_has ls 2 [(0, .ref y), (1, .int p0)] := hl
  have hP : va_P g vwCl [(y, .inr (11, mO a))] s.heap := hP
  refine lv_aload_n hx hb dX12_fault_0 rfl (lv_at hl 0 rfl) ?_
  refine lv_iconst (v := 0) hx hb dX12_fault_1 (by decide) ?_
  refine va_put (D := g) (ci := 11) (v := .int 0) (ty := .int) (C := RX12) (T := TX12) (N := 56) hx hb hts iX12 tyX12 tyX12_ok nmX12 hown hK hP hD hS 0 rfl rfl 0 (by decide) (hts (.fieldLink RX12 107 "CardsAtYuleModel" "thrown" "I") (List.mem_cons_of_mem _ (List.mem_append_left _ (List.mem_of_getElem? (i := 0) rfl)))) (fun _ h9 => h9) rfl (by decide +kernel) rfl rfl (Nat.le_of_ble_eq_true rfl) dX12_fault_2 (fun H locs hP hD hS => ?_)
  have hP : va_P g vwCl [(y, .inr (11, mO a))] H := hP
  have hD : va_D A [(y, .inr (11, mO a))] := hD
  refine lv_iload_n hx hb dX12_fault_5 rfl (lv_at hl 1 rfl) ?_
  refine lv_if_ne (tgt := 16) hx hb dX12_fault_6 (by decide) (fun c1 => ?_) (fun c1 => ?_)
  · have f2 := (show ip0 ≠ 0 from z_ne hzp0 rfl c1)
    refine lv_iload_n hx hb dX12_fault_16 rfl (lv_at hl 1 rfl) ?_
    refine lv_iconst (v := 1) hx hb dX12_fault_17 (by decide) ?_
    refine lv_icmp_ne (tgt := 28) hx hb dX12_fault_18 (by decide) (fun c3 => ?_) (fun c3 => ?_)
    · have f4 := (show ip0 ≠ 1 from z_ne hzp0 rfl c3)
      refine lv_iconst (v := (-1)) hx hb dX12_fault_28 (by decide) ?_
      have hP9 := hP.sub (ws' := []) [] rfl
      have hD9 := hD.sub (ws' := []) [] (by decide) rfl
      exact W.iret (v := (-1)) hx hb hr (fun t ht hW => ⟨⟨(-1), (), rfl, Or.inr ⟨rfl, by omega⟩, by rw [ht]; exact hP9, va_K.moved hW.alike hK, hD9⟩, hS.F ht⟩) hS.2.2 dX12_fault_29
    · have f4 := (show ip0 = 1 from z_eq hzp0 rfl c3)
      refine lv_aload_n hx hb dX12_fault_21 rfl (lv_at hl 0 rfl) ?_
      refine va_get (D := g) (ci := 11) (v := .int (-1)) (C := RX12) (T := TX12) (N := 56) hx hb hts iX12 hown hK hP 0 rfl rfl 15 (by decide) (hts (.fieldLink RX12 27 "CardsAtYuleModel" "faultPlace" "I") (List.mem_cons_of_mem _ (List.mem_append_left _ (List.mem_of_getElem? (i := 1) rfl)))) (fun _ h9 => h9) rfl dX12_fault_22 ?_
      refine lv_goto (tgt := 29) hx hb dX12_fault_25 (by decide) ?_
      have hP9 := hP.sub (ws' := []) [] rfl
      have hD9 := hD.sub (ws' := []) [] (by decide) rfl
      exact W.iret (v := (-1)) hx hb hr (fun t ht hW => ⟨⟨(-1), (), rfl, Or.inr ⟨rfl, by omega⟩, by rw [ht]; exact hP9, va_K.moved hW.alike hK, hD9⟩, hS.F ht⟩) hS.2.2 dX12_fault_29
  · have f2 := (show ip0 = 0 from z_eq hzp0 rfl c1)
    refine lv_aload_n hx hb dX12_fault_9 rfl (lv_at hl 0 rfl) ?_
    refine va_get (D := g) (ci := 11) (v := .int 0) (C := RX12) (T := TX12) (N := 56) hx hb hts iX12 hown hK hP 0 rfl rfl 14 (by decide) (hts (.fieldLink RX12 186 "CardsAtYuleModel" "fault" "I") (List.mem_cons_of_mem _ (List.mem_append_left _ (List.mem_of_getElem? (i := 2) rfl)))) (fun _ h9 => h9) rfl dX12_fault_10 ?_
    refine lv_goto (tgt := 29) hx hb dX12_fault_13 (by decide) ?_
    have hP9 := hP.sub (ws' := []) [] rfl
    have hD9 := hD.sub (ws' := []) [] (by decide) rfl
    exact W.iret (v := 0) hx hb hr (fun t ht hW => ⟨⟨0, (), rfl, Or.inl ⟨rfl, by omega⟩, by rw [ht]; exact hP9, va_K.moved hW.alike hK, hD9⟩, hS.F ht⟩) hS.2.2 dX12_fault_29
def v_X12_does : List Cond := .code yX12_does cX12_does 4 (some .int) :: (([.fieldLink RX12 107 "CardsAtYuleModel" "thrown" "I", .constantLong RX12 286 (15), .methodLink RX12 112 yX12_in, .static yX12_in, .initialized RX12] : List Cond) ++ (v_X12_in ++ (wsX120 ++ ([] : List Cond))))
theorem good_v_X12_does : v_X12_does.all goodWord = true := ga_c (by decide +kernel) (ga_a (by decide +kernel) (ga_a good_v_X12_in (ga_a good_wsX120 rfl)))
set_option maxHeartbeats 4000000 in
set_option maxRecDepth 100000 in
theorem k_X12_does (l : Launch) (g : va_G) (cI cJ cB cZ cL : ClassId) (y : Nat) (a : Nat → Nat) (p0 : Int32) (p1 : Int32) (p2 : Int32) (ip0 : Int) (ip1 : Int) (ip2 : Int) (sz : Nat) (hzp0 : p0.toInt = ip0) (hzp1 : p1.toInt = ip1) (hzp2 : p2.toInt = ip2) : Met l yX12_does v_X12_does ({ frames := 1, cells := 0, slots := 0, locals := 25 }) (va_Pc [.ref y, .int p0, .int p1, .int p2] (pRW g (tyT cI cJ cB cZ cL) [(y, .inr (11, mO a))] sz)) (va_Qi (fun (r : Int32) (u : Unit) => r = doesV p0 p1 p2 ip0 ip1 ip2) (fun (_ : Unit) (t : State) => bRW g (tyT cI cJ cB cZ cL) (va_A [(y, .inr (11, mO a))] sz) [] t) (va_A [(y, .inr (11, mO a))] sz)) 0 0 (va_A [(y, .inr (11, mO a))] sz) := by
  refine Met.ofW (cc := cX12_does) (maxL := 4) (ret := (some .int)) (by decide) rfl ?_
  intro p e s m args below meth c s₁ B hml hv
  obtain ⟨rfl, hsz, hP, hK, hD0⟩ := hv
  have hx := B.exec
  have hb := B.bytes
  have hr := B.returns
  have hts := atoms_spec (ws := v_X12_does) B.pre
  have hown : s.vm.findClass RX12 = some m.cls := findClass_of_methodNamed B.named
  have hlocks := B.notSynchronized
  subst hsz
  have iX12 : ∀ w ∈ wsX120, w ∈ v_X12_does := (fun _ h => List.mem_cons_of_mem _ (List.mem_append_right _ (List.mem_append_right _ (List.mem_append_left _ h))))
  have hD := hD0.self (sz := s.heap.size)
  generalize hAe : (va_A [(y, .inr (11, mO a))] s.heap.size) = A at hD ⊢
  have hA : ∀ q : Nat, s.heap.size ≤ q → A q := fun q h => by rw [← hAe]; exact Or.inr h
  have hS : va_S A s.heap s.heap [] := va_S.rf
  have hl := lv_entry ([.ref y, .int p0, .int p1, .int p2]) (n := 4) (Nat.le_of_ble_eq_true rfl)
  rw [lg_entry_eq]
  generalize (lg_sl ([.ref y, .int p0, .int p1, .int p2]) ++ List.replicate (4 - (lg_sl ([.ref y, .int p0, .int p1, .int p2])).length) Slot.unset).toArray = ls at hl ⊢
  have hl : lv_has ls 4 [(0, .ref y), (1, .int p0), (2, .int p1), (3, .int p2)] := hl
  have hP : va_P g vwCl [(y, .inr (11, mO a))] s.heap := hP
  refine lv_aload_n hx hb dX12_does_0 rfl (lv_at hl 0 rfl) ?_
  refine lv_iconst (v := 0) hx hb dX12_does_1 (by decide) ?_
  refine va_put (D := g) (ci := 11) (v := .int 0) (ty := .int) (C := RX12) (T := TX12) (N := 56) hx hb hts iX12 tyX12 tyX12_ok nmX12 hown hK hP hD hS 0 rfl rfl 0 (by decide) (hts (.fieldLink RX12 107 "CardsAtYuleModel" "thrown" "I") (List.mem_cons_of_mem _ (List.mem_append_left _ (List.mem_of_getElem? (i := 0) rfl)))) (fun _ h9 => h9) rfl (by decide +kernel) rfl rfl (Nat.le_of_ble_eq_true rfl) dX12_does_2 (fun H locs hP hD hS => ?_)
  have hP : va_P g vwCl [(y, .inr (11, mO a))] H := hP
  have hD : va_D A [(y, .inr (11, mO a))] := hD
  refine lv_iload_n hx hb dX12_does_5 rfl (lv_at hl 1 rfl) ?_
  refine lv_i2l (v := p0.toInt64) hx hb dX12_does_6 rfl ?_
  refine lv_lconst (v := 0) hx hb dX12_does_7 (by decide) ?_
  refine lv_ldc2 (v := 15) hx hb hown (hts (.constantLong RX12 286 (15)) (List.mem_cons_of_mem _ (List.mem_append_left _ (List.mem_of_getElem? (i := 1) rfl)))) dX12_does_8 ?_
  refine ro_i (va_runS (As := [.long p0.toInt64, .long 0, .long 15]) (rest := []) ⟨hx, hb, hml, hown, hts⟩ (k_X12_in l g cI cJ cB cZ cL p0.toInt64 0 15 ip0 0 15 H.size (z_i2l hzp0) rfl rfl) (va_cwS 3 hts (goodIn_app (g_3 (List.mem_cons_of_mem _ (List.mem_append_left _ (List.mem_of_getElem? (i := 2) rfl))) (List.mem_cons_of_mem _ (List.mem_append_left _ (List.mem_of_getElem? (i := 3) rfl))) (List.mem_cons_of_mem _ (List.mem_append_left _ (List.mem_of_getElem? (i := 4) rfl))) (by decide +kernel)) (goodIn_sub (fun _ h => List.mem_cons_of_mem _ (List.mem_append_right _ (List.mem_append_left _ h))) good_v_X12_in)) rfl rfl rfl (by decide +kernel) ⟨Nat.le_of_ble_eq_true rfl, Nat.le_of_ble_eq_true rfl⟩) (ps_RO (wc := []) hK hP [] rfl) rfl rfl hl.1 rfl (lv_room (Nat.le_of_ble_eq_true rfl)) dX12_does_11 ⟨Nat.le_of_ble_eq_true rfl, Nat.le_of_ble_eq_true rfl⟩) hS hA hP (fun r1 u2 H locs hw3 hP hS => ?_)
  rcases hw3 with ⟨rfl, hw3_0⟩ | ⟨rfl, hw3_0⟩
  · refine lv_if_eq (tgt := 49) hx hb dX12_does_14 (by decide) (fun c4 => absurd c4 (by decide)) (fun _ => ?_)
    refine lv_iload_n hx hb dX12_does_17 rfl (lv_at hl 2 rfl) ?_
    refine lv_i2l (v := p1.toInt64) hx hb dX12_does_18 rfl ?_
    refine lv_lconst (v := 0) hx hb dX12_does_19 (by decide) ?_
    refine lv_lconst (v := 1) hx hb dX12_does_20 (by decide) ?_
    refine ro_i (va_runS (As := [.long p1.toInt64, .long 0, .long 1]) (rest := []) ⟨hx, hb, hml, hown, hts⟩ (k_X12_in l g cI cJ cB cZ cL p1.toInt64 0 1 ip1 0 1 H.size (z_i2l hzp1) rfl rfl) (va_cwS 3 hts (goodIn_app (g_3 (List.mem_cons_of_mem _ (List.mem_append_left _ (List.mem_of_getElem? (i := 2) rfl))) (List.mem_cons_of_mem _ (List.mem_append_left _ (List.mem_of_getElem? (i := 3) rfl))) (List.mem_cons_of_mem _ (List.mem_append_left _ (List.mem_of_getElem? (i := 4) rfl))) (by decide +kernel)) (goodIn_sub (fun _ h => List.mem_cons_of_mem _ (List.mem_append_right _ (List.mem_append_left _ h))) good_v_X12_in)) rfl rfl rfl (by decide +kernel) ⟨Nat.le_of_ble_eq_true rfl, Nat.le_of_ble_eq_true rfl⟩) (ps_RO (wc := []) hK hP [] rfl) rfl rfl hl.1 rfl (lv_room (Nat.le_of_ble_eq_true rfl)) dX12_does_21 ⟨Nat.le_of_ble_eq_true rfl, Nat.le_of_ble_eq_true rfl⟩) hS hA hP (fun r5 u6 H locs hw7 hP hS => ?_)
    rcases hw7 with ⟨rfl, hw7_0⟩ | ⟨rfl, hw7_0⟩
    · refine lv_if_eq (tgt := 49) hx hb dX12_does_24 (by decide) (fun c8 => absurd c8 (by decide)) (fun _ => ?_)
      refine lv_iload_n hx hb dX12_does_27 rfl (lv_at hl 3 rfl) ?_
      refine lv_i2l (v := p2.toInt64) hx hb dX12_does_28 rfl ?_
      refine lv_lconst (v := 0) hx hb dX12_does_29 (by decide) ?_
      refine lv_lconst (v := 1) hx hb dX12_does_30 (by decide) ?_
      refine ro_i (va_runS (As := [.long p2.toInt64, .long 0, .long 1]) (rest := []) ⟨hx, hb, hml, hown, hts⟩ (k_X12_in l g cI cJ cB cZ cL p2.toInt64 0 1 ip2 0 1 H.size (z_i2l hzp2) rfl rfl) (va_cwS 3 hts (goodIn_app (g_3 (List.mem_cons_of_mem _ (List.mem_append_left _ (List.mem_of_getElem? (i := 2) rfl))) (List.mem_cons_of_mem _ (List.mem_append_left _ (List.mem_of_getElem? (i := 3) rfl))) (List.mem_cons_of_mem _ (List.mem_append_left _ (List.mem_of_getElem? (i := 4) rfl))) (by decide +kernel)) (goodIn_sub (fun _ h => List.mem_cons_of_mem _ (List.mem_append_right _ (List.mem_append_left _ h))) good_v_X12_in)) rfl rfl rfl (by decide +kernel) ⟨Nat.le_of_ble_eq_true rfl, Nat.le_of_ble_eq_true rfl⟩) (ps_RO (wc := []) hK hP [] rfl) rfl rfl hl.1 rfl (lv_room (Nat.le_of_ble_eq_true rfl)) dX12_does_31 ⟨Nat.le_of_ble_eq_true rfl, Nat.le_of_ble_eq_true rfl⟩) hS hA hP (fun r9 u10 H locs hw11 hP hS => ?_)
      rcases hw11 with ⟨rfl, hw11_0⟩ | ⟨rfl, hw11_0⟩
      · refine lv_if_eq (tgt := 49) hx hb dX12_does_34 (by decide) (fun c12 => absurd c12 (by decide)) (fun _ => ?_)
        refine lv_iload_n hx hb dX12_does_37 rfl (lv_at hl 1 rfl) ?_
        refine lv_iload_n hx hb dX12_does_38 rfl (lv_at hl 2 rfl) ?_
        refine lv_iconst (v := 2) hx hb dX12_does_39 (by decide) ?_
        refine lv_iload_n hx hb dX12_does_40 rfl (lv_at hl 3 rfl) ?_
        refine lv_imul hx hb dX12_does_41 ?_
        refine lv_iadd hx hb dX12_does_42 ?_
        refine lv_ishr hx hb dX12_does_43 ?_
        refine lv_iconst (v := 1) hx hb dX12_does_44 (by decide) ?_
        refine lv_iand hx hb dX12_does_45 ?_
        refine lv_goto (tgt := 51) hx hb dX12_does_46 (by decide) ?_
        have hP9 := hP.sub (ws' := []) [] rfl
        have hD9 := hD.sub (ws' := []) [] (by decide) rfl
        exact W.iret (v := ((p0 >>> ((p1 + (2 * p2)) &&& (31 : Int32))) &&& 1)) hx hb hr (fun t ht hW => ⟨⟨((p0 >>> ((p1 + (2 * p2)) &&& (31 : Int32))) &&& 1), (), rfl, (if_pos ⟨⟨by omega, by omega⟩, ⟨by omega, by omega⟩, ⟨by omega, by omega⟩⟩).symm, by rw [ht]; exact hP9, va_K.moved hW.alike hK, hD9⟩, hS.F ht⟩) hS.2.2 dX12_does_51
      · refine lv_if_eq (tgt := 49) hx hb dX12_does_34 (by decide) (fun _ => ?_) (fun c13 => absurd c13 (by decide))
        refine lv_bipush (v := (-2)) hx hb dX12_does_49 (by decide) ?_
        have hP9 := hP.sub (ws' := []) [] rfl
        have hD9 := hD.sub (ws' := []) [] (by decide) rfl
        exact W.iret (v := (-2)) hx hb hr (fun t ht hW => ⟨⟨(-2), (), rfl, (if_neg (by omega)).symm, by rw [ht]; exact hP9, va_K.moved hW.alike hK, hD9⟩, hS.F ht⟩) hS.2.2 dX12_does_51
    · refine lv_if_eq (tgt := 49) hx hb dX12_does_24 (by decide) (fun _ => ?_) (fun c14 => absurd c14 (by decide))
      refine lv_bipush (v := (-2)) hx hb dX12_does_49 (by decide) ?_
      have hP9 := hP.sub (ws' := []) [] rfl
      have hD9 := hD.sub (ws' := []) [] (by decide) rfl
      exact W.iret (v := (-2)) hx hb hr (fun t ht hW => ⟨⟨(-2), (), rfl, (if_neg (by omega)).symm, by rw [ht]; exact hP9, va_K.moved hW.alike hK, hD9⟩, hS.F ht⟩) hS.2.2 dX12_does_51
  · refine lv_if_eq (tgt := 49) hx hb dX12_does_14 (by decide) (fun _ => ?_) (fun c15 => absurd c15 (by decide))
    refine lv_bipush (v := (-2)) hx hb dX12_does_49 (by decide) ?_
    have hP9 := hP.sub (ws' := []) [] rfl
    have hD9 := hD.sub (ws' := []) [] (by decide) rfl
    exact W.iret (v := (-2)) hx hb hr (fun t ht hW => ⟨⟨(-2), (), rfl, (if_neg (by omega)).symm, by rw [ht]; exact hP9, va_K.moved hW.alike hK, hD9⟩, hS.F ht⟩) hS.2.2 dX12_does_51
def v_X12_write : List Cond := .code yX12_write cX12_write 5 (some .int) :: (([.fieldLink RX12 107 "CardsAtYuleModel" "thrown" "I", .methodLink RX12 116 yX12_isSlot, .static yX12_isSlot, .initialized RX12, .fieldLink RX12 7 "CardsAtYuleModel" "width" "[I"] : List Cond) ++ (v_X12_isSlot ++ (wsX120 ++ ([] : List Cond))))
theorem good_v_X12_write : v_X12_write.all goodWord = true := ga_c (by decide +kernel) (ga_a (by decide +kernel) (ga_a good_v_X12_isSlot (ga_a good_wsX120 rfl)))
set_option maxHeartbeats 4000000 in
set_option maxRecDepth 100000 in
theorem k_X12_write (l : Launch) (g : va_G) (cI cJ cB cZ cL : ClassId) (y : Nat) (a : Nat → Nat) (fw : Nat → Int32) (p0 : Int32) (p1 : Int32) (p2 : Int64) (ip0 : Int) (sz : Nat) (hzp0 : p0.toInt = ip0) (hS_fw : ∀ k, k < 4 → fw k = (-1)) : Met l yX12_write v_X12_write ({ frames := 2, cells := 0, slots := 0, locals := 45 }) (va_Pc [.ref y, .int p0, .int p1, .long p2] (pRW g (tyT cI cJ cB cZ cL) [(y, .inr (11, mO a)), ((a 1), .inl (cI, 4, .inl fw))] sz)) (va_Qi (fun (r : Int32) (u : Unit) => (r = (-6) ∧ 0 ≤ ip0 ∧ ip0 < 4) ∨ (r = (-2) ∧ ¬ (0 ≤ ip0 ∧ ip0 < 4))) (fun (_ : Unit) (t : State) => bRW g (tyT cI cJ cB cZ cL) (va_A [(y, .inr (11, mO a)), ((a 1), .inl (cI, 4, .inl fw))] sz) [] t) (va_A [(y, .inr (11, mO a)), ((a 1), .inl (cI, 4, .inl fw))] sz)) 0 0 (va_A [(y, .inr (11, mO a)), ((a 1), .inl (cI, 4, .inl fw))] sz) := by
  refine Met.ofW (cc := cX12_write) (maxL := 5) (ret := (some .int)) (by decide) rfl ?_
  intro p e s m args below meth c s₁ B hml hv
  obtain ⟨rfl, hsz, hP, hK, hD0⟩ := hv
  have hx := B.exec
  have hb := B.bytes
  have hr := B.returns
  have hts := atoms_spec (ws := v_X12_write) B.pre
  have hown : s.vm.findClass RX12 = some m.cls := findClass_of_methodNamed B.named
  have hlocks := B.notSynchronized
  subst hsz
  have iX12 : ∀ w ∈ wsX120, w ∈ v_X12_write := (fun _ h => List.mem_cons_of_mem _ (List.mem_append_right _ (List.mem_append_right _ (List.mem_append_left _ h))))
  have hD := hD0.self (sz := s.heap.size)
  generalize hAe : (va_A [(y, .inr (11, mO a)), ((a 1), .inl (cI, 4, .inl fw))] s.heap.size) = A at hD ⊢
  have hA : ∀ q : Nat, s.heap.size ≤ q → A q := fun q h => by rw [← hAe]; exact Or.inr h
  have hS : va_S A s.heap s.heap [] := va_S.rf
  have hl := lv_entry ([.ref y, .int p0, .int p1, .long p2]) (n := 5) (Nat.le_of_ble_eq_true rfl)
  rw [lg_entry_eq]
  generalize (lg_sl ([.ref y, .int p0, .int p1, .long p2]) ++ List.replicate (5 - (lg_sl ([.ref y, .int p0, .int p1, .long p2])).length) Slot.unset).toArray = ls at hl ⊢
  have hl : lv_has ls 5 [(0, .ref y), (1, .int p0), (2, .int p1), (3, .long p2)] := hl
  have hP : va_P g vwCl [(y, .inr (11, mO a)), ((a 1), .inl (cI, 4, .inl fw))] s.heap := hP
  refine lv_aload_n hx hb dX12_write_0 rfl (lv_at hl 0 rfl) ?_
  refine lv_iconst (v := 0) hx hb dX12_write_1 (by decide) ?_
  refine va_put (D := g) (ci := 11) (v := .int 0) (ty := .int) (C := RX12) (T := TX12) (N := 56) hx hb hts iX12 tyX12 tyX12_ok nmX12 hown hK hP hD hS 0 rfl rfl 0 (by decide) (hts (.fieldLink RX12 107 "CardsAtYuleModel" "thrown" "I") (List.mem_cons_of_mem _ (List.mem_append_left _ (List.mem_of_getElem? (i := 0) rfl)))) (fun _ h9 => h9) rfl (by decide +kernel) rfl rfl (Nat.le_of_ble_eq_true rfl) dX12_write_2 (fun H locs hP hD hS => ?_)
  have hP : va_P g vwCl [(y, .inr (11, mO a)), ((a 1), .inl (cI, 4, .inl fw))] H := hP
  have hD : va_D A [(y, .inr (11, mO a)), ((a 1), .inl (cI, 4, .inl fw))] := hD
  refine lv_iload_n hx hb dX12_write_5 rfl (lv_at hl 1 rfl) ?_
  refine ro_i (va_runS (As := [.int p0]) (rest := []) ⟨hx, hb, hml, hown, hts⟩ (k_X12_isSlot l g cI cJ cB cZ cL p0 ip0 H.size hzp0) (va_cwS 1 hts (goodIn_app (g_3 (List.mem_cons_of_mem _ (List.mem_append_left _ (List.mem_of_getElem? (i := 1) rfl))) (List.mem_cons_of_mem _ (List.mem_append_left _ (List.mem_of_getElem? (i := 2) rfl))) (List.mem_cons_of_mem _ (List.mem_append_left _ (List.mem_of_getElem? (i := 3) rfl))) (by decide +kernel)) (goodIn_sub (fun _ h => List.mem_cons_of_mem _ (List.mem_append_right _ (List.mem_append_left _ h))) good_v_X12_isSlot)) rfl rfl rfl (by decide +kernel) ⟨Nat.le_of_ble_eq_true rfl, Nat.le_of_ble_eq_true rfl⟩) (ps_RO (wc := []) hK hP [] rfl) rfl rfl hl.1 rfl (lv_room (Nat.le_of_ble_eq_true rfl)) dX12_write_6 ⟨Nat.le_of_ble_eq_true rfl, Nat.le_of_ble_eq_true rfl⟩) hS hA hP (fun r1 u2 H locs hw3 hP hS => ?_)
  rcases hw3 with ⟨rfl, hw3_0⟩ | ⟨rfl, hw3_0⟩
  · refine lv_if_ne (tgt := 15) hx hb dX12_write_9 (by decide) (fun _ => ?_) (fun c4 => absurd c4 (by decide))
    refine lv_aload_n hx hb dX12_write_15 rfl (lv_at hl 0 rfl) ?_
    refine va_get (D := g) (ci := 11) (v := .ref (a 1)) (C := RX12) (T := TX12) (N := 56) hx hb hts iX12 hown hK hP 0 rfl rfl 1 (by decide) (hts (.fieldLink RX12 7 "CardsAtYuleModel" "width" "[I") (List.mem_cons_of_mem _ (List.mem_append_left _ (List.mem_of_getElem? (i := 4) rfl)))) (fun _ h9 => h9) rfl dX12_write_16 ?_
    refine lv_iload_n hx hb dX12_write_19 rfl (lv_at hl 1 rfl) ?_
    refine va_iald (D := g) hx hb hK hP 1 0 rfl rfl (vi_in hzp0 (by omega) (by omega)) dX12_write_20 ?_
    refine lv_topi (nm_r (e' := (-1)) (hS_fw _ (cl_z hzp0 (by omega) (by omega))) ?_)
    refine lv_iconst (v := (-1)) hx hb dX12_write_21 (by decide) ?_
    refine lv_icmp_ne (tgt := 28) hx hb dX12_write_22 (by decide) (fun c5 => absurd c5 (by decide)) (fun _ => ?_)
    refine lv_bipush (v := (-6)) hx hb dX12_write_25 (by decide) ?_
    have hP9 := hP.sub (ws' := []) [] rfl
    have hD9 := hD.sub (ws' := []) [] (by decide) rfl
    exact W.iret (v := (-6)) hx hb hr (fun t ht hW => ⟨⟨(-6), (), rfl, Or.inl ⟨rfl, by omega, by omega⟩, by rw [ht]; exact hP9, va_K.moved hW.alike hK, hD9⟩, hS.F ht⟩) hS.2.2 dX12_write_27
  · refine lv_if_ne (tgt := 15) hx hb dX12_write_9 (by decide) (fun c6 => absurd c6 (by decide)) (fun _ => ?_)
    refine lv_bipush (v := (-2)) hx hb dX12_write_12 (by decide) ?_
    have hP9 := hP.sub (ws' := []) [] rfl
    have hD9 := hD.sub (ws' := []) [] (by decide) rfl
    exact W.iret (v := (-2)) hx hb hr (fun t ht hW => ⟨⟨(-2), (), rfl, Or.inr ⟨rfl, by omega⟩, by rw [ht]; exact hP9, va_K.moved hW.alike hK, hD9⟩, hS.F ht⟩) hS.2.2 dX12_write_14
def v_X12_paste : List Cond := .code yX12_paste cX12_paste 7 (some .int) :: (([.fieldLink RX12 107 "CardsAtYuleModel" "thrown" "I", .methodLink RX12 116 yX12_isSlot, .static yX12_isSlot, .initialized RX12, .fieldLink RX12 7 "CardsAtYuleModel" "width" "[I"] : List Cond) ++ (v_X12_isSlot ++ (wsX120 ++ ([] : List Cond))))
theorem good_v_X12_paste : v_X12_paste.all goodWord = true := ga_c (by decide +kernel) (ga_a (by decide +kernel) (ga_a good_v_X12_isSlot (ga_a good_wsX120 rfl)))
set_option maxHeartbeats 4000000 in
set_option maxRecDepth 100000 in
theorem k_X12_paste (l : Launch) (g : va_G) (cI cJ cB cZ cL : ClassId) (y : Nat) (a : Nat → Nat) (fw : Nat → Int32) (p0 : Int32) (p1 : Int32) (p2 : Int32) (p3 : Int32) (p4 : Int32) (ip0 : Int) (ip1 : Int) (ip2 : Int) (ip3 : Int) (ip4 : Int) (sz : Nat) (hzp0 : p0.toInt = ip0) (hzp1 : p1.toInt = ip1) (hzp2 : p2.toInt = ip2) (hzp3 : p3.toInt = ip3) (hzp4 : p4.toInt = ip4) (hS_fw : ∀ k, k < 4 → fw k = (-1)) : Met l yX12_paste v_X12_paste ({ frames := 2, cells := 0, slots := 0, locals := 45 }) (va_Pc [.ref y, .int p0, .int p1, .int p2, .int p3, .int p4] (pRW g (tyT cI cJ cB cZ cL) [(y, .inr (11, mO a)), ((a 1), .inl (cI, 4, .inl fw))] sz)) (va_Qi (fun (r : Int32) (u : Unit) => (r = (-6) ∧ 0 ≤ ip0 ∧ ip0 < 4 ∧ 0 ≤ ip2 ∧ ip2 < 4) ∨ (r = (-2) ∧ ¬ (0 ≤ ip0 ∧ ip0 < 4 ∧ 0 ≤ ip2 ∧ ip2 < 4))) (fun (_ : Unit) (t : State) => bRW g (tyT cI cJ cB cZ cL) (va_A [(y, .inr (11, mO a)), ((a 1), .inl (cI, 4, .inl fw))] sz) [] t) (va_A [(y, .inr (11, mO a)), ((a 1), .inl (cI, 4, .inl fw))] sz)) 0 0 (va_A [(y, .inr (11, mO a)), ((a 1), .inl (cI, 4, .inl fw))] sz) := by
  refine Met.ofW (cc := cX12_paste) (maxL := 7) (ret := (some .int)) (by decide) rfl ?_
  intro p e s m args below meth c s₁ B hml hv
  obtain ⟨rfl, hsz, hP, hK, hD0⟩ := hv
  have hx := B.exec
  have hb := B.bytes
  have hr := B.returns
  have hts := atoms_spec (ws := v_X12_paste) B.pre
  have hown : s.vm.findClass RX12 = some m.cls := findClass_of_methodNamed B.named
  have hlocks := B.notSynchronized
  subst hsz
  have iX12 : ∀ w ∈ wsX120, w ∈ v_X12_paste := (fun _ h => List.mem_cons_of_mem _ (List.mem_append_right _ (List.mem_append_right _ (List.mem_append_left _ h))))
  have hD := hD0.self (sz := s.heap.size)
  generalize hAe : (va_A [(y, .inr (11, mO a)), ((a 1), .inl (cI, 4, .inl fw))] s.heap.size) = A at hD ⊢
  have hA : ∀ q : Nat, s.heap.size ≤ q → A q := fun q h => by rw [← hAe]; exact Or.inr h
  have hS : va_S A s.heap s.heap [] := va_S.rf
  have hl := lv_entry ([.ref y, .int p0, .int p1, .int p2, .int p3, .int p4]) (n := 7) (Nat.le_of_ble_eq_true rfl)
  rw [lg_entry_eq]
  generalize (lg_sl ([.ref y, .int p0, .int p1, .int p2, .int p3, .int p4]) ++ List.replicate (7 - (lg_sl ([.ref y, .int p0, .int p1, .int p2, .int p3, .int p4])).length) Slot.unset).toArray = ls at hl ⊢
  have hl : lv_has ls 7 [(0, .ref y), (1, .int p0), (2, .int p1), (3, .int p2), (4, .int p3), (5, .int p4)] := hl
  have hP : va_P g vwCl [(y, .inr (11, mO a)), ((a 1), .inl (cI, 4, .inl fw))] s.heap := hP
  refine lv_aload_n hx hb dX12_paste_0 rfl (lv_at hl 0 rfl) ?_
  refine lv_iconst (v := 0) hx hb dX12_paste_1 (by decide) ?_
  refine va_put (D := g) (ci := 11) (v := .int 0) (ty := .int) (C := RX12) (T := TX12) (N := 56) hx hb hts iX12 tyX12 tyX12_ok nmX12 hown hK hP hD hS 0 rfl rfl 0 (by decide) (hts (.fieldLink RX12 107 "CardsAtYuleModel" "thrown" "I") (List.mem_cons_of_mem _ (List.mem_append_left _ (List.mem_of_getElem? (i := 0) rfl)))) (fun _ h9 => h9) rfl (by decide +kernel) rfl rfl (Nat.le_of_ble_eq_true rfl) dX12_paste_2 (fun H locs hP hD hS => ?_)
  have hP : va_P g vwCl [(y, .inr (11, mO a)), ((a 1), .inl (cI, 4, .inl fw))] H := hP
  have hD : va_D A [(y, .inr (11, mO a)), ((a 1), .inl (cI, 4, .inl fw))] := hD
  refine lv_iload_n hx hb dX12_paste_5 rfl (lv_at hl 1 rfl) ?_
  refine ro_i (va_runS (As := [.int p0]) (rest := []) ⟨hx, hb, hml, hown, hts⟩ (k_X12_isSlot l g cI cJ cB cZ cL p0 ip0 H.size hzp0) (va_cwS 1 hts (goodIn_app (g_3 (List.mem_cons_of_mem _ (List.mem_append_left _ (List.mem_of_getElem? (i := 1) rfl))) (List.mem_cons_of_mem _ (List.mem_append_left _ (List.mem_of_getElem? (i := 2) rfl))) (List.mem_cons_of_mem _ (List.mem_append_left _ (List.mem_of_getElem? (i := 3) rfl))) (by decide +kernel)) (goodIn_sub (fun _ h => List.mem_cons_of_mem _ (List.mem_append_right _ (List.mem_append_left _ h))) good_v_X12_isSlot)) rfl rfl rfl (by decide +kernel) ⟨Nat.le_of_ble_eq_true rfl, Nat.le_of_ble_eq_true rfl⟩) (ps_RO (wc := []) hK hP [] rfl) rfl rfl hl.1 rfl (lv_room (Nat.le_of_ble_eq_true rfl)) dX12_paste_6 ⟨Nat.le_of_ble_eq_true rfl, Nat.le_of_ble_eq_true rfl⟩) hS hA hP (fun r1 u2 H locs hw3 hP hS => ?_)
  rcases hw3 with ⟨rfl, hw3_0⟩ | ⟨rfl, hw3_0⟩
  · refine lv_if_eq (tgt := 19) hx hb dX12_paste_9 (by decide) (fun c4 => absurd c4 (by decide)) (fun _ => ?_)
    refine lv_iload_n hx hb dX12_paste_12 rfl (lv_at hl 3 rfl) ?_
    refine ro_i (va_runS (As := [.int p2]) (rest := []) ⟨hx, hb, hml, hown, hts⟩ (k_X12_isSlot l g cI cJ cB cZ cL p2 ip2 H.size hzp2) (va_cwS 1 hts (goodIn_app (g_3 (List.mem_cons_of_mem _ (List.mem_append_left _ (List.mem_of_getElem? (i := 1) rfl))) (List.mem_cons_of_mem _ (List.mem_append_left _ (List.mem_of_getElem? (i := 2) rfl))) (List.mem_cons_of_mem _ (List.mem_append_left _ (List.mem_of_getElem? (i := 3) rfl))) (by decide +kernel)) (goodIn_sub (fun _ h => List.mem_cons_of_mem _ (List.mem_append_right _ (List.mem_append_left _ h))) good_v_X12_isSlot)) rfl rfl rfl (by decide +kernel) ⟨Nat.le_of_ble_eq_true rfl, Nat.le_of_ble_eq_true rfl⟩) (ps_RO (wc := []) hK hP [] rfl) rfl rfl hl.1 rfl (lv_room (Nat.le_of_ble_eq_true rfl)) dX12_paste_13 ⟨Nat.le_of_ble_eq_true rfl, Nat.le_of_ble_eq_true rfl⟩) hS hA hP (fun r5 u6 H locs hw7 hP hS => ?_)
    rcases hw7 with ⟨rfl, hw7_0⟩ | ⟨rfl, hw7_0⟩
    · refine lv_if_ne (tgt := 22) hx hb dX12_paste_16 (by decide) (fun _ => ?_) (fun c8 => absurd c8 (by decide))
      refine lv_aload_n hx hb dX12_paste_22 rfl (lv_at hl 0 rfl) ?_
      refine va_get (D := g) (ci := 11) (v := .ref (a 1)) (C := RX12) (T := TX12) (N := 56) hx hb hts iX12 hown hK hP 0 rfl rfl 1 (by decide) (hts (.fieldLink RX12 7 "CardsAtYuleModel" "width" "[I") (List.mem_cons_of_mem _ (List.mem_append_left _ (List.mem_of_getElem? (i := 4) rfl)))) (fun _ h9 => h9) rfl dX12_paste_23 ?_
      refine lv_iload_n hx hb dX12_paste_26 rfl (lv_at hl 1 rfl) ?_
      refine va_iald (D := g) hx hb hK hP 1 0 rfl rfl (vi_in hzp0 (by omega) (by omega)) dX12_paste_27 ?_
      refine lv_topi (nm_r (e' := (-1)) (hS_fw _ (cl_z hzp0 (by omega) (by omega))) ?_)
      refine lv_iconst (v := (-1)) hx hb dX12_paste_28 (by decide) ?_
      refine lv_icmp_eq (tgt := 42) hx hb dX12_paste_29 (by decide) (fun _ => ?_) (fun c9 => absurd c9 (by decide))
      refine lv_bipush (v := (-6)) hx hb dX12_paste_42 (by decide) ?_
      have hP9 := hP.sub (ws' := []) [] rfl
      have hD9 := hD.sub (ws' := []) [] (by decide) rfl
      exact W.iret (v := (-6)) hx hb hr (fun t ht hW => ⟨⟨(-6), (), rfl, Or.inl ⟨rfl, by omega, by omega, by omega, by omega⟩, by rw [ht]; exact hP9, va_K.moved hW.alike hK, hD9⟩, hS.F ht⟩) hS.2.2 dX12_paste_44
    · refine lv_if_ne (tgt := 22) hx hb dX12_paste_16 (by decide) (fun c10 => absurd c10 (by decide)) (fun _ => ?_)
      refine lv_bipush (v := (-2)) hx hb dX12_paste_19 (by decide) ?_
      have hP9 := hP.sub (ws' := []) [] rfl
      have hD9 := hD.sub (ws' := []) [] (by decide) rfl
      exact W.iret (v := (-2)) hx hb hr (fun t ht hW => ⟨⟨(-2), (), rfl, Or.inr ⟨rfl, by omega⟩, by rw [ht]; exact hP9, va_K.moved hW.alike hK, hD9⟩, hS.F ht⟩) hS.2.2 dX12_paste_21
  · refine lv_if_eq (tgt := 19) hx hb dX12_paste_9 (by decide) (fun _ => ?_) (fun c11 => absurd c11 (by decide))
    refine lv_bipush (v := (-2)) hx hb dX12_paste_19 (by decide) ?_
    have hP9 := hP.sub (ws' := []) [] rfl
    have hD9 := hD.sub (ws' := []) [] (by decide) rfl
    exact W.iret (v := (-2)) hx hb hr (fun t ht hW => ⟨⟨(-2), (), rfl, Or.inr ⟨rfl, by omega⟩, by rw [ht]; exact hP9, va_K.moved hW.alike hK, hD9⟩, hS.F ht⟩) hS.2.2 dX12_paste_21
def v_X12_on : List Cond := .code yX12_on cX12_on 2 (some .int) :: (([.fieldLink RX12 107 "CardsAtYuleModel" "thrown" "I", .constantLong RX12 284 (2), .methodLink RX12 112 yX12_in, .static yX12_in, .initialized RX12, .fieldLink RX12 49 "CardsAtYuleModel" "isKept" "[Z"] : List Cond) ++ (v_X12_in ++ (wsX120 ++ ([] : List Cond))))
theorem good_v_X12_on : v_X12_on.all goodWord = true := ga_c (by decide +kernel) (ga_a (by decide +kernel) (ga_a good_v_X12_in (ga_a good_wsX120 rfl)))
set_option maxHeartbeats 4000000 in
set_option maxRecDepth 100000 in
theorem k_X12_on (l : Launch) (g : va_G) (cI cJ cB cZ cL : ClassId) (y : Nat) (a : Nat → Nat) (p0 : Int32) (ip0 : Int) (sz : Nat) (hzp0 : p0.toInt = ip0) : Met l yX12_on v_X12_on ({ frames := 1, cells := 0, slots := 0, locals := 25 }) (va_Pc [.ref y, .int p0] (pRW g (tyT cI cJ cB cZ cL) [(y, .inr (11, mO a)), ((a 22), .inl (cZ, 3, .inl (fun _ => 0)))] sz)) (va_Qi (fun (r : Int32) (u : Unit) => (r = (-6) ∧ 0 ≤ ip0 ∧ ip0 < 3) ∨ (r = (-2) ∧ ¬ (0 ≤ ip0 ∧ ip0 < 3))) (fun (_ : Unit) (t : State) => bRW g (tyT cI cJ cB cZ cL) (va_A [(y, .inr (11, mO a)), ((a 22), .inl (cZ, 3, .inl (fun _ => 0)))] sz) [] t) (va_A [(y, .inr (11, mO a)), ((a 22), .inl (cZ, 3, .inl (fun _ => 0)))] sz)) 0 0 (va_A [(y, .inr (11, mO a)), ((a 22), .inl (cZ, 3, .inl (fun _ => 0)))] sz) := by
  refine Met.ofW (cc := cX12_on) (maxL := 2) (ret := (some .int)) (by decide) rfl ?_
  intro p e s m args below meth c s₁ B hml hv
  obtain ⟨rfl, hsz, hP, hK, hD0⟩ := hv
  have hx := B.exec
  have hb := B.bytes
  have hr := B.returns
  have hts := atoms_spec (ws := v_X12_on) B.pre
  have hown : s.vm.findClass RX12 = some m.cls := findClass_of_methodNamed B.named
  have hlocks := B.notSynchronized
  subst hsz
  have iX12 : ∀ w ∈ wsX120, w ∈ v_X12_on := (fun _ h => List.mem_cons_of_mem _ (List.mem_append_right _ (List.mem_append_right _ (List.mem_append_left _ h))))
  have hD := hD0.self (sz := s.heap.size)
  generalize hAe : (va_A [(y, .inr (11, mO a)), ((a 22), .inl (cZ, 3, .inl (fun _ => 0)))] s.heap.size) = A at hD ⊢
  have hA : ∀ q : Nat, s.heap.size ≤ q → A q := fun q h => by rw [← hAe]; exact Or.inr h
  have hS : va_S A s.heap s.heap [] := va_S.rf
  have hl := lv_entry ([.ref y, .int p0]) (n := 2) (Nat.le_of_ble_eq_true rfl)
  rw [lg_entry_eq]
  generalize (lg_sl ([.ref y, .int p0]) ++ List.replicate (2 - (lg_sl ([.ref y, .int p0])).length) Slot.unset).toArray = ls at hl ⊢
  have hl : lv_has ls 2 [(0, .ref y), (1, .int p0)] := hl
  have hP : va_P g vwCl [(y, .inr (11, mO a)), ((a 22), .inl (cZ, 3, .inl (fun _ => 0)))] s.heap := hP
  refine lv_aload_n hx hb dX12_on_0 rfl (lv_at hl 0 rfl) ?_
  refine lv_iconst (v := 0) hx hb dX12_on_1 (by decide) ?_
  refine va_put (D := g) (ci := 11) (v := .int 0) (ty := .int) (C := RX12) (T := TX12) (N := 56) hx hb hts iX12 tyX12 tyX12_ok nmX12 hown hK hP hD hS 0 rfl rfl 0 (by decide) (hts (.fieldLink RX12 107 "CardsAtYuleModel" "thrown" "I") (List.mem_cons_of_mem _ (List.mem_append_left _ (List.mem_of_getElem? (i := 0) rfl)))) (fun _ h9 => h9) rfl (by decide +kernel) rfl rfl (Nat.le_of_ble_eq_true rfl) dX12_on_2 (fun H locs hP hD hS => ?_)
  have hP : va_P g vwCl [(y, .inr (11, mO a)), ((a 22), .inl (cZ, 3, .inl (fun _ => 0)))] H := hP
  have hD : va_D A [(y, .inr (11, mO a)), ((a 22), .inl (cZ, 3, .inl (fun _ => 0)))] := hD
  refine lv_iload_n hx hb dX12_on_5 rfl (lv_at hl 1 rfl) ?_
  refine lv_i2l (v := p0.toInt64) hx hb dX12_on_6 rfl ?_
  refine lv_lconst (v := 0) hx hb dX12_on_7 (by decide) ?_
  refine lv_ldc2 (v := 2) hx hb hown (hts (.constantLong RX12 284 (2)) (List.mem_cons_of_mem _ (List.mem_append_left _ (List.mem_of_getElem? (i := 1) rfl)))) dX12_on_8 ?_
  refine ro_i (va_runS (As := [.long p0.toInt64, .long 0, .long 2]) (rest := []) ⟨hx, hb, hml, hown, hts⟩ (k_X12_in l g cI cJ cB cZ cL p0.toInt64 0 2 ip0 0 2 H.size (z_i2l hzp0) rfl rfl) (va_cwS 3 hts (goodIn_app (g_3 (List.mem_cons_of_mem _ (List.mem_append_left _ (List.mem_of_getElem? (i := 2) rfl))) (List.mem_cons_of_mem _ (List.mem_append_left _ (List.mem_of_getElem? (i := 3) rfl))) (List.mem_cons_of_mem _ (List.mem_append_left _ (List.mem_of_getElem? (i := 4) rfl))) (by decide +kernel)) (goodIn_sub (fun _ h => List.mem_cons_of_mem _ (List.mem_append_right _ (List.mem_append_left _ h))) good_v_X12_in)) rfl rfl rfl (by decide +kernel) ⟨Nat.le_of_ble_eq_true rfl, Nat.le_of_ble_eq_true rfl⟩) (ps_RO (wc := []) hK hP [] rfl) rfl rfl hl.1 rfl (lv_room (Nat.le_of_ble_eq_true rfl)) dX12_on_11 ⟨Nat.le_of_ble_eq_true rfl, Nat.le_of_ble_eq_true rfl⟩) hS hA hP (fun r1 u2 H locs hw3 hP hS => ?_)
  rcases hw3 with ⟨rfl, hw3_0⟩ | ⟨rfl, hw3_0⟩
  · refine lv_if_ne (tgt := 20) hx hb dX12_on_14 (by decide) (fun _ => ?_) (fun c4 => absurd c4 (by decide))
    refine lv_aload_n hx hb dX12_on_20 rfl (lv_at hl 0 rfl) ?_
    refine va_get (D := g) (ci := 11) (v := .ref (a 22)) (C := RX12) (T := TX12) (N := 56) hx hb hts iX12 hown hK hP 0 rfl rfl 22 (by decide) (hts (.fieldLink RX12 49 "CardsAtYuleModel" "isKept" "[Z") (List.mem_cons_of_mem _ (List.mem_append_left _ (List.mem_of_getElem? (i := 5) rfl)))) (fun _ h9 => h9) rfl dX12_on_21 ?_
    refine lv_iload_n hx hb dX12_on_24 rfl (lv_at hl 1 rfl) ?_
    refine va_zald (D := g) hx hb hK hP 1 3 rfl rfl (vi_in hzp0 (by omega) (by omega)) dX12_on_25 ?_
    refine lv_topi (nm_r (e' := 0) rfl ?_)
    refine lv_if_ne (tgt := 32) hx hb dX12_on_26 (by decide) (fun c5 => absurd c5 (by decide)) (fun _ => ?_)
    refine lv_bipush (v := (-6)) hx hb dX12_on_29 (by decide) ?_
    have hP9 := hP.sub (ws' := []) [] rfl
    have hD9 := hD.sub (ws' := []) [] (by decide) rfl
    exact W.iret (v := (-6)) hx hb hr (fun t ht hW => ⟨⟨(-6), (), rfl, Or.inl ⟨rfl, by omega, by omega⟩, by rw [ht]; exact hP9, va_K.moved hW.alike hK, hD9⟩, hS.F ht⟩) hS.2.2 dX12_on_31
  · refine lv_if_ne (tgt := 20) hx hb dX12_on_14 (by decide) (fun c6 => absurd c6 (by decide)) (fun _ => ?_)
    refine lv_bipush (v := (-2)) hx hb dX12_on_17 (by decide) ?_
    have hP9 := hP.sub (ws' := []) [] rfl
    have hD9 := hD.sub (ws' := []) [] (by decide) rfl
    exact W.iret (v := (-2)) hx hb hr (fun t ht hW => ⟨⟨(-2), (), rfl, Or.inr ⟨rfl, by omega⟩, by rw [ht]; exact hP9, va_K.moved hW.alike hK, hD9⟩, hS.F ht⟩) hS.2.2 dX12_on_19
def v_X12_bitsOf : List Cond := .code yX12_bitsOf cX12_bitsOf 5 (some .int) :: (([] : List Cond) ++ ([] : List Cond))
theorem good_v_X12_bitsOf : v_X12_bitsOf.all goodWord = true := ga_c (by decide +kernel) (ga_a (by decide +kernel) rfl)
set_option maxHeartbeats 4000000 in
set_option maxRecDepth 100000 in
theorem k_X12_bitsOf (l : Launch) (g : va_G) (cI cJ cB cZ cL : ClassId)  (sz : Nat)  : Met l yX12_bitsOf v_X12_bitsOf ({ frames := 0, cells := 0, slots := 0, locals := 0 }) (va_Pc [.long 0] (pRO g (tyT cI cJ cB cZ cL) [] sz)) (va_Qi (fun (r : Int32) (u : Unit) => r = 0) (fun (_ : Unit) (_ : State) => True) (va_A [] sz)) 0 0 (va_A [] sz) := by
  refine Met.ofW (cc := cX12_bitsOf) (maxL := 5) (ret := (some .int)) (by decide) rfl ?_
  intro p e s m args below meth c s₁ B hml hv
  obtain ⟨rfl, hsz, hP, hK⟩ := hv
  have hx := B.exec
  have hb := B.bytes
  have hr := B.returns
  have hts := atoms_spec (ws := v_X12_bitsOf) B.pre
  have hown : s.vm.findClass RX12 = some m.cls := findClass_of_methodNamed B.named
  have hlocks := B.notSynchronized
  subst hsz
  generalize hAe : (va_A [] s.heap.size) = A
  have hA : ∀ q : Nat, s.heap.size ≤ q → A q := fun q h => by rw [← hAe]; exact Or.inr h
  have hS : va_S A s.heap s.heap [] := va_S.rf
  have hl := lv_entry ([.long 0]) (n := 5) (Nat.le_of_ble_eq_true rfl)
  rw [lg_entry_eq]
  generalize (lg_sl ([.long 0]) ++ List.replicate (5 - (lg_sl ([.long 0])).length) Slot.unset).toArray = ls at hl ⊢
  have hl : lv_has ls 5 [(0, .long 0)] := hl
  have hP : va_P g vwCl [] s.heap := hP
  refine lv_iconst (v := 0) hx hb dX12_bitsOf_0 (by decide) ?_
  refine lv_istore_n (lv' := [(2, .int 0), (0, .long 0)]) hx hb dX12_bitsOf_1 rfl hl (by decide) rfl (fun ls hl => ?_)
  refine lv_lload_n hx hb dX12_bitsOf_2 rfl (lv_at hl 1 rfl) ?_
  refine lv_lstore_n (lv' := [(3, .long 0), (2, .int 0), (0, .long 0)]) hx hb dX12_bitsOf_3 rfl hl (by decide) rfl (fun ls hl => ?_)
  refine lv_lload_n hx hb dX12_bitsOf_4 rfl (lv_at hl 0 rfl) ?_
  refine lv_lconst (v := 0) hx hb dX12_bitsOf_5 (by decide) ?_
  refine W.lcmp hx hb dX12_bitsOf_6 ?_
  refine lv_topi (nm_r (e' := 0) (by decide) ?_)
  refine lv_if_eq (tgt := 22) hx hb dX12_bitsOf_7 (by decide) (fun _ => ?_) (fun c1 => absurd c1 (by decide))
  refine lv_iload_n hx hb dX12_bitsOf_22 rfl (lv_at hl 1 rfl) ?_
  exact W.iret (v := 0) hx hb hr (fun t ht hW => ⟨⟨0, (), rfl, rfl, trivial⟩, hS.F ht⟩) hS.2.2 dX12_bitsOf_23
def v_X12_count : List Cond := .code yX12_count cX12_count 4 (some .int) :: (([.fieldLink RX12 107 "CardsAtYuleModel" "thrown" "I", .fieldLink RX12 34 "CardsAtYuleModel" "has" "[I", .fieldLink RX12 46 "CardsAtYuleModel" "strikes" "[J", .methodLink RX12 544 yX12_bitsOf, .static yX12_bitsOf, .initialized RX12, .fieldLink RX12 31 "CardsAtYuleModel" "lines" "[I", .fieldLink RX12 124 "CardsAtYuleModel" "taped" "I", .fieldLink RX12 7 "CardsAtYuleModel" "width" "[I"] : List Cond) ++ (v_X12_bitsOf ++ (wsX120 ++ ([] : List Cond))))
theorem good_v_X12_count : v_X12_count.all goodWord = true := ga_c (by decide +kernel) (ga_a (by decide +kernel) (ga_a good_v_X12_bitsOf (ga_a good_wsX120 rfl)))
set_option maxHeartbeats 4000000 in
set_option maxRecDepth 100000 in
theorem k_X12_count (l : Launch) (g : va_G) (cI cJ cB cZ cL : ClassId) (y : Nat) (a : Nat → Nat) (fw : Nat → Int32) (p0 : Int32) (ip0 : Int) (sz : Nat) (hzp0 : p0.toInt = ip0) (hS_fw : ∀ k, k < 4 → fw k = (-1)) : Met l yX12_count v_X12_count ({ frames := 1, cells := 0, slots := 0, locals := 24 }) (va_Pc [.ref y, .int p0] (pRW g (tyT cI cJ cB cZ cL) [(y, .inr (11, mO a)), ((a 17), .inl (cI, 25, .inl (fun _ => 0))), ((a 16), .inl (cI, 5, .inl (fun _ => 0))), ((a 21), .inl (cJ, 5, .inr (.inl (fun _ => 0)))), ((a 20), .inl (cJ, 160, .inr (.inl (fun _ => 0)))), ((a 1), .inl (cI, 4, .inl fw))] sz)) (va_Qi (fun (r : Int32) (u : Unit) => (r = 0 ∧ 0 ≤ ip0 ∧ ip0 ≤ 9) ∨ (r = (-1) ∧ ¬ (0 ≤ ip0 ∧ ip0 ≤ 9))) (fun (_ : Unit) (t : State) => bRW g (tyT cI cJ cB cZ cL) (va_A [(y, .inr (11, mO a)), ((a 17), .inl (cI, 25, .inl (fun _ => 0))), ((a 16), .inl (cI, 5, .inl (fun _ => 0))), ((a 21), .inl (cJ, 5, .inr (.inl (fun _ => 0)))), ((a 20), .inl (cJ, 160, .inr (.inl (fun _ => 0)))), ((a 1), .inl (cI, 4, .inl fw))] sz) [] t) (va_A [(y, .inr (11, mO a)), ((a 17), .inl (cI, 25, .inl (fun _ => 0))), ((a 16), .inl (cI, 5, .inl (fun _ => 0))), ((a 21), .inl (cJ, 5, .inr (.inl (fun _ => 0)))), ((a 20), .inl (cJ, 160, .inr (.inl (fun _ => 0)))), ((a 1), .inl (cI, 4, .inl fw))] sz)) 0 0 (va_A [(y, .inr (11, mO a)), ((a 17), .inl (cI, 25, .inl (fun _ => 0))), ((a 16), .inl (cI, 5, .inl (fun _ => 0))), ((a 21), .inl (cJ, 5, .inr (.inl (fun _ => 0)))), ((a 20), .inl (cJ, 160, .inr (.inl (fun _ => 0)))), ((a 1), .inl (cI, 4, .inl fw))] sz) := by
  refine Met.ofW (cc := cX12_count) (maxL := 4) (ret := (some .int)) (by decide) rfl ?_
  intro p e s m args below meth c s₁ B hml hv
  obtain ⟨rfl, hsz, hP, hK, hD0⟩ := hv
  have hx := B.exec
  have hb := B.bytes
  have hr := B.returns
  have hts := atoms_spec (ws := v_X12_count) B.pre
  have hown : s.vm.findClass RX12 = some m.cls := findClass_of_methodNamed B.named
  have hlocks := B.notSynchronized
  subst hsz
  have iX12 : ∀ w ∈ wsX120, w ∈ v_X12_count := (fun _ h => List.mem_cons_of_mem _ (List.mem_append_right _ (List.mem_append_right _ (List.mem_append_left _ h))))
  have hD := hD0.self (sz := s.heap.size)
  generalize hAe : (va_A [(y, .inr (11, mO a)), ((a 17), .inl (cI, 25, .inl (fun _ => 0))), ((a 16), .inl (cI, 5, .inl (fun _ => 0))), ((a 21), .inl (cJ, 5, .inr (.inl (fun _ => 0)))), ((a 20), .inl (cJ, 160, .inr (.inl (fun _ => 0)))), ((a 1), .inl (cI, 4, .inl fw))] s.heap.size) = A at hD ⊢
  have hA : ∀ q : Nat, s.heap.size ≤ q → A q := fun q h => by rw [← hAe]; exact Or.inr h
  have hS : va_S A s.heap s.heap [] := va_S.rf
  have hl := lv_entry ([.ref y, .int p0]) (n := 4) (Nat.le_of_ble_eq_true rfl)
  rw [lg_entry_eq]
  generalize (lg_sl ([.ref y, .int p0]) ++ List.replicate (4 - (lg_sl ([.ref y, .int p0])).length) Slot.unset).toArray = ls at hl ⊢
  have hl : lv_has ls 4 [(0, .ref y), (1, .int p0)] := hl
  have hP : va_P g vwCl [(y, .inr (11, mO a)), ((a 17), .inl (cI, 25, .inl (fun _ => 0))), ((a 16), .inl (cI, 5, .inl (fun _ => 0))), ((a 21), .inl (cJ, 5, .inr (.inl (fun _ => 0)))), ((a 20), .inl (cJ, 160, .inr (.inl (fun _ => 0)))), ((a 1), .inl (cI, 4, .inl fw))] s.heap := hP
  refine lv_aload_n hx hb dX12_count_0 rfl (lv_at hl 0 rfl) ?_
  refine lv_iconst (v := 0) hx hb dX12_count_1 (by decide) ?_
  refine va_put (D := g) (ci := 11) (v := .int 0) (ty := .int) (C := RX12) (T := TX12) (N := 56) hx hb hts iX12 tyX12 tyX12_ok nmX12 hown hK hP hD hS 0 rfl rfl 0 (by decide) (hts (.fieldLink RX12 107 "CardsAtYuleModel" "thrown" "I") (List.mem_cons_of_mem _ (List.mem_append_left _ (List.mem_of_getElem? (i := 0) rfl)))) (fun _ h9 => h9) rfl (by decide +kernel) rfl rfl (Nat.le_of_ble_eq_true rfl) dX12_count_2 (fun H locs hP hD hS => ?_)
  have hP : va_P g vwCl [(y, .inr (11, mO a)), ((a 17), .inl (cI, 25, .inl (fun _ => 0))), ((a 16), .inl (cI, 5, .inl (fun _ => 0))), ((a 21), .inl (cJ, 5, .inr (.inl (fun _ => 0)))), ((a 20), .inl (cJ, 160, .inr (.inl (fun _ => 0)))), ((a 1), .inl (cI, 4, .inl fw))] H := hP
  have hD : va_D A [(y, .inr (11, mO a)), ((a 17), .inl (cI, 25, .inl (fun _ => 0))), ((a 16), .inl (cI, 5, .inl (fun _ => 0))), ((a 21), .inl (cJ, 5, .inr (.inl (fun _ => 0)))), ((a 20), .inl (cJ, 160, .inr (.inl (fun _ => 0)))), ((a 1), .inl (cI, 4, .inl fw))] := hD
  refine lv_iconst (v := 0) hx hb dX12_count_5 (by decide) ?_
  refine lv_istore_n (lv' := [(2, .int 0), (0, .ref y), (1, .int p0)]) hx hb dX12_count_6 rfl hl (by decide) rfl (fun ls hl => ?_)
  refine lv_iload_n hx hb dX12_count_7 rfl (lv_at hl 2 rfl) ?_
  have hz1 : (p0.toInt < 0 ∨ 9 < p0.toInt) ∨ p0 = 0 ∨ p0 = 1 ∨ p0 = 2 ∨ p0 = 3 ∨ p0 = 4 ∨ p0 = 5 ∨ p0 = 6 ∨ p0 = 7 ∨ p0 = 8 ∨ p0 = 9 := tsw_0_9 p0
  rcases hz1 with hz1 | rfl | rfl | rfl | rfl | rfl | rfl | rfl | rfl | rfl | rfl
  · refine lv_tableOut (tgt := 188) hx hb dX12_count_8 hz1 (by decide) ?_
    refine lv_iconst (v := (-1)) hx hb dX12_count_188 (by decide) ?_
    have hP9 := hP.sub (ws' := []) [] rfl
    have hD9 := hD.sub (ws' := []) [] (by decide) rfl
    exact W.iret (v := (-1)) hx hb hr (fun t ht hW => ⟨⟨(-1), (), rfl, Or.inr ⟨rfl, by rw [← hzp0]; omega⟩, by rw [ht]; exact hP9, va_K.moved hW.alike hK, hD9⟩, hS.F ht⟩) hS.2.2 dX12_count_189
  · have f2 : ip0 = 0 := hzp0.symm
    refine lv_tableIn (off := 56) (tgt := 64) hx hb dX12_count_8 (by decide) (by decide) (by decide) (by decide) ?_
    refine lv_aload_n hx hb dX12_count_64 rfl (lv_at hl 1 rfl) ?_
    refine va_get (D := g) (ci := 11) (v := .ref (a 17)) (C := RX12) (T := TX12) (N := 56) hx hb hts iX12 hown hK hP 0 rfl rfl 17 (by decide) (hts (.fieldLink RX12 34 "CardsAtYuleModel" "has" "[I") (List.mem_cons_of_mem _ (List.mem_append_left _ (List.mem_of_getElem? (i := 1) rfl)))) (fun _ h9 => h9) rfl dX12_count_65 ?_
    refine lv_iconst (v := 3) hx hb dX12_count_68 (by decide) ?_
    refine va_iald (D := g) hx hb hK hP 1 0 rfl rfl (vc_in (by decide)) dX12_count_69 ?_
    refine lv_topi (nm_r (e' := 0) rfl ?_)
    have hP9 := hP.sub (ws' := []) [] rfl
    have hD9 := hD.sub (ws' := []) [] (by decide) rfl
    exact W.iret (v := 0) hx hb hr (fun t ht hW => ⟨⟨0, (), rfl, Or.inl ⟨rfl, by omega, by omega⟩, by rw [ht]; exact hP9, va_K.moved hW.alike hK, hD9⟩, hS.F ht⟩) hS.2.2 dX12_count_70
  · have f3 : ip0 = 1 := hzp0.symm
    refine lv_tableIn (off := 63) (tgt := 71) hx hb dX12_count_8 (by decide) (by decide) (by decide) (by decide) ?_
    refine lv_aload_n hx hb dX12_count_71 rfl (lv_at hl 1 rfl) ?_
    refine va_get (D := g) (ci := 11) (v := .ref (a 17)) (C := RX12) (T := TX12) (N := 56) hx hb hts iX12 hown hK hP 0 rfl rfl 17 (by decide) (hts (.fieldLink RX12 34 "CardsAtYuleModel" "has" "[I") (List.mem_cons_of_mem _ (List.mem_append_left _ (List.mem_of_getElem? (i := 1) rfl)))) (fun _ h9 => h9) rfl dX12_count_72 ?_
    refine lv_iconst (v := 4) hx hb dX12_count_75 (by decide) ?_
    refine va_iald (D := g) hx hb hK hP 1 0 rfl rfl (vc_in (by decide)) dX12_count_76 ?_
    refine lv_topi (nm_r (e' := 0) rfl ?_)
    have hP9 := hP.sub (ws' := []) [] rfl
    have hD9 := hD.sub (ws' := []) [] (by decide) rfl
    exact W.iret (v := 0) hx hb hr (fun t ht hW => ⟨⟨0, (), rfl, Or.inl ⟨rfl, by omega, by omega⟩, by rw [ht]; exact hP9, va_K.moved hW.alike hK, hD9⟩, hS.F ht⟩) hS.2.2 dX12_count_77
  · have f4 : ip0 = 2 := hzp0.symm
    refine lv_tableIn (off := 70) (tgt := 78) hx hb dX12_count_8 (by decide) (by decide) (by decide) (by decide) ?_
    refine lv_aload_n hx hb dX12_count_78 rfl (lv_at hl 1 rfl) ?_
    refine va_get (D := g) (ci := 11) (v := .ref (a 17)) (C := RX12) (T := TX12) (N := 56) hx hb hts iX12 hown hK hP 0 rfl rfl 17 (by decide) (hts (.fieldLink RX12 34 "CardsAtYuleModel" "has" "[I") (List.mem_cons_of_mem _ (List.mem_append_left _ (List.mem_of_getElem? (i := 1) rfl)))) (fun _ h9 => h9) rfl dX12_count_79 ?_
    refine lv_iconst (v := 0) hx hb dX12_count_82 (by decide) ?_
    refine va_iald (D := g) hx hb hK hP 1 0 rfl rfl (vc_in (by decide)) dX12_count_83 ?_
    refine lv_topi (nm_r (e' := 0) rfl ?_)
    have hP9 := hP.sub (ws' := []) [] rfl
    have hD9 := hD.sub (ws' := []) [] (by decide) rfl
    exact W.iret (v := 0) hx hb hr (fun t ht hW => ⟨⟨0, (), rfl, Or.inl ⟨rfl, by omega, by omega⟩, by rw [ht]; exact hP9, va_K.moved hW.alike hK, hD9⟩, hS.F ht⟩) hS.2.2 dX12_count_84
  · have f5 : ip0 = 3 := hzp0.symm
    refine lv_tableIn (off := 77) (tgt := 85) hx hb dX12_count_8 (by decide) (by decide) (by decide) (by decide) ?_
    refine lv_aload_n hx hb dX12_count_85 rfl (lv_at hl 1 rfl) ?_
    refine va_get (D := g) (ci := 11) (v := .ref (a 17)) (C := RX12) (T := TX12) (N := 56) hx hb hts iX12 hown hK hP 0 rfl rfl 17 (by decide) (hts (.fieldLink RX12 34 "CardsAtYuleModel" "has" "[I") (List.mem_cons_of_mem _ (List.mem_append_left _ (List.mem_of_getElem? (i := 1) rfl)))) (fun _ h9 => h9) rfl dX12_count_86 ?_
    refine lv_iconst (v := 1) hx hb dX12_count_89 (by decide) ?_
    refine va_iald (D := g) hx hb hK hP 1 0 rfl rfl (vc_in (by decide)) dX12_count_90 ?_
    refine lv_topi (nm_r (e' := 0) rfl ?_)
    have hP9 := hP.sub (ws' := []) [] rfl
    have hD9 := hD.sub (ws' := []) [] (by decide) rfl
    exact W.iret (v := 0) hx hb hr (fun t ht hW => ⟨⟨0, (), rfl, Or.inl ⟨rfl, by omega, by omega⟩, by rw [ht]; exact hP9, va_K.moved hW.alike hK, hD9⟩, hS.F ht⟩) hS.2.2 dX12_count_91
  · have f6 : ip0 = 4 := hzp0.symm
    refine lv_tableIn (off := 84) (tgt := 92) hx hb dX12_count_8 (by decide) (by decide) (by decide) (by decide) ?_
    refine lv_aload_n hx hb dX12_count_92 rfl (lv_at hl 1 rfl) ?_
    refine va_get (D := g) (ci := 11) (v := .ref (a 17)) (C := RX12) (T := TX12) (N := 56) hx hb hts iX12 hown hK hP 0 rfl rfl 17 (by decide) (hts (.fieldLink RX12 34 "CardsAtYuleModel" "has" "[I") (List.mem_cons_of_mem _ (List.mem_append_left _ (List.mem_of_getElem? (i := 1) rfl)))) (fun _ h9 => h9) rfl dX12_count_93 ?_
    refine lv_iconst (v := 2) hx hb dX12_count_96 (by decide) ?_
    refine va_iald (D := g) hx hb hK hP 1 0 rfl rfl (vc_in (by decide)) dX12_count_97 ?_
    refine lv_topi (nm_r (e' := 0) rfl ?_)
    have hP9 := hP.sub (ws' := []) [] rfl
    have hD9 := hD.sub (ws' := []) [] (by decide) rfl
    exact W.iret (v := 0) hx hb hr (fun t ht hW => ⟨⟨0, (), rfl, Or.inl ⟨rfl, by omega, by omega⟩, by rw [ht]; exact hP9, va_K.moved hW.alike hK, hD9⟩, hS.F ht⟩) hS.2.2 dX12_count_98
  · have f7 : ip0 = 5 := hzp0.symm
    refine lv_tableIn (off := 91) (tgt := 99) hx hb dX12_count_8 (by decide) (by decide) (by decide) (by decide) ?_
    refine lv_aload_n hx hb dX12_count_99 rfl (lv_at hl 1 rfl) ?_
    refine va_get (D := g) (ci := 11) (v := .ref (a 21)) (C := RX12) (T := TX12) (N := 56) hx hb hts iX12 hown hK hP 0 rfl rfl 21 (by decide) (hts (.fieldLink RX12 46 "CardsAtYuleModel" "strikes" "[J") (List.mem_cons_of_mem _ (List.mem_append_left _ (List.mem_of_getElem? (i := 2) rfl)))) (fun _ h9 => h9) rfl dX12_count_100 ?_
    refine lv_iconst (v := 0) hx hb dX12_count_103 (by decide) ?_
    refine va_lald (D := g) hx hb hK hP 3 1 rfl rfl (vc_in (by decide)) dX12_count_104 ?_
    refine lv_topl (nm_r (e' := 0) rfl ?_)
    refine ro_i (va_runS (As := [.long 0]) (rest := []) ⟨hx, hb, hml, hown, hts⟩ (k_X12_bitsOf l g cI cJ cB cZ cL  H.size ) (va_cwS 1 hts (goodIn_app (g_3 (List.mem_cons_of_mem _ (List.mem_append_left _ (List.mem_of_getElem? (i := 3) rfl))) (List.mem_cons_of_mem _ (List.mem_append_left _ (List.mem_of_getElem? (i := 4) rfl))) (List.mem_cons_of_mem _ (List.mem_append_left _ (List.mem_of_getElem? (i := 5) rfl))) (by decide +kernel)) (goodIn_sub (fun _ h => List.mem_cons_of_mem _ (List.mem_append_right _ (List.mem_append_left _ h))) good_v_X12_bitsOf)) rfl rfl rfl (by decide +kernel) ⟨Nat.le_of_ble_eq_true rfl, Nat.le_of_ble_eq_true rfl⟩) (ps_RO (wc := []) hK hP [] rfl) rfl rfl hl.1 rfl (lv_room (Nat.le_of_ble_eq_true rfl)) dX12_count_105 ⟨Nat.le_of_ble_eq_true rfl, Nat.le_of_ble_eq_true rfl⟩) hS hA hP (fun r8 u9 H locs hw10 hP hS => ?_)
    subst hw10
    have hP9 := hP.sub (ws' := []) [] rfl
    have hD9 := hD.sub (ws' := []) [] (by decide) rfl
    exact W.iret (v := 0) hx hb hr (fun t ht hW => ⟨⟨0, (), rfl, Or.inl ⟨rfl, by omega, by omega⟩, by rw [ht]; exact hP9, va_K.moved hW.alike hK, hD9⟩, hS.F ht⟩) hS.2.2 dX12_count_108
  · have f11 : ip0 = 6 := hzp0.symm
    refine lv_tableIn (off := 101) (tgt := 109) hx hb dX12_count_8 (by decide) (by decide) (by decide) (by decide) ?_
    refine lv_iconst (v := 0) hx hb dX12_count_109 (by decide) ?_
    refine lv_istore_n (lv' := [(3, .int 0), (2, .int 0), (0, .ref y), (1, .int 6)]) hx hb dX12_count_110 rfl hl (by decide) rfl (fun ls hl => ?_)
    refine lv_iload_n hx hb dX12_count_111 rfl (lv_at hl 0 rfl) ?_
    refine lv_iconst (v := 2) hx hb dX12_count_112 (by decide) ?_
    refine lv_aload_n hx hb dX12_count_113 rfl (lv_at hl 2 rfl) ?_
    refine va_get (D := g) (ci := 11) (v := .ref (a 17)) (C := RX12) (T := TX12) (N := 56) hx hb hts iX12 hown hK hP 0 rfl rfl 17 (by decide) (hts (.fieldLink RX12 34 "CardsAtYuleModel" "has" "[I") (List.mem_cons_of_mem _ (List.mem_append_left _ (List.mem_of_getElem? (i := 1) rfl)))) (fun _ h9 => h9) rfl dX12_count_114 ?_
    refine lv_iconst (v := 4) hx hb dX12_count_117 (by decide) ?_
    refine va_iald (D := g) hx hb hK hP 1 0 rfl rfl (vc_in (by decide)) dX12_count_118 ?_
    refine lv_topi (nm_r (e' := 0) rfl ?_)
    refine lv_imul hx hb dX12_count_119 ?_
    refine lv_topi (nm_r (e' := 0) (by decide) ?_)
    refine lv_icmp_ge (tgt := 141) hx hb dX12_count_120 (by decide) (fun _ => ?_) (fun c12 => absurd c12 (by decide))
    refine lv_iload_n hx hb dX12_count_141 rfl (lv_at hl 1 rfl) ?_
    have hP9 := hP.sub (ws' := []) [] rfl
    have hD9 := hD.sub (ws' := []) [] (by decide) rfl
    exact W.iret (v := 0) hx hb hr (fun t ht hW => ⟨⟨0, (), rfl, Or.inl ⟨rfl, by omega, by omega⟩, by rw [ht]; exact hP9, va_K.moved hW.alike hK, hD9⟩, hS.F ht⟩) hS.2.2 dX12_count_142
  · have f13 : ip0 = 7 := hzp0.symm
    refine lv_tableIn (off := 135) (tgt := 143) hx hb dX12_count_8 (by decide) (by decide) (by decide) (by decide) ?_
    refine lv_aload_n hx hb dX12_count_143 rfl (lv_at hl 1 rfl) ?_
    refine va_get (D := g) (ci := 11) (v := .ref (a 16)) (C := RX12) (T := TX12) (N := 56) hx hb hts iX12 hown hK hP 0 rfl rfl 16 (by decide) (hts (.fieldLink RX12 31 "CardsAtYuleModel" "lines" "[I") (List.mem_cons_of_mem _ (List.mem_append_left _ (List.mem_of_getElem? (i := 6) rfl)))) (fun _ h9 => h9) rfl dX12_count_144 ?_
    refine lv_iconst (v := 0) hx hb dX12_count_147 (by decide) ?_
    refine va_iald (D := g) hx hb hK hP 2 0 rfl rfl (vc_in (by decide)) dX12_count_148 ?_
    refine lv_topi (nm_r (e' := 0) rfl ?_)
    have hP9 := hP.sub (ws' := []) [] rfl
    have hD9 := hD.sub (ws' := []) [] (by decide) rfl
    exact W.iret (v := 0) hx hb hr (fun t ht hW => ⟨⟨0, (), rfl, Or.inl ⟨rfl, by omega, by omega⟩, by rw [ht]; exact hP9, va_K.moved hW.alike hK, hD9⟩, hS.F ht⟩) hS.2.2 dX12_count_149
  · have f14 : ip0 = 8 := hzp0.symm
    refine lv_tableIn (off := 142) (tgt := 150) hx hb dX12_count_8 (by decide) (by decide) (by decide) (by decide) ?_
    refine lv_aload_n hx hb dX12_count_150 rfl (lv_at hl 1 rfl) ?_
    refine va_get (D := g) (ci := 11) (v := .int 0) (C := RX12) (T := TX12) (N := 56) hx hb hts iX12 hown hK hP 0 rfl rfl 6 (by decide) (hts (.fieldLink RX12 124 "CardsAtYuleModel" "taped" "I") (List.mem_cons_of_mem _ (List.mem_append_left _ (List.mem_of_getElem? (i := 7) rfl)))) (fun _ h9 => h9) rfl dX12_count_151 ?_
    have hP9 := hP.sub (ws' := []) [] rfl
    have hD9 := hD.sub (ws' := []) [] (by decide) rfl
    exact W.iret (v := 0) hx hb hr (fun t ht hW => ⟨⟨0, (), rfl, Or.inl ⟨rfl, by omega, by omega⟩, by rw [ht]; exact hP9, va_K.moved hW.alike hK, hD9⟩, hS.F ht⟩) hS.2.2 dX12_count_154
  · have f15 : ip0 = 9 := hzp0.symm
    refine lv_tableIn (off := 147) (tgt := 155) hx hb dX12_count_8 (by decide) (by decide) (by decide) (by decide) ?_
    refine lv_iconst (v := 0) hx hb dX12_count_155 (by decide) ?_
    refine lv_istore_n (lv' := [(3, .int 0), (2, .int 0), (0, .ref y), (1, .int 9)]) hx hb dX12_count_156 rfl hl (by decide) rfl (fun ls hl => ?_)
    refine lv_iload_n hx hb dX12_count_157 rfl (lv_at hl 0 rfl) ?_
    refine lv_iconst (v := 4) hx hb dX12_count_158 (by decide) ?_
    refine lv_icmp_ge (tgt := 186) hx hb dX12_count_159 (by decide) (fun c16 => absurd c16 (by decide)) (fun _ => ?_)
    refine lv_iload_n hx hb dX12_count_162 rfl (lv_at hl 1 rfl) ?_
    refine lv_aload_n hx hb dX12_count_163 rfl (lv_at hl 2 rfl) ?_
    refine va_get (D := g) (ci := 11) (v := .ref (a 1)) (C := RX12) (T := TX12) (N := 56) hx hb hts iX12 hown hK hP 0 rfl rfl 1 (by decide) (hts (.fieldLink RX12 7 "CardsAtYuleModel" "width" "[I") (List.mem_cons_of_mem _ (List.mem_append_left _ (List.mem_of_getElem? (i := 8) rfl)))) (fun _ h9 => h9) rfl dX12_count_164 ?_
    refine lv_iload_n hx hb dX12_count_167 rfl (lv_at hl 0 rfl) ?_
    refine va_iald (D := g) hx hb hK hP 5 0 rfl rfl (vc_in (by decide)) dX12_count_168 ?_
    refine lv_topi (nm_r (e' := (-1)) (hS_fw _ (by decide)) ?_)
    refine lv_iconst (v := (-1)) hx hb dX12_count_169 (by decide) ?_
    refine lv_icmp_ne (tgt := 177) hx hb dX12_count_170 (by decide) (fun c17 => absurd c17 (by decide)) (fun _ => ?_)
    refine lv_iconst (v := 0) hx hb dX12_count_173 (by decide) ?_
    refine lv_goto (tgt := 178) hx hb dX12_count_174 (by decide) ?_
    refine lv_iadd hx hb dX12_count_178 ?_
    refine lv_topi (nm_r (e' := 0) (by decide) ?_)
    refine lv_istore_n (lv' := [(2, .int 0), (3, .int 0), (0, .ref y), (1, .int 9)]) hx hb dX12_count_179 rfl hl (by decide) rfl (fun ls hl => ?_)
    refine lv_iinc (v := 1) (lv' := [(3, .int 1), (2, .int 0), (0, .ref y), (1, .int 9)]) hx hb dX12_count_180 hl (k := 1) rfl (by decide) (by decide) rfl (fun ls hl => ?_)
    refine lv_goto (tgt := 157) hx hb dX12_count_183 (by decide) ?_
    refine lv_iload_n hx hb dX12_count_157 rfl (lv_at hl 0 rfl) ?_
    refine lv_iconst (v := 4) hx hb dX12_count_158 (by decide) ?_
    refine lv_icmp_ge (tgt := 186) hx hb dX12_count_159 (by decide) (fun c18 => absurd c18 (by decide)) (fun _ => ?_)
    refine lv_iload_n hx hb dX12_count_162 rfl (lv_at hl 1 rfl) ?_
    refine lv_aload_n hx hb dX12_count_163 rfl (lv_at hl 2 rfl) ?_
    refine va_get (D := g) (ci := 11) (v := .ref (a 1)) (C := RX12) (T := TX12) (N := 56) hx hb hts iX12 hown hK hP 0 rfl rfl 1 (by decide) (hts (.fieldLink RX12 7 "CardsAtYuleModel" "width" "[I") (List.mem_cons_of_mem _ (List.mem_append_left _ (List.mem_of_getElem? (i := 8) rfl)))) (fun _ h9 => h9) rfl dX12_count_164 ?_
    refine lv_iload_n hx hb dX12_count_167 rfl (lv_at hl 0 rfl) ?_
    refine va_iald (D := g) hx hb hK hP 5 0 rfl rfl (vc_in (by decide)) dX12_count_168 ?_
    refine lv_topi (nm_r (e' := (-1)) (hS_fw _ (by decide)) ?_)
    refine lv_iconst (v := (-1)) hx hb dX12_count_169 (by decide) ?_
    refine lv_icmp_ne (tgt := 177) hx hb dX12_count_170 (by decide) (fun c19 => absurd c19 (by decide)) (fun _ => ?_)
    refine lv_iconst (v := 0) hx hb dX12_count_173 (by decide) ?_
    refine lv_goto (tgt := 178) hx hb dX12_count_174 (by decide) ?_
    refine lv_iadd hx hb dX12_count_178 ?_
    refine lv_topi (nm_r (e' := 0) (by decide) ?_)
    refine lv_istore_n (lv' := [(2, .int 0), (3, .int 1), (0, .ref y), (1, .int 9)]) hx hb dX12_count_179 rfl hl (by decide) rfl (fun ls hl => ?_)
    refine lv_iinc (v := 2) (lv' := [(3, .int 2), (2, .int 0), (0, .ref y), (1, .int 9)]) hx hb dX12_count_180 hl (k := 1) rfl (by decide) (by decide) rfl (fun ls hl => ?_)
    refine lv_goto (tgt := 157) hx hb dX12_count_183 (by decide) ?_
    refine lv_iload_n hx hb dX12_count_157 rfl (lv_at hl 0 rfl) ?_
    refine lv_iconst (v := 4) hx hb dX12_count_158 (by decide) ?_
    refine lv_icmp_ge (tgt := 186) hx hb dX12_count_159 (by decide) (fun c20 => absurd c20 (by decide)) (fun _ => ?_)
    refine lv_iload_n hx hb dX12_count_162 rfl (lv_at hl 1 rfl) ?_
    refine lv_aload_n hx hb dX12_count_163 rfl (lv_at hl 2 rfl) ?_
    refine va_get (D := g) (ci := 11) (v := .ref (a 1)) (C := RX12) (T := TX12) (N := 56) hx hb hts iX12 hown hK hP 0 rfl rfl 1 (by decide) (hts (.fieldLink RX12 7 "CardsAtYuleModel" "width" "[I") (List.mem_cons_of_mem _ (List.mem_append_left _ (List.mem_of_getElem? (i := 8) rfl)))) (fun _ h9 => h9) rfl dX12_count_164 ?_
    refine lv_iload_n hx hb dX12_count_167 rfl (lv_at hl 0 rfl) ?_
    refine va_iald (D := g) hx hb hK hP 5 0 rfl rfl (vc_in (by decide)) dX12_count_168 ?_
    refine lv_topi (nm_r (e' := (-1)) (hS_fw _ (by decide)) ?_)
    refine lv_iconst (v := (-1)) hx hb dX12_count_169 (by decide) ?_
    refine lv_icmp_ne (tgt := 177) hx hb dX12_count_170 (by decide) (fun c21 => absurd c21 (by decide)) (fun _ => ?_)
    refine lv_iconst (v := 0) hx hb dX12_count_173 (by decide) ?_
    refine lv_goto (tgt := 178) hx hb dX12_count_174 (by decide) ?_
    refine lv_iadd hx hb dX12_count_178 ?_
    refine lv_topi (nm_r (e' := 0) (by decide) ?_)
    refine lv_istore_n (lv' := [(2, .int 0), (3, .int 2), (0, .ref y), (1, .int 9)]) hx hb dX12_count_179 rfl hl (by decide) rfl (fun ls hl => ?_)
    refine lv_iinc (v := 3) (lv' := [(3, .int 3), (2, .int 0), (0, .ref y), (1, .int 9)]) hx hb dX12_count_180 hl (k := 1) rfl (by decide) (by decide) rfl (fun ls hl => ?_)
    refine lv_goto (tgt := 157) hx hb dX12_count_183 (by decide) ?_
    refine lv_iload_n hx hb dX12_count_157 rfl (lv_at hl 0 rfl) ?_
    refine lv_iconst (v := 4) hx hb dX12_count_158 (by decide) ?_
    refine lv_icmp_ge (tgt := 186) hx hb dX12_count_159 (by decide) (fun c22 => absurd c22 (by decide)) (fun _ => ?_)
    refine lv_iload_n hx hb dX12_count_162 rfl (lv_at hl 1 rfl) ?_
    refine lv_aload_n hx hb dX12_count_163 rfl (lv_at hl 2 rfl) ?_
    refine va_get (D := g) (ci := 11) (v := .ref (a 1)) (C := RX12) (T := TX12) (N := 56) hx hb hts iX12 hown hK hP 0 rfl rfl 1 (by decide) (hts (.fieldLink RX12 7 "CardsAtYuleModel" "width" "[I") (List.mem_cons_of_mem _ (List.mem_append_left _ (List.mem_of_getElem? (i := 8) rfl)))) (fun _ h9 => h9) rfl dX12_count_164 ?_
    refine lv_iload_n hx hb dX12_count_167 rfl (lv_at hl 0 rfl) ?_
    refine va_iald (D := g) hx hb hK hP 5 0 rfl rfl (vc_in (by decide)) dX12_count_168 ?_
    refine lv_topi (nm_r (e' := (-1)) (hS_fw _ (by decide)) ?_)
    refine lv_iconst (v := (-1)) hx hb dX12_count_169 (by decide) ?_
    refine lv_icmp_ne (tgt := 177) hx hb dX12_count_170 (by decide) (fun c23 => absurd c23 (by decide)) (fun _ => ?_)
    refine lv_iconst (v := 0) hx hb dX12_count_173 (by decide) ?_
    refine lv_goto (tgt := 178) hx hb dX12_count_174 (by decide) ?_
    refine lv_iadd hx hb dX12_count_178 ?_
    refine lv_topi (nm_r (e' := 0) (by decide) ?_)
    refine lv_istore_n (lv' := [(2, .int 0), (3, .int 3), (0, .ref y), (1, .int 9)]) hx hb dX12_count_179 rfl hl (by decide) rfl (fun ls hl => ?_)
    refine lv_iinc (v := 4) (lv' := [(3, .int 4), (2, .int 0), (0, .ref y), (1, .int 9)]) hx hb dX12_count_180 hl (k := 1) rfl (by decide) (by decide) rfl (fun ls hl => ?_)
    refine lv_goto (tgt := 157) hx hb dX12_count_183 (by decide) ?_
    refine lv_iload_n hx hb dX12_count_157 rfl (lv_at hl 0 rfl) ?_
    refine lv_iconst (v := 4) hx hb dX12_count_158 (by decide) ?_
    refine lv_icmp_ge (tgt := 186) hx hb dX12_count_159 (by decide) (fun _ => ?_) (fun c24 => absurd c24 (by decide))
    refine lv_iload_n hx hb dX12_count_186 rfl (lv_at hl 1 rfl) ?_
    have hP9 := hP.sub (ws' := []) [] rfl
    have hD9 := hD.sub (ws' := []) [] (by decide) rfl
    exact W.iret (v := 0) hx hb hr (fun t ht hW => ⟨⟨0, (), rfl, Or.inl ⟨rfl, by omega, by omega⟩, by rw [ht]; exact hP9, va_K.moved hW.alike hK, hD9⟩, hS.F ht⟩) hS.2.2 dX12_count_187
def v_X12_row : List Cond := .code yX12_row cX12_row 5 (some .int) :: (([.fieldLink RX12 107 "CardsAtYuleModel" "thrown" "I", .methodLink RX12 116 yX12_isSlot, .static yX12_isSlot, .initialized RX12, .constantLong RX12 110 (3), .methodLink RX12 112 yX12_in, .static yX12_in, .fieldLink RX12 7 "CardsAtYuleModel" "width" "[I", .fieldLink RX12 13 "CardsAtYuleModel" "many" "[I", .fieldLink RX12 16 "CardsAtYuleModel" "cells" "[J"] : List Cond) ++ (v_X12_isSlot ++ (v_X12_in ++ (wsX120 ++ ([] : List Cond)))))
theorem good_v_X12_row : v_X12_row.all goodWord = true := ga_c (by decide +kernel) (ga_a (by decide +kernel) (ga_a good_v_X12_isSlot (ga_a good_v_X12_in (ga_a good_wsX120 rfl))))
set_option maxHeartbeats 4000000 in
set_option maxRecDepth 100000 in
theorem k_X12_row (l : Launch) (g : va_G) (cI cJ cB cZ cL : ClassId) (y : Nat) (a : Nat → Nat) (fw : Nat → Int32) (p0 : Int32) (p1 : Int32) (p2 : Int32) (ip0 : Int) (ip1 : Int) (ip2 : Int) (sz : Nat) (hzp0 : p0.toInt = ip0) (hzp1 : p1.toInt = ip1) (hzp2 : p2.toInt = ip2) (hS_fw : ∀ k, k < 4 → fw k = (-1)) : Met l yX12_row v_X12_row ({ frames := 2, cells := 0, slots := 0, locals := 45 }) (va_Pc [.ref y, .int p0, .int p1, .int p2] (pRW g (tyT cI cJ cB cZ cL) [(y, .inr (11, mO a)), ((a 1), .inl (cI, 4, .inl fw)), ((a 2), .inl (cI, 4, .inl (fun _ => 0))), ((a 3), .inl (cJ, 240, .inr (.inl (fun _ => 0))))] sz)) (va_Qi (fun (r : Int32) (u : Unit) => (r = (-2) ∧ ¬ (0 ≤ ip0 ∧ ip0 < 4 ∧ 0 ≤ ip1 ∧ ip1 < 4 ∧ ip2 ≤ 60)) ∨ (r = (-3) ∧ (0 ≤ ip0 ∧ ip0 < 4 ∧ 0 ≤ ip1 ∧ ip1 < 4 ∧ ip2 ≤ 60) ∧ ip2 < 0) ∨ (r = 0 ∧ (0 ≤ ip0 ∧ ip0 < 4 ∧ 0 ≤ ip1 ∧ ip1 < 4 ∧ ip2 ≤ 60) ∧ 0 ≤ ip2)) (fun (_ : Unit) (t : State) => bRW g (tyT cI cJ cB cZ cL) (va_A [(y, .inr (11, mO a)), ((a 1), .inl (cI, 4, .inl fw)), ((a 2), .inl (cI, 4, .inl (fun _ => 0))), ((a 3), .inl (cJ, 240, .inr (.inl (fun _ => 0))))] sz) [] t) (va_A [(y, .inr (11, mO a)), ((a 1), .inl (cI, 4, .inl fw)), ((a 2), .inl (cI, 4, .inl (fun _ => 0))), ((a 3), .inl (cJ, 240, .inr (.inl (fun _ => 0))))] sz)) 0 0 (va_A [(y, .inr (11, mO a)), ((a 1), .inl (cI, 4, .inl fw)), ((a 2), .inl (cI, 4, .inl (fun _ => 0))), ((a 3), .inl (cJ, 240, .inr (.inl (fun _ => 0))))] sz) := by
  refine Met.ofW (cc := cX12_row) (maxL := 5) (ret := (some .int)) (by decide) rfl ?_
  intro p e s m args below meth c s₁ B hml hv
  obtain ⟨rfl, hsz, hP, hK, hD0⟩ := hv
  have hx := B.exec
  have hb := B.bytes
  have hr := B.returns
  have hts := atoms_spec (ws := v_X12_row) B.pre
  have hown : s.vm.findClass RX12 = some m.cls := findClass_of_methodNamed B.named
  have hlocks := B.notSynchronized
  subst hsz
  have iX12 : ∀ w ∈ wsX120, w ∈ v_X12_row := (fun _ h => List.mem_cons_of_mem _ (List.mem_append_right _ (List.mem_append_right _ (List.mem_append_right _ (List.mem_append_left _ h)))))
  have hD := hD0.self (sz := s.heap.size)
  generalize hAe : (va_A [(y, .inr (11, mO a)), ((a 1), .inl (cI, 4, .inl fw)), ((a 2), .inl (cI, 4, .inl (fun _ => 0))), ((a 3), .inl (cJ, 240, .inr (.inl (fun _ => 0))))] s.heap.size) = A at hD ⊢
  have hA : ∀ q : Nat, s.heap.size ≤ q → A q := fun q h => by rw [← hAe]; exact Or.inr h
  have hS : va_S A s.heap s.heap [] := va_S.rf
  have hl := lv_entry ([.ref y, .int p0, .int p1, .int p2]) (n := 5) (Nat.le_of_ble_eq_true rfl)
  rw [lg_entry_eq]
  generalize (lg_sl ([.ref y, .int p0, .int p1, .int p2]) ++ List.replicate (5 - (lg_sl ([.ref y, .int p0, .int p1, .int p2])).length) Slot.unset).toArray = ls at hl ⊢
  have hl : lv_has ls 5 [(0, .ref y), (1, .int p0), (2, .int p1), (3, .int p2)] := hl
  have hP : va_P g vwCl [(y, .inr (11, mO a)), ((a 1), .inl (cI, 4, .inl fw)), ((a 2), .inl (cI, 4, .inl (fun _ => 0))), ((a 3), .inl (cJ, 240, .inr (.inl (fun _ => 0))))] s.heap := hP
  refine lv_aload_n hx hb dX12_row_0 rfl (lv_at hl 0 rfl) ?_
  refine lv_iconst (v := 0) hx hb dX12_row_1 (by decide) ?_
  refine va_put (D := g) (ci := 11) (v := .int 0) (ty := .int) (C := RX12) (T := TX12) (N := 56) hx hb hts iX12 tyX12 tyX12_ok nmX12 hown hK hP hD hS 0 rfl rfl 0 (by decide) (hts (.fieldLink RX12 107 "CardsAtYuleModel" "thrown" "I") (List.mem_cons_of_mem _ (List.mem_append_left _ (List.mem_of_getElem? (i := 0) rfl)))) (fun _ h9 => h9) rfl (by decide +kernel) rfl rfl (Nat.le_of_ble_eq_true rfl) dX12_row_2 (fun H locs hP hD hS => ?_)
  have hP : va_P g vwCl [(y, .inr (11, mO a)), ((a 1), .inl (cI, 4, .inl fw)), ((a 2), .inl (cI, 4, .inl (fun _ => 0))), ((a 3), .inl (cJ, 240, .inr (.inl (fun _ => 0))))] H := hP
  have hD : va_D A [(y, .inr (11, mO a)), ((a 1), .inl (cI, 4, .inl fw)), ((a 2), .inl (cI, 4, .inl (fun _ => 0))), ((a 3), .inl (cJ, 240, .inr (.inl (fun _ => 0))))] := hD
  refine lv_iload_n hx hb dX12_row_5 rfl (lv_at hl 1 rfl) ?_
  refine ro_i (va_runS (As := [.int p0]) (rest := []) ⟨hx, hb, hml, hown, hts⟩ (k_X12_isSlot l g cI cJ cB cZ cL p0 ip0 H.size hzp0) (va_cwS 1 hts (goodIn_app (g_3 (List.mem_cons_of_mem _ (List.mem_append_left _ (List.mem_of_getElem? (i := 1) rfl))) (List.mem_cons_of_mem _ (List.mem_append_left _ (List.mem_of_getElem? (i := 2) rfl))) (List.mem_cons_of_mem _ (List.mem_append_left _ (List.mem_of_getElem? (i := 3) rfl))) (by decide +kernel)) (goodIn_sub (fun _ h => List.mem_cons_of_mem _ (List.mem_append_right _ (List.mem_append_left _ h))) good_v_X12_isSlot)) rfl rfl rfl (by decide +kernel) ⟨Nat.le_of_ble_eq_true rfl, Nat.le_of_ble_eq_true rfl⟩) (ps_RO (wc := []) hK hP [] rfl) rfl rfl hl.1 rfl (lv_room (Nat.le_of_ble_eq_true rfl)) dX12_row_6 ⟨Nat.le_of_ble_eq_true rfl, Nat.le_of_ble_eq_true rfl⟩) hS hA hP (fun r1 u2 H locs hw3 hP hS => ?_)
  rcases hw3 with ⟨rfl, hw3_0⟩ | ⟨rfl, hw3_0⟩
  · refine lv_if_eq (tgt := 30) hx hb dX12_row_9 (by decide) (fun c4 => absurd c4 (by decide)) (fun _ => ?_)
    refine lv_iload_n hx hb dX12_row_12 rfl (lv_at hl 2 rfl) ?_
    refine lv_i2l (v := p1.toInt64) hx hb dX12_row_13 rfl ?_
    refine lv_lconst (v := 0) hx hb dX12_row_14 (by decide) ?_
    refine lv_ldc2 (v := 3) hx hb hown (hts (.constantLong RX12 110 (3)) (List.mem_cons_of_mem _ (List.mem_append_left _ (List.mem_of_getElem? (i := 4) rfl)))) dX12_row_15 ?_
    refine ro_i (va_runS (As := [.long p1.toInt64, .long 0, .long 3]) (rest := []) ⟨hx, hb, hml, hown, hts⟩ (k_X12_in l g cI cJ cB cZ cL p1.toInt64 0 3 ip1 0 3 H.size (z_i2l hzp1) rfl rfl) (va_cwS 3 hts (goodIn_app (g_3 (List.mem_cons_of_mem _ (List.mem_append_left _ (List.mem_of_getElem? (i := 5) rfl))) (List.mem_cons_of_mem _ (List.mem_append_left _ (List.mem_of_getElem? (i := 6) rfl))) (List.mem_cons_of_mem _ (List.mem_append_left _ (List.mem_of_getElem? (i := 3) rfl))) (by decide +kernel)) (goodIn_sub (fun _ h => List.mem_cons_of_mem _ (List.mem_append_right _ (List.mem_append_right _ (List.mem_append_left _ h)))) good_v_X12_in)) rfl rfl rfl (by decide +kernel) ⟨Nat.le_of_ble_eq_true rfl, Nat.le_of_ble_eq_true rfl⟩) (ps_RO (wc := []) hK hP [] rfl) rfl rfl hl.1 rfl (lv_room (Nat.le_of_ble_eq_true rfl)) dX12_row_18 ⟨Nat.le_of_ble_eq_true rfl, Nat.le_of_ble_eq_true rfl⟩) hS hA hP (fun r5 u6 H locs hw7 hP hS => ?_)
    rcases hw7 with ⟨rfl, hw7_0⟩ | ⟨rfl, hw7_0⟩
    · refine lv_if_eq (tgt := 30) hx hb dX12_row_21 (by decide) (fun c8 => absurd c8 (by decide)) (fun _ => ?_)
      refine lv_iload_n hx hb dX12_row_24 rfl (lv_at hl 3 rfl) ?_
      refine lv_bipush (v := 60) hx hb dX12_row_25 (by decide) ?_
      refine lv_icmp_le (tgt := 33) hx hb dX12_row_27 (by decide) (fun c9 => ?_) (fun c9 => ?_)
      · have f10 := (show ip2 ≤ 60 from z_le hzp2 rfl c9)
        refine lv_iload_n hx hb dX12_row_33 rfl (lv_at hl 3 rfl) ?_
        refine lv_if_ge (tgt := 40) hx hb dX12_row_34 (by decide) (fun c11 => ?_) (fun c11 => ?_)
        · have f12 := (show 0 ≤ ip2 from z_le rfl hzp2 c11)
          obtain ⟨js, hjs, rfl⟩ : ∃ js : Nat, js < 4 ∧ p0 = nI js := natz hzp0 (by omega) (by omega) (by decide)
          have hIjs : (js : Int) = ip0 := by rw [← hzp0]; exact (nI_toInt (by omega)).symm
          obtain ⟨jn, hjn, rfl⟩ : ∃ jn : Nat, jn < 61 ∧ p2 = nI jn := natz hzp2 (by omega) (by omega) (by decide)
          have hIjn : (jn : Int) = ip2 := by rw [← hzp2]; exact (nI_toInt (by omega)).symm
          refine lv_aload_n hx hb dX12_row_40 rfl (lv_at hl 0 rfl) ?_
          refine va_get (D := g) (ci := 11) (v := .ref (a 1)) (C := RX12) (T := TX12) (N := 56) hx hb hts iX12 hown hK hP 0 rfl rfl 1 (by decide) (hts (.fieldLink RX12 7 "CardsAtYuleModel" "width" "[I") (List.mem_cons_of_mem _ (List.mem_append_left _ (List.mem_of_getElem? (i := 7) rfl)))) (fun _ h9 => h9) rfl dX12_row_41 ?_
          refine lv_iload_n hx hb dX12_row_44 rfl (lv_at hl 1 rfl) ?_
          refine lv_iload_n hx hb dX12_row_45 rfl (lv_at hl 2 rfl) ?_
          refine va_iast (D := g) hx hb hK hP hD hS 1 0 rfl rfl (vp_in_nI (n := js) (by omega) (by decide)) dX12_row_46 (fun H locs hP hD hS => ?_)
          rw [nI_clamp (n := js) (by omega)] at hP hD
          have hP : va_P g vwCl [(y, .inr (11, mO a)), ((a 1), .inl (cI, 4, .inl (upd fw js p1))), ((a 2), .inl (cI, 4, .inl (fun _ => 0))), ((a 3), .inl (cJ, 240, .inr (.inl (fun _ => 0))))] H := hP
          have hD : va_D A [(y, .inr (11, mO a)), ((a 1), .inl (cI, 4, .inl (upd fw js p1))), ((a 2), .inl (cI, 4, .inl (fun _ => 0))), ((a 3), .inl (cJ, 240, .inr (.inl (fun _ => 0))))] := hD
          refine lv_aload_n hx hb dX12_row_47 rfl (lv_at hl 0 rfl) ?_
          refine va_get (D := g) (ci := 11) (v := .ref (a 2)) (C := RX12) (T := TX12) (N := 56) hx hb hts iX12 hown hK hP 0 rfl rfl 2 (by decide) (hts (.fieldLink RX12 13 "CardsAtYuleModel" "many" "[I") (List.mem_cons_of_mem _ (List.mem_append_left _ (List.mem_of_getElem? (i := 8) rfl)))) (fun _ h9 => h9) rfl dX12_row_48 ?_
          refine lv_iload_n hx hb dX12_row_51 rfl (lv_at hl 1 rfl) ?_
          refine lv_iload_n hx hb dX12_row_52 rfl (lv_at hl 3 rfl) ?_
          refine va_iast (D := g) hx hb hK hP hD hS 2 0 rfl rfl (vp_in_nI (n := js) (by omega) (by decide)) dX12_row_53 (fun H locs hP hD hS => ?_)
          rw [nI_clamp (n := js) (by omega)] at hP hD
          have hP : va_P g vwCl [(y, .inr (11, mO a)), ((a 1), .inl (cI, 4, .inl (upd fw js p1))), ((a 2), .inl (cI, 4, .inl (upd (fun _ => 0) js (nI jn)))), ((a 3), .inl (cJ, 240, .inr (.inl (fun _ => 0))))] H := hP
          have hD : va_D A [(y, .inr (11, mO a)), ((a 1), .inl (cI, 4, .inl (upd fw js p1))), ((a 2), .inl (cI, 4, .inl (upd (fun _ => 0) js (nI jn)))), ((a 3), .inl (cJ, 240, .inr (.inl (fun _ => 0))))] := hD
          refine lv_iconst (v := 0) hx hb dX12_row_54 (by decide) ?_
          refine lv_istore (lv' := [(4, .int 0), (0, .ref y), (1, .int (nI js)), (2, .int p1), (3, .int (nI jn))]) hx hb dX12_row_55 hl (by decide) rfl (fun ls hl => ?_)
          have lp15 : ∀ (n13 : Nat) (i : Nat) (f : Nat → Int64) (H : Heap) (locs : List Loc) (ls : Array Slot), jn - i < n13 → (i ≤ jn) → va_P g vwCl [(y, .inr (11, mO a)), ((a 1), .inl (cI, 4, .inl (upd fw js p1))), ((a 2), .inl (cI, 4, .inl (upd (fun _ => 0) js (nI jn)))), ((a 3), .inl (cJ, 240, .inr (.inl f)))] H → va_D A [(y, .inr (11, mO a)), ((a 1), .inl (cI, 4, .inl (upd fw js p1))), ((a 2), .inl (cI, 4, .inl (upd (fun _ => 0) js (nI jn)))), ((a 3), .inl (cJ, 240, .inr (.inl f)))] → va_S A s.heap H locs → lv_has ls 5 [(0, .ref y), (1, .int (nI js)), (2, .int p1), (3, .int (nI jn)), (4, .int (nI i))] → W p l e (headSpec v_X12_row ({ frames := 2, cells := 0, slots := 0, locals := 45 })).room s m ([.ref y, .int (nI js), .int p1, .int (nI jn)] : List Value).toArray below meth c H locs 0 0 (MQ below (va_Qi (fun (r : Int32) (u : Unit) => (r = (-2) ∧ ¬ (0 ≤ ip0 ∧ ip0 < 4 ∧ 0 ≤ ip1 ∧ ip1 < 4 ∧ ip2 ≤ 60)) ∨ (r = (-3) ∧ (0 ≤ ip0 ∧ ip0 < 4 ∧ 0 ≤ ip1 ∧ ip1 < 4 ∧ ip2 ≤ 60) ∧ ip2 < 0) ∨ (r = 0 ∧ (0 ≤ ip0 ∧ ip0 < 4 ∧ 0 ≤ ip1 ∧ ip1 < 4 ∧ ip2 ≤ 60) ∧ 0 ≤ ip2)) (fun (_ : Unit) (t : State) => bRW g (tyT cI cJ cB cZ cL) A [] t) A) ([.ref y, .int (nI js), .int p1, .int (nI jn)] : List Value).toArray s 0 0 A) (F0 m 57 ls []) := by
            intro n13
            induction n13 with
            | zero => exact fun i f H locs ls hn => absurd hn (Nat.not_lt_zero _)
            | succ n13 ih14 =>
              intro i f H locs ls hn hi hP hD hS hl
              refine lv_iload hx hb dX12_row_57 (lv_at hl 4 rfl) ?_
              refine lv_iload_n hx hb dX12_row_59 rfl (lv_at hl 3 rfl) ?_
              refine lv_icmp_ge (tgt := 82) hx hb dX12_row_60 (by decide) (fun c16 => ?_) (fun c16 => ?_)
              · have f17 := (show (jn : Int) ≤ (i : Int) from z_le (nI_toInt (n := jn) (by omega)) (nI_toInt (n := i) (by omega)) c16)
                refine lv_iconst (v := 0) hx hb dX12_row_82 (by decide) ?_
                have hP9 := hP.sub (ws' := []) [] rfl
                have hD9 := hD.sub (ws' := []) [] (by decide) rfl
                exact W.iret (v := 0) hx hb hr (fun t ht hW => ⟨⟨0, (), rfl, Or.inr (Or.inr ⟨rfl, ⟨by omega, by omega, by omega, by omega, by omega⟩, by omega⟩), by rw [ht]; exact hP9, va_K.moved hW.alike hK, hD9⟩, hS.F ht⟩) hS.2.2 dX12_row_83
              · have f17 := (show (i : Int) < (jn : Int) from z_nle (nI_toInt (n := jn) (by omega)) (nI_toInt (n := i) (by omega)) c16)
                refine lv_aload_n hx hb dX12_row_63 rfl (lv_at hl 0 rfl) ?_
                refine va_get (D := g) (ci := 11) (v := .ref (a 3)) (C := RX12) (T := TX12) (N := 56) hx hb hts iX12 hown hK hP 0 rfl rfl 3 (by decide) (hts (.fieldLink RX12 16 "CardsAtYuleModel" "cells" "[J") (List.mem_cons_of_mem _ (List.mem_append_left _ (List.mem_of_getElem? (i := 9) rfl)))) (fun _ h9 => h9) rfl dX12_row_64 ?_
                refine lv_bipush (v := 60) hx hb dX12_row_67 (by decide) ?_
                refine lv_iload_n hx hb dX12_row_69 rfl (lv_at hl 1 rfl) ?_
                refine lv_imul hx hb dX12_row_70 ?_
                refine lv_topi (nm_r (e' := (nI (60 * js))) (pk_mul 60 js) ?_)
                refine lv_iload hx hb dX12_row_71 (lv_at hl 4 rfl) ?_
                refine lv_iadd hx hb dX12_row_73 ?_
                refine lv_topi (nm_r (e' := (nI ((60 * js) + i))) (nI_add (60 * js) i) ?_)
                refine lv_lconst (v := 0) hx hb dX12_row_74 (by decide) ?_
                refine va_last (D := g) hx hb hK hP hD hS 3 1 rfl rfl (vp_in_nI (n := (60 * js) + i) (by omega) (by decide)) dX12_row_75 (fun H locs hP hD hS => ?_)
                rw [nI_clamp (n := (60 * js) + i) (by omega)] at hP hD
                have hP : va_P g vwCl [(y, .inr (11, mO a)), ((a 1), .inl (cI, 4, .inl (upd fw js p1))), ((a 2), .inl (cI, 4, .inl (upd (fun _ => 0) js (nI jn)))), ((a 3), .inl (cJ, 240, .inr (.inl (vp_updL f ((60 * js) + i) 0))))] H := hP
                have hD : va_D A [(y, .inr (11, mO a)), ((a 1), .inl (cI, 4, .inl (upd fw js p1))), ((a 2), .inl (cI, 4, .inl (upd (fun _ => 0) js (nI jn)))), ((a 3), .inl (cJ, 240, .inr (.inl (vp_updL f ((60 * js) + i) 0))))] := hD
                refine lv_iinc (v := (nI (i + 1))) (lv' := [(4, .int (nI (i + 1))), (0, .ref y), (1, .int (nI js)), (2, .int p1), (3, .int (nI jn))]) hx hb dX12_row_76 hl (k := 4) rfl (nI_add i 1) (by decide) rfl (fun ls hl => ?_)
                refine lv_goto (tgt := 57) hx hb dX12_row_79 (by decide) ?_
                exact ih14 (i + 1) _ _ _ _ (by omega) (by omega) (hP.sub [0, 1, 2, 3] rfl) (hD.sub [0, 1, 2, 3] (by decide) rfl) hS (lv_sub hl [1, 2, 3, 4, 0] rfl)
          exact lp15 _ 0 _ _ _ _ (Nat.lt_succ_self _) (Nat.zero_le _) (hP.sub [0, 1, 2, 3] rfl) (hD.sub [0, 1, 2, 3] (by decide) rfl) hS (lv_sub hl [1, 2, 3, 4, 0] rfl)
        · have f12 := (show ip2 < 0 from z_nle rfl hzp2 c11)
          refine lv_bipush (v := (-3)) hx hb dX12_row_37 (by decide) ?_
          have hP9 := hP.sub (ws' := []) [] rfl
          have hD9 := hD.sub (ws' := []) [] (by decide) rfl
          exact W.iret (v := (-3)) hx hb hr (fun t ht hW => ⟨⟨(-3), (), rfl, Or.inr (Or.inl ⟨rfl, ⟨by omega, by omega, by omega, by omega, by omega⟩, by omega⟩), by rw [ht]; exact hP9, va_K.moved hW.alike hK, hD9⟩, hS.F ht⟩) hS.2.2 dX12_row_39
      · have f10 := (show 60 < ip2 from z_nle hzp2 rfl c9)
        refine lv_bipush (v := (-2)) hx hb dX12_row_30 (by decide) ?_
        have hP9 := hP.sub (ws' := []) [] rfl
        have hD9 := hD.sub (ws' := []) [] (by decide) rfl
        exact W.iret (v := (-2)) hx hb hr (fun t ht hW => ⟨⟨(-2), (), rfl, Or.inl ⟨rfl, by omega⟩, by rw [ht]; exact hP9, va_K.moved hW.alike hK, hD9⟩, hS.F ht⟩) hS.2.2 dX12_row_32
    · refine lv_if_eq (tgt := 30) hx hb dX12_row_21 (by decide) (fun _ => ?_) (fun c18 => absurd c18 (by decide))
      refine lv_bipush (v := (-2)) hx hb dX12_row_30 (by decide) ?_
      have hP9 := hP.sub (ws' := []) [] rfl
      have hD9 := hD.sub (ws' := []) [] (by decide) rfl
      exact W.iret (v := (-2)) hx hb hr (fun t ht hW => ⟨⟨(-2), (), rfl, Or.inl ⟨rfl, by omega⟩, by rw [ht]; exact hP9, va_K.moved hW.alike hK, hD9⟩, hS.F ht⟩) hS.2.2 dX12_row_32
  · refine lv_if_eq (tgt := 30) hx hb dX12_row_9 (by decide) (fun _ => ?_) (fun c19 => absurd c19 (by decide))
    refine lv_bipush (v := (-2)) hx hb dX12_row_30 (by decide) ?_
    have hP9 := hP.sub (ws' := []) [] rfl
    have hD9 := hD.sub (ws' := []) [] (by decide) rfl
    exact W.iret (v := (-2)) hx hb hr (fun t ht hW => ⟨⟨(-2), (), rfl, Or.inl ⟨rfl, by omega⟩, by rw [ht]; exact hP9, va_K.moved hW.alike hK, hD9⟩, hS.F ht⟩) hS.2.2 dX12_row_32
