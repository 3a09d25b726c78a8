def v_X6_readRow : List Cond := .code yX6_readRow cX6_readRow 11 (some .boolean) :: (([.fieldLink RX6 9 "CardsAtYule$Seen" "years" "J", .fieldLink RX6 15 "CardsAtYule$Seen" "got0" "J", .fieldLink RX6 18 "CardsAtYule$Seen" "got1" "J", .fieldLink RX6 21 "CardsAtYule$Seen" "clashes" "Z", .fieldLink RX6 25 "CardsAtYule$Slots" "size" "[I", .methodLink RX6 31 yX7_numberAt, .instanceMethod yX7_numberAt, .selects RX7 yX7_numberAt yX7_numberAt, .initialized RX7, .methodLink RX6 35 yX6_note, .instanceMethod yX6_note, .selects RX6 yX6_note yX6_note, .initialized RX6] : List Cond) ++ (v_X7_numberAt ++ (v_X6_note ++ (wsX60 ++ (wsX70 ++ ([] : List Cond))))))
theorem good_v_X6_readRow : v_X6_readRow.all goodWord = true := ga_c (by decide +kernel) (ga_a (by decide +kernel) (ga_a good_v_X7_numberAt (ga_a good_v_X6_note (ga_a good_wsX60 (ga_a good_wsX70 rfl)))))
set_option maxHeartbeats 4000000 in
set_option maxRecDepth 100000 in
theorem q_X6_readRow (l : Launch) (g : va_G) (cI cJ cB cZ cL : ClassId) (kA : Nat → Nat) (vA : Nat → Nat) (p1 : Int32) (p2 : Int32) (se : Nat) (sl : Nat) (se_years : Int64) (se_got0 : Int64) (se_got1 : Int64) (se_clashes : Int32) (sl_width : Nat) (sl_size : Nat) (sl_numbers : Nat) (sl_size_c : Nat → Int32) (sl_numbers_c : Nat → Int64) (sz : Nat) (hv_p1 : ir p1.toInt 0 3) (hv_se_clashes : ir se_clashes.toInt 0 1) (ha_sl_size_c : ar sl_size_c 4 (-1) 60) : Met l yX6_readRow v_X6_readRow ({ frames := 2, cells := 0, slots := 0, locals := 47 }) (va_Pc [.ref se, .ref sl, .int p1, .int p2] (eRW g (tyT cI cJ cB cZ cL) [(se, .inr (6, [.long se_years, .long se_got0, .long se_got1, .int se_clashes])), (sl, .inr (7, [.ref sl_width, .ref sl_size, .ref sl_numbers])), (sl_size, .inl (cI, 4, .inl sl_size_c)), (sl_numbers, .inl (cJ, 240, .inr (.inl sl_numbers_c)))] sz kA vA)) (va_Qi (fun (r : Int32) (u : Int64 × Int64 × Int64 × Int32) => match u with | (n_se_years, n_se_got0, n_se_got1, n_se_clashes) => (ir n_se_clashes.toInt 0 1) ∧ ((r = 1 ∧ (sl_size_c p1.toNatClampNeg).toInt % 3 = 0) ∨ (r = 0))) (fun (u : Int64 × Int64 × Int64 × Int32) (t : State) => bRW g (tyT cI cJ cB cZ cL) (va_A [(se, .inr (6, [.long se_years, .long se_got0, .long se_got1, .int se_clashes])), (sl, .inr (7, [.ref sl_width, .ref sl_size, .ref sl_numbers])), (sl_size, .inl (cI, 4, .inl sl_size_c)), (sl_numbers, .inl (cJ, 240, .inr (.inl sl_numbers_c)))] sz) (match u with | (n_se_years, n_se_got0, n_se_got1, n_se_clashes) => [(se, .inr (6, [.long n_se_years, .long n_se_got0, .long n_se_got1, .int n_se_clashes])), (sl, .inr (7, [.ref sl_width, .ref sl_size, .ref sl_numbers])), (sl_size, .inl (cI, 4, .inl sl_size_c)), (sl_numbers, .inl (cJ, 240, .inr (.inl sl_numbers_c)))]) t) (va_A [(se, .inr (6, [.long se_years, .long se_got0, .long se_got1, .int se_clashes])), (sl, .inr (7, [.ref sl_width, .ref sl_size, .ref sl_numbers])), (sl_size, .inl (cI, 4, .inl sl_size_c)), (sl_numbers, .inl (cJ, 240, .inr (.inl sl_numbers_c)))] sz)) 0 0 (va_A [(se, .inr (6, [.long se_years, .long se_got0, .long se_got1, .int se_clashes])), (sl, .inr (7, [.ref sl_width, .ref sl_size, .ref sl_numbers])), (sl_size, .inl (cI, 4, .inl sl_size_c)), (sl_numbers, .inl (cJ, 240, .inr (.inl sl_numbers_c)))] sz) := by
  refine Met.ofW (cc := cX6_readRow) (maxL := 11) (ret := (some .boolean)) (by decide) rfl ?_
  intro p e s m args below meth c s₁ B hml hv
  obtain ⟨rfl, ⟨hsz, hP, hK, hD0⟩, hE⟩ := hv
  have hx := B.exec
  have hb := B.bytes
  have hr := B.returns
  have hts := atoms_spec (ws := v_X6_readRow) B.pre
  have hown : s.vm.findClass RX6 = some m.cls := findClass_of_methodNamed B.named
  have hlocks := B.notSynchronized
  clear B
  subst hsz
  have iX6 : ∀ w ∈ wsX60, w ∈ v_X6_readRow := (fun _ h => List.mem_cons_of_mem _ (List.mem_append_right _ (List.mem_append_right _ (List.mem_append_right _ (List.mem_append_left _ h)))))
  have iX7 : ∀ w ∈ wsX70, w ∈ v_X6_readRow := (fun _ h => List.mem_cons_of_mem _ (List.mem_append_right _ (List.mem_append_right _ (List.mem_append_right _ (List.mem_append_right _ (List.mem_append_left _ h))))))
  have hD := hD0.self (sz := s.heap.size)
  generalize hAe : (va_A [(se, .inr (6, [.long se_years, .long se_got0, .long se_got1, .int se_clashes])), (sl, .inr (7, [.ref sl_width, .ref sl_size, .ref sl_numbers])), (sl_size, .inl (cI, 4, .inl sl_size_c)), (sl_numbers, .inl (cJ, 240, .inr (.inl sl_numbers_c)))] s.heap.size) = A at hD hE ⊢
  have hA : ∀ q : Nat, s.heap.size ≤ q → A q := fun q h => by rw [← hAe]; exact Or.inr h
  have hS : va_S A s.heap s.heap [] := va_S.rf
  have hl := lv_entry ([.ref se, .ref sl, .int p1, .int p2]) (n := 11) (Nat.le_of_ble_eq_true rfl)
  rw [lg_entry_eq]
  generalize (lg_sl ([.ref se, .ref sl, .int p1, .int p2]) ++ List.replicate (11 - (lg_sl ([.ref se, .ref sl, .int p1, .int p2])).length) Slot.unset).toArray = ls at hl ⊢
  generalize ([.ref se, .ref sl, .int p1, .int p2] : List Value).toArray = av at hts ⊢
  generalize hQ : MQ below _ av s _ _ A = QQ
  have hl : lv_has ls 11 [(0, .ref se), (1, .ref sl), (2, .int p1), (3, .int p2)] := hl
  have hP : va_P g vwCl [(se, .inr (6, [.long se_years, .long se_got0, .long se_got1, .int se_clashes])), (sl, .inr (7, [.ref sl_width, .ref sl_size, .ref sl_numbers])), (sl_size, .inl (cI, 4, .inl sl_size_c)), (sl_numbers, .inl (cJ, 240, .inr (.inl sl_numbers_c)))] s.heap := hP
  refine lv_aload_n hx hb dX6_readRow_0 rfl (lv_at hl 0 rfl) ?_
  refine lv_lconst (v := 0) hx hb dX6_readRow_1 (by decide) ?_
  refine va_put (D := g) (ci := 6) (v := .long 0) (ty := .long) (C := RX6) (T := TX6) (N := 4) hx hb hts iX6 tyX6 tyX6_ok nmX6 hown hK hP hD hS 0 rfl rfl 0 (by decide) (hts (.fieldLink RX6 9 "CardsAtYule$Seen" "years" "J") (List.mem_cons_of_mem _ (List.mem_append_left _ (List.mem_of_getElem? (i := 0) rfl)))) (fun _ h9 => h9) rfl (by decide +kernel) rfl rfl (Nat.le_of_ble_eq_true rfl) dX6_readRow_2 (fun H locs hP hD hS => ?_)
  have hP : va_P g vwCl [(se, .inr (6, [.long 0, .long se_got0, .long se_got1, .int se_clashes])), (sl, .inr (7, [.ref sl_width, .ref sl_size, .ref sl_numbers])), (sl_size, .inl (cI, 4, .inl sl_size_c)), (sl_numbers, .inl (cJ, 240, .inr (.inl sl_numbers_c)))] H := hP
  have hD : va_D A [(se, .inr (6, [.long 0, .long se_got0, .long se_got1, .int se_clashes])), (sl, .inr (7, [.ref sl_width, .ref sl_size, .ref sl_numbers])), (sl_size, .inl (cI, 4, .inl sl_size_c)), (sl_numbers, .inl (cJ, 240, .inr (.inl sl_numbers_c)))] := hD
  refine lv_aload_n hx hb dX6_readRow_5 rfl (lv_at hl 0 rfl) ?_
  refine lv_lconst (v := 0) hx hb dX6_readRow_6 (by decide) ?_
  refine va_put (D := g) (ci := 6) (v := .long 0) (ty := .long) (C := RX6) (T := TX6) (N := 4) hx hb hts iX6 tyX6 tyX6_ok nmX6 hown hK hP hD hS 0 rfl rfl 1 (by decide) (hts (.fieldLink RX6 15 "CardsAtYule$Seen" "got0" "J") (List.mem_cons_of_mem _ (List.mem_append_left _ (List.mem_of_getElem? (i := 1) rfl)))) (fun _ h9 => h9) rfl (by decide +kernel) rfl rfl (Nat.le_of_ble_eq_true rfl) dX6_readRow_7 (fun H locs hP hD hS => ?_)
  have hP : va_P g vwCl [(se, .inr (6, [.long 0, .long 0, .long se_got1, .int se_clashes])), (sl, .inr (7, [.ref sl_width, .ref sl_size, .ref sl_numbers])), (sl_size, .inl (cI, 4, .inl sl_size_c)), (sl_numbers, .inl (cJ, 240, .inr (.inl sl_numbers_c)))] H := hP
  have hD : va_D A [(se, .inr (6, [.long 0, .long 0, .long se_got1, .int se_clashes])), (sl, .inr (7, [.ref sl_width, .ref sl_size, .ref sl_numbers])), (sl_size, .inl (cI, 4, .inl sl_size_c)), (sl_numbers, .inl (cJ, 240, .inr (.inl sl_numbers_c)))] := hD
  refine lv_aload_n hx hb dX6_readRow_10 rfl (lv_at hl 0 rfl) ?_
  refine lv_lconst (v := 0) hx hb dX6_readRow_11 (by decide) ?_
  refine va_put (D := g) (ci := 6) (v := .long 0) (ty := .long) (C := RX6) (T := TX6) (N := 4) hx hb hts iX6 tyX6 tyX6_ok nmX6 hown hK hP hD hS 0 rfl rfl 2 (by decide) (hts (.fieldLink RX6 18 "CardsAtYule$Seen" "got1" "J") (List.mem_cons_of_mem _ (List.mem_append_left _ (List.mem_of_getElem? (i := 2) rfl)))) (fun _ h9 => h9) rfl (by decide +kernel) rfl rfl (Nat.le_of_ble_eq_true rfl) dX6_readRow_12 (fun H locs hP hD hS => ?_)
  have hP : va_P g vwCl [(se, .inr (6, [.long 0, .long 0, .long 0, .int se_clashes])), (sl, .inr (7, [.ref sl_width, .ref sl_size, .ref sl_numbers])), (sl_size, .inl (cI, 4, .inl sl_size_c)), (sl_numbers, .inl (cJ, 240, .inr (.inl sl_numbers_c)))] H := hP
  have hD : va_D A [(se, .inr (6, [.long 0, .long 0, .long 0, .int se_clashes])), (sl, .inr (7, [.ref sl_width, .ref sl_size, .ref sl_numbers])), (sl_size, .inl (cI, 4, .inl sl_size_c)), (sl_numbers, .inl (cJ, 240, .inr (.inl sl_numbers_c)))] := hD
  refine lv_aload_n hx hb dX6_readRow_15 rfl (lv_at hl 0 rfl) ?_
  refine lv_iconst (v := 0) hx hb dX6_readRow_16 (by decide) ?_
  refine va_put (D := g) (ci := 6) (v := .int 0) (ty := .boolean) (C := RX6) (T := TX6) (N := 4) hx hb hts iX6 tyX6 tyX6_ok nmX6 hown hK hP hD hS 0 rfl rfl 3 (by decide) (hts (.fieldLink RX6 21 "CardsAtYule$Seen" "clashes" "Z") (List.mem_cons_of_mem _ (List.mem_append_left _ (List.mem_of_getElem? (i := 3) rfl)))) (fun _ h9 => h9) rfl (by decide +kernel) rfl rfl (Nat.le_of_ble_eq_true rfl) dX6_readRow_17 (fun H locs hP hD hS => ?_)
  have hP : va_P g vwCl [(se, .inr (6, [.long 0, .long 0, .long 0, .int 0])), (sl, .inr (7, [.ref sl_width, .ref sl_size, .ref sl_numbers])), (sl_size, .inl (cI, 4, .inl sl_size_c)), (sl_numbers, .inl (cJ, 240, .inr (.inl sl_numbers_c)))] H := hP
  have hD : va_D A [(se, .inr (6, [.long 0, .long 0, .long 0, .int 0])), (sl, .inr (7, [.ref sl_width, .ref sl_size, .ref sl_numbers])), (sl_size, .inl (cI, 4, .inl sl_size_c)), (sl_numbers, .inl (cJ, 240, .inr (.inl sl_numbers_c)))] := hD
  refine lv_aload_n hx hb dX6_readRow_20 rfl (lv_at hl 1 rfl) ?_
  refine va_get (D := g) (ci := 7) (v := .ref sl_size) (C := RX7) (T := TX7) (N := 3) hx hb hts iX7 hown hK hP 1 rfl rfl 1 (by decide) (hts (.fieldLink RX6 25 "CardsAtYule$Slots" "size" "[I") (List.mem_cons_of_mem _ (List.mem_append_left _ (List.mem_of_getElem? (i := 4) rfl)))) (fun _ h9 => h9) rfl dX6_readRow_21 ?_
  refine lv_iload_n hx hb dX6_readRow_24 rfl (lv_at hl 2 rfl) ?_
  refine va_iald (D := g) hx hb hK hP 2 0 rfl rfl (vi_rg rfl hv_p1 (by decide) (by decide)) dX6_readRow_25 ?_
  refine lv_topi (fun y25 e25 => ?_)
  have r25 : ir y25.toInt (-1) 60 := by rw [e25]; exact ha_sl_size_c _ (vi_cl (vi_rg rfl hv_p1 (by decide) (by decide)))
  refine lv_iconst (v := 3) hx hb dX6_readRow_26 (by decide) ?_
  refine lv_irem hx hb dX6_readRow_27 (by decide) ?_
  refine lv_topi (fun y27 e27 => ?_)
  have h3 : y27.toInt = 0 → y25.toInt % 3 = 0 := rm3 e27 r25
  refine lv_if_eq (tgt := 33) hx hb dX6_readRow_28 (by decide) (fun c28 => ?_) (fun c28 => ?_)
  rotate_left 1
  · have f28 := (show y27.toInt ≠ 0 from z_ne rfl rfl c28)
    refine lv_iconst (v := 0) hx hb dX6_readRow_31 (by decide) ?_
    subst hQ
    have hP9 := hP.sub (ws' := [(se, .inr (6, [.long 0, .long 0, .long 0, .int 0])), (sl, .inr (7, [.ref sl_width, .ref sl_size, .ref sl_numbers])), (sl_size, .inl (cI, 4, .inl sl_size_c)), (sl_numbers, .inl (cJ, 240, .inr (.inl sl_numbers_c)))]) [0, 1, 2, 3] rfl
    have hD9 := hD.sub (ws' := [(se, .inr (6, [.long 0, .long 0, .long 0, .int 0])), (sl, .inr (7, [.ref sl_width, .ref sl_size, .ref sl_numbers])), (sl_size, .inl (cI, 4, .inl sl_size_c)), (sl_numbers, .inl (cJ, 240, .inr (.inl sl_numbers_c)))]) [0, 1, 2, 3] (by decide) rfl
    exact W.zret (v := 0) hx hb hr rfl (fun t ht hW => ⟨⟨0, (0, 0, 0, 0), rfl, ⟨(show ir (0 : Int32).toInt 0 1 by decide), (Or.inr rfl)⟩, ⟨by rw [ht]; exact hP9, va_K.moved hW.alike hK, hD9⟩⟩, hS.F ht⟩) hS.2.2 dX6_readRow_32
  have f28 := (show y27.toInt = 0 from z_eq rfl rfl c28)
  have r28a : ir y27.toInt 0 0 := ir_eqa f28 (rg_all y27) (ir_c 0) (by decide) (by decide)
  refine lv_iconst (v := 0) hx hb dX6_readRow_33 (by decide) ?_
  refine lv_istore (lv' := [(4, .int 0), (0, .ref se), (1, .ref sl), (2, .int p1), (3, .int p2)]) hx hb dX6_readRow_34 hl (by decide) rfl (fun ls hl => ?_)
  have J36 : ∀ (n36 : Nat) (j36_l4 : Int32) (j36_se_years : Int64) (j36_se_got0 : Int64) (j36_se_got1 : Int64) (j36_se_clashes : Int32) (H : Heap) (locs : List Loc) (ls : Array Slot), (64 - j36_l4.toInt).toNat < n36 → (ir j36_l4.toInt 0 63) → (ir j36_se_clashes.toInt 0 1) → (j36_l4.toInt % 3 = 0) → va_P g vwCl [(se, .inr (6, [.long j36_se_years, .long j36_se_got0, .long j36_se_got1, .int j36_se_clashes])), (sl, .inr (7, [.ref sl_width, .ref sl_size, .ref sl_numbers])), (sl_size, .inl (cI, 4, .inl sl_size_c)), (sl_numbers, .inl (cJ, 240, .inr (.inl sl_numbers_c)))] H → va_D A [(se, .inr (6, [.long j36_se_years, .long j36_se_got0, .long j36_se_got1, .int j36_se_clashes])), (sl, .inr (7, [.ref sl_width, .ref sl_size, .ref sl_numbers])), (sl_size, .inl (cI, 4, .inl sl_size_c)), (sl_numbers, .inl (cJ, 240, .inr (.inl sl_numbers_c)))] → va_S A s.heap H locs → lv_has ls 11 [(0, .ref se), (1, .ref sl), (2, .int p1), (3, .int p2), (4, .int j36_l4)] → W p l e (headSpec v_X6_readRow ({ frames := 2, cells := 0, slots := 0, locals := 47 })).room s m av below meth c H locs 0 0 QQ (F0 m 36 ls []) := by
    intro n36
    induction n36 with
    | zero => exact fun j36_l4 j36_se_years j36_se_got0 j36_se_got1 j36_se_clashes H locs ls hn => absurd hn (Nat.not_lt_zero _)
    | succ n36 ih36 =>
      intro j36_l4 j36_se_years j36_se_got0 j36_se_got1 j36_se_clashes H locs ls hn36 hj36_l4 hj36_se_clashes hi36_0 hP hD hS hl
      refine lv_iload hx hb dX6_readRow_36 (lv_at hl 4 rfl) ?_
      refine lv_aload_n hx hb dX6_readRow_38 rfl (lv_at hl 1 rfl) ?_
      refine va_get (D := g) (ci := 7) (v := .ref sl_size) (C := RX7) (T := TX7) (N := 3) hx hb hts iX7 hown hK hP 1 rfl rfl 1 (by decide) (hts (.fieldLink RX6 25 "CardsAtYule$Slots" "size" "[I") (List.mem_cons_of_mem _ (List.mem_append_left _ (List.mem_of_getElem? (i := 4) rfl)))) (fun _ h9 => h9) rfl dX6_readRow_39 ?_
      refine lv_iload_n hx hb dX6_readRow_42 rfl (lv_at hl 2 rfl) ?_
      refine va_iald (D := g) hx hb hK hP 2 0 rfl rfl (vi_rg rfl hv_p1 (by decide) (by decide)) dX6_readRow_43 ?_
      refine lv_topi (fun y43 e43 => ?_)
      have r43 : ir y43.toInt (-1) 60 := by rw [e43]; exact ha_sl_size_c _ (vi_cl (vi_rg rfl hv_p1 (by decide) (by decide)))
      have h5 : y43.toInt = y25.toInt := by rw [e43, e25]
      refine lv_icmp_ge (tgt := 140) hx hb dX6_readRow_44 (by decide) (fun c44 => ?_) (fun c44 => ?_)
      · have f44 := (show y43.toInt ≤ j36_l4.toInt from z_le rfl rfl c44)
        refine lv_iconst (v := 1) hx hb dX6_readRow_140 (by decide) ?_
        subst hQ
        have hP9 := hP.sub (ws' := [(se, .inr (6, [.long j36_se_years, .long j36_se_got0, .long j36_se_got1, .int j36_se_clashes])), (sl, .inr (7, [.ref sl_width, .ref sl_size, .ref sl_numbers])), (sl_size, .inl (cI, 4, .inl sl_size_c)), (sl_numbers, .inl (cJ, 240, .inr (.inl sl_numbers_c)))]) [0, 1, 2, 3] rfl
        have hD9 := hD.sub (ws' := [(se, .inr (6, [.long j36_se_years, .long j36_se_got0, .long j36_se_got1, .int j36_se_clashes])), (sl, .inr (7, [.ref sl_width, .ref sl_size, .ref sl_numbers])), (sl_size, .inl (cI, 4, .inl sl_size_c)), (sl_numbers, .inl (cJ, 240, .inr (.inl sl_numbers_c)))]) [0, 1, 2, 3] (by decide) rfl
        exact W.zret (v := 1) hx hb hr rfl (fun t ht hW => ⟨⟨1, (j36_se_years, j36_se_got0, j36_se_got1, j36_se_clashes), rfl, ⟨hj36_se_clashes, (Or.inl ⟨rfl, (by rw [← e25]; omega)⟩)⟩, ⟨by rw [ht]; exact hP9, va_K.moved hW.alike hK, hD9⟩⟩, hS.F ht⟩) hS.2.2 dX6_readRow_141
      have f44 := (show j36_l4.toInt < y43.toInt from z_nle rfl rfl c44)
      have r44a : ir j36_l4.toInt 0 59 := ir_lta f44 hj36_l4 r43 (by decide)
      have r44b : ir y43.toInt 1 60 := ir_ltb f44 hj36_l4 r43 (by decide)
      refine lv_aload_n hx hb dX6_readRow_47 rfl (lv_at hl 1 rfl) ?_
      refine lv_iload_n hx hb dX6_readRow_48 rfl (lv_at hl 2 rfl) ?_
      refine lv_iload hx hb dX6_readRow_49 (lv_at hl 4 rfl) ?_
      refine ro_l (va_runV (As := [.int p1, .int j36_l4]) (rest := []) ⟨hx, hb, hml, hown, hts⟩ (q_X7_numberAt l g cI cJ cB cZ cL p1 j36_l4 sl sl_width sl_size sl_numbers sl_numbers_c H.size hv_p1 r44a) (cwV 2 hts (goodIn_app (g_4 (List.mem_cons_of_mem _ (List.mem_append_left _ (List.mem_of_getElem? (i := 5) rfl))) (List.mem_cons_of_mem _ (List.mem_append_left _ (List.mem_of_getElem? (i := 6) rfl))) (List.mem_cons_of_mem _ (List.mem_append_left _ (List.mem_of_getElem? (i := 7) rfl))) (List.mem_cons_of_mem _ (List.mem_append_left _ (List.mem_of_getElem? (i := 8) rfl))) (by decide +kernel)) (goodIn_sub (fun _ h => List.mem_cons_of_mem _ (List.mem_append_right _ (List.mem_append_left _ h))) good_v_X7_numberAt)) rfl rfl rfl (by decide +kernel) ⟨Nat.le_of_ble_eq_true rfl, Nat.le_of_ble_eq_true rfl⟩) (pv_RO (q := (RX7, TX7, 3)) (ci := 7) (q0 := 0) (wc := [(sl, .inr (7, [.ref sl_width, .ref sl_size, .ref sl_numbers])), (sl_numbers, .inl (cJ, 240, .inr (.inl sl_numbers_c)))]) hK hP [1, 3] rfl rfl rfl) rfl rfl hl.1 rfl (lv_room (Nat.le_of_ble_eq_true rfl)) dX6_readRow_51 ⟨Nat.le_of_ble_eq_true rfl, Nat.le_of_ble_eq_true rfl⟩) hS hA hP (fun r51 u51 H locs hw51 hP hS => ?_)
      refine lv_lstore (lv' := [(5, .long r51), (0, .ref se), (1, .ref sl), (2, .int p1), (3, .int p2), (4, .int j36_l4)]) hx hb dX6_readRow_54 hl (by decide) rfl (fun ls hl => ?_)
      refine lv_aload_n hx hb dX6_readRow_56 rfl (lv_at hl 2 rfl) ?_
      refine lv_iload_n hx hb dX6_readRow_57 rfl (lv_at hl 3 rfl) ?_
      refine lv_iload hx hb dX6_readRow_58 (lv_at hl 5 rfl) ?_
      refine lv_iconst (v := 1) hx hb dX6_readRow_60 (by decide) ?_
      refine lv_iadd hx hb dX6_readRow_61 ?_
      refine lv_topi (fun y61 e61 => ?_)
      have q61 : y61.toInt = j36_l4.toInt + 1 := by rw [e61]; exact ad_z rfl rfl r44a (ir_c 1) (by decide) (by decide)
      have r61 : ir y61.toInt 1 60 := ad_r q61 r44a (ir_c 1) (by decide) (by decide)
      refine ro_l (va_runV (As := [.int p1, .int y61]) (rest := []) ⟨hx, hb, hml, hown, hts⟩ (q_X7_numberAt l g cI cJ cB cZ cL p1 y61 sl sl_width sl_size sl_numbers sl_numbers_c H.size hv_p1 (by omega)) (cwV 2 hts (goodIn_app (g_4 (List.mem_cons_of_mem _ (List.mem_append_left _ (List.mem_of_getElem? (i := 5) rfl))) (List.mem_cons_of_mem _ (List.mem_append_left _ (List.mem_of_getElem? (i := 6) rfl))) (List.mem_cons_of_mem _ (List.mem_append_left _ (List.mem_of_getElem? (i := 7) rfl))) (List.mem_cons_of_mem _ (List.mem_append_left _ (List.mem_of_getElem? (i := 8) rfl))) (by decide +kernel)) (goodIn_sub (fun _ h => List.mem_cons_of_mem _ (List.mem_append_right _ (List.mem_append_left _ h))) good_v_X7_numberAt)) rfl rfl rfl (by decide +kernel) ⟨Nat.le_of_ble_eq_true rfl, Nat.le_of_ble_eq_true rfl⟩) (pv_RO (q := (RX7, TX7, 3)) (ci := 7) (q0 := 0) (wc := [(sl, .inr (7, [.ref sl_width, .ref sl_size, .ref sl_numbers])), (sl_numbers, .inl (cJ, 240, .inr (.inl sl_numbers_c)))]) hK hP [1, 3] rfl rfl rfl) rfl rfl hl.1 rfl (lv_room (Nat.le_of_ble_eq_true rfl)) dX6_readRow_62 ⟨Nat.le_of_ble_eq_true rfl, Nat.le_of_ble_eq_true rfl⟩) hS hA hP (fun r62 u62 H locs hw62 hP hS => ?_)
      refine lv_lstore (lv' := [(7, .long r62), (5, .long r51), (0, .ref se), (1, .ref sl), (2, .int p1), (3, .int p2), (4, .int j36_l4)]) hx hb dX6_readRow_65 hl (by decide) rfl (fun ls hl => ?_)
      refine lv_aload_n hx hb dX6_readRow_67 rfl (lv_at hl 3 rfl) ?_
      refine lv_iload_n hx hb dX6_readRow_68 rfl (lv_at hl 4 rfl) ?_
      refine lv_iload hx hb dX6_readRow_69 (lv_at hl 6 rfl) ?_
      refine lv_iconst (v := 2) hx hb dX6_readRow_71 (by decide) ?_
      refine lv_iadd hx hb dX6_readRow_72 ?_
      refine lv_topi (fun y72 e72 => ?_)
      have q72 : y72.toInt = j36_l4.toInt + 2 := by rw [e72]; exact ad_z rfl rfl r44a (ir_c 2) (by decide) (by decide)
      have r72 : ir y72.toInt 2 61 := ad_r q72 r44a (ir_c 2) (by decide) (by decide)
      refine ro_l (va_runV (As := [.int p1, .int y72]) (rest := []) ⟨hx, hb, hml, hown, hts⟩ (q_X7_numberAt l g cI cJ cB cZ cL p1 y72 sl sl_width sl_size sl_numbers sl_numbers_c H.size hv_p1 (by omega)) (cwV 2 hts (goodIn_app (g_4 (List.mem_cons_of_mem _ (List.mem_append_left _ (List.mem_of_getElem? (i := 5) rfl))) (List.mem_cons_of_mem _ (List.mem_append_left _ (List.mem_of_getElem? (i := 6) rfl))) (List.mem_cons_of_mem _ (List.mem_append_left _ (List.mem_of_getElem? (i := 7) rfl))) (List.mem_cons_of_mem _ (List.mem_append_left _ (List.mem_of_getElem? (i := 8) rfl))) (by decide +kernel)) (goodIn_sub (fun _ h => List.mem_cons_of_mem _ (List.mem_append_right _ (List.mem_append_left _ h))) good_v_X7_numberAt)) rfl rfl rfl (by decide +kernel) ⟨Nat.le_of_ble_eq_true rfl, Nat.le_of_ble_eq_true rfl⟩) (pv_RO (q := (RX7, TX7, 3)) (ci := 7) (q0 := 0) (wc := [(sl, .inr (7, [.ref sl_width, .ref sl_size, .ref sl_numbers])), (sl_numbers, .inl (cJ, 240, .inr (.inl sl_numbers_c)))]) hK hP [1, 3] rfl rfl rfl) rfl rfl hl.1 rfl (lv_room (Nat.le_of_ble_eq_true rfl)) dX6_readRow_73 ⟨Nat.le_of_ble_eq_true rfl, Nat.le_of_ble_eq_true rfl⟩) hS hA hP (fun r73 u73 H locs hw73 hP hS => ?_)
      refine lv_lstore (lv' := [(9, .long r73), (7, .long r62), (5, .long r51), (0, .ref se), (1, .ref sl), (2, .int p1), (3, .int p2), (4, .int j36_l4)]) hx hb dX6_readRow_76 hl (by decide) rfl (fun ls hl => ?_)
      refine lv_lload hx hb dX6_readRow_78 (lv_at hl 2 rfl) ?_
      refine lv_lconst (v := 0) hx hb dX6_readRow_80 (by decide) ?_
      refine W.lcmp hx hb dX6_readRow_81 ?_
      refine lv_if_lt (tgt := 121) hx hb dX6_readRow_82 (by decide) (fun c82 => ?_) (fun c82 => ?_)
      · have f82 := (show r51.toInt < 0 from y_lt rfl rfl c82)
        have r82a : ir r51.toInt (-9223372036854775808) (-1) := ir_lta f82 (rl_all r51) (ir_c 0) (by decide)
        refine lv_iconst (v := 0) hx hb dX6_readRow_121 (by decide) ?_
        subst hQ
        have hP9 := hP.sub (ws' := [(se, .inr (6, [.long j36_se_years, .long j36_se_got0, .long j36_se_got1, .int j36_se_clashes])), (sl, .inr (7, [.ref sl_width, .ref sl_size, .ref sl_numbers])), (sl_size, .inl (cI, 4, .inl sl_size_c)), (sl_numbers, .inl (cJ, 240, .inr (.inl sl_numbers_c)))]) [0, 1, 2, 3] rfl
        have hD9 := hD.sub (ws' := [(se, .inr (6, [.long j36_se_years, .long j36_se_got0, .long j36_se_got1, .int j36_se_clashes])), (sl, .inr (7, [.ref sl_width, .ref sl_size, .ref sl_numbers])), (sl_size, .inl (cI, 4, .inl sl_size_c)), (sl_numbers, .inl (cJ, 240, .inr (.inl sl_numbers_c)))]) [0, 1, 2, 3] (by decide) rfl
        exact W.zret (v := 0) hx hb hr rfl (fun t ht hW => ⟨⟨0, (j36_se_years, j36_se_got0, j36_se_got1, j36_se_clashes), rfl, ⟨hj36_se_clashes, (Or.inr rfl)⟩, ⟨by rw [ht]; exact hP9, va_K.moved hW.alike hK, hD9⟩⟩, hS.F ht⟩) hS.2.2 dX6_readRow_122
      have f82 := (show 0 ≤ r51.toInt from y_nlt rfl rfl c82)
      have r82a : ir r51.toInt 0 9223372036854775807 := ir_leb f82 (ir_c 0) (rl_all r51) (by decide)
      refine lv_lload hx hb dX6_readRow_85 (lv_at hl 2 rfl) ?_
      refine lv_iload_n hx hb dX6_readRow_87 rfl (lv_at hl 6 rfl) ?_
      refine lv_i2l (v := p2.toInt64) hx hb dX6_readRow_88 rfl ?_
      refine W.lcmp hx hb dX6_readRow_89 ?_
      refine lv_if_ge (tgt := 121) hx hb dX6_readRow_90 (by decide) (fun c90 => ?_) (fun c90 => ?_)
      · have f90 := (show p2.toInt ≤ r51.toInt from y_ge rfl (z_i2l rfl) c90)
        refine lv_iconst (v := 0) hx hb dX6_readRow_121 (by decide) ?_
        subst hQ
        have hP9 := hP.sub (ws' := [(se, .inr (6, [.long j36_se_years, .long j36_se_got0, .long j36_se_got1, .int j36_se_clashes])), (sl, .inr (7, [.ref sl_width, .ref sl_size, .ref sl_numbers])), (sl_size, .inl (cI, 4, .inl sl_size_c)), (sl_numbers, .inl (cJ, 240, .inr (.inl sl_numbers_c)))]) [0, 1, 2, 3] rfl
        have hD9 := hD.sub (ws' := [(se, .inr (6, [.long j36_se_years, .long j36_se_got0, .long j36_se_got1, .int j36_se_clashes])), (sl, .inr (7, [.ref sl_width, .ref sl_size, .ref sl_numbers])), (sl_size, .inl (cI, 4, .inl sl_size_c)), (sl_numbers, .inl (cJ, 240, .inr (.inl sl_numbers_c)))]) [0, 1, 2, 3] (by decide) rfl
        exact W.zret (v := 0) hx hb hr rfl (fun t ht hW => ⟨⟨0, (j36_se_years, j36_se_got0, j36_se_got1, j36_se_clashes), rfl, ⟨hj36_se_clashes, (Or.inr rfl)⟩, ⟨by rw [ht]; exact hP9, va_K.moved hW.alike hK, hD9⟩⟩, hS.F ht⟩) hS.2.2 dX6_readRow_122
      have f90 := (show r51.toInt < p2.toInt from y_nge rfl (z_i2l rfl) c90)
      have r90a : ir r51.toInt 0 2147483646 := ir_lta f90 r82a (rg_all p2) (by decide)
      have r90b : ir p2.toInt 1 2147483647 := ir_ltb f90 r82a (rg_all p2) (by decide)
      refine lv_lload hx hb dX6_readRow_93 (lv_at hl 1 rfl) ?_
      refine lv_lconst (v := 0) hx hb dX6_readRow_95 (by decide) ?_
      refine W.lcmp hx hb dX6_readRow_96 ?_
      refine lv_if_lt (tgt := 121) hx hb dX6_readRow_97 (by decide) (fun c97 => ?_) (fun c97 => ?_)
      · have f97 := (show r62.toInt < 0 from y_lt rfl rfl c97)
        have r97a : ir r62.toInt (-9223372036854775808) (-1) := ir_lta f97 (rl_all r62) (ir_c 0) (by decide)
        refine lv_iconst (v := 0) hx hb dX6_readRow_121 (by decide) ?_
        subst hQ
        have hP9 := hP.sub (ws' := [(se, .inr (6, [.long j36_se_years, .long j36_se_got0, .long j36_se_got1, .int j36_se_clashes])), (sl, .inr (7, [.ref sl_width, .ref sl_size, .ref sl_numbers])), (sl_size, .inl (cI, 4, .inl sl_size_c)), (sl_numbers, .inl (cJ, 240, .inr (.inl sl_numbers_c)))]) [0, 1, 2, 3] rfl
        have hD9 := hD.sub (ws' := [(se, .inr (6, [.long j36_se_years, .long j36_se_got0, .long j36_se_got1, .int j36_se_clashes])), (sl, .inr (7, [.ref sl_width, .ref sl_size, .ref sl_numbers])), (sl_size, .inl (cI, 4, .inl sl_size_c)), (sl_numbers, .inl (cJ, 240, .inr (.inl sl_numbers_c)))]) [0, 1, 2, 3] (by decide) rfl
        exact W.zret (v := 0) hx hb hr rfl (fun t ht hW => ⟨⟨0, (j36_se_years, j36_se_got0, j36_se_got1, j36_se_clashes), rfl, ⟨hj36_se_clashes, (Or.inr rfl)⟩, ⟨by rw [ht]; exact hP9, va_K.moved hW.alike hK, hD9⟩⟩, hS.F ht⟩) hS.2.2 dX6_readRow_122
      have f97 := (show 0 ≤ r62.toInt from y_nlt rfl rfl c97)
      have r97a : ir r62.toInt 0 9223372036854775807 := ir_leb f97 (ir_c 0) (rl_all r62) (by decide)
      refine lv_lload hx hb dX6_readRow_100 (lv_at hl 1 rfl) ?_
      refine lv_lconst (v := 1) hx hb dX6_readRow_102 (by decide) ?_
      refine W.lcmp hx hb dX6_readRow_103 ?_
      refine lv_if_gt (tgt := 121) hx hb dX6_readRow_104 (by decide) (fun c104 => ?_) (fun c104 => ?_)
      · have f104 := (show 1 < r62.toInt from y_gt rfl rfl c104)
        have r104a : ir r62.toInt 2 9223372036854775807 := ir_ltb f104 (ir_c 1) r97a (by decide)
        refine lv_iconst (v := 0) hx hb dX6_readRow_121 (by decide) ?_
        subst hQ
        have hP9 := hP.sub (ws' := [(se, .inr (6, [.long j36_se_years, .long j36_se_got0, .long j36_se_got1, .int j36_se_clashes])), (sl, .inr (7, [.ref sl_width, .ref sl_size, .ref sl_numbers])), (sl_size, .inl (cI, 4, .inl sl_size_c)), (sl_numbers, .inl (cJ, 240, .inr (.inl sl_numbers_c)))]) [0, 1, 2, 3] rfl
        have hD9 := hD.sub (ws' := [(se, .inr (6, [.long j36_se_years, .long j36_se_got0, .long j36_se_got1, .int j36_se_clashes])), (sl, .inr (7, [.ref sl_width, .ref sl_size, .ref sl_numbers])), (sl_size, .inl (cI, 4, .inl sl_size_c)), (sl_numbers, .inl (cJ, 240, .inr (.inl sl_numbers_c)))]) [0, 1, 2, 3] (by decide) rfl
        exact W.zret (v := 0) hx hb hr rfl (fun t ht hW => ⟨⟨0, (j36_se_years, j36_se_got0, j36_se_got1, j36_se_clashes), rfl, ⟨hj36_se_clashes, (Or.inr rfl)⟩, ⟨by rw [ht]; exact hP9, va_K.moved hW.alike hK, hD9⟩⟩, hS.F ht⟩) hS.2.2 dX6_readRow_122
      have f104 := (show r62.toInt ≤ 1 from y_ngt rfl rfl c104)
      have r104a : ir r62.toInt 0 1 := ir_lea f104 r97a (ir_c 1) (by decide)
      refine lv_lload hx hb dX6_readRow_107 (lv_at hl 0 rfl) ?_
      refine lv_lconst (v := 0) hx hb dX6_readRow_109 (by decide) ?_
      refine W.lcmp hx hb dX6_readRow_110 ?_
      refine lv_if_lt (tgt := 121) hx hb dX6_readRow_111 (by decide) (fun c111 => ?_) (fun c111 => ?_)
      · have f111 := (show r73.toInt < 0 from y_lt rfl rfl c111)
        have r111a : ir r73.toInt (-9223372036854775808) (-1) := ir_lta f111 (rl_all r73) (ir_c 0) (by decide)
        refine lv_iconst (v := 0) hx hb dX6_readRow_121 (by decide) ?_
        subst hQ
        have hP9 := hP.sub (ws' := [(se, .inr (6, [.long j36_se_years, .long j36_se_got0, .long j36_se_got1, .int j36_se_clashes])), (sl, .inr (7, [.ref sl_width, .ref sl_size, .ref sl_numbers])), (sl_size, .inl (cI, 4, .inl sl_size_c)), (sl_numbers, .inl (cJ, 240, .inr (.inl sl_numbers_c)))]) [0, 1, 2, 3] rfl
        have hD9 := hD.sub (ws' := [(se, .inr (6, [.long j36_se_years, .long j36_se_got0, .long j36_se_got1, .int j36_se_clashes])), (sl, .inr (7, [.ref sl_width, .ref sl_size, .ref sl_numbers])), (sl_size, .inl (cI, 4, .inl sl_size_c)), (sl_numbers, .inl (cJ, 240, .inr (.inl sl_numbers_c)))]) [0, 1, 2, 3] (by decide) rfl
        exact W.zret (v := 0) hx hb hr rfl (fun t ht hW => ⟨⟨0, (j36_se_years, j36_se_got0, j36_se_got1, j36_se_clashes), rfl, ⟨hj36_se_clashes, (Or.inr rfl)⟩, ⟨by rw [ht]; exact hP9, va_K.moved hW.alike hK, hD9⟩⟩, hS.F ht⟩) hS.2.2 dX6_readRow_122
      have f111 := (show 0 ≤ r73.toInt from y_nlt rfl rfl c111)
      have r111a : ir r73.toInt 0 9223372036854775807 := ir_leb f111 (ir_c 0) (rl_all r73) (by decide)
      refine lv_lload hx hb dX6_readRow_114 (lv_at hl 0 rfl) ?_
      refine lv_lconst (v := 1) hx hb dX6_readRow_116 (by decide) ?_
      refine W.lcmp hx hb dX6_readRow_117 ?_
      refine lv_if_le (tgt := 123) hx hb dX6_readRow_118 (by decide) (fun c118 => ?_) (fun c118 => ?_)
      rotate_left 1
      · have f118 := (show 1 < r73.toInt from y_nle rfl rfl c118)
        have r118a : ir r73.toInt 2 9223372036854775807 := ir_ltb f118 (ir_c 1) r111a (by decide)
        refine lv_iconst (v := 0) hx hb dX6_readRow_121 (by decide) ?_
        subst hQ
        have hP9 := hP.sub (ws' := [(se, .inr (6, [.long j36_se_years, .long j36_se_got0, .long j36_se_got1, .int j36_se_clashes])), (sl, .inr (7, [.ref sl_width, .ref sl_size, .ref sl_numbers])), (sl_size, .inl (cI, 4, .inl sl_size_c)), (sl_numbers, .inl (cJ, 240, .inr (.inl sl_numbers_c)))]) [0, 1, 2, 3] rfl
        have hD9 := hD.sub (ws' := [(se, .inr (6, [.long j36_se_years, .long j36_se_got0, .long j36_se_got1, .int j36_se_clashes])), (sl, .inr (7, [.ref sl_width, .ref sl_size, .ref sl_numbers])), (sl_size, .inl (cI, 4, .inl sl_size_c)), (sl_numbers, .inl (cJ, 240, .inr (.inl sl_numbers_c)))]) [0, 1, 2, 3] (by decide) rfl
        exact W.zret (v := 0) hx hb hr rfl (fun t ht hW => ⟨⟨0, (j36_se_years, j36_se_got0, j36_se_got1, j36_se_clashes), rfl, ⟨hj36_se_clashes, (Or.inr rfl)⟩, ⟨by rw [ht]; exact hP9, va_K.moved hW.alike hK, hD9⟩⟩, hS.F ht⟩) hS.2.2 dX6_readRow_122
      have f118 := (show r73.toInt ≤ 1 from y_le rfl rfl c118)
      have r118a : ir r73.toInt 0 1 := ir_lea f118 r111a (ir_c 1) (by decide)
      refine lv_aload_n hx hb dX6_readRow_123 rfl (lv_at hl 3 rfl) ?_
      refine lv_lload hx hb dX6_readRow_124 (lv_at hl 2 rfl) ?_
      refine lv_l2i (v := r51.toInt32) hx hb dX6_readRow_126 rfl ?_
      refine lv_topi (fun y126 e126 => ?_)
      have q126 : y126.toInt = r51.toInt := by rw [e126]; exact li_z rfl r90a (by decide) (by decide)
      have r126 : ir y126.toInt 0 2147483646 := q126 ▸ r90a
      refine lv_lload hx hb dX6_readRow_127 (lv_at hl 1 rfl) ?_
      refine lv_lload hx hb dX6_readRow_129 (lv_at hl 0 rfl) ?_
      refine rw_v (wr := [(sl, .inr (7, [.ref sl_width, .ref sl_size, .ref sl_numbers])), (sl_size, .inl (cI, 4, .inl sl_size_c)), (sl_numbers, .inl (cJ, 240, .inr (.inl sl_numbers_c)))]) (va_runV (As := [.int y126, .long r62, .long r73]) (rest := []) ⟨hx, hb, hml, hown, hts⟩ (q_X6_note l g cI cJ cB cZ cL kA vA y126 r62 r73 se j36_se_years j36_se_got0 j36_se_got1 j36_se_clashes H.size hj36_se_clashes) (cwV 3 hts (goodIn_app (g_4 (List.mem_cons_of_mem _ (List.mem_append_left _ (List.mem_of_getElem? (i := 9) rfl))) (List.mem_cons_of_mem _ (List.mem_append_left _ (List.mem_of_getElem? (i := 10) rfl))) (List.mem_cons_of_mem _ (List.mem_append_left _ (List.mem_of_getElem? (i := 11) rfl))) (List.mem_cons_of_mem _ (List.mem_append_left _ (List.mem_of_getElem? (i := 12) rfl))) (by decide +kernel)) (goodIn_sub (fun _ h => List.mem_cons_of_mem _ (List.mem_append_right _ (List.mem_append_right _ (List.mem_append_left _ h)))) good_v_X6_note)) rfl rfl rfl (by decide +kernel) ⟨Nat.le_of_ble_eq_true rfl, Nat.le_of_ble_eq_true rfl⟩) (pvE_RW (pv_RW (q := (RX6, TX6, 4)) (ci := 6) (q0 := 0) (wc := [(se, .inr (6, [.long j36_se_years, .long j36_se_got0, .long j36_se_got1, .int j36_se_clashes]))]) hK hP hD [0] (by decide) rfl rfl rfl) hE hS (va_free hD hS hA [0] rfl)) rfl rfl hl.1 rfl (lv_room (Nat.le_of_ble_eq_true rfl)) dX6_readRow_131 ⟨Nat.le_of_ble_eq_true rfl, Nat.le_of_ble_eq_true rfl⟩) hS hA hP hD [0] [1, 2, 3] rfl rfl (by decide) (by decide) (fun u131 H locs hw131 hP hD hS => ?_)
      obtain ⟨n_se_years_131, n_se_got0_131, n_se_got1_131, n_se_clashes_131⟩ := u131
      have hP : va_P g vwCl [(sl, .inr (7, [.ref sl_width, .ref sl_size, .ref sl_numbers])), (sl_size, .inl (cI, 4, .inl sl_size_c)), (sl_numbers, .inl (cJ, 240, .inr (.inl sl_numbers_c))), (se, .inr (6, [.long n_se_years_131, .long n_se_got0_131, .long n_se_got1_131, .int n_se_clashes_131]))] H := hP
      have hD : va_D A [(sl, .inr (7, [.ref sl_width, .ref sl_size, .ref sl_numbers])), (sl_size, .inl (cI, 4, .inl sl_size_c)), (sl_numbers, .inl (cJ, 240, .inr (.inl sl_numbers_c))), (se, .inr (6, [.long n_se_years_131, .long n_se_got0_131, .long n_se_got1_131, .int n_se_clashes_131]))] := hD
      dsimp only at hw131
      have hw131_0 := hw131
      obtain ⟨y134, e134⟩ : ∃ y : Int32, y = j36_l4 + 3 := ⟨_, rfl⟩
      have q134 : y134.toInt = j36_l4.toInt + 3 := by rw [e134]; exact ad_z rfl rfl r44a (ir_c 3) (by decide) (by decide)
      have r134 : ir y134.toInt 3 62 := ad_r q134 r44a (ir_c 3) (by decide) (by decide)
      refine lv_iinc (v := y134) (lv' := [(4, .int y134), (9, .long r73), (7, .long r62), (5, .long r51), (0, .ref se), (1, .ref sl), (2, .int p1), (3, .int p2)]) hx hb dX6_readRow_134 hl (k := 7) rfl e134.symm (by decide) rfl (fun ls hl => ?_)
      refine lv_goto (tgt := 36) hx hb dX6_readRow_137 (by decide) ?_
      exact ih36 y134 n_se_years_131 n_se_got0_131 n_se_got1_131 n_se_clashes_131 _ _ _ (by omega) (ir_w r134 (by decide) (by decide)) hw131_0 (by first | omega | decide) (hP.sub [3, 0, 1, 2] rfl) (hD.sub [3, 0, 1, 2] (by decide) rfl) hS (lv_sub hl [4, 5, 6, 7, 0] rfl)
  exact J36 _ 0 0 0 0 0 _ _ _ (Nat.lt_succ_self _) (by decide) (by decide) (by first | omega | decide) (hP.sub [0, 1, 2, 3] rfl) (hD.sub [0, 1, 2, 3] (by decide) rfl) hS (lv_sub hl [1, 2, 3, 4, 0] rfl)
def v_X6_mayCome : List Cond := .code yX6_mayCome cX6_mayCome 4 (some .boolean) :: (([.fieldLink RX6 21 "CardsAtYule$Seen" "clashes" "Z", .fieldLink RX6 39 "CardsAtYule$Course" "rule" "[I", .fieldLink RX6 9 "CardsAtYule$Seen" "years" "J", .initialized RX11, .static yX11_highest, .fieldLink RX6 48 "CardsAtYule$Course" "years" "I", .fieldLink RX6 15 "CardsAtYule$Seen" "got0" "J", .fieldLink RX6 18 "CardsAtYule$Seen" "got1" "J", .methodLink RX6 51 yX2_runWhile, .instanceMethod yX2_runWhile, .selects RX2 yX2_runWhile yX2_runWhile, .initialized RX2] : List Cond) ++ (v_X11_highest ++ (v_X2_runWhile ++ (wsX60 ++ (wsX20 ++ ([] : List Cond))))))
theorem good_v_X6_mayCome : v_X6_mayCome.all goodWord = true := ga_c (by decide +kernel) (ga_a (by decide +kernel) (ga_a good_v_X11_highest (ga_a good_v_X2_runWhile (ga_a good_wsX60 (ga_a good_wsX20 rfl)))))
set_option maxHeartbeats 4000000 in
set_option maxRecDepth 100000 in
theorem q_X6_mayCome (l : Launch) (g : va_G) (cI cJ cB cZ cL : ClassId) (kA : Nat → Nat) (vA : Nat → Nat) (p1 : Int32) (p2 : Int32) (se : Nat) (co : Nat) (se_years : Int64) (se_got0 : Int64) (se_got1 : Int64) (se_clashes : Int32) (co_years : Int32) (co_begun : Int32) (co_rule : Nat) (co_may : Nat) (co_reach : Nat) (co_first : Nat) (co_back : Nat) (co_got : Nat) (co_rule_c : Nat → Int32) (co_first_c : Nat → Int64) (co_back_c : Nat → Int64) (co_got_c : Nat → Int64) (co_may_c : Nat → Int64) (co_reach_c : Nat → Int64) (sz : Nat) (hv_se_clashes : ir se_clashes.toInt 0 1) : Met l yX6_mayCome v_X6_mayCome ({ frames := 3, cells := 0, slots := 0, locals := 64 }) (va_Pc [.ref se, .ref co, .int p1, .int p2] (eRW g (tyT cI cJ cB cZ cL) [(se, .inr (6, [.long se_years, .long se_got0, .long se_got1, .int se_clashes])), (co, .inr (2, [.int co_years, .int co_begun, .ref co_rule, .ref co_may, .ref co_reach, .ref co_first, .ref co_back, .ref co_got])), (co_rule, .inl (cI, 2, .inl co_rule_c)), (co_first, .inl (cJ, 2, .inr (.inl co_first_c))), (co_back, .inl (cJ, 2, .inr (.inl co_back_c))), (co_got, .inl (cJ, 2, .inr (.inl co_got_c))), (co_may, .inl (cJ, 2, .inr (.inl co_may_c))), (co_reach, .inl (cJ, 2, .inr (.inl co_reach_c)))] sz kA vA)) (va_Qi (fun (r : Int32) (u : Int32 × (Nat → Int32) × (Nat → Int64) × (Nat → Int64) × (Nat → Int64)) => match u with | (n_co_years, n_co_rule_c, n_co_first_c, n_co_back_c, n_co_got_c) => (ir r.toInt 0 1)) (fun (u : Int32 × (Nat → Int32) × (Nat → Int64) × (Nat → Int64) × (Nat → Int64)) (t : State) => bRW g (tyT cI cJ cB cZ cL) (va_A [(se, .inr (6, [.long se_years, .long se_got0, .long se_got1, .int se_clashes])), (co, .inr (2, [.int co_years, .int co_begun, .ref co_rule, .ref co_may, .ref co_reach, .ref co_first, .ref co_back, .ref co_got])), (co_rule, .inl (cI, 2, .inl co_rule_c)), (co_first, .inl (cJ, 2, .inr (.inl co_first_c))), (co_back, .inl (cJ, 2, .inr (.inl co_back_c))), (co_got, .inl (cJ, 2, .inr (.inl co_got_c))), (co_may, .inl (cJ, 2, .inr (.inl co_may_c))), (co_reach, .inl (cJ, 2, .inr (.inl co_reach_c)))] sz) (match u with | (n_co_years, n_co_rule_c, n_co_first_c, n_co_back_c, n_co_got_c) => [(se, .inr (6, [.long se_years, .long se_got0, .long se_got1, .int se_clashes])), (co, .inr (2, [.int n_co_years, .int co_begun, .ref co_rule, .ref co_may, .ref co_reach, .ref co_first, .ref co_back, .ref co_got])), (co_rule, .inl (cI, 2, .inl n_co_rule_c)), (co_first, .inl (cJ, 2, .inr (.inl n_co_first_c))), (co_back, .inl (cJ, 2, .inr (.inl n_co_back_c))), (co_got, .inl (cJ, 2, .inr (.inl n_co_got_c))), (co_may, .inl (cJ, 2, .inr (.inl co_may_c))), (co_reach, .inl (cJ, 2, .inr (.inl co_reach_c)))]) t) (va_A [(se, .inr (6, [.long se_years, .long se_got0, .long se_got1, .int se_clashes])), (co, .inr (2, [.int co_years, .int co_begun, .ref co_rule, .ref co_may, .ref co_reach, .ref co_first, .ref co_back, .ref co_got])), (co_rule, .inl (cI, 2, .inl co_rule_c)), (co_first, .inl (cJ, 2, .inr (.inl co_first_c))), (co_back, .inl (cJ, 2, .inr (.inl co_back_c))), (co_got, .inl (cJ, 2, .inr (.inl co_got_c))), (co_may, .inl (cJ, 2, .inr (.inl co_may_c))), (co_reach, .inl (cJ, 2, .inr (.inl co_reach_c)))] sz)) 0 0 (va_A [(se, .inr (6, [.long se_years, .long se_got0, .long se_got1, .int se_clashes])), (co, .inr (2, [.int co_years, .int co_begun, .ref co_rule, .ref co_may, .ref co_reach, .ref co_first, .ref co_back, .ref co_got])), (co_rule, .inl (cI, 2, .inl co_rule_c)), (co_first, .inl (cJ, 2, .inr (.inl co_first_c))), (co_back, .inl (cJ, 2, .inr (.inl co_back_c))), (co_got, .inl (cJ, 2, .inr (.inl co_got_c))), (co_may, .inl (cJ, 2, .inr (.inl co_may_c))), (co_reach, .inl (cJ, 2, .inr (.inl co_reach_c)))] sz) := by
  refine Met.ofW (cc := cX6_mayCome) (maxL := 4) (ret := (some .boolean)) (by decide) rfl ?_
  intro p e s m args below meth c s₁ B hml hv
  obtain ⟨rfl, ⟨hsz, hP, hK, hD0⟩, hE⟩ := hv
  have hx := B.exec
  have hb := B.bytes
  have hr := B.returns
  have hts := atoms_spec (ws := v_X6_mayCome) B.pre
  have hown : s.vm.findClass RX6 = some m.cls := findClass_of_methodNamed B.named
  have hlocks := B.notSynchronized
  clear B
  subst hsz
  have iX6 : ∀ w ∈ wsX60, w ∈ v_X6_mayCome := (fun _ h => List.mem_cons_of_mem _ (List.mem_append_right _ (List.mem_append_right _ (List.mem_append_right _ (List.mem_append_left _ h)))))
  have iX2 : ∀ w ∈ wsX20, w ∈ v_X6_mayCome := (fun _ h => List.mem_cons_of_mem _ (List.mem_append_right _ (List.mem_append_right _ (List.mem_append_right _ (List.mem_append_right _ (List.mem_append_left _ h))))))
  have hD := hD0.self (sz := s.heap.size)
  generalize hAe : (va_A [(se, .inr (6, [.long se_years, .long se_got0, .long se_got1, .int se_clashes])), (co, .inr (2, [.int co_years, .int co_begun, .ref co_rule, .ref co_may, .ref co_reach, .ref co_first, .ref co_back, .ref co_got])), (co_rule, .inl (cI, 2, .inl co_rule_c)), (co_first, .inl (cJ, 2, .inr (.inl co_first_c))), (co_back, .inl (cJ, 2, .inr (.inl co_back_c))), (co_got, .inl (cJ, 2, .inr (.inl co_got_c))), (co_may, .inl (cJ, 2, .inr (.inl co_may_c))), (co_reach, .inl (cJ, 2, .inr (.inl co_reach_c)))] s.heap.size) = A at hD hE ⊢
  have hA : ∀ q : Nat, s.heap.size ≤ q → A q := fun q h => by rw [← hAe]; exact Or.inr h
  have hS : va_S A s.heap s.heap [] := va_S.rf
  have hl := lv_entry ([.ref se, .ref co, .int p1, .int p2]) (n := 4) (Nat.le_of_ble_eq_true rfl)
  rw [lg_entry_eq]
  generalize (lg_sl ([.ref se, .ref co, .int p1, .int p2]) ++ List.replicate (4 - (lg_sl ([.ref se, .ref co, .int p1, .int p2])).length) Slot.unset).toArray = ls at hl ⊢
  generalize ([.ref se, .ref co, .int p1, .int p2] : List Value).toArray = av at hts ⊢
  generalize hQ : MQ below _ av s _ _ A = QQ
  have hl : lv_has ls 4 [(0, .ref se), (1, .ref co), (2, .int p1), (3, .int p2)] := hl
  have hP : va_P g vwCl [(se, .inr (6, [.long se_years, .long se_got0, .long se_got1, .int se_clashes])), (co, .inr (2, [.int co_years, .int co_begun, .ref co_rule, .ref co_may, .ref co_reach, .ref co_first, .ref co_back, .ref co_got])), (co_rule, .inl (cI, 2, .inl co_rule_c)), (co_first, .inl (cJ, 2, .inr (.inl co_first_c))), (co_back, .inl (cJ, 2, .inr (.inl co_back_c))), (co_got, .inl (cJ, 2, .inr (.inl co_got_c))), (co_may, .inl (cJ, 2, .inr (.inl co_may_c))), (co_reach, .inl (cJ, 2, .inr (.inl co_reach_c)))] s.heap := hP
  refine lv_aload_n hx hb dX6_mayCome_0 rfl (lv_at hl 0 rfl) ?_
  refine va_get (D := g) (ci := 6) (v := .int se_clashes) (C := RX6) (T := TX6) (N := 4) hx hb hts iX6 hown hK hP 0 rfl rfl 3 (by decide) (hts (.fieldLink RX6 21 "CardsAtYule$Seen" "clashes" "Z") (List.mem_cons_of_mem _ (List.mem_append_left _ (List.mem_of_getElem? (i := 0) rfl)))) (fun _ h9 => h9) rfl dX6_mayCome_1 ?_
  refine lv_if_eq (tgt := 9) hx hb dX6_mayCome_4 (by decide) (fun c4 => ?_) (fun c4 => ?_)
  rotate_left 1
  · have f4 := (show se_clashes.toInt ≠ 0 from z_ne rfl rfl c4)
    have r4a : ir se_clashes.toInt 1 1 := ir_nel f4 hv_se_clashes (by decide) (by decide)
    refine lv_iconst (v := 0) hx hb dX6_mayCome_7 (by decide) ?_
    subst hQ
    have hP9 := hP.sub (ws' := [(se, .inr (6, [.long se_years, .long se_got0, .long se_got1, .int se_clashes])), (co, .inr (2, [.int co_years, .int co_begun, .ref co_rule, .ref co_may, .ref co_reach, .ref co_first, .ref co_back, .ref co_got])), (co_rule, .inl (cI, 2, .inl co_rule_c)), (co_first, .inl (cJ, 2, .inr (.inl co_first_c))), (co_back, .inl (cJ, 2, .inr (.inl co_back_c))), (co_got, .inl (cJ, 2, .inr (.inl co_got_c))), (co_may, .inl (cJ, 2, .inr (.inl co_may_c))), (co_reach, .inl (cJ, 2, .inr (.inl co_reach_c)))]) [0, 1, 2, 3, 4, 5, 6, 7] rfl
    have hD9 := hD.sub (ws' := [(se, .inr (6, [.long se_years, .long se_got0, .long se_got1, .int se_clashes])), (co, .inr (2, [.int co_years, .int co_begun, .ref co_rule, .ref co_may, .ref co_reach, .ref co_first, .ref co_back, .ref co_got])), (co_rule, .inl (cI, 2, .inl co_rule_c)), (co_first, .inl (cJ, 2, .inr (.inl co_first_c))), (co_back, .inl (cJ, 2, .inr (.inl co_back_c))), (co_got, .inl (cJ, 2, .inr (.inl co_got_c))), (co_may, .inl (cJ, 2, .inr (.inl co_may_c))), (co_reach, .inl (cJ, 2, .inr (.inl co_reach_c)))]) [0, 1, 2, 3, 4, 5, 6, 7] (by decide) rfl
    exact W.zret (v := 0) hx hb hr rfl (fun t ht hW => ⟨⟨0, (co_years, co_rule_c, co_first_c, co_back_c, co_got_c), rfl, (show ir (0 : Int32).toInt 0 1 by decide), ⟨by rw [ht]; exact hP9, va_K.moved hW.alike hK, hD9⟩⟩, hS.F ht⟩) hS.2.2 dX6_mayCome_8
  have f4 := (show se_clashes.toInt = 0 from z_eq rfl rfl c4)
  have r4a : ir se_clashes.toInt 0 0 := ir_eqa f4 hv_se_clashes (ir_c 0) (by decide) (by decide)
  refine lv_aload_n hx hb dX6_mayCome_9 rfl (lv_at hl 1 rfl) ?_
  refine va_get (D := g) (ci := 2) (v := .ref co_rule) (C := RX2) (T := TX2) (N := 8) hx hb hts iX2 hown hK hP 1 rfl rfl 2 (by decide) (hts (.fieldLink RX6 39 "CardsAtYule$Course" "rule" "[I") (List.mem_cons_of_mem _ (List.mem_append_left _ (List.mem_of_getElem? (i := 1) rfl)))) (fun _ h9 => h9) rfl dX6_mayCome_10 ?_
  refine lv_iconst (v := 0) hx hb dX6_mayCome_13 (by decide) ?_
  refine lv_iload_n hx hb dX6_mayCome_14 rfl (lv_at hl 2 rfl) ?_
  refine va_iast (D := g) hx hb hK hP hD hS 2 0 rfl rfl (vc_in (by decide)) dX6_mayCome_15 (fun H locs hP hD hS => ?_)
  obtain ⟨g15, e15⟩ : ∃ z, z = upd co_rule_c 0 p1 := ⟨_, rfl⟩
  have hP : va_P g vwCl [(se, .inr (6, [.long se_years, .long se_got0, .long se_got1, .int se_clashes])), (co, .inr (2, [.int co_years, .int co_begun, .ref co_rule, .ref co_may, .ref co_reach, .ref co_first, .ref co_back, .ref co_got])), (co_rule, .inl (cI, 2, .inl (upd co_rule_c 0 p1))), (co_first, .inl (cJ, 2, .inr (.inl co_first_c))), (co_back, .inl (cJ, 2, .inr (.inl co_back_c))), (co_got, .inl (cJ, 2, .inr (.inl co_got_c))), (co_may, .inl (cJ, 2, .inr (.inl co_may_c))), (co_reach, .inl (cJ, 2, .inr (.inl co_reach_c)))] H := hP
  have hD : va_D A [(se, .inr (6, [.long se_years, .long se_got0, .long se_got1, .int se_clashes])), (co, .inr (2, [.int co_years, .int co_begun, .ref co_rule, .ref co_may, .ref co_reach, .ref co_first, .ref co_back, .ref co_got])), (co_rule, .inl (cI, 2, .inl (upd co_rule_c 0 p1))), (co_first, .inl (cJ, 2, .inr (.inl co_first_c))), (co_back, .inl (cJ, 2, .inr (.inl co_back_c))), (co_got, .inl (cJ, 2, .inr (.inl co_got_c))), (co_may, .inl (cJ, 2, .inr (.inl co_may_c))), (co_reach, .inl (cJ, 2, .inr (.inl co_reach_c)))] := hD
  rw [← e15] at hP hD
  refine lv_aload_n hx hb dX6_mayCome_16 rfl (lv_at hl 1 rfl) ?_
  refine va_get (D := g) (ci := 2) (v := .ref co_rule) (C := RX2) (T := TX2) (N := 8) hx hb hts iX2 hown hK hP 1 rfl rfl 2 (by decide) (hts (.fieldLink RX6 39 "CardsAtYule$Course" "rule" "[I") (List.mem_cons_of_mem _ (List.mem_append_left _ (List.mem_of_getElem? (i := 1) rfl)))) (fun _ h9 => h9) rfl dX6_mayCome_17 ?_
  refine lv_iconst (v := 1) hx hb dX6_mayCome_20 (by decide) ?_
  refine lv_iload_n hx hb dX6_mayCome_21 rfl (lv_at hl 3 rfl) ?_
  refine va_iast (D := g) hx hb hK hP hD hS 2 0 rfl rfl (vc_in (by decide)) dX6_mayCome_22 (fun H locs hP hD hS => ?_)
  obtain ⟨g22, e22⟩ : ∃ z, z = upd g15 1 p2 := ⟨_, rfl⟩
  have hP : va_P g vwCl [(se, .inr (6, [.long se_years, .long se_got0, .long se_got1, .int se_clashes])), (co, .inr (2, [.int co_years, .int co_begun, .ref co_rule, .ref co_may, .ref co_reach, .ref co_first, .ref co_back, .ref co_got])), (co_rule, .inl (cI, 2, .inl (upd g15 1 p2))), (co_first, .inl (cJ, 2, .inr (.inl co_first_c))), (co_back, .inl (cJ, 2, .inr (.inl co_back_c))), (co_got, .inl (cJ, 2, .inr (.inl co_got_c))), (co_may, .inl (cJ, 2, .inr (.inl co_may_c))), (co_reach, .inl (cJ, 2, .inr (.inl co_reach_c)))] H := hP
  have hD : va_D A [(se, .inr (6, [.long se_years, .long se_got0, .long se_got1, .int se_clashes])), (co, .inr (2, [.int co_years, .int co_begun, .ref co_rule, .ref co_may, .ref co_reach, .ref co_first, .ref co_back, .ref co_got])), (co_rule, .inl (cI, 2, .inl (upd g15 1 p2))), (co_first, .inl (cJ, 2, .inr (.inl co_first_c))), (co_back, .inl (cJ, 2, .inr (.inl co_back_c))), (co_got, .inl (cJ, 2, .inr (.inl co_got_c))), (co_may, .inl (cJ, 2, .inr (.inl co_may_c))), (co_reach, .inl (cJ, 2, .inr (.inl co_reach_c)))] := hD
  rw [← e22] at hP hD
  refine lv_aload_n hx hb dX6_mayCome_23 rfl (lv_at hl 1 rfl) ?_
  refine lv_aload_n hx hb dX6_mayCome_24 rfl (lv_at hl 0 rfl) ?_
  refine va_get (D := g) (ci := 6) (v := .long se_years) (C := RX6) (T := TX6) (N := 4) hx hb hts iX6 hown hK hP 0 rfl rfl 0 (by decide) (hts (.fieldLink RX6 9 "CardsAtYule$Seen" "years" "J") (List.mem_cons_of_mem _ (List.mem_append_left _ (List.mem_of_getElem? (i := 2) rfl)))) (fun _ h9 => h9) rfl dX6_mayCome_25 ?_
  refine ro_i (va_runSN (As := [.long se_years]) (rest := [.ref co]) ⟨hx, hb, hml, hown, hts⟩ (q_X11_highest l g cI cJ cB cZ cL se_years H.size ) ⟨(va_cnB 1 hts (goodIn_sub (fun _ h => List.mem_cons_of_mem _ (List.mem_append_right _ (List.mem_append_left _ h))) good_v_X11_highest) rfl rfl rfl (hE.nest _ (List.mem_of_getElem? (i := 2) rfl)) (hts (.initialized RX11) (List.mem_cons_of_mem _ (List.mem_append_left _ (List.mem_of_getElem? (i := 3) rfl)))) (by decide +kernel) ⟨Nat.le_of_ble_eq_true rfl, Nat.le_of_ble_eq_true rfl⟩), (hts (.static yX11_highest) (List.mem_cons_of_mem _ (List.mem_append_left _ (List.mem_of_getElem? (i := 4) rfl)))), trivial⟩ (ps_RO (wc := []) hK hP [] rfl) rfl rfl hl.1 rfl (lv_room (Nat.le_of_ble_eq_true rfl)) dX6_mayCome_28 ⟨Nat.le_of_ble_eq_true rfl, Nat.le_of_ble_eq_true rfl⟩) hS hA hP (fun r28 u28 H locs hw28 hP hS => ?_)
  refine lv_iconst (v := 1) hx hb dX6_mayCome_31 (by decide) ?_
  refine lv_iadd hx hb dX6_mayCome_32 ?_
  refine lv_topi (fun y32 e32 => ?_)
  refine va_put (D := g) (ci := 2) (v := .int y32) (ty := .int) (C := RX2) (T := TX2) (N := 8) hx hb hts iX2 tyX2 tyX2_ok nmX2 hown hK hP hD hS 1 rfl rfl 0 (by decide) (hts (.fieldLink RX6 48 "CardsAtYule$Course" "years" "I") (List.mem_cons_of_mem _ (List.mem_append_left _ (List.mem_of_getElem? (i := 5) rfl)))) (fun _ h9 => h9) rfl (by decide +kernel) rfl rfl (Nat.le_of_ble_eq_true rfl) dX6_mayCome_33 (fun H locs hP hD hS => ?_)
  have hP : va_P g vwCl [(se, .inr (6, [.long se_years, .long se_got0, .long se_got1, .int se_clashes])), (co, .inr (2, [.int y32, .int co_begun, .ref co_rule, .ref co_may, .ref co_reach, .ref co_first, .ref co_back, .ref co_got])), (co_rule, .inl (cI, 2, .inl g22)), (co_first, .inl (cJ, 2, .inr (.inl co_first_c))), (co_back, .inl (cJ, 2, .inr (.inl co_back_c))), (co_got, .inl (cJ, 2, .inr (.inl co_got_c))), (co_may, .inl (cJ, 2, .inr (.inl co_may_c))), (co_reach, .inl (cJ, 2, .inr (.inl co_reach_c)))] H := hP
  have hD : va_D A [(se, .inr (6, [.long se_years, .long se_got0, .long se_got1, .int se_clashes])), (co, .inr (2, [.int y32, .int co_begun, .ref co_rule, .ref co_may, .ref co_reach, .ref co_first, .ref co_back, .ref co_got])), (co_rule, .inl (cI, 2, .inl g22)), (co_first, .inl (cJ, 2, .inr (.inl co_first_c))), (co_back, .inl (cJ, 2, .inr (.inl co_back_c))), (co_got, .inl (cJ, 2, .inr (.inl co_got_c))), (co_may, .inl (cJ, 2, .inr (.inl co_may_c))), (co_reach, .inl (cJ, 2, .inr (.inl co_reach_c)))] := hD
  refine lv_aload_n hx hb dX6_mayCome_36 rfl (lv_at hl 1 rfl) ?_
  refine lv_aload_n hx hb dX6_mayCome_37 rfl (lv_at hl 0 rfl) ?_
  refine va_get (D := g) (ci := 6) (v := .long se_years) (C := RX6) (T := TX6) (N := 4) hx hb hts iX6 hown hK hP 0 rfl rfl 0 (by decide) (hts (.fieldLink RX6 9 "CardsAtYule$Seen" "years" "J") (List.mem_cons_of_mem _ (List.mem_append_left _ (List.mem_of_getElem? (i := 2) rfl)))) (fun _ h9 => h9) rfl dX6_mayCome_38 ?_
  refine lv_aload_n hx hb dX6_mayCome_41 rfl (lv_at hl 0 rfl) ?_
  refine va_get (D := g) (ci := 6) (v := .long se_got0) (C := RX6) (T := TX6) (N := 4) hx hb hts iX6 hown hK hP 0 rfl rfl 1 (by decide) (hts (.fieldLink RX6 15 "CardsAtYule$Seen" "got0" "J") (List.mem_cons_of_mem _ (List.mem_append_left _ (List.mem_of_getElem? (i := 6) rfl)))) (fun _ h9 => h9) rfl dX6_mayCome_42 ?_
  refine lv_aload_n hx hb dX6_mayCome_45 rfl (lv_at hl 0 rfl) ?_
  refine va_get (D := g) (ci := 6) (v := .long se_got1) (C := RX6) (T := TX6) (N := 4) hx hb hts iX6 hown hK hP 0 rfl rfl 2 (by decide) (hts (.fieldLink RX6 18 "CardsAtYule$Seen" "got1" "J") (List.mem_cons_of_mem _ (List.mem_append_left _ (List.mem_of_getElem? (i := 7) rfl)))) (fun _ h9 => h9) rfl dX6_mayCome_46 ?_
  refine rw_i (wr := [(se, .inr (6, [.long se_years, .long se_got0, .long se_got1, .int se_clashes]))]) (va_runV (As := [.long se_years, .long se_got0, .long se_got1]) (rest := []) ⟨hx, hb, hml, hown, hts⟩ (q_X2_runWhile l g cI cJ cB cZ cL kA vA se_years se_got0 se_got1 co y32 co_begun co_rule co_may co_reach co_first co_back co_got co_first_c co_back_c co_got_c g22 co_may_c co_reach_c H.size ) (cwV 3 hts (goodIn_app (g_4 (List.mem_cons_of_mem _ (List.mem_append_left _ (List.mem_of_getElem? (i := 8) rfl))) (List.mem_cons_of_mem _ (List.mem_append_left _ (List.mem_of_getElem? (i := 9) rfl))) (List.mem_cons_of_mem _ (List.mem_append_left _ (List.mem_of_getElem? (i := 10) rfl))) (List.mem_cons_of_mem _ (List.mem_append_left _ (List.mem_of_getElem? (i := 11) rfl))) (by decide +kernel)) (goodIn_sub (fun _ h => List.mem_cons_of_mem _ (List.mem_append_right _ (List.mem_append_right _ (List.mem_append_left _ h)))) good_v_X2_runWhile)) rfl rfl rfl (by decide +kernel) ⟨Nat.le_of_ble_eq_true rfl, Nat.le_of_ble_eq_true rfl⟩) (pvE_RW (pv_RW (q := (RX2, TX2, 8)) (ci := 2) (q0 := 0) (wc := [(co, .inr (2, [.int y32, .int co_begun, .ref co_rule, .ref co_may, .ref co_reach, .ref co_first, .ref co_back, .ref co_got])), (co_first, .inl (cJ, 2, .inr (.inl co_first_c))), (co_back, .inl (cJ, 2, .inr (.inl co_back_c))), (co_got, .inl (cJ, 2, .inr (.inl co_got_c))), (co_rule, .inl (cI, 2, .inl g22)), (co_may, .inl (cJ, 2, .inr (.inl co_may_c))), (co_reach, .inl (cJ, 2, .inr (.inl co_reach_c)))]) hK hP hD [1, 3, 4, 5, 2, 6, 7] (by decide) rfl rfl rfl) hE hS (va_free hD hS hA [1, 3, 4, 5, 2, 6, 7] rfl)) rfl rfl hl.1 rfl (lv_room (Nat.le_of_ble_eq_true rfl)) dX6_mayCome_49 ⟨Nat.le_of_ble_eq_true rfl, Nat.le_of_ble_eq_true rfl⟩) hS hA hP hD [1, 3, 4, 5, 2, 6, 7] [0] rfl rfl (by decide) (by decide) (fun r49 u49 H locs hw49 hP hD hS => ?_)
  obtain ⟨n_co_first_c_49, n_co_back_c_49, n_co_got_c_49⟩ := u49
  have hP : va_P g vwCl [(se, .inr (6, [.long se_years, .long se_got0, .long se_got1, .int se_clashes])), (co, .inr (2, [.int y32, .int co_begun, .ref co_rule, .ref co_may, .ref co_reach, .ref co_first, .ref co_back, .ref co_got])), (co_first, .inl (cJ, 2, .inr (.inl n_co_first_c_49))), (co_back, .inl (cJ, 2, .inr (.inl n_co_back_c_49))), (co_got, .inl (cJ, 2, .inr (.inl n_co_got_c_49))), (co_rule, .inl (cI, 2, .inl g22)), (co_may, .inl (cJ, 2, .inr (.inl co_may_c))), (co_reach, .inl (cJ, 2, .inr (.inl co_reach_c)))] H := hP
  have hD : va_D A [(se, .inr (6, [.long se_years, .long se_got0, .long se_got1, .int se_clashes])), (co, .inr (2, [.int y32, .int co_begun, .ref co_rule, .ref co_may, .ref co_reach, .ref co_first, .ref co_back, .ref co_got])), (co_first, .inl (cJ, 2, .inr (.inl n_co_first_c_49))), (co_back, .inl (cJ, 2, .inr (.inl n_co_back_c_49))), (co_got, .inl (cJ, 2, .inr (.inl n_co_got_c_49))), (co_rule, .inl (cI, 2, .inl g22)), (co_may, .inl (cJ, 2, .inr (.inl co_may_c))), (co_reach, .inl (cJ, 2, .inr (.inl co_reach_c)))] := hD
  dsimp only at hw49
  have hw49_0 := hw49
  subst hQ
  have hP9 := hP.sub (ws' := [(se, .inr (6, [.long se_years, .long se_got0, .long se_got1, .int se_clashes])), (co, .inr (2, [.int y32, .int co_begun, .ref co_rule, .ref co_may, .ref co_reach, .ref co_first, .ref co_back, .ref co_got])), (co_rule, .inl (cI, 2, .inl g22)), (co_first, .inl (cJ, 2, .inr (.inl n_co_first_c_49))), (co_back, .inl (cJ, 2, .inr (.inl n_co_back_c_49))), (co_got, .inl (cJ, 2, .inr (.inl n_co_got_c_49))), (co_may, .inl (cJ, 2, .inr (.inl co_may_c))), (co_reach, .inl (cJ, 2, .inr (.inl co_reach_c)))]) [0, 1, 5, 2, 3, 4, 6, 7] rfl
  have hD9 := hD.sub (ws' := [(se, .inr (6, [.long se_years, .long se_got0, .long se_got1, .int se_clashes])), (co, .inr (2, [.int y32, .int co_begun, .ref co_rule, .ref co_may, .ref co_reach, .ref co_first, .ref co_back, .ref co_got])), (co_rule, .inl (cI, 2, .inl g22)), (co_first, .inl (cJ, 2, .inr (.inl n_co_first_c_49))), (co_back, .inl (cJ, 2, .inr (.inl n_co_back_c_49))), (co_got, .inl (cJ, 2, .inr (.inl n_co_got_c_49))), (co_may, .inl (cJ, 2, .inr (.inl co_may_c))), (co_reach, .inl (cJ, 2, .inr (.inl co_reach_c)))]) [0, 1, 5, 2, 3, 4, 6, 7] (by decide) rfl
  exact W.zret (v := r49) hx hb hr (bo_n hw49_0) (fun t ht hW => ⟨⟨r49, (y32, g22, n_co_first_c_49, n_co_back_c_49, n_co_got_c_49), rfl, hw49_0, ⟨by rw [ht]; exact hP9, va_K.moved hW.alike hK, hD9⟩⟩, hS.F ht⟩) hS.2.2 dX6_mayCome_52
def v_X5_nextDraw : List Cond := .code yX5_nextDraw cX5_nextDraw 1 (some .int) :: (([.constantLong RX5 107 (1103515245), .fieldLink RX5 25 "CardsAtYule$Lives" "x" "J", .constantLong RX5 109 (12345), .constantLong RX5 111 (2147483648), .constantLong RX5 113 (65536), .constantLong RX5 115 (100)] : List Cond) ++ (wsX50 ++ ([] : List Cond)))
theorem good_v_X5_nextDraw : v_X5_nextDraw.all goodWord = true := ga_c (by decide +kernel) (ga_a (by decide +kernel) (ga_a good_wsX50 rfl))
set_option maxHeartbeats 4000000 in
set_option maxRecDepth 100000 in
theorem q_X5_nextDraw (l : Launch) (g : va_G) (cI cJ cB cZ cL : ClassId) (dr : Nat) (dr_sent : Int32) (dr_forgot : Int32) (dr_lastSent : Nat) (dr_x : Int64) (dr_states : Nat) (dr_may : Nat) (dr_reach : Nat) (sz : Nat)  : Met l yX5_nextDraw v_X5_nextDraw ({ frames := 0, cells := 0, slots := 0, locals := 0 }) (va_Pc [.ref dr] (pRW g (tyT cI cJ cB cZ cL) [(dr, .inr (5, [.int dr_sent, .int dr_forgot, .ref dr_lastSent, .long dr_x, .ref dr_states, .ref dr_may, .ref dr_reach]))] sz)) (va_Qi (fun (r : Int32) (u : Int64) => match u with | n_dr_x => True) (fun (u : Int64) (t : State) => bRW g (tyT cI cJ cB cZ cL) (va_A [(dr, .inr (5, [.int dr_sent, .int dr_forgot, .ref dr_lastSent, .long dr_x, .ref dr_states, .ref dr_may, .ref dr_reach]))] sz) (match u with | n_dr_x => [(dr, .inr (5, [.int dr_sent, .int dr_forgot, .ref dr_lastSent, .long n_dr_x, .ref dr_states, .ref dr_may, .ref dr_reach]))]) t) (va_A [(dr, .inr (5, [.int dr_sent, .int dr_forgot, .ref dr_lastSent, .long dr_x, .ref dr_states, .ref dr_may, .ref dr_reach]))] sz)) 0 0 (va_A [(dr, .inr (5, [.int dr_sent, .int dr_forgot, .ref dr_lastSent, .long dr_x, .ref dr_states, .ref dr_may, .ref dr_reach]))] sz) := by
  refine Met.ofW (cc := cX5_nextDraw) (maxL := 1) (ret := (some .int)) (by decide) rfl ?_
  intro p e s m args below meth c s₁ B hml hv
  obtain ⟨rfl, hsz, hP, hK, hD0⟩ := hv
  have hx := B.exec
  have hb := B.bytes
  have hr := B.returns
  have hts := atoms_spec (ws := v_X5_nextDraw) B.pre
  have hown : s.vm.findClass RX5 = some m.cls := findClass_of_methodNamed B.named
  have hlocks := B.notSynchronized
  clear B
  subst hsz
  have iX5 : ∀ w ∈ wsX50, w ∈ v_X5_nextDraw := (fun _ h => List.mem_cons_of_mem _ (List.mem_append_right _ (List.mem_append_left _ h)))
  have hD := hD0.self (sz := s.heap.size)
  generalize hAe : (va_A [(dr, .inr (5, [.int dr_sent, .int dr_forgot, .ref dr_lastSent, .long dr_x, .ref dr_states, .ref dr_may, .ref dr_reach]))] s.heap.size) = A at hD ⊢
  have hA : ∀ q : Nat, s.heap.size ≤ q → A q := fun q h => by rw [← hAe]; exact Or.inr h
  have hS : va_S A s.heap s.heap [] := va_S.rf
  have hl := lv_entry ([.ref dr]) (n := 1) (Nat.le_of_ble_eq_true rfl)
  rw [lg_entry_eq]
  generalize (lg_sl ([.ref dr]) ++ List.replicate (1 - (lg_sl ([.ref dr])).length) Slot.unset).toArray = ls at hl ⊢
  generalize ([.ref dr] : List Value).toArray = av at hts ⊢
  generalize hQ : MQ below _ av s _ _ A = QQ
  have hl : lv_has ls 1 [(0, .ref dr)] := hl
  have hP : va_P g vwCl [(dr, .inr (5, [.int dr_sent, .int dr_forgot, .ref dr_lastSent, .long dr_x, .ref dr_states, .ref dr_may, .ref dr_reach]))] s.heap := hP
  refine lv_aload_n hx hb dX5_nextDraw_0 rfl (lv_at hl 0 rfl) ?_
  refine lv_ldc2 (v := 1103515245) hx hb hown (hts (.constantLong RX5 107 (1103515245)) (List.mem_cons_of_mem _ (List.mem_append_left _ (List.mem_of_getElem? (i := 0) rfl)))) dX5_nextDraw_1 ?_
  refine lv_aload_n hx hb dX5_nextDraw_4 rfl (lv_at hl 0 rfl) ?_
  refine va_get (D := g) (ci := 5) (v := .long dr_x) (C := RX5) (T := TX5) (N := 7) hx hb hts iX5 hown hK hP 0 rfl rfl 3 (by decide) (hts (.fieldLink RX5 25 "CardsAtYule$Lives" "x" "J") (List.mem_cons_of_mem _ (List.mem_append_left _ (List.mem_of_getElem? (i := 1) rfl)))) (fun _ h9 => h9) rfl dX5_nextDraw_5 ?_
  refine lv_lmul hx hb dX5_nextDraw_8 ?_
  refine lv_topl (fun y8 e8 => ?_)
  refine lv_ldc2 (v := 12345) hx hb hown (hts (.constantLong RX5 109 (12345)) (List.mem_cons_of_mem _ (List.mem_append_left _ (List.mem_of_getElem? (i := 2) rfl)))) dX5_nextDraw_9 ?_
  refine lv_ladd hx hb dX5_nextDraw_12 ?_
  refine lv_topl (fun y12 e12 => ?_)
  refine lv_ldc2 (v := 2147483648) hx hb hown (hts (.constantLong RX5 111 (2147483648)) (List.mem_cons_of_mem _ (List.mem_append_left _ (List.mem_of_getElem? (i := 3) rfl)))) dX5_nextDraw_13 ?_
  refine lv_lrem hx hb dX5_nextDraw_16 (by decide) ?_
  refine lv_topl (fun y16 e16 => ?_)
  refine va_put (D := g) (ci := 5) (v := .long y16) (ty := .long) (C := RX5) (T := TX5) (N := 7) hx hb hts iX5 tyX5 tyX5_ok nmX5 hown hK hP hD hS 0 rfl rfl 3 (by decide) (hts (.fieldLink RX5 25 "CardsAtYule$Lives" "x" "J") (List.mem_cons_of_mem _ (List.mem_append_left _ (List.mem_of_getElem? (i := 1) rfl)))) (fun _ h9 => h9) rfl (by decide +kernel) rfl rfl (Nat.le_of_ble_eq_true rfl) dX5_nextDraw_17 (fun H locs hP hD hS => ?_)
  have hP : va_P g vwCl [(dr, .inr (5, [.int dr_sent, .int dr_forgot, .ref dr_lastSent, .long y16, .ref dr_states, .ref dr_may, .ref dr_reach]))] H := hP
  have hD : va_D A [(dr, .inr (5, [.int dr_sent, .int dr_forgot, .ref dr_lastSent, .long y16, .ref dr_states, .ref dr_may, .ref dr_reach]))] := hD
  refine lv_aload_n hx hb dX5_nextDraw_20 rfl (lv_at hl 0 rfl) ?_
  refine va_get (D := g) (ci := 5) (v := .long y16) (C := RX5) (T := TX5) (N := 7) hx hb hts iX5 hown hK hP 0 rfl rfl 3 (by decide) (hts (.fieldLink RX5 25 "CardsAtYule$Lives" "x" "J") (List.mem_cons_of_mem _ (List.mem_append_left _ (List.mem_of_getElem? (i := 1) rfl)))) (fun _ h9 => h9) rfl dX5_nextDraw_21 ?_
  refine lv_ldc2 (v := 65536) hx hb hown (hts (.constantLong RX5 113 (65536)) (List.mem_cons_of_mem _ (List.mem_append_left _ (List.mem_of_getElem? (i := 4) rfl)))) dX5_nextDraw_24 ?_
  refine lv_ldiv hx hb dX5_nextDraw_27 (by decide) ?_
  refine lv_topl (fun y27 e27 => ?_)
  refine lv_ldc2 (v := 100) hx hb hown (hts (.constantLong RX5 115 (100)) (List.mem_cons_of_mem _ (List.mem_append_left _ (List.mem_of_getElem? (i := 5) rfl)))) dX5_nextDraw_28 ?_
  refine lv_lrem hx hb dX5_nextDraw_31 (by decide) ?_
  refine lv_topl (fun y31 e31 => ?_)
  refine lv_l2i (v := y31.toInt32) hx hb dX5_nextDraw_32 rfl ?_
  refine lv_topi (fun y32 e32 => ?_)
  subst hQ
  have hP9 := hP.sub (ws' := [(dr, .inr (5, [.int dr_sent, .int dr_forgot, .ref dr_lastSent, .long y16, .ref dr_states, .ref dr_may, .ref dr_reach]))]) [0] rfl
  have hD9 := hD.sub (ws' := [(dr, .inr (5, [.int dr_sent, .int dr_forgot, .ref dr_lastSent, .long y16, .ref dr_states, .ref dr_may, .ref dr_reach]))]) [0] (by decide) rfl
  exact W.iret (v := y32) hx hb hr (fun t ht hW => ⟨⟨y32, y16, rfl, trivial, ⟨by rw [ht]; exact hP9, va_K.moved hW.alike hK, hD9⟩⟩, hS.F ht⟩) hS.2.2 dX5_nextDraw_33
def v_X5_mindful : List Cond := .code yX5_mindful cX5_mindful 6 (some .int) :: (([.methodLink RX5 100 yX5_nextDraw, .instanceMethod yX5_nextDraw, .selects RX5 yX5_nextDraw yX5_nextDraw, .initialized RX5, .fieldLink RX5 104 "CardsAtYule$Land" "forgets" "[I", .fieldLink RX5 44 "CardsAtYule$Land" "who" "[I", .fieldLink RX5 33 "CardsAtYule$Lives" "forgot" "I"] : List Cond) ++ (v_X5_nextDraw ++ (wsX40 ++ (wsX50 ++ ([] : List Cond)))))
theorem good_v_X5_mindful : v_X5_mindful.all goodWord = true := ga_c (by decide +kernel) (ga_a (by decide +kernel) (ga_a good_v_X5_nextDraw (ga_a good_wsX40 (ga_a good_wsX50 rfl))))
set_option maxHeartbeats 4000000 in
set_option maxRecDepth 100000 in
theorem q_X5_mindful (l : Launch) (g : va_G) (cI cJ cB cZ cL : ClassId) (p1 : Int32) (p2 : Int32) (dr : Nat) (ld : Nat) (dr_sent : Int32) (dr_forgot : Int32) (dr_lastSent : Nat) (dr_x : Int64) (dr_states : Nat) (dr_may : Nat) (dr_reach : Nat) (ld_lines : Int32) (ld_years : Int32) (ld_card : Int32) (ld_hurt : Int32) (ld_people : Int32) (ld_pairs : Int32) (ld_strikes : Int64) (ld_rule : Nat) (ld_returns : Nat) (ld_forgets : Nat) (ld_death : Nat) (ld_move : Nat) (ld_begun : Nat) (ld_who : Nat) (ld_lost : Nat) (ld_who_c : Nat → Int32) (ld_forgets_c : Nat → Int32) (sz : Nat) (hv_p1 : ir p1.toInt 0 15) (hv_ld_years : ir ld_years.toInt 0 40) (hv_ld_people : ir ld_people.toInt 0 10) (hv_ld_pairs : ir ld_pairs.toInt 0 16) (ha_ld_who_c : ar ld_who_c 32 0 9) : Met l yX5_mindful v_X5_mindful ({ frames := 1, cells := 0, slots := 0, locals := 20 }) (va_Pc [.ref dr, .ref ld, .int p1, .int p2] (pRW g (tyT cI cJ cB cZ cL) [(dr, .inr (5, [.int dr_sent, .int dr_forgot, .ref dr_lastSent, .long dr_x, .ref dr_states, .ref dr_may, .ref dr_reach])), (ld, .inr (4, [.int ld_lines, .int ld_years, .int ld_card, .int ld_hurt, .int ld_people, .int ld_pairs, .long ld_strikes, .ref ld_rule, .ref ld_returns, .ref ld_forgets, .ref ld_death, .ref ld_move, .ref ld_begun, .ref ld_who, .ref ld_lost])), (ld_who, .inl (cI, 32, .inl ld_who_c)), (ld_forgets, .inl (cI, 10, .inl ld_forgets_c))] sz)) (va_Qi (fun (r : Int32) (u : Int32 × Int64) => match u with | (n_dr_forgot, n_dr_x) => True) (fun (u : Int32 × Int64) (t : State) => bRW g (tyT cI cJ cB cZ cL) (va_A [(dr, .inr (5, [.int dr_sent, .int dr_forgot, .ref dr_lastSent, .long dr_x, .ref dr_states, .ref dr_may, .ref dr_reach])), (ld, .inr (4, [.int ld_lines, .int ld_years, .int ld_card, .int ld_hurt, .int ld_people, .int ld_pairs, .long ld_strikes, .ref ld_rule, .ref ld_returns, .ref ld_forgets, .ref ld_death, .ref ld_move, .ref ld_begun, .ref ld_who, .ref ld_lost])), (ld_who, .inl (cI, 32, .inl ld_who_c)), (ld_forgets, .inl (cI, 10, .inl ld_forgets_c))] sz) (match u with | (n_dr_forgot, n_dr_x) => [(dr, .inr (5, [.int dr_sent, .int n_dr_forgot, .ref dr_lastSent, .long n_dr_x, .ref dr_states, .ref dr_may, .ref dr_reach])), (ld, .inr (4, [.int ld_lines, .int ld_years, .int ld_card, .int ld_hurt, .int ld_people, .int ld_pairs, .long ld_strikes, .ref ld_rule, .ref ld_returns, .ref ld_forgets, .ref ld_death, .ref ld_move, .ref ld_begun, .ref ld_who, .ref ld_lost])), (ld_who, .inl (cI, 32, .inl ld_who_c)), (ld_forgets, .inl (cI, 10, .inl ld_forgets_c))]) t) (va_A [(dr, .inr (5, [.int dr_sent, .int dr_forgot, .ref dr_lastSent, .long dr_x, .ref dr_states, .ref dr_may, .ref dr_reach])), (ld, .inr (4, [.int ld_lines, .int ld_years, .int ld_card, .int ld_hurt, .int ld_people, .int ld_pairs, .long ld_strikes, .ref ld_rule, .ref ld_returns, .ref ld_forgets, .ref ld_death, .ref ld_move, .ref ld_begun, .ref ld_who, .ref ld_lost])), (ld_who, .inl (cI, 32, .inl ld_who_c)), (ld_forgets, .inl (cI, 10, .inl ld_forgets_c))] sz)) 0 0 (va_A [(dr, .inr (5, [.int dr_sent, .int dr_forgot, .ref dr_lastSent, .long dr_x, .ref dr_states, .ref dr_may, .ref dr_reach])), (ld, .inr (4, [.int ld_lines, .int ld_years, .int ld_card, .int ld_hurt, .int ld_people, .int ld_pairs, .long ld_strikes, .ref ld_rule, .ref ld_returns, .ref ld_forgets, .ref ld_death, .ref ld_move, .ref ld_begun, .ref ld_who, .ref ld_lost])), (ld_who, .inl (cI, 32, .inl ld_who_c)), (ld_forgets, .inl (cI, 10, .inl ld_forgets_c))] sz) := by
  refine Met.ofW (cc := cX5_mindful) (maxL := 6) (ret := (some .int)) (by decide) rfl ?_
  intro p e s m args below meth c s₁ B hml hv
  obtain ⟨rfl, hsz, hP, hK, hD0⟩ := hv
  have hx := B.exec
  have hb := B.bytes
  have hr := B.returns
  have hts := atoms_spec (ws := v_X5_mindful) B.pre
  have hown : s.vm.findClass RX5 = some m.cls := findClass_of_methodNamed B.named
  have hlocks := B.notSynchronized
  clear B
  subst hsz
  have iX4 : ∀ w ∈ wsX40, w ∈ v_X5_mindful := (fun _ h => List.mem_cons_of_mem _ (List.mem_append_right _ (List.mem_append_right _ (List.mem_append_left _ h))))
  have iX5 : ∀ w ∈ wsX50, w ∈ v_X5_mindful := (fun _ h => List.mem_cons_of_mem _ (List.mem_append_right _ (List.mem_append_right _ (List.mem_append_right _ (List.mem_append_left _ h)))))
  have hD := hD0.self (sz := s.heap.size)
  generalize hAe : (va_A [(dr, .inr (5, [.int dr_sent, .int dr_forgot, .ref dr_lastSent, .long dr_x, .ref dr_states, .ref dr_may, .ref dr_reach])), (ld, .inr (4, [.int ld_lines, .int ld_years, .int ld_card, .int ld_hurt, .int ld_people, .int ld_pairs, .long ld_strikes, .ref ld_rule, .ref ld_returns, .ref ld_forgets, .ref ld_death, .ref ld_move, .ref ld_begun, .ref ld_who, .ref ld_lost])), (ld_who, .inl (cI, 32, .inl ld_who_c)), (ld_forgets, .inl (cI, 10, .inl ld_forgets_c))] s.heap.size) = A at hD ⊢
  have hA : ∀ q : Nat, s.heap.size ≤ q → A q := fun q h => by rw [← hAe]; exact Or.inr h
  have hS : va_S A s.heap s.heap [] := va_S.rf
  have hl := lv_entry ([.ref dr, .ref ld, .int p1, .int p2]) (n := 6) (Nat.le_of_ble_eq_true rfl)
  rw [lg_entry_eq]
  generalize (lg_sl ([.ref dr, .ref ld, .int p1, .int p2]) ++ List.replicate (6 - (lg_sl ([.ref dr, .ref ld, .int p1, .int p2])).length) Slot.unset).toArray = ls at hl ⊢
  generalize ([.ref dr, .ref ld, .int p1, .int p2] : List Value).toArray = av at hts ⊢
  generalize hQ : MQ below _ av s _ _ A = QQ
  have hl : lv_has ls 6 [(0, .ref dr), (1, .ref ld), (2, .int p1), (3, .int p2)] := hl
  have hP : va_P g vwCl [(dr, .inr (5, [.int dr_sent, .int dr_forgot, .ref dr_lastSent, .long dr_x, .ref dr_states, .ref dr_may, .ref dr_reach])), (ld, .inr (4, [.int ld_lines, .int ld_years, .int ld_card, .int ld_hurt, .int ld_people, .int ld_pairs, .long ld_strikes, .ref ld_rule, .ref ld_returns, .ref ld_forgets, .ref ld_death, .ref ld_move, .ref ld_begun, .ref ld_who, .ref ld_lost])), (ld_who, .inl (cI, 32, .inl ld_who_c)), (ld_forgets, .inl (cI, 10, .inl ld_forgets_c))] s.heap := hP
  refine lv_iload_n hx hb dX5_mindful_0 rfl (lv_at hl 3 rfl) ?_
  refine lv_istore (lv' := [(4, .int p2), (0, .ref dr), (1, .ref ld), (2, .int p1), (3, .int p2)]) hx hb dX5_mindful_1 hl (by decide) rfl (fun ls hl => ?_)
  refine lv_iconst (v := 0) hx hb dX5_mindful_3 (by decide) ?_
  refine lv_istore (lv' := [(5, .int 0), (4, .int p2), (0, .ref dr), (1, .ref ld), (2, .int p1), (3, .int p2)]) hx hb dX5_mindful_4 hl (by decide) rfl (fun ls hl => ?_)
  have J6 : ∀ (n6 : Nat) (j6_l4 : Int32) (j6_l5 : Int32) (j6_dr_forgot : Int32) (j6_dr_x : Int64) (H : Heap) (locs : List Loc) (ls : Array Slot), (3 - j6_l5.toInt).toNat < n6 → (ir j6_l5.toInt 0 2) → va_P g vwCl [(dr, .inr (5, [.int dr_sent, .int j6_dr_forgot, .ref dr_lastSent, .long j6_dr_x, .ref dr_states, .ref dr_may, .ref dr_reach])), (ld, .inr (4, [.int ld_lines, .int ld_years, .int ld_card, .int ld_hurt, .int ld_people, .int ld_pairs, .long ld_strikes, .ref ld_rule, .ref ld_returns, .ref ld_forgets, .ref ld_death, .ref ld_move, .ref ld_begun, .ref ld_who, .ref ld_lost])), (ld_who, .inl (cI, 32, .inl ld_who_c)), (ld_forgets, .inl (cI, 10, .inl ld_forgets_c))] H → va_D A [(dr, .inr (5, [.int dr_sent, .int j6_dr_forgot, .ref dr_lastSent, .long j6_dr_x, .ref dr_states, .ref dr_may, .ref dr_reach])), (ld, .inr (4, [.int ld_lines, .int ld_years, .int ld_card, .int ld_hurt, .int ld_people, .int ld_pairs, .long ld_strikes, .ref ld_rule, .ref ld_returns, .ref ld_forgets, .ref ld_death, .ref ld_move, .ref ld_begun, .ref ld_who, .ref ld_lost])), (ld_who, .inl (cI, 32, .inl ld_who_c)), (ld_forgets, .inl (cI, 10, .inl ld_forgets_c))] → va_S A s.heap H locs → lv_has ls 6 [(0, .ref dr), (1, .ref ld), (2, .int p1), (3, .int p2), (4, .int j6_l4), (5, .int j6_l5)] → W p l e (headSpec v_X5_mindful ({ frames := 1, cells := 0, slots := 0, locals := 20 })).room s m av below meth c H locs 0 0 QQ (F0 m 6 ls []) := by
    intro n6
    induction n6 with
    | zero => exact fun j6_l4 j6_l5 j6_dr_forgot j6_dr_x H locs ls hn => absurd hn (Nat.not_lt_zero _)
    | succ n6 ih6 =>
      intro j6_l4 j6_l5 j6_dr_forgot j6_dr_x H locs ls hn6 hj6_l5 hP hD hS hl
      refine lv_iload hx hb dX5_mindful_6 (lv_at hl 5 rfl) ?_
      refine lv_iconst (v := 2) hx hb dX5_mindful_8 (by decide) ?_
      refine lv_icmp_ge (tgt := 72) hx hb dX5_mindful_9 (by decide) (fun c9 => ?_) (fun c9 => ?_)
      · have f9 := (show 2 ≤ j6_l5.toInt from z_le rfl rfl c9)
        have r9a : ir j6_l5.toInt 2 2 := ir_leb f9 (ir_c 2) hj6_l5 (by decide)
        refine lv_iload hx hb dX5_mindful_72 (lv_at hl 4 rfl) ?_
        subst hQ
        have hP9 := hP.sub (ws' := [(dr, .inr (5, [.int dr_sent, .int j6_dr_forgot, .ref dr_lastSent, .long j6_dr_x, .ref dr_states, .ref dr_may, .ref dr_reach])), (ld, .inr (4, [.int ld_lines, .int ld_years, .int ld_card, .int ld_hurt, .int ld_people, .int ld_pairs, .long ld_strikes, .ref ld_rule, .ref ld_returns, .ref ld_forgets, .ref ld_death, .ref ld_move, .ref ld_begun, .ref ld_who, .ref ld_lost])), (ld_who, .inl (cI, 32, .inl ld_who_c)), (ld_forgets, .inl (cI, 10, .inl ld_forgets_c))]) [0, 1, 2, 3] rfl
        have hD9 := hD.sub (ws' := [(dr, .inr (5, [.int dr_sent, .int j6_dr_forgot, .ref dr_lastSent, .long j6_dr_x, .ref dr_states, .ref dr_may, .ref dr_reach])), (ld, .inr (4, [.int ld_lines, .int ld_years, .int ld_card, .int ld_hurt, .int ld_people, .int ld_pairs, .long ld_strikes, .ref ld_rule, .ref ld_returns, .ref ld_forgets, .ref ld_death, .ref ld_move, .ref ld_begun, .ref ld_who, .ref ld_lost])), (ld_who, .inl (cI, 32, .inl ld_who_c)), (ld_forgets, .inl (cI, 10, .inl ld_forgets_c))]) [0, 1, 2, 3] (by decide) rfl
        exact W.iret (v := j6_l4) hx hb hr (fun t ht hW => ⟨⟨j6_l4, (j6_dr_forgot, j6_dr_x), rfl, trivial, ⟨by rw [ht]; exact hP9, va_K.moved hW.alike hK, hD9⟩⟩, hS.F ht⟩) hS.2.2 dX5_mindful_74
      have f9 := (show j6_l5.toInt < 2 from z_nle rfl rfl c9)
      have r9a : ir j6_l5.toInt 0 1 := ir_lta f9 hj6_l5 (ir_c 2) (by decide)
      refine lv_iload_n hx hb dX5_mindful_12 rfl (lv_at hl 3 rfl) ?_
      refine lv_iload hx hb dX5_mindful_13 (lv_at hl 5 rfl) ?_
      refine lv_ishr hx hb dX5_mindful_15 ?_
      refine lv_topi (fun y15 e15 => ?_)
      refine lv_iconst (v := 1) hx hb dX5_mindful_16 (by decide) ?_
      refine lv_iand hx hb dX5_mindful_17 ?_
      refine lv_topi (fun y17 e17 => ?_)
      have r17 : ir y17.toInt 0 1 := by rw [e17]; exact an_y rfl (ir_c 1) (by decide)
      refine lv_iconst (v := 1) hx hb dX5_mindful_18 (by decide) ?_
      have J66 : ∀ (j66_dr_x : Int64) (j66_l4 : Int32) (j66_dr_forgot : Int32) (H : Heap) (locs : List Loc) (ls : Array Slot), va_P g vwCl [(dr, .inr (5, [.int dr_sent, .int j66_dr_forgot, .ref dr_lastSent, .long j66_dr_x, .ref dr_states, .ref dr_may, .ref dr_reach])), (ld, .inr (4, [.int ld_lines, .int ld_years, .int ld_card, .int ld_hurt, .int ld_people, .int ld_pairs, .long ld_strikes, .ref ld_rule, .ref ld_returns, .ref ld_forgets, .ref ld_death, .ref ld_move, .ref ld_begun, .ref ld_who, .ref ld_lost])), (ld_who, .inl (cI, 32, .inl ld_who_c)), (ld_forgets, .inl (cI, 10, .inl ld_forgets_c))] H → va_D A [(dr, .inr (5, [.int dr_sent, .int j66_dr_forgot, .ref dr_lastSent, .long j66_dr_x, .ref dr_states, .ref dr_may, .ref dr_reach])), (ld, .inr (4, [.int ld_lines, .int ld_years, .int ld_card, .int ld_hurt, .int ld_people, .int ld_pairs, .long ld_strikes, .ref ld_rule, .ref ld_returns, .ref ld_forgets, .ref ld_death, .ref ld_move, .ref ld_begun, .ref ld_who, .ref ld_lost])), (ld_who, .inl (cI, 32, .inl ld_who_c)), (ld_forgets, .inl (cI, 10, .inl ld_forgets_c))] → va_S A s.heap H locs → lv_has ls 6 [(0, .ref dr), (1, .ref ld), (2, .int p1), (3, .int p2), (4, .int j66_l4), (5, .int j6_l5)] → W p l e (headSpec v_X5_mindful ({ frames := 1, cells := 0, slots := 0, locals := 20 })).room s m av below meth c H locs 0 0 QQ (F0 m 66 ls []) := by
        intro j66_dr_x j66_l4 j66_dr_forgot H locs ls  hP hD hS hl
        obtain ⟨y66, e66⟩ : ∃ y : Int32, y = j6_l5 + 1 := ⟨_, rfl⟩
        have q66 : y66.toInt = j6_l5.toInt + 1 := by rw [e66]; exact ad_z rfl rfl r9a (ir_c 1) (by decide) (by decide)
        have r66 : ir y66.toInt 1 2 := ad_r q66 r9a (ir_c 1) (by decide) (by decide)
        refine lv_iinc (v := y66) (lv' := [(5, .int y66), (0, .ref dr), (1, .ref ld), (2, .int p1), (3, .int p2), (4, .int j66_l4)]) hx hb dX5_mindful_66 hl (k := 5) rfl e66.symm (by decide) rfl (fun ls hl => ?_)
        refine lv_goto (tgt := 6) hx hb dX5_mindful_69 (by decide) ?_
        exact ih6 j66_l4 y66 j66_dr_forgot j66_dr_x _ _ _ (by omega) (ir_w r66 (by decide) (by decide)) (hP.sub [0, 1, 2, 3] rfl) (hD.sub [0, 1, 2, 3] (by decide) rfl) hS (lv_sub hl [1, 2, 3, 4, 5, 0] rfl)
      refine lv_icmp_ne (tgt := 66) hx hb dX5_mindful_19 (by decide) (fun c19 => ?_) (fun c19 => ?_)
      · have f19 := (show y17.toInt ≠ 1 from z_ne rfl rfl c19)
        have r19a : ir y17.toInt 0 0 := ir_neh f19 r17 (by decide) (by decide)
        exact J66 j6_dr_x j6_l4 j6_dr_forgot _ _ _  (hP.sub [0, 1, 2, 3] rfl) (hD.sub [0, 1, 2, 3] (by decide) rfl) hS (lv_sub hl [0, 1, 2, 3, 4, 5] rfl)
      have f19 := (show y17.toInt = 1 from z_eq rfl rfl c19)
      have r19a : ir y17.toInt 1 1 := ir_eqa f19 r17 (ir_c 1) (by decide) (by decide)
      refine lv_aload_n hx hb dX5_mindful_22 rfl (lv_at hl 0 rfl) ?_
      refine rw_i (wr := [(ld, .inr (4, [.int ld_lines, .int ld_years, .int ld_card, .int ld_hurt, .int ld_people, .int ld_pairs, .long ld_strikes, .ref ld_rule, .ref ld_returns, .ref ld_forgets, .ref ld_death, .ref ld_move, .ref ld_begun, .ref ld_who, .ref ld_lost])), (ld_who, .inl (cI, 32, .inl ld_who_c)), (ld_forgets, .inl (cI, 10, .inl ld_forgets_c))]) (va_runV (As := []) (rest := []) ⟨hx, hb, hml, hown, hts⟩ (q_X5_nextDraw l g cI cJ cB cZ cL dr dr_sent j6_dr_forgot dr_lastSent j6_dr_x dr_states dr_may dr_reach H.size ) (cwV 0 hts (goodIn_app (g_4 (List.mem_cons_of_mem _ (List.mem_append_left _ (List.mem_of_getElem? (i := 0) rfl))) (List.mem_cons_of_mem _ (List.mem_append_left _ (List.mem_of_getElem? (i := 1) rfl))) (List.mem_cons_of_mem _ (List.mem_append_left _ (List.mem_of_getElem? (i := 2) rfl))) (List.mem_cons_of_mem _ (List.mem_append_left _ (List.mem_of_getElem? (i := 3) rfl))) (by decide +kernel)) (goodIn_sub (fun _ h => List.mem_cons_of_mem _ (List.mem_append_right _ (List.mem_append_left _ h))) good_v_X5_nextDraw)) rfl rfl rfl (by decide +kernel) ⟨Nat.le_of_ble_eq_true rfl, Nat.le_of_ble_eq_true rfl⟩) (pv_RW (q := (RX5, TX5, 7)) (ci := 5) (q0 := 0) (wc := [(dr, .inr (5, [.int dr_sent, .int j6_dr_forgot, .ref dr_lastSent, .long j6_dr_x, .ref dr_states, .ref dr_may, .ref dr_reach]))]) hK hP hD [0] (by decide) rfl rfl rfl) rfl rfl hl.1 rfl (lv_room (Nat.le_of_ble_eq_true rfl)) dX5_mindful_23 ⟨Nat.le_of_ble_eq_true rfl, Nat.le_of_ble_eq_true rfl⟩) hS hA hP hD [0] [1, 2, 3] rfl rfl (by decide) (by decide) (fun r23 u23 H locs hw23 hP hD hS => ?_)
      generalize u23 = n_dr_x_23 at hw23 hP hD
      have hP : va_P g vwCl [(ld, .inr (4, [.int ld_lines, .int ld_years, .int ld_card, .int ld_hurt, .int ld_people, .int ld_pairs, .long ld_strikes, .ref ld_rule, .ref ld_returns, .ref ld_forgets, .ref ld_death, .ref ld_move, .ref ld_begun, .ref ld_who, .ref ld_lost])), (ld_who, .inl (cI, 32, .inl ld_who_c)), (ld_forgets, .inl (cI, 10, .inl ld_forgets_c)), (dr, .inr (5, [.int dr_sent, .int j6_dr_forgot, .ref dr_lastSent, .long n_dr_x_23, .ref dr_states, .ref dr_may, .ref dr_reach]))] H := hP
      have hD : va_D A [(ld, .inr (4, [.int ld_lines, .int ld_years, .int ld_card, .int ld_hurt, .int ld_people, .int ld_pairs, .long ld_strikes, .ref ld_rule, .ref ld_returns, .ref ld_forgets, .ref ld_death, .ref ld_move, .ref ld_begun, .ref ld_who, .ref ld_lost])), (ld_who, .inl (cI, 32, .inl ld_who_c)), (ld_forgets, .inl (cI, 10, .inl ld_forgets_c)), (dr, .inr (5, [.int dr_sent, .int j6_dr_forgot, .ref dr_lastSent, .long n_dr_x_23, .ref dr_states, .ref dr_may, .ref dr_reach]))] := hD
      refine lv_aload_n hx hb dX5_mindful_26 rfl (lv_at hl 1 rfl) ?_
      refine va_get (D := g) (ci := 4) (v := .ref ld_forgets) (C := RX4) (T := TX4) (N := 15) hx hb hts iX4 hown hK hP 0 rfl rfl 9 (by decide) (hts (.fieldLink RX5 104 "CardsAtYule$Land" "forgets" "[I") (List.mem_cons_of_mem _ (List.mem_append_left _ (List.mem_of_getElem? (i := 4) rfl)))) (fun _ h9 => h9) rfl dX5_mindful_27 ?_
      refine lv_aload_n hx hb dX5_mindful_30 rfl (lv_at hl 1 rfl) ?_
      refine va_get (D := g) (ci := 4) (v := .ref ld_who) (C := RX4) (T := TX4) (N := 15) hx hb hts iX4 hown hK hP 0 rfl rfl 13 (by decide) (hts (.fieldLink RX5 44 "CardsAtYule$Land" "who" "[I") (List.mem_cons_of_mem _ (List.mem_append_left _ (List.mem_of_getElem? (i := 5) rfl)))) (fun _ h9 => h9) rfl dX5_mindful_31 ?_
      refine lv_iconst (v := 2) hx hb dX5_mindful_34 (by decide) ?_
      refine lv_iload_n hx hb dX5_mindful_35 rfl (lv_at hl 2 rfl) ?_
      refine lv_imul hx hb dX5_mindful_36 ?_
      refine lv_topi (fun y36 e36 => ?_)
      have q36 : y36.toInt = 2 * p1.toInt := by rw [e36]; exact mu_z rfl rfl (ir_c 2) hv_p1 (by decide) (by decide) (by decide)
      have r36 : ir y36.toInt 0 30 := mu_r q36 (ir_c 2) hv_p1 (by decide) (by decide) (by decide) (by decide)
      refine lv_iload hx hb dX5_mindful_37 (lv_at hl 5 rfl) ?_
      refine lv_iadd hx hb dX5_mindful_39 ?_
      refine lv_topi (fun y39 e39 => ?_)
      have q39 : y39.toInt = y36.toInt + j6_l5.toInt := by rw [e39]; exact ad_z rfl rfl r36 r9a (by decide) (by decide)
      have r39 : ir y39.toInt 0 31 := ad_r q39 r36 r9a (by decide) (by decide)
      refine va_iald (D := g) hx hb hK hP 1 0 rfl rfl (vi_rg rfl r39 (by decide) (by decide)) dX5_mindful_40 ?_
      refine lv_topi (fun y40 e40 => ?_)
      have r40 : ir y40.toInt 0 9 := by rw [e40]; exact ha_ld_who_c _ (vi_cl (vi_rg rfl r39 (by decide) (by decide)))
      refine va_iald (D := g) hx hb hK hP 2 0 rfl rfl (vi_rg rfl r40 (by decide) (by decide)) dX5_mindful_41 ?_
      refine lv_topi (fun y41 e41 => ?_)
      refine lv_icmp_ge (tgt := 66) hx hb dX5_mindful_42 (by decide) (fun c42 => ?_) (fun c42 => ?_)
      · have f42 := (show y41.toInt ≤ r23.toInt from z_le rfl rfl c42)
        exact J66 n_dr_x_23 j6_l4 j6_dr_forgot _ _ _  (hP.sub [3, 0, 1, 2] rfl) (hD.sub [3, 0, 1, 2] (by decide) rfl) hS (lv_sub hl [0, 1, 2, 3, 4, 5] rfl)
      have f42 := (show r23.toInt < y41.toInt from z_nle rfl rfl c42)
      have r42a : ir r23.toInt (-2147483648) 2147483646 := ir_lta f42 (rg_all r23) (rg_all y41) (by decide)
      have r42b : ir y41.toInt (-2147483647) 2147483647 := ir_ltb f42 (rg_all r23) (rg_all y41) (by decide)
      refine lv_iload hx hb dX5_mindful_45 (lv_at hl 4 rfl) ?_
      refine lv_iconst (v := 1) hx hb dX5_mindful_47 (by decide) ?_
      refine lv_iload hx hb dX5_mindful_48 (lv_at hl 5 rfl) ?_
      refine lv_ishl hx hb dX5_mindful_50 ?_
      refine lv_topi (fun y50 e50 => ?_)
      have r50 : ir y50.toInt 1 2 := by rw [e50]; exact s1_r 1 rfl r9a (by decide) (by decide)
      refine lv_iconst (v := (-1)) hx hb dX5_mindful_51 (by decide) ?_
      refine lv_ixor hx hb dX5_mindful_52 ?_
      refine lv_topi (fun y52 e52 => ?_)
      refine lv_iand hx hb dX5_mindful_53 ?_
      refine lv_topi (fun y53 e53 => ?_)
      refine lv_istore (lv' := [(4, .int y53), (0, .ref dr), (1, .ref ld), (2, .int p1), (3, .int p2), (5, .int j6_l5)]) hx hb dX5_mindful_54 hl (by decide) rfl (fun ls hl => ?_)
      refine lv_aload_n hx hb dX5_mindful_56 rfl (lv_at hl 1 rfl) ?_
      refine lv_dup hx hb dX5_mindful_57 rfl ?_
      refine va_get (D := g) (ci := 5) (v := .int j6_dr_forgot) (C := RX5) (T := TX5) (N := 7) hx hb hts iX5 hown hK hP 3 rfl rfl 1 (by decide) (hts (.fieldLink RX5 33 "CardsAtYule$Lives" "forgot" "I") (List.mem_cons_of_mem _ (List.mem_append_left _ (List.mem_of_getElem? (i := 6) rfl)))) (fun _ h9 => h9) rfl dX5_mindful_58 ?_
      refine lv_iconst (v := 1) hx hb dX5_mindful_61 (by decide) ?_
      refine lv_iadd hx hb dX5_mindful_62 ?_
      refine lv_topi (fun y62 e62 => ?_)
      refine va_put (D := g) (ci := 5) (v := .int y62) (ty := .int) (C := RX5) (T := TX5) (N := 7) hx hb hts iX5 tyX5 tyX5_ok nmX5 hown hK hP hD hS 3 rfl rfl 1 (by decide) (hts (.fieldLink RX5 33 "CardsAtYule$Lives" "forgot" "I") (List.mem_cons_of_mem _ (List.mem_append_left _ (List.mem_of_getElem? (i := 6) rfl)))) (fun _ h9 => h9) rfl (by decide +kernel) rfl rfl (Nat.le_of_ble_eq_true rfl) dX5_mindful_63 (fun H locs hP hD hS => ?_)
      have hP : va_P g vwCl [(ld, .inr (4, [.int ld_lines, .int ld_years, .int ld_card, .int ld_hurt, .int ld_people, .int ld_pairs, .long ld_strikes, .ref ld_rule, .ref ld_returns, .ref ld_forgets, .ref ld_death, .ref ld_move, .ref ld_begun, .ref ld_who, .ref ld_lost])), (ld_who, .inl (cI, 32, .inl ld_who_c)), (ld_forgets, .inl (cI, 10, .inl ld_forgets_c)), (dr, .inr (5, [.int dr_sent, .int y62, .ref dr_lastSent, .long n_dr_x_23, .ref dr_states, .ref dr_may, .ref dr_reach]))] H := hP
      have hD : va_D A [(ld, .inr (4, [.int ld_lines, .int ld_years, .int ld_card, .int ld_hurt, .int ld_people, .int ld_pairs, .long ld_strikes, .ref ld_rule, .ref ld_returns, .ref ld_forgets, .ref ld_death, .ref ld_move, .ref ld_begun, .ref ld_who, .ref ld_lost])), (ld_who, .inl (cI, 32, .inl ld_who_c)), (ld_forgets, .inl (cI, 10, .inl ld_forgets_c)), (dr, .inr (5, [.int dr_sent, .int y62, .ref dr_lastSent, .long n_dr_x_23, .ref dr_states, .ref dr_may, .ref dr_reach]))] := hD
      exact J66 n_dr_x_23 y53 y62 _ _ _  (hP.sub [3, 0, 1, 2] rfl) (hD.sub [3, 0, 1, 2] (by decide) rfl) hS (lv_sub hl [1, 2, 3, 4, 0, 5] rfl)
  exact J6 _ p2 0 dr_forgot dr_x _ _ _ (Nat.lt_succ_self _) (by decide) (hP.sub [0, 1, 2, 3] rfl) (hD.sub [0, 1, 2, 3] (by decide) rfl) hS (lv_sub hl [2, 3, 4, 5, 1, 0] rfl)
def v_X5_goThrough : List Cond := .code yX5_goThrough cX5_goThrough 11 none :: (([.methodLink RX5 62 yX4_ruleOfSide, .instanceMethod yX4_ruleOfSide, .selects RX4 yX4_ruleOfSide yX4_ruleOfSide, .initialized RX4, .fieldLink RX5 18 "CardsAtYule$Lives" "may" "[J", .methodLink RX5 66 yX2_sidesOf, .static yX2_sidesOf, .initialized RX2, .fieldLink RX5 22 "CardsAtYule$Lives" "reach" "[J", .fieldLink RX5 15 "CardsAtYule$Lives" "states" "[I", .methodLink RX5 72 yX10_firsts, .static yX10_firsts, .initialized RX10, .methodLink RX5 78 yX5_mindful, .instanceMethod yX5_mindful, .selects RX5 yX5_mindful yX5_mindful, .initialized RX5, .methodLink RX5 82 yX10_returning, .static yX10_returning, .methodLink RX5 85 yX10_backs, .static yX10_backs, .fieldLink RX5 29 "CardsAtYule$Lives" "sent" "I", .methodLink RX5 88 yJ6_bitCount_0f7a4, .static yJ6_bitCount_0f7a4, .initialized RJ6, .methodLink RX5 94 yX10_swapped, .static yX10_swapped, .methodLink RX5 97 yX10_after, .static yX10_after, .fieldLink RX5 9 "CardsAtYule$Lives" "lastSent" "[I"] : List Cond) ++ (v_X4_ruleOfSide ++ (v_X2_sidesOf ++ (v_X10_firsts ++ (v_X5_mindful ++ (v_X10_returning ++ (v_X10_backs ++ (v_J6_bitCount_0f7a4 ++ (v_X10_swapped ++ (v_X10_after ++ (wsX50 ++ ([] : List Cond))))))))))))
theorem good_v_X5_goThrough : v_X5_goThrough.all goodWord = true := ga_c (by decide +kernel) (ga_a (by decide +kernel) (ga_a good_v_X4_ruleOfSide (ga_a good_v_X2_sidesOf (ga_a good_v_X10_firsts (ga_a good_v_X5_mindful (ga_a good_v_X10_returning (ga_a good_v_X10_backs (ga_a good_v_J6_bitCount_0f7a4 (ga_a good_v_X10_swapped (ga_a good_v_X10_after (ga_a good_wsX50 rfl)))))))))))
set_option maxHeartbeats 4000000 in
set_option maxRecDepth 100000 in
theorem q_X5_goThrough (l : Launch) (g : va_G) (cI cJ cB cZ cL : ClassId) (p1 : Int32) (p2 : Int32) (dr : Nat) (ld : Nat) (ld_lines : Int32) (ld_years : Int32) (ld_card : Int32) (ld_hurt : Int32) (ld_people : Int32) (ld_pairs : Int32) (ld_strikes : Int64) (ld_rule : Nat) (ld_returns : Nat) (ld_forgets : Nat) (ld_death : Nat) (ld_move : Nat) (ld_begun : Nat) (ld_who : Nat) (ld_lost : Nat) (ld_who_c : Nat → Int32) (ld_rule_c : Nat → Int32) (ld_returns_c : Nat → Int32) (dr_sent : Int32) (dr_forgot : Int32) (dr_lastSent : Nat) (dr_x : Int64) (dr_states : Nat) (dr_may : Nat) (dr_reach : Nat) (dr_may_c : Nat → Int64) (dr_reach_c : Nat → Int64) (dr_states_c : Nat → Int32) (ld_forgets_c : Nat → Int32) (dr_lastSent_c : Nat → Int32) (sz : Nat) (hv_p1 : ir p1.toInt 0 15) (hv_ld_years : ir ld_years.toInt 0 40) (hv_ld_people : ir ld_people.toInt 0 10) (hv_ld_pairs : ir ld_pairs.toInt 0 16) (ha_ld_who_c : ar ld_who_c 32 0 9) : Met l yX5_goThrough v_X5_goThrough ({ frames := 2, cells := 0, slots := 0, locals := 45 }) (va_Pc [.ref dr, .ref ld, .int p1, .int p2] (pRW g (tyT cI cJ cB cZ cL) [(ld, .inr (4, [.int ld_lines, .int ld_years, .int ld_card, .int ld_hurt, .int ld_people, .int ld_pairs, .long ld_strikes, .ref ld_rule, .ref ld_returns, .ref ld_forgets, .ref ld_death, .ref ld_move, .ref ld_begun, .ref ld_who, .ref ld_lost])), (ld_who, .inl (cI, 32, .inl ld_who_c)), (ld_rule, .inl (cI, 10, .inl ld_rule_c)), (ld_returns, .inl (cI, 10, .inl ld_returns_c)), (dr, .inr (5, [.int dr_sent, .int dr_forgot, .ref dr_lastSent, .long dr_x, .ref dr_states, .ref dr_may, .ref dr_reach])), (dr_may, .inl (cJ, 32, .inr (.inl dr_may_c))), (dr_reach, .inl (cJ, 32, .inr (.inl dr_reach_c))), (dr_states, .inl (cI, 16, .inl dr_states_c)), (ld_forgets, .inl (cI, 10, .inl ld_forgets_c)), (dr_lastSent, .inl (cI, 16, .inl dr_lastSent_c))] sz)) (va_Qv (fun (u : Int32 × Int32 × Int64 × (Nat → Int32) × (Nat → Int32)) => match u with | (n_dr_sent, n_dr_forgot, n_dr_x, n_dr_states_c, n_dr_lastSent_c) => True) (fun (u : Int32 × Int32 × Int64 × (Nat → Int32) × (Nat → Int32)) (t : State) => bRW g (tyT cI cJ cB cZ cL) (va_A [(ld, .inr (4, [.int ld_lines, .int ld_years, .int ld_card, .int ld_hurt, .int ld_people, .int ld_pairs, .long ld_strikes, .ref ld_rule, .ref ld_returns, .ref ld_forgets, .ref ld_death, .ref ld_move, .ref ld_begun, .ref ld_who, .ref ld_lost])), (ld_who, .inl (cI, 32, .inl ld_who_c)), (ld_rule, .inl (cI, 10, .inl ld_rule_c)), (ld_returns, .inl (cI, 10, .inl ld_returns_c)), (dr, .inr (5, [.int dr_sent, .int dr_forgot, .ref dr_lastSent, .long dr_x, .ref dr_states, .ref dr_may, .ref dr_reach])), (dr_may, .inl (cJ, 32, .inr (.inl dr_may_c))), (dr_reach, .inl (cJ, 32, .inr (.inl dr_reach_c))), (dr_states, .inl (cI, 16, .inl dr_states_c)), (ld_forgets, .inl (cI, 10, .inl ld_forgets_c)), (dr_lastSent, .inl (cI, 16, .inl dr_lastSent_c))] sz) (match u with | (n_dr_sent, n_dr_forgot, n_dr_x, n_dr_states_c, n_dr_lastSent_c) => [(ld, .inr (4, [.int ld_lines, .int ld_years, .int ld_card, .int ld_hurt, .int ld_people, .int ld_pairs, .long ld_strikes, .ref ld_rule, .ref ld_returns, .ref ld_forgets, .ref ld_death, .ref ld_move, .ref ld_begun, .ref ld_who, .ref ld_lost])), (ld_who, .inl (cI, 32, .inl ld_who_c)), (ld_rule, .inl (cI, 10, .inl ld_rule_c)), (ld_returns, .inl (cI, 10, .inl ld_returns_c)), (dr, .inr (5, [.int n_dr_sent, .int n_dr_forgot, .ref dr_lastSent, .long n_dr_x, .ref dr_states, .ref dr_may, .ref dr_reach])), (dr_may, .inl (cJ, 32, .inr (.inl dr_may_c))), (dr_reach, .inl (cJ, 32, .inr (.inl dr_reach_c))), (dr_states, .inl (cI, 16, .inl n_dr_states_c)), (ld_forgets, .inl (cI, 10, .inl ld_forgets_c)), (dr_lastSent, .inl (cI, 16, .inl n_dr_lastSent_c))]) t) (va_A [(ld, .inr (4, [.int ld_lines, .int ld_years, .int ld_card, .int ld_hurt, .int ld_people, .int ld_pairs, .long ld_strikes, .ref ld_rule, .ref ld_returns, .ref ld_forgets, .ref ld_death, .ref ld_move, .ref ld_begun, .ref ld_who, .ref ld_lost])), (ld_who, .inl (cI, 32, .inl ld_who_c)), (ld_rule, .inl (cI, 10, .inl ld_rule_c)), (ld_returns, .inl (cI, 10, .inl ld_returns_c)), (dr, .inr (5, [.int dr_sent, .int dr_forgot, .ref dr_lastSent, .long dr_x, .ref dr_states, .ref dr_may, .ref dr_reach])), (dr_may, .inl (cJ, 32, .inr (.inl dr_may_c))), (dr_reach, .inl (cJ, 32, .inr (.inl dr_reach_c))), (dr_states, .inl (cI, 16, .inl dr_states_c)), (ld_forgets, .inl (cI, 10, .inl ld_forgets_c)), (dr_lastSent, .inl (cI, 16, .inl dr_lastSent_c))] sz)) 0 0 (va_A [(ld, .inr (4, [.int ld_lines, .int ld_years, .int ld_card, .int ld_hurt, .int ld_people, .int ld_pairs, .long ld_strikes, .ref ld_rule, .ref ld_returns, .ref ld_forgets, .ref ld_death, .ref ld_move, .ref ld_begun, .ref ld_who, .ref ld_lost])), (ld_who, .inl (cI, 32, .inl ld_who_c)), (ld_rule, .inl (cI, 10, .inl ld_rule_c)), (ld_returns, .inl (cI, 10, .inl ld_returns_c)), (dr, .inr (5, [.int dr_sent, .int dr_forgot, .ref dr_lastSent, .long dr_x, .ref dr_states, .ref dr_may, .ref dr_reach])), (dr_may, .inl (cJ, 32, .inr (.inl dr_may_c))), (dr_reach, .inl (cJ, 32, .inr (.inl dr_reach_c))), (dr_states, .inl (cI, 16, .inl dr_states_c)), (ld_forgets, .inl (cI, 10, .inl ld_forgets_c)), (dr_lastSent, .inl (cI, 16, .inl dr_lastSent_c))] sz) := by
  refine Met.ofW (cc := cX5_goThrough) (maxL := 11) (ret := none) (by decide) rfl ?_
  intro p e s m args below meth c s₁ B hml hv
  obtain ⟨rfl, hsz, hP, hK, hD0⟩ := hv
  have hx := B.exec
  have hb := B.bytes
  have hr := B.returns
  have hts := atoms_spec (ws := v_X5_goThrough) B.pre
  have hown : s.vm.findClass RX5 = some m.cls := findClass_of_methodNamed B.named
  have hlocks := B.notSynchronized
  clear B
  subst hsz
  have iX5 : ∀ w ∈ wsX50, w ∈ v_X5_goThrough := (fun _ h => List.mem_cons_of_mem _ (List.mem_append_right _ (List.mem_append_right _ (List.mem_append_right _ (List.mem_append_right _ (List.mem_append_right _ (List.mem_append_right _ (List.mem_append_right _ (List.mem_append_right _ (List.mem_append_right _ (List.mem_append_right _ (List.mem_append_left _ h))))))))))))
  have hD := hD0.self (sz := s.heap.size)
  generalize hAe : (va_A [(ld, .inr (4, [.int ld_lines, .int ld_years, .int ld_card, .int ld_hurt, .int ld_people, .int ld_pairs, .long ld_strikes, .ref ld_rule, .ref ld_returns, .ref ld_forgets, .ref ld_death, .ref ld_move, .ref ld_begun, .ref ld_who, .ref ld_lost])), (ld_who, .inl (cI, 32, .inl ld_who_c)), (ld_rule, .inl (cI, 10, .inl ld_rule_c)), (ld_returns, .inl (cI, 10, .inl ld_returns_c)), (dr, .inr (5, [.int dr_sent, .int dr_forgot, .ref dr_lastSent, .long dr_x, .ref dr_states, .ref dr_may, .ref dr_reach])), (dr_may, .inl (cJ, 32, .inr (.inl dr_may_c))), (dr_reach, .inl (cJ, 32, .inr (.inl dr_reach_c))), (dr_states, .inl (cI, 16, .inl dr_states_c)), (ld_forgets, .inl (cI, 10, .inl ld_forgets_c)), (dr_lastSent, .inl (cI, 16, .inl dr_lastSent_c))] s.heap.size) = A at hD ⊢
  have hA : ∀ q : Nat, s.heap.size ≤ q → A q := fun q h => by rw [← hAe]; exact Or.inr h
  have hS : va_S A s.heap s.heap [] := va_S.rf
  have hl := lv_entry ([.ref dr, .ref ld, .int p1, .int p2]) (n := 11) (Nat.le_of_ble_eq_true rfl)
  rw [lg_entry_eq]
  generalize (lg_sl ([.ref dr, .ref ld, .int p1, .int p2]) ++ List.replicate (11 - (lg_sl ([.ref dr, .ref ld, .int p1, .int p2])).length) Slot.unset).toArray = ls at hl ⊢
  generalize ([.ref dr, .ref ld, .int p1, .int p2] : List Value).toArray = av at hts ⊢
  generalize hQ : MQ below _ av s _ _ A = QQ
  have hl : lv_has ls 11 [(0, .ref dr), (1, .ref ld), (2, .int p1), (3, .int p2)] := hl
  have hP : va_P g vwCl [(ld, .inr (4, [.int ld_lines, .int ld_years, .int ld_card, .int ld_hurt, .int ld_people, .int ld_pairs, .long ld_strikes, .ref ld_rule, .ref ld_returns, .ref ld_forgets, .ref ld_death, .ref ld_move, .ref ld_begun, .ref ld_who, .ref ld_lost])), (ld_who, .inl (cI, 32, .inl ld_who_c)), (ld_rule, .inl (cI, 10, .inl ld_rule_c)), (ld_returns, .inl (cI, 10, .inl ld_returns_c)), (dr, .inr (5, [.int dr_sent, .int dr_forgot, .ref dr_lastSent, .long dr_x, .ref dr_states, .ref dr_may, .ref dr_reach])), (dr_may, .inl (cJ, 32, .inr (.inl dr_may_c))), (dr_reach, .inl (cJ, 32, .inr (.inl dr_reach_c))), (dr_states, .inl (cI, 16, .inl dr_states_c)), (ld_forgets, .inl (cI, 10, .inl ld_forgets_c)), (dr_lastSent, .inl (cI, 16, .inl dr_lastSent_c))] s.heap := hP
  refine lv_aload_n hx hb dX5_goThrough_0 rfl (lv_at hl 1 rfl) ?_
  refine lv_iload_n hx hb dX5_goThrough_1 rfl (lv_at hl 2 rfl) ?_
  refine lv_iconst (v := 0) hx hb dX5_goThrough_2 (by decide) ?_
  refine ro_i (va_runV (As := [.int p1, .int 0]) (rest := []) ⟨hx, hb, hml, hown, hts⟩ (q_X4_ruleOfSide l g cI cJ cB cZ cL p1 0 ld ld_lines ld_years ld_card ld_hurt ld_people ld_pairs ld_strikes ld_rule ld_returns ld_forgets ld_death ld_move ld_begun ld_who ld_lost ld_who_c ld_rule_c ld_returns_c s.heap.size hv_p1 (by decide) hv_ld_years hv_ld_people hv_ld_pairs ha_ld_who_c) (cwV 2 hts (goodIn_app (g_4 (List.mem_cons_of_mem _ (List.mem_append_left _ (List.mem_of_getElem? (i := 0) rfl))) (List.mem_cons_of_mem _ (List.mem_append_left _ (List.mem_of_getElem? (i := 1) rfl))) (List.mem_cons_of_mem _ (List.mem_append_left _ (List.mem_of_getElem? (i := 2) rfl))) (List.mem_cons_of_mem _ (List.mem_append_left _ (List.mem_of_getElem? (i := 3) rfl))) (by decide +kernel)) (goodIn_sub (fun _ h => List.mem_cons_of_mem _ (List.mem_append_right _ (List.mem_append_left _ h))) good_v_X4_ruleOfSide)) rfl rfl rfl (by decide +kernel) ⟨Nat.le_of_ble_eq_true rfl, Nat.le_of_ble_eq_true rfl⟩) (pv_RO (q := (RX4, TX4, 15)) (ci := 4) (q0 := 0) (wc := [(ld, .inr (4, [.int ld_lines, .int ld_years, .int ld_card, .int ld_hurt, .int ld_people, .int ld_pairs, .long ld_strikes, .ref ld_rule, .ref ld_returns, .ref ld_forgets, .ref ld_death, .ref ld_move, .ref ld_begun, .ref ld_who, .ref ld_lost])), (ld_who, .inl (cI, 32, .inl ld_who_c)), (ld_rule, .inl (cI, 10, .inl ld_rule_c)), (ld_returns, .inl (cI, 10, .inl ld_returns_c))]) hK hP [0, 1, 2, 3] rfl rfl rfl) rfl rfl hl.1 rfl (lv_room (Nat.le_of_ble_eq_true rfl)) dX5_goThrough_3 ⟨Nat.le_of_ble_eq_true rfl, Nat.le_of_ble_eq_true rfl⟩) hS hA hP (fun r3 u3 H locs hw3 hP hS => ?_)
  refine lv_istore (lv' := [(4, .int r3), (0, .ref dr), (1, .ref ld), (2, .int p1), (3, .int p2)]) hx hb dX5_goThrough_6 hl (by decide) rfl (fun ls hl => ?_)
  refine lv_aload_n hx hb dX5_goThrough_8 rfl (lv_at hl 2 rfl) ?_
  refine lv_iload_n hx hb dX5_goThrough_9 rfl (lv_at hl 3 rfl) ?_
  refine lv_iconst (v := 1) hx hb dX5_goThrough_10 (by decide) ?_
  refine ro_i (va_runV (As := [.int p1, .int 1]) (rest := []) ⟨hx, hb, hml, hown, hts⟩ (q_X4_ruleOfSide l g cI cJ cB cZ cL p1 1 ld ld_lines ld_years ld_card ld_hurt ld_people ld_pairs ld_strikes ld_rule ld_returns ld_forgets ld_death ld_move ld_begun ld_who ld_lost ld_who_c ld_rule_c ld_returns_c H.size hv_p1 (by decide) hv_ld_years hv_ld_people hv_ld_pairs ha_ld_who_c) (cwV 2 hts (goodIn_app (g_4 (List.mem_cons_of_mem _ (List.mem_append_left _ (List.mem_of_getElem? (i := 0) rfl))) (List.mem_cons_of_mem _ (List.mem_append_left _ (List.mem_of_getElem? (i := 1) rfl))) (List.mem_cons_of_mem _ (List.mem_append_left _ (List.mem_of_getElem? (i := 2) rfl))) (List.mem_cons_of_mem _ (List.mem_append_left _ (List.mem_of_getElem? (i := 3) rfl))) (by decide +kernel)) (goodIn_sub (fun _ h => List.mem_cons_of_mem _ (List.mem_append_right _ (List.mem_append_left _ h))) good_v_X4_ruleOfSide)) rfl rfl rfl (by decide +kernel) ⟨Nat.le_of_ble_eq_true rfl, Nat.le_of_ble_eq_true rfl⟩) (pv_RO (q := (RX4, TX4, 15)) (ci := 4) (q0 := 0) (wc := [(ld, .inr (4, [.int ld_lines, .int ld_years, .int ld_card, .int ld_hurt, .int ld_people, .int ld_pairs, .long ld_strikes, .ref ld_rule, .ref ld_returns, .ref ld_forgets, .ref ld_death, .ref ld_move, .ref ld_begun, .ref ld_who, .ref ld_lost])), (ld_who, .inl (cI, 32, .inl ld_who_c)), (ld_rule, .inl (cI, 10, .inl ld_rule_c)), (ld_returns, .inl (cI, 10, .inl ld_returns_c))]) hK hP [0, 1, 2, 3] rfl rfl rfl) rfl rfl hl.1 rfl (lv_room (Nat.le_of_ble_eq_true rfl)) dX5_goThrough_11 ⟨Nat.le_of_ble_eq_true rfl, Nat.le_of_ble_eq_true rfl⟩) hS hA hP (fun r11 u11 H locs hw11 hP hS => ?_)
  refine lv_istore (lv' := [(5, .int r11), (4, .int r3), (0, .ref dr), (1, .ref ld), (2, .int p1), (3, .int p2)]) hx hb dX5_goThrough_14 hl (by decide) rfl (fun ls hl => ?_)
  refine lv_aload_n hx hb dX5_goThrough_16 rfl (lv_at hl 2 rfl) ?_
  refine va_get (D := g) (ci := 5) (v := .ref dr_may) (C := RX5) (T := TX5) (N := 7) hx hb hts iX5 hown hK hP 4 rfl rfl 5 (by decide) (hts (.fieldLink RX5 18 "CardsAtYule$Lives" "may" "[J") (List.mem_cons_of_mem _ (List.mem_append_left _ (List.mem_of_getElem? (i := 4) rfl)))) (fun _ h9 => h9) rfl dX5_goThrough_17 ?_
  refine lv_iconst (v := 2) hx hb dX5_goThrough_20 (by decide) ?_
  refine lv_iload_n hx hb dX5_goThrough_21 rfl (lv_at hl 4 rfl) ?_
  refine lv_imul hx hb dX5_goThrough_22 ?_
  refine lv_topi (fun y22 e22 => ?_)
  have q22 : y22.toInt = 2 * p1.toInt := by rw [e22]; exact mu_z rfl rfl (ir_c 2) hv_p1 (by decide) (by decide) (by decide)
  have r22 : ir y22.toInt 0 30 := mu_r q22 (ir_c 2) hv_p1 (by decide) (by decide) (by decide) (by decide)
  refine va_lald (D := g) hx hb hK hP 5 1 rfl rfl (vi_rg rfl r22 (by decide) (by decide)) dX5_goThrough_23 ?_
  refine lv_topl (fun y23 e23 => ?_)
  refine lv_aload_n hx hb dX5_goThrough_24 rfl (lv_at hl 2 rfl) ?_
  refine va_get (D := g) (ci := 5) (v := .ref dr_may) (C := RX5) (T := TX5) (N := 7) hx hb hts iX5 hown hK hP 4 rfl rfl 5 (by decide) (hts (.fieldLink RX5 18 "CardsAtYule$Lives" "may" "[J") (List.mem_cons_of_mem _ (List.mem_append_left _ (List.mem_of_getElem? (i := 4) rfl)))) (fun _ h9 => h9) rfl dX5_goThrough_25 ?_
  refine lv_iconst (v := 2) hx hb dX5_goThrough_28 (by decide) ?_
  refine lv_iload_n hx hb dX5_goThrough_29 rfl (lv_at hl 4 rfl) ?_
  refine lv_imul hx hb dX5_goThrough_30 ?_
  refine lv_topi (fun y30 e30 => ?_)
  have q30 : y30.toInt = 2 * p1.toInt := by rw [e30]; exact mu_z rfl rfl (ir_c 2) hv_p1 (by decide) (by decide) (by decide)
  have r30 : ir y30.toInt 0 30 := mu_r q30 (ir_c 2) hv_p1 (by decide) (by decide) (by decide) (by decide)
  refine lv_iconst (v := 1) hx hb dX5_goThrough_31 (by decide) ?_
  refine lv_iadd hx hb dX5_goThrough_32 ?_
  refine lv_topi (fun y32 e32 => ?_)
  have q32 : y32.toInt = y30.toInt + 1 := by rw [e32]; exact ad_z rfl rfl r30 (ir_c 1) (by decide) (by decide)
  have r32 : ir y32.toInt 1 31 := ad_r q32 r30 (ir_c 1) (by decide) (by decide)
  refine va_lald (D := g) hx hb hK hP 5 1 rfl rfl (vi_rg rfl r32 (by decide) (by decide)) dX5_goThrough_33 ?_
  refine lv_topl (fun y33 e33 => ?_)
  refine lv_iload_n hx hb dX5_goThrough_34 rfl (lv_at hl 5 rfl) ?_
  refine ro_i (va_runS (As := [.long y23, .long y33, .int p2]) (rest := []) ⟨hx, hb, hml, hown, hts⟩ (q_X2_sidesOf l g cI cJ cB cZ cL y23 y33 p2 H.size ) (va_cwS 3 hts (goodIn_app (g_3 (List.mem_cons_of_mem _ (List.mem_append_left _ (List.mem_of_getElem? (i := 5) rfl))) (List.mem_cons_of_mem _ (List.mem_append_left _ (List.mem_of_getElem? (i := 6) rfl))) (List.mem_cons_of_mem _ (List.mem_append_left _ (List.mem_of_getElem? (i := 7) rfl))) (by decide +kernel)) (goodIn_sub (fun _ h => List.mem_cons_of_mem _ (List.mem_append_right _ (List.mem_append_right _ (List.mem_append_left _ h)))) good_v_X2_sidesOf)) rfl rfl rfl (by decide +kernel) ⟨Nat.le_of_ble_eq_true rfl, Nat.le_of_ble_eq_true rfl⟩) (ps_RO (wc := []) hK hP [] rfl) rfl rfl hl.1 rfl (lv_room (Nat.le_of_ble_eq_true rfl)) dX5_goThrough_35 ⟨Nat.le_of_ble_eq_true rfl, Nat.le_of_ble_eq_true rfl⟩) hS hA hP (fun r35 u35 H locs hw35 hP hS => ?_)
  have hw35_0 := hw35
  refine lv_istore (lv' := [(6, .int r35), (5, .int r11), (4, .int r3), (0, .ref dr), (1, .ref ld), (2, .int p1), (3, .int p2)]) hx hb dX5_goThrough_38 hl (by decide) rfl (fun ls hl => ?_)
  refine lv_aload_n hx hb dX5_goThrough_40 rfl (lv_at hl 3 rfl) ?_
  refine va_get (D := g) (ci := 5) (v := .ref dr_reach) (C := RX5) (T := TX5) (N := 7) hx hb hts iX5 hown hK hP 4 rfl rfl 6 (by decide) (hts (.fieldLink RX5 22 "CardsAtYule$Lives" "reach" "[J") (List.mem_cons_of_mem _ (List.mem_append_left _ (List.mem_of_getElem? (i := 8) rfl)))) (fun _ h9 => h9) rfl dX5_goThrough_41 ?_
  refine lv_iconst (v := 2) hx hb dX5_goThrough_44 (by decide) ?_
  refine lv_iload_n hx hb dX5_goThrough_45 rfl (lv_at hl 5 rfl) ?_
  refine lv_imul hx hb dX5_goThrough_46 ?_
  refine lv_topi (fun y46 e46 => ?_)
  have q46 : y46.toInt = 2 * p1.toInt := by rw [e46]; exact mu_z rfl rfl (ir_c 2) hv_p1 (by decide) (by decide) (by decide)
  have r46 : ir y46.toInt 0 30 := mu_r q46 (ir_c 2) hv_p1 (by decide) (by decide) (by decide) (by decide)
  refine va_lald (D := g) hx hb hK hP 6 1 rfl rfl (vi_rg rfl r46 (by decide) (by decide)) dX5_goThrough_47 ?_
  refine lv_topl (fun y47 e47 => ?_)
  refine lv_aload_n hx hb dX5_goThrough_48 rfl (lv_at hl 3 rfl) ?_
  refine va_get (D := g) (ci := 5) (v := .ref dr_reach) (C := RX5) (T := TX5) (N := 7) hx hb hts iX5 hown hK hP 4 rfl rfl 6 (by decide) (hts (.fieldLink RX5 22 "CardsAtYule$Lives" "reach" "[J") (List.mem_cons_of_mem _ (List.mem_append_left _ (List.mem_of_getElem? (i := 8) rfl)))) (fun _ h9 => h9) rfl dX5_goThrough_49 ?_
  refine lv_iconst (v := 2) hx hb dX5_goThrough_52 (by decide) ?_
  refine lv_iload_n hx hb dX5_goThrough_53 rfl (lv_at hl 5 rfl) ?_
  refine lv_imul hx hb dX5_goThrough_54 ?_
  refine lv_topi (fun y54 e54 => ?_)
  have q54 : y54.toInt = 2 * p1.toInt := by rw [e54]; exact mu_z rfl rfl (ir_c 2) hv_p1 (by decide) (by decide) (by decide)
  have r54 : ir y54.toInt 0 30 := mu_r q54 (ir_c 2) hv_p1 (by decide) (by decide) (by decide) (by decide)
  refine lv_iconst (v := 1) hx hb dX5_goThrough_55 (by decide) ?_
  refine lv_iadd hx hb dX5_goThrough_56 ?_
  refine lv_topi (fun y56 e56 => ?_)
  have q56 : y56.toInt = y54.toInt + 1 := by rw [e56]; exact ad_z rfl rfl r54 (ir_c 1) (by decide) (by decide)
  have r56 : ir y56.toInt 1 31 := ad_r q56 r54 (ir_c 1) (by decide) (by decide)
  refine va_lald (D := g) hx hb hK hP 6 1 rfl rfl (vi_rg rfl r56 (by decide) (by decide)) dX5_goThrough_57 ?_
  refine lv_topl (fun y57 e57 => ?_)
  refine lv_iload_n hx hb dX5_goThrough_58 rfl (lv_at hl 6 rfl) ?_
  refine ro_i (va_runS (As := [.long y47, .long y57, .int p2]) (rest := []) ⟨hx, hb, hml, hown, hts⟩ (q_X2_sidesOf l g cI cJ cB cZ cL y47 y57 p2 H.size ) (va_cwS 3 hts (goodIn_app (g_3 (List.mem_cons_of_mem _ (List.mem_append_left _ (List.mem_of_getElem? (i := 5) rfl))) (List.mem_cons_of_mem _ (List.mem_append_left _ (List.mem_of_getElem? (i := 6) rfl))) (List.mem_cons_of_mem _ (List.mem_append_left _ (List.mem_of_getElem? (i := 7) rfl))) (by decide +kernel)) (goodIn_sub (fun _ h => List.mem_cons_of_mem _ (List.mem_append_right _ (List.mem_append_right _ (List.mem_append_left _ h)))) good_v_X2_sidesOf)) rfl rfl rfl (by decide +kernel) ⟨Nat.le_of_ble_eq_true rfl, Nat.le_of_ble_eq_true rfl⟩) (ps_RO (wc := []) hK hP [] rfl) rfl rfl hl.1 rfl (lv_room (Nat.le_of_ble_eq_true rfl)) dX5_goThrough_59 ⟨Nat.le_of_ble_eq_true rfl, Nat.le_of_ble_eq_true rfl⟩) hS hA hP (fun r59 u59 H locs hw59 hP hS => ?_)
  have hw59_0 := hw59
  refine lv_istore (lv' := [(7, .int r59), (6, .int r35), (5, .int r11), (4, .int r3), (0, .ref dr), (1, .ref ld), (2, .int p1), (3, .int p2)]) hx hb dX5_goThrough_62 hl (by decide) rfl (fun ls hl => ?_)
  refine lv_aload_n hx hb dX5_goThrough_64 rfl (lv_at hl 4 rfl) ?_
  refine lv_aload_n hx hb dX5_goThrough_65 rfl (lv_at hl 5 rfl) ?_
  refine lv_iload_n hx hb dX5_goThrough_66 rfl (lv_at hl 6 rfl) ?_
  refine lv_iload hx hb dX5_goThrough_67 (lv_at hl 3 rfl) ?_
  refine lv_iload hx hb dX5_goThrough_69 (lv_at hl 2 rfl) ?_
  refine lv_aload_n hx hb dX5_goThrough_71 rfl (lv_at hl 4 rfl) ?_
  refine va_get (D := g) (ci := 5) (v := .ref dr_states) (C := RX5) (T := TX5) (N := 7) hx hb hts iX5 hown hK hP 4 rfl rfl 4 (by decide) (hts (.fieldLink RX5 15 "CardsAtYule$Lives" "states" "[I") (List.mem_cons_of_mem _ (List.mem_append_left _ (List.mem_of_getElem? (i := 9) rfl)))) (fun _ h9 => h9) rfl dX5_goThrough_72 ?_
  refine lv_iload_n hx hb dX5_goThrough_75 rfl (lv_at hl 6 rfl) ?_
  refine va_iald (D := g) hx hb hK hP 7 0 rfl rfl (vi_rg rfl hv_p1 (by decide) (by decide)) dX5_goThrough_76 ?_
  refine lv_topi (fun y76 e76 => ?_)
  refine ro_i (va_runS (As := [.int r3, .int r11, .int y76]) (rest := [.int p1, .ref ld, .ref dr]) ⟨hx, hb, hml, hown, hts⟩ (q_X10_firsts l g cI cJ cB cZ cL r3 r11 y76 H.size ) (va_cwS 3 hts (goodIn_app (g_3 (List.mem_cons_of_mem _ (List.mem_append_left _ (List.mem_of_getElem? (i := 10) rfl))) (List.mem_cons_of_mem _ (List.mem_append_left _ (List.mem_of_getElem? (i := 11) rfl))) (List.mem_cons_of_mem _ (List.mem_append_left _ (List.mem_of_getElem? (i := 12) rfl))) (by decide +kernel)) (goodIn_sub (fun _ h => List.mem_cons_of_mem _ (List.mem_append_right _ (List.mem_append_right _ (List.mem_append_right _ (List.mem_append_left _ h))))) good_v_X10_firsts)) rfl rfl rfl (by decide +kernel) ⟨Nat.le_of_ble_eq_true rfl, Nat.le_of_ble_eq_true rfl⟩) (ps_RO (wc := []) hK hP [] rfl) rfl rfl hl.1 rfl (lv_room (Nat.le_of_ble_eq_true rfl)) dX5_goThrough_77 ⟨Nat.le_of_ble_eq_true rfl, Nat.le_of_ble_eq_true rfl⟩) hS hA hP (fun r77 u77 H locs hw77 hP hS => ?_)
  have hw77_0 := hw77
  refine lv_iload hx hb dX5_goThrough_80 (lv_at hl 1 rfl) ?_
  refine lv_iand hx hb dX5_goThrough_82 ?_
  refine lv_topi (fun y82 e82 => ?_)
  have r82 : ir y82.toInt 0 3 := by rw [e82]; exact an_y rfl hw35_0 (by decide)
  refine rw_i (wr := [(ld_rule, .inl (cI, 10, .inl ld_rule_c)), (ld_returns, .inl (cI, 10, .inl ld_returns_c)), (dr_may, .inl (cJ, 32, .inr (.inl dr_may_c))), (dr_reach, .inl (cJ, 32, .inr (.inl dr_reach_c))), (dr_states, .inl (cI, 16, .inl dr_states_c)), (dr_lastSent, .inl (cI, 16, .inl dr_lastSent_c))]) (va_runV (As := [.ref ld, .int p1, .int y82]) (rest := []) ⟨hx, hb, hml, hown, hts⟩ (q_X5_mindful l g cI cJ cB cZ cL p1 y82 dr ld dr_sent dr_forgot dr_lastSent dr_x dr_states dr_may dr_reach ld_lines ld_years ld_card ld_hurt ld_people ld_pairs ld_strikes ld_rule ld_returns ld_forgets ld_death ld_move ld_begun ld_who ld_lost ld_who_c ld_forgets_c H.size hv_p1 hv_ld_years hv_ld_people hv_ld_pairs ha_ld_who_c) (cwV 3 hts (goodIn_app (g_4 (List.mem_cons_of_mem _ (List.mem_append_left _ (List.mem_of_getElem? (i := 13) rfl))) (List.mem_cons_of_mem _ (List.mem_append_left _ (List.mem_of_getElem? (i := 14) rfl))) (List.mem_cons_of_mem _ (List.mem_append_left _ (List.mem_of_getElem? (i := 15) rfl))) (List.mem_cons_of_mem _ (List.mem_append_left _ (List.mem_of_getElem? (i := 16) rfl))) (by decide +kernel)) (goodIn_sub (fun _ h => List.mem_cons_of_mem _ (List.mem_append_right _ (List.mem_append_right _ (List.mem_append_right _ (List.mem_append_right _ (List.mem_append_left _ h)))))) good_v_X5_mindful)) rfl rfl rfl (by decide +kernel) ⟨Nat.le_of_ble_eq_true rfl, Nat.le_of_ble_eq_true rfl⟩) (pv_RW (q := (RX5, TX5, 7)) (ci := 5) (q0 := 0) (wc := [(dr, .inr (5, [.int dr_sent, .int dr_forgot, .ref dr_lastSent, .long dr_x, .ref dr_states, .ref dr_may, .ref dr_reach])), (ld, .inr (4, [.int ld_lines, .int ld_years, .int ld_card, .int ld_hurt, .int ld_people, .int ld_pairs, .long ld_strikes, .ref ld_rule, .ref ld_returns, .ref ld_forgets, .ref ld_death, .ref ld_move, .ref ld_begun, .ref ld_who, .ref ld_lost])), (ld_who, .inl (cI, 32, .inl ld_who_c)), (ld_forgets, .inl (cI, 10, .inl ld_forgets_c))]) hK hP hD [4, 0, 1, 8] (by decide) rfl rfl rfl) rfl rfl hl.1 rfl (lv_room (Nat.le_of_ble_eq_true rfl)) dX5_goThrough_83 ⟨Nat.le_of_ble_eq_true rfl, Nat.le_of_ble_eq_true rfl⟩) hS hA hP hD [4, 0, 1, 8] [2, 3, 5, 6, 7, 9] rfl rfl (by decide) (by decide) (fun r83 u83 H locs hw83 hP hD hS => ?_)
  obtain ⟨n_dr_forgot_83, n_dr_x_83⟩ := u83
  have hP : va_P g vwCl [(ld_rule, .inl (cI, 10, .inl ld_rule_c)), (ld_returns, .inl (cI, 10, .inl ld_returns_c)), (dr_may, .inl (cJ, 32, .inr (.inl dr_may_c))), (dr_reach, .inl (cJ, 32, .inr (.inl dr_reach_c))), (dr_states, .inl (cI, 16, .inl dr_states_c)), (dr_lastSent, .inl (cI, 16, .inl dr_lastSent_c)), (dr, .inr (5, [.int dr_sent, .int n_dr_forgot_83, .ref dr_lastSent, .long n_dr_x_83, .ref dr_states, .ref dr_may, .ref dr_reach])), (ld, .inr (4, [.int ld_lines, .int ld_years, .int ld_card, .int ld_hurt, .int ld_people, .int ld_pairs, .long ld_strikes, .ref ld_rule, .ref ld_returns, .ref ld_forgets, .ref ld_death, .ref ld_move, .ref ld_begun, .ref ld_who, .ref ld_lost])), (ld_who, .inl (cI, 32, .inl ld_who_c)), (ld_forgets, .inl (cI, 10, .inl ld_forgets_c))] H := hP
  have hD : va_D A [(ld_rule, .inl (cI, 10, .inl ld_rule_c)), (ld_returns, .inl (cI, 10, .inl ld_returns_c)), (dr_may, .inl (cJ, 32, .inr (.inl dr_may_c))), (dr_reach, .inl (cJ, 32, .inr (.inl dr_reach_c))), (dr_states, .inl (cI, 16, .inl dr_states_c)), (dr_lastSent, .inl (cI, 16, .inl dr_lastSent_c)), (dr, .inr (5, [.int dr_sent, .int n_dr_forgot_83, .ref dr_lastSent, .long n_dr_x_83, .ref dr_states, .ref dr_may, .ref dr_reach])), (ld, .inr (4, [.int ld_lines, .int ld_years, .int ld_card, .int ld_hurt, .int ld_people, .int ld_pairs, .long ld_strikes, .ref ld_rule, .ref ld_returns, .ref ld_forgets, .ref ld_death, .ref ld_move, .ref ld_begun, .ref ld_who, .ref ld_lost])), (ld_who, .inl (cI, 32, .inl ld_who_c)), (ld_forgets, .inl (cI, 10, .inl ld_forgets_c))] := hD
  refine lv_istore (lv' := [(8, .int r83), (7, .int r59), (6, .int r35), (5, .int r11), (4, .int r3), (0, .ref dr), (1, .ref ld), (2, .int p1), (3, .int p2)]) hx hb dX5_goThrough_86 hl (by decide) rfl (fun ls hl => ?_)
  refine lv_iload hx hb dX5_goThrough_88 (lv_at hl 0 rfl) ?_
  refine lv_iload hx hb dX5_goThrough_90 (lv_at hl 4 rfl) ?_
  refine lv_iload hx hb dX5_goThrough_92 (lv_at hl 3 rfl) ?_
  refine ro_i (va_runS (As := [.int r3, .int r11]) (rest := [.int r83]) ⟨hx, hb, hml, hown, hts⟩ (q_X10_returning l g cI cJ cB cZ cL r3 r11 H.size ) (va_cwS 2 hts (goodIn_app (g_3 (List.mem_cons_of_mem _ (List.mem_append_left _ (List.mem_of_getElem? (i := 17) rfl))) (List.mem_cons_of_mem _ (List.mem_append_left _ (List.mem_of_getElem? (i := 18) rfl))) (List.mem_cons_of_mem _ (List.mem_append_left _ (List.mem_of_getElem? (i := 12) rfl))) (by decide +kernel)) (goodIn_sub (fun _ h => List.mem_cons_of_mem _ (List.mem_append_right _ (List.mem_append_right _ (List.mem_append_right _ (List.mem_append_right _ (List.mem_append_right _ (List.mem_append_left _ h))))))) good_v_X10_returning)) rfl rfl rfl (by decide +kernel) ⟨Nat.le_of_ble_eq_true rfl, Nat.le_of_ble_eq_true rfl⟩) (ps_RO (wc := []) hK hP [] rfl) rfl rfl hl.1 rfl (lv_room (Nat.le_of_ble_eq_true rfl)) dX5_goThrough_94 ⟨Nat.le_of_ble_eq_true rfl, Nat.le_of_ble_eq_true rfl⟩) hS hA hP (fun r94 u94 H locs hw94 hP hS => ?_)
  have hw94_0 := hw94
  refine lv_iload hx hb dX5_goThrough_97 (lv_at hl 2 rfl) ?_
  refine lv_iand hx hb dX5_goThrough_99 ?_
  refine lv_topi (fun y99 e99 => ?_)
  have r99 : ir y99.toInt 0 3 := by rw [e99]; exact an_y rfl hw35_0 (by decide)
  refine lv_iload hx hb dX5_goThrough_100 (lv_at hl 1 rfl) ?_
  refine ro_i (va_runS (As := [.int r83, .int y99, .int r59]) (rest := []) ⟨hx, hb, hml, hown, hts⟩ (q_X10_backs l g cI cJ cB cZ cL r83 y99 r59 H.size r99) (va_cwS 3 hts (goodIn_app (g_3 (List.mem_cons_of_mem _ (List.mem_append_left _ (List.mem_of_getElem? (i := 19) rfl))) (List.mem_cons_of_mem _ (List.mem_append_left _ (List.mem_of_getElem? (i := 20) rfl))) (List.mem_cons_of_mem _ (List.mem_append_left _ (List.mem_of_getElem? (i := 12) rfl))) (by decide +kernel)) (goodIn_sub (fun _ h => List.mem_cons_of_mem _ (List.mem_append_right _ (List.mem_append_right _ (List.mem_append_right _ (List.mem_append_right _ (List.mem_append_right _ (List.mem_append_right _ (List.mem_append_left _ h)))))))) good_v_X10_backs)) rfl rfl rfl (by decide +kernel) ⟨Nat.le_of_ble_eq_true rfl, Nat.le_of_ble_eq_true rfl⟩) (ps_RO (wc := []) hK hP [] rfl) rfl rfl hl.1 rfl (lv_room (Nat.le_of_ble_eq_true rfl)) dX5_goThrough_102 ⟨Nat.le_of_ble_eq_true rfl, Nat.le_of_ble_eq_true rfl⟩) hS hA hP (fun r102 u102 H locs hw102 hP hS => ?_)
  have hw102_0 := hw102
  refine lv_istore (lv' := [(9, .int r102), (8, .int r83), (7, .int r59), (6, .int r35), (5, .int r11), (4, .int r3), (0, .ref dr), (1, .ref ld), (2, .int p1), (3, .int p2)]) hx hb dX5_goThrough_105 hl (by decide) rfl (fun ls hl => ?_)
  refine lv_iload hx hb dX5_goThrough_107 (lv_at hl 1 rfl) ?_
  refine lv_aload_n hx hb dX5_goThrough_109 rfl (lv_at hl 6 rfl) ?_
  refine lv_aload_n hx hb dX5_goThrough_110 rfl (lv_at hl 7 rfl) ?_
  refine lv_iload_n hx hb dX5_goThrough_111 rfl (lv_at hl 8 rfl) ?_
  refine lv_iload hx hb dX5_goThrough_112 (lv_at hl 0 rfl) ?_
  refine rw_i (wr := [(ld_rule, .inl (cI, 10, .inl ld_rule_c)), (ld_returns, .inl (cI, 10, .inl ld_returns_c)), (dr_may, .inl (cJ, 32, .inr (.inl dr_may_c))), (dr_reach, .inl (cJ, 32, .inr (.inl dr_reach_c))), (dr_states, .inl (cI, 16, .inl dr_states_c)), (dr_lastSent, .inl (cI, 16, .inl dr_lastSent_c))]) (va_runV (As := [.ref ld, .int p1, .int r102]) (rest := [.int r83]) ⟨hx, hb, hml, hown, hts⟩ (q_X5_mindful l g cI cJ cB cZ cL p1 r102 dr ld dr_sent n_dr_forgot_83 dr_lastSent n_dr_x_83 dr_states dr_may dr_reach ld_lines ld_years ld_card ld_hurt ld_people ld_pairs ld_strikes ld_rule ld_returns ld_forgets ld_death ld_move ld_begun ld_who ld_lost ld_who_c ld_forgets_c H.size hv_p1 hv_ld_years hv_ld_people hv_ld_pairs ha_ld_who_c) (cwV 3 hts (goodIn_app (g_4 (List.mem_cons_of_mem _ (List.mem_append_left _ (List.mem_of_getElem? (i := 13) rfl))) (List.mem_cons_of_mem _ (List.mem_append_left _ (List.mem_of_getElem? (i := 14) rfl))) (List.mem_cons_of_mem _ (List.mem_append_left _ (List.mem_of_getElem? (i := 15) rfl))) (List.mem_cons_of_mem _ (List.mem_append_left _ (List.mem_of_getElem? (i := 16) rfl))) (by decide +kernel)) (goodIn_sub (fun _ h => List.mem_cons_of_mem _ (List.mem_append_right _ (List.mem_append_right _ (List.mem_append_right _ (List.mem_append_right _ (List.mem_append_left _ h)))))) good_v_X5_mindful)) rfl rfl rfl (by decide +kernel) ⟨Nat.le_of_ble_eq_true rfl, Nat.le_of_ble_eq_true rfl⟩) (pv_RW (q := (RX5, TX5, 7)) (ci := 5) (q0 := 0) (wc := [(dr, .inr (5, [.int dr_sent, .int n_dr_forgot_83, .ref dr_lastSent, .long n_dr_x_83, .ref dr_states, .ref dr_may, .ref dr_reach])), (ld, .inr (4, [.int ld_lines, .int ld_years, .int ld_card, .int ld_hurt, .int ld_people, .int ld_pairs, .long ld_strikes, .ref ld_rule, .ref ld_returns, .ref ld_forgets, .ref ld_death, .ref ld_move, .ref ld_begun, .ref ld_who, .ref ld_lost])), (ld_who, .inl (cI, 32, .inl ld_who_c)), (ld_forgets, .inl (cI, 10, .inl ld_forgets_c))]) hK hP hD [6, 7, 8, 9] (by decide) rfl rfl rfl) rfl rfl hl.1 rfl (lv_room (Nat.le_of_ble_eq_true rfl)) dX5_goThrough_114 ⟨Nat.le_of_ble_eq_true rfl, Nat.le_of_ble_eq_true rfl⟩) hS hA hP hD [6, 7, 8, 9] [0, 1, 2, 3, 4, 5] rfl rfl (by decide) (by decide) (fun r114 u114 H locs hw114 hP hD hS => ?_)
  obtain ⟨n_dr_forgot_114, n_dr_x_114⟩ := u114
  have hP : va_P g vwCl [(ld_rule, .inl (cI, 10, .inl ld_rule_c)), (ld_returns, .inl (cI, 10, .inl ld_returns_c)), (dr_may, .inl (cJ, 32, .inr (.inl dr_may_c))), (dr_reach, .inl (cJ, 32, .inr (.inl dr_reach_c))), (dr_states, .inl (cI, 16, .inl dr_states_c)), (dr_lastSent, .inl (cI, 16, .inl dr_lastSent_c)), (dr, .inr (5, [.int dr_sent, .int n_dr_forgot_114, .ref dr_lastSent, .long n_dr_x_114, .ref dr_states, .ref dr_may, .ref dr_reach])), (ld, .inr (4, [.int ld_lines, .int ld_years, .int ld_card, .int ld_hurt, .int ld_people, .int ld_pairs, .long ld_strikes, .ref ld_rule, .ref ld_returns, .ref ld_forgets, .ref ld_death, .ref ld_move, .ref ld_begun, .ref ld_who, .ref ld_lost])), (ld_who, .inl (cI, 32, .inl ld_who_c)), (ld_forgets, .inl (cI, 10, .inl ld_forgets_c))] H := hP
  have hD : va_D A [(ld_rule, .inl (cI, 10, .inl ld_rule_c)), (ld_returns, .inl (cI, 10, .inl ld_returns_c)), (dr_may, .inl (cJ, 32, .inr (.inl dr_may_c))), (dr_reach, .inl (cJ, 32, .inr (.inl dr_reach_c))), (dr_states, .inl (cI, 16, .inl dr_states_c)), (dr_lastSent, .inl (cI, 16, .inl dr_lastSent_c)), (dr, .inr (5, [.int dr_sent, .int n_dr_forgot_114, .ref dr_lastSent, .long n_dr_x_114, .ref dr_states, .ref dr_may, .ref dr_reach])), (ld, .inr (4, [.int ld_lines, .int ld_years, .int ld_card, .int ld_hurt, .int ld_people, .int ld_pairs, .long ld_strikes, .ref ld_rule, .ref ld_returns, .ref ld_forgets, .ref ld_death, .ref ld_move, .ref ld_begun, .ref ld_who, .ref ld_lost])), (ld_who, .inl (cI, 32, .inl ld_who_c)), (ld_forgets, .inl (cI, 10, .inl ld_forgets_c))] := hD
  refine lv_ior hx hb dX5_goThrough_117 ?_
  refine lv_topi (fun y117 e117 => ?_)
  refine lv_istore (lv' := [(10, .int y117), (9, .int r102), (8, .int r83), (7, .int r59), (6, .int r35), (5, .int r11), (4, .int r3), (0, .ref dr), (1, .ref ld), (2, .int p1), (3, .int p2)]) hx hb dX5_goThrough_118 hl (by decide) rfl (fun ls hl => ?_)
  refine lv_iload hx hb dX5_goThrough_120 (lv_at hl 0 rfl) ?_
  have J132 : ∀ (j132_dr_lastSent_c : Nat → Int32) (H : Heap) (locs : List Loc) (ls : Array Slot), va_P g vwCl [(ld_rule, .inl (cI, 10, .inl ld_rule_c)), (ld_returns, .inl (cI, 10, .inl ld_returns_c)), (dr_may, .inl (cJ, 32, .inr (.inl dr_may_c))), (dr_reach, .inl (cJ, 32, .inr (.inl dr_reach_c))), (dr_states, .inl (cI, 16, .inl dr_states_c)), (dr_lastSent, .inl (cI, 16, .inl j132_dr_lastSent_c)), (dr, .inr (5, [.int dr_sent, .int n_dr_forgot_114, .ref dr_lastSent, .long n_dr_x_114, .ref dr_states, .ref dr_may, .ref dr_reach])), (ld, .inr (4, [.int ld_lines, .int ld_years, .int ld_card, .int ld_hurt, .int ld_people, .int ld_pairs, .long ld_strikes, .ref ld_rule, .ref ld_returns, .ref ld_forgets, .ref ld_death, .ref ld_move, .ref ld_begun, .ref ld_who, .ref ld_lost])), (ld_who, .inl (cI, 32, .inl ld_who_c)), (ld_forgets, .inl (cI, 10, .inl ld_forgets_c))] H → va_D A [(ld_rule, .inl (cI, 10, .inl ld_rule_c)), (ld_returns, .inl (cI, 10, .inl ld_returns_c)), (dr_may, .inl (cJ, 32, .inr (.inl dr_may_c))), (dr_reach, .inl (cJ, 32, .inr (.inl dr_reach_c))), (dr_states, .inl (cI, 16, .inl dr_states_c)), (dr_lastSent, .inl (cI, 16, .inl j132_dr_lastSent_c)), (dr, .inr (5, [.int dr_sent, .int n_dr_forgot_114, .ref dr_lastSent, .long n_dr_x_114, .ref dr_states, .ref dr_may, .ref dr_reach])), (ld, .inr (4, [.int ld_lines, .int ld_years, .int ld_card, .int ld_hurt, .int ld_people, .int ld_pairs, .long ld_strikes, .ref ld_rule, .ref ld_returns, .ref ld_forgets, .ref ld_death, .ref ld_move, .ref ld_begun, .ref ld_who, .ref ld_lost])), (ld_who, .inl (cI, 32, .inl ld_who_c)), (ld_forgets, .inl (cI, 10, .inl ld_forgets_c))] → va_S A s.heap H locs → lv_has ls 11 [(0, .ref dr), (2, .int p1), (7, .int r59), (10, .int y117)] → W p l e (headSpec v_X5_goThrough ({ frames := 2, cells := 0, slots := 0, locals := 45 })).room s m av below meth c H locs 0 0 QQ (F0 m 132 ls []) := by
    intro j132_dr_lastSent_c H locs ls  hP hD hS hl
    refine lv_aload_n hx hb dX5_goThrough_132 rfl (lv_at hl 0 rfl) ?_
    refine lv_dup hx hb dX5_goThrough_133 rfl ?_
    refine va_get (D := g) (ci := 5) (v := .int dr_sent) (C := RX5) (T := TX5) (N := 7) hx hb hts iX5 hown hK hP 6 rfl rfl 0 (by decide) (hts (.fieldLink RX5 29 "CardsAtYule$Lives" "sent" "I") (List.mem_cons_of_mem _ (List.mem_append_left _ (List.mem_of_getElem? (i := 21) rfl)))) (fun _ h9 => h9) rfl dX5_goThrough_134 ?_
    refine lv_iload hx hb dX5_goThrough_137 (lv_at hl 3 rfl) ?_
    refine ro_i (va_runS (As := [.int y117]) (rest := [.int dr_sent, .ref dr]) ⟨hx, hb, hml, hown, hts⟩ (q_J6_bitCount_0f7a4 l g cI cJ cB cZ cL y117 H.size ) (va_cwS 1 hts (goodIn_app (g_3 (List.mem_cons_of_mem _ (List.mem_append_left _ (List.mem_of_getElem? (i := 22) rfl))) (List.mem_cons_of_mem _ (List.mem_append_left _ (List.mem_of_getElem? (i := 23) rfl))) (List.mem_cons_of_mem _ (List.mem_append_left _ (List.mem_of_getElem? (i := 24) rfl))) (by decide +kernel)) (goodIn_sub (fun _ h => List.mem_cons_of_mem _ (List.mem_append_right _ (List.mem_append_right _ (List.mem_append_right _ (List.mem_append_right _ (List.mem_append_right _ (List.mem_append_right _ (List.mem_append_right _ (List.mem_append_left _ h))))))))) good_v_J6_bitCount_0f7a4)) rfl rfl rfl (by decide +kernel) ⟨Nat.le_of_ble_eq_true rfl, Nat.le_of_ble_eq_true rfl⟩) (ps_RO (wc := []) hK hP [] rfl) rfl rfl hl.1 rfl (lv_room (Nat.le_of_ble_eq_true rfl)) dX5_goThrough_139 ⟨Nat.le_of_ble_eq_true rfl, Nat.le_of_ble_eq_true rfl⟩) hS hA hP (fun r139 u139 H locs hw139 hP hS => ?_)
    have hw139_0 := hw139
    refine lv_iadd hx hb dX5_goThrough_142 ?_
    refine lv_topi (fun y142 e142 => ?_)
    refine va_put (D := g) (ci := 5) (v := .int y142) (ty := .int) (C := RX5) (T := TX5) (N := 7) hx hb hts iX5 tyX5 tyX5_ok nmX5 hown hK hP hD hS 6 rfl rfl 0 (by decide) (hts (.fieldLink RX5 29 "CardsAtYule$Lives" "sent" "I") (List.mem_cons_of_mem _ (List.mem_append_left _ (List.mem_of_getElem? (i := 21) rfl)))) (fun _ h9 => h9) rfl (by decide +kernel) rfl rfl (Nat.le_of_ble_eq_true rfl) dX5_goThrough_143 (fun H locs hP hD hS => ?_)
    have hP : va_P g vwCl [(ld_rule, .inl (cI, 10, .inl ld_rule_c)), (ld_returns, .inl (cI, 10, .inl ld_returns_c)), (dr_may, .inl (cJ, 32, .inr (.inl dr_may_c))), (dr_reach, .inl (cJ, 32, .inr (.inl dr_reach_c))), (dr_states, .inl (cI, 16, .inl dr_states_c)), (dr_lastSent, .inl (cI, 16, .inl j132_dr_lastSent_c)), (dr, .inr (5, [.int y142, .int n_dr_forgot_114, .ref dr_lastSent, .long n_dr_x_114, .ref dr_states, .ref dr_may, .ref dr_reach])), (ld, .inr (4, [.int ld_lines, .int ld_years, .int ld_card, .int ld_hurt, .int ld_people, .int ld_pairs, .long ld_strikes, .ref ld_rule, .ref ld_returns, .ref ld_forgets, .ref ld_death, .ref ld_move, .ref ld_begun, .ref ld_who, .ref ld_lost])), (ld_who, .inl (cI, 32, .inl ld_who_c)), (ld_forgets, .inl (cI, 10, .inl ld_forgets_c))] H := hP
    have hD : va_D A [(ld_rule, .inl (cI, 10, .inl ld_rule_c)), (ld_returns, .inl (cI, 10, .inl ld_returns_c)), (dr_may, .inl (cJ, 32, .inr (.inl dr_may_c))), (dr_reach, .inl (cJ, 32, .inr (.inl dr_reach_c))), (dr_states, .inl (cI, 16, .inl dr_states_c)), (dr_lastSent, .inl (cI, 16, .inl j132_dr_lastSent_c)), (dr, .inr (5, [.int y142, .int n_dr_forgot_114, .ref dr_lastSent, .long n_dr_x_114, .ref dr_states, .ref dr_may, .ref dr_reach])), (ld, .inr (4, [.int ld_lines, .int ld_years, .int ld_card, .int ld_hurt, .int ld_people, .int ld_pairs, .long ld_strikes, .ref ld_rule, .ref ld_returns, .ref ld_forgets, .ref ld_death, .ref ld_move, .ref ld_begun, .ref ld_who, .ref ld_lost])), (ld_who, .inl (cI, 32, .inl ld_who_c)), (ld_forgets, .inl (cI, 10, .inl ld_forgets_c))] := hD
    refine lv_aload_n hx hb dX5_goThrough_146 rfl (lv_at hl 0 rfl) ?_
    refine va_get (D := g) (ci := 5) (v := .ref dr_states) (C := RX5) (T := TX5) (N := 7) hx hb hts iX5 hown hK hP 6 rfl rfl 4 (by decide) (hts (.fieldLink RX5 15 "CardsAtYule$Lives" "states" "[I") (List.mem_cons_of_mem _ (List.mem_append_left _ (List.mem_of_getElem? (i := 9) rfl)))) (fun _ h9 => h9) rfl dX5_goThrough_147 ?_
    refine lv_iload_n hx hb dX5_goThrough_150 rfl (lv_at hl 1 rfl) ?_
    refine lv_aload_n hx hb dX5_goThrough_151 rfl (lv_at hl 0 rfl) ?_
    refine va_get (D := g) (ci := 5) (v := .ref dr_states) (C := RX5) (T := TX5) (N := 7) hx hb hts iX5 hown hK hP 6 rfl rfl 4 (by decide) (hts (.fieldLink RX5 15 "CardsAtYule$Lives" "states" "[I") (List.mem_cons_of_mem _ (List.mem_append_left _ (List.mem_of_getElem? (i := 9) rfl)))) (fun _ h9 => h9) rfl dX5_goThrough_152 ?_
    refine lv_iload_n hx hb dX5_goThrough_155 rfl (lv_at hl 1 rfl) ?_
    refine va_iald (D := g) hx hb hK hP 4 0 rfl rfl (vi_rg rfl hv_p1 (by decide) (by decide)) dX5_goThrough_156 ?_
    refine lv_topi (fun y156 e156 => ?_)
    refine lv_iload hx hb dX5_goThrough_157 (lv_at hl 3 rfl) ?_
    refine lv_iload hx hb dX5_goThrough_159 (lv_at hl 2 rfl) ?_
    refine lv_iand hx hb dX5_goThrough_161 ?_
    refine lv_topi (fun y161 e161 => ?_)
    have r161 : ir y161.toInt 0 3 := by rw [e161]; exact an_y rfl hw59_0 (by decide)
    refine ro_i (va_runS (As := [.int y161]) (rest := [.int y156, .int p1, .ref dr_states]) ⟨hx, hb, hml, hown, hts⟩ (q_X10_swapped l g cI cJ cB cZ cL y161 H.size ) (va_cwS 1 hts (goodIn_app (g_3 (List.mem_cons_of_mem _ (List.mem_append_left _ (List.mem_of_getElem? (i := 25) rfl))) (List.mem_cons_of_mem _ (List.mem_append_left _ (List.mem_of_getElem? (i := 26) rfl))) (List.mem_cons_of_mem _ (List.mem_append_left _ (List.mem_of_getElem? (i := 12) rfl))) (by decide +kernel)) (goodIn_sub (fun _ h => List.mem_cons_of_mem _ (List.mem_append_right _ (List.mem_append_right _ (List.mem_append_right _ (List.mem_append_right _ (List.mem_append_right _ (List.mem_append_right _ (List.mem_append_right _ (List.mem_append_right _ (List.mem_append_left _ h)))))))))) good_v_X10_swapped)) rfl rfl rfl (by decide +kernel) ⟨Nat.le_of_ble_eq_true rfl, Nat.le_of_ble_eq_true rfl⟩) (ps_RO (wc := []) hK hP [] rfl) rfl rfl hl.1 rfl (lv_room (Nat.le_of_ble_eq_true rfl)) dX5_goThrough_162 ⟨Nat.le_of_ble_eq_true rfl, Nat.le_of_ble_eq_true rfl⟩) hS hA hP (fun r162 u162 H locs hw162 hP hS => ?_)
    have hw162_0 := hw162
    refine ro_i (va_runS (As := [.int y156, .int r162]) (rest := [.int p1, .ref dr_states]) ⟨hx, hb, hml, hown, hts⟩ (q_X10_after l g cI cJ cB cZ cL y156 r162 H.size ) (va_cwS 2 hts (goodIn_app (g_3 (List.mem_cons_of_mem _ (List.mem_append_left _ (List.mem_of_getElem? (i := 27) rfl))) (List.mem_cons_of_mem _ (List.mem_append_left _ (List.mem_of_getElem? (i := 28) rfl))) (List.mem_cons_of_mem _ (List.mem_append_left _ (List.mem_of_getElem? (i := 12) rfl))) (by decide +kernel)) (goodIn_sub (fun _ h => List.mem_cons_of_mem _ (List.mem_append_right _ (List.mem_append_right _ (List.mem_append_right _ (List.mem_append_right _ (List.mem_append_right _ (List.mem_append_right _ (List.mem_append_right _ (List.mem_append_right _ (List.mem_append_right _ (List.mem_append_left _ h))))))))))) good_v_X10_after)) rfl rfl rfl (by decide +kernel) ⟨Nat.le_of_ble_eq_true rfl, Nat.le_of_ble_eq_true rfl⟩) (ps_RO (wc := []) hK hP [] rfl) rfl rfl hl.1 rfl (lv_room (Nat.le_of_ble_eq_true rfl)) dX5_goThrough_165 ⟨Nat.le_of_ble_eq_true rfl, Nat.le_of_ble_eq_true rfl⟩) hS hA hP (fun r165 u165 H locs hw165 hP hS => ?_)
    have hw165_0 := hw165
    refine va_iast (D := g) hx hb hK hP hD hS 4 0 rfl rfl (vi_rg rfl hv_p1 (by decide) (by decide)) dX5_goThrough_168 (fun H locs hP hD hS => ?_)
    obtain ⟨g168, e168⟩ : ∃ z, z = upd dr_states_c p1.toNatClampNeg r165 := ⟨_, rfl⟩
    have hP : va_P g vwCl [(ld_rule, .inl (cI, 10, .inl ld_rule_c)), (ld_returns, .inl (cI, 10, .inl ld_returns_c)), (dr_may, .inl (cJ, 32, .inr (.inl dr_may_c))), (dr_reach, .inl (cJ, 32, .inr (.inl dr_reach_c))), (dr_states, .inl (cI, 16, .inl (upd dr_states_c p1.toNatClampNeg r165))), (dr_lastSent, .inl (cI, 16, .inl j132_dr_lastSent_c)), (dr, .inr (5, [.int y142, .int n_dr_forgot_114, .ref dr_lastSent, .long n_dr_x_114, .ref dr_states, .ref dr_may, .ref dr_reach])), (ld, .inr (4, [.int ld_lines, .int ld_years, .int ld_card, .int ld_hurt, .int ld_people, .int ld_pairs, .long ld_strikes, .ref ld_rule, .ref ld_returns, .ref ld_forgets, .ref ld_death, .ref ld_move, .ref ld_begun, .ref ld_who, .ref ld_lost])), (ld_who, .inl (cI, 32, .inl ld_who_c)), (ld_forgets, .inl (cI, 10, .inl ld_forgets_c))] H := hP
    have hD : va_D A [(ld_rule, .inl (cI, 10, .inl ld_rule_c)), (ld_returns, .inl (cI, 10, .inl ld_returns_c)), (dr_may, .inl (cJ, 32, .inr (.inl dr_may_c))), (dr_reach, .inl (cJ, 32, .inr (.inl dr_reach_c))), (dr_states, .inl (cI, 16, .inl (upd dr_states_c p1.toNatClampNeg r165))), (dr_lastSent, .inl (cI, 16, .inl j132_dr_lastSent_c)), (dr, .inr (5, [.int y142, .int n_dr_forgot_114, .ref dr_lastSent, .long n_dr_x_114, .ref dr_states, .ref dr_may, .ref dr_reach])), (ld, .inr (4, [.int ld_lines, .int ld_years, .int ld_card, .int ld_hurt, .int ld_people, .int ld_pairs, .long ld_strikes, .ref ld_rule, .ref ld_returns, .ref ld_forgets, .ref ld_death, .ref ld_move, .ref ld_begun, .ref ld_who, .ref ld_lost])), (ld_who, .inl (cI, 32, .inl ld_who_c)), (ld_forgets, .inl (cI, 10, .inl ld_forgets_c))] := hD
    rw [← e168] at hP hD
    subst hQ
    have hP9 := hP.sub (ws' := [(ld, .inr (4, [.int ld_lines, .int ld_years, .int ld_card, .int ld_hurt, .int ld_people, .int ld_pairs, .long ld_strikes, .ref ld_rule, .ref ld_returns, .ref ld_forgets, .ref ld_death, .ref ld_move, .ref ld_begun, .ref ld_who, .ref ld_lost])), (ld_who, .inl (cI, 32, .inl ld_who_c)), (ld_rule, .inl (cI, 10, .inl ld_rule_c)), (ld_returns, .inl (cI, 10, .inl ld_returns_c)), (dr, .inr (5, [.int y142, .int n_dr_forgot_114, .ref dr_lastSent, .long n_dr_x_114, .ref dr_states, .ref dr_may, .ref dr_reach])), (dr_may, .inl (cJ, 32, .inr (.inl dr_may_c))), (dr_reach, .inl (cJ, 32, .inr (.inl dr_reach_c))), (dr_states, .inl (cI, 16, .inl g168)), (ld_forgets, .inl (cI, 10, .inl ld_forgets_c)), (dr_lastSent, .inl (cI, 16, .inl j132_dr_lastSent_c))]) [7, 8, 0, 1, 6, 2, 3, 4, 9, 5] rfl
    have hD9 := hD.sub (ws' := [(ld, .inr (4, [.int ld_lines, .int ld_years, .int ld_card, .int ld_hurt, .int ld_people, .int ld_pairs, .long ld_strikes, .ref ld_rule, .ref ld_returns, .ref ld_forgets, .ref ld_death, .ref ld_move, .ref ld_begun, .ref ld_who, .ref ld_lost])), (ld_who, .inl (cI, 32, .inl ld_who_c)), (ld_rule, .inl (cI, 10, .inl ld_rule_c)), (ld_returns, .inl (cI, 10, .inl ld_returns_c)), (dr, .inr (5, [.int y142, .int n_dr_forgot_114, .ref dr_lastSent, .long n_dr_x_114, .ref dr_states, .ref dr_may, .ref dr_reach])), (dr_may, .inl (cJ, 32, .inr (.inl dr_may_c))), (dr_reach, .inl (cJ, 32, .inr (.inl dr_reach_c))), (dr_states, .inl (cI, 16, .inl g168)), (ld_forgets, .inl (cI, 10, .inl ld_forgets_c)), (dr_lastSent, .inl (cI, 16, .inl j132_dr_lastSent_c))]) [7, 8, 0, 1, 6, 2, 3, 4, 9, 5] (by decide) rfl
    exact W.vret hx hb hr (fun t ht hW => ⟨⟨(y142, n_dr_forgot_114, n_dr_x_114, g168, j132_dr_lastSent_c), rfl, trivial, ⟨by rw [ht]; exact hP9, va_K.moved hW.alike hK, hD9⟩⟩, hS.F ht⟩) hS.2.2 dX5_goThrough_169
  refine lv_if_eq (tgt := 132) hx hb dX5_goThrough_122 (by decide) (fun c122 => ?_) (fun c122 => ?_)
  · have f122 := (show y117.toInt = 0 from z_eq rfl rfl c122)
    have r122a : ir y117.toInt 0 0 := ir_eqa f122 (rg_all y117) (ir_c 0) (by decide) (by decide)
    exact J132 dr_lastSent_c _ _ _  (hP.sub [0, 1, 2, 3, 4, 5, 6, 7, 8, 9] rfl) (hD.sub [0, 1, 2, 3, 4, 5, 6, 7, 8, 9] (by decide) rfl) hS (lv_sub hl [7, 9, 3, 0] rfl)
  have f122 := (show y117.toInt ≠ 0 from z_ne rfl rfl c122)
  refine lv_aload_n hx hb dX5_goThrough_125 rfl (lv_at hl 7 rfl) ?_
  refine va_get (D := g) (ci := 5) (v := .ref dr_lastSent) (C := RX5) (T := TX5) (N := 7) hx hb hts iX5 hown hK hP 6 rfl rfl 2 (by decide) (hts (.fieldLink RX5 9 "CardsAtYule$Lives" "lastSent" "[I") (List.mem_cons_of_mem _ (List.mem_append_left _ (List.mem_of_getElem? (i := 29) rfl)))) (fun _ h9 => h9) rfl dX5_goThrough_126 ?_
  refine lv_iload_n hx hb dX5_goThrough_129 rfl (lv_at hl 9 rfl) ?_
  refine lv_iload_n hx hb dX5_goThrough_130 rfl (lv_at hl 10 rfl) ?_
  refine va_iast (D := g) hx hb hK hP hD hS 5 0 rfl rfl (vi_rg rfl hv_p1 (by decide) (by decide)) dX5_goThrough_131 (fun H locs hP hD hS => ?_)
  obtain ⟨g131, e131⟩ : ∃ z, z = upd dr_lastSent_c p1.toNatClampNeg p2 := ⟨_, rfl⟩
  have hP : va_P g vwCl [(ld_rule, .inl (cI, 10, .inl ld_rule_c)), (ld_returns, .inl (cI, 10, .inl ld_returns_c)), (dr_may, .inl (cJ, 32, .inr (.inl dr_may_c))), (dr_reach, .inl (cJ, 32, .inr (.inl dr_reach_c))), (dr_states, .inl (cI, 16, .inl dr_states_c)), (dr_lastSent, .inl (cI, 16, .inl (upd dr_lastSent_c p1.toNatClampNeg p2))), (dr, .inr (5, [.int dr_sent, .int n_dr_forgot_114, .ref dr_lastSent, .long n_dr_x_114, .ref dr_states, .ref dr_may, .ref dr_reach])), (ld, .inr (4, [.int ld_lines, .int ld_years, .int ld_card, .int ld_hurt, .int ld_people, .int ld_pairs, .long ld_strikes, .ref ld_rule, .ref ld_returns, .ref ld_forgets, .ref ld_death, .ref ld_move, .ref ld_begun, .ref ld_who, .ref ld_lost])), (ld_who, .inl (cI, 32, .inl ld_who_c)), (ld_forgets, .inl (cI, 10, .inl ld_forgets_c))] H := hP
  have hD : va_D A [(ld_rule, .inl (cI, 10, .inl ld_rule_c)), (ld_returns, .inl (cI, 10, .inl ld_returns_c)), (dr_may, .inl (cJ, 32, .inr (.inl dr_may_c))), (dr_reach, .inl (cJ, 32, .inr (.inl dr_reach_c))), (dr_states, .inl (cI, 16, .inl dr_states_c)), (dr_lastSent, .inl (cI, 16, .inl (upd dr_lastSent_c p1.toNatClampNeg p2))), (dr, .inr (5, [.int dr_sent, .int n_dr_forgot_114, .ref dr_lastSent, .long n_dr_x_114, .ref dr_states, .ref dr_may, .ref dr_reach])), (ld, .inr (4, [.int ld_lines, .int ld_years, .int ld_card, .int ld_hurt, .int ld_people, .int ld_pairs, .long ld_strikes, .ref ld_rule, .ref ld_returns, .ref ld_forgets, .ref ld_death, .ref ld_move, .ref ld_begun, .ref ld_who, .ref ld_lost])), (ld_who, .inl (cI, 32, .inl ld_who_c)), (ld_forgets, .inl (cI, 10, .inl ld_forgets_c))] := hD
  rw [← e131] at hP hD
  exact J132 g131 _ _ _  (hP.sub [0, 1, 2, 3, 4, 5, 6, 7, 8, 9] rfl) (hD.sub [0, 1, 2, 3, 4, 5, 6, 7, 8, 9] (by decide) rfl) hS (lv_sub hl [7, 9, 3, 0] rfl)
