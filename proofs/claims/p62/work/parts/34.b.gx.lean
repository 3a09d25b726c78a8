def v_X3_everDies : List Cond := .code yX3_everDies cX3_everDies 4 (some .boolean) :: (([.methodLink RX3 57 yX3_find, .instanceMethod yX3_find, .selects RX3 yX3_find yX3_find, .initialized RX3, .methodLink RX3 53 yX3_kind, .instanceMethod yX3_kind, .selects RX3 yX3_kind yX3_kind] : List Cond) ++ (v_X3_find ++ (v_X3_kind ++ ([] : List Cond))))
theorem good_v_X3_everDies : v_X3_everDies.all goodWord = true := ga_c (by decide +kernel) (ga_a (by decide +kernel) (ga_a good_v_X3_find (ga_a good_v_X3_kind rfl)))
set_option maxHeartbeats 4000000 in
set_option maxRecDepth 100000 in
theorem q_X3_everDies (l : Launch) (g : va_G) (cI cJ cB cZ cL : ClassId) (p0 : Int32) (p1 : Int32) (fa : Nat) (fa_begins : Int32) (fa_length : Int32) (fa_cards : Int32) (fa_round : Int32) (fa_rule0 : Int32) (fa_rule1 : Int32) (fa_yearOf : Nat) (fa_yearOf_c : Nat → Int32) (sz : Nat) (hv_fa_round : ir fa_round.toInt 0 15) : Met l yX3_everDies v_X3_everDies ({ frames := 4, cells := 0, slots := 0, locals := 94 }) (va_Pc [.ref fa, .int p0, .int p1] (pRW g (tyT cI cJ cB cZ cL) [(fa, .inr (3, [.int fa_begins, .int fa_length, .int fa_cards, .int fa_round, .int fa_rule0, .int fa_rule1, .ref fa_yearOf])), (fa_yearOf, .inl (cI, 16, .inl fa_yearOf_c))] sz)) (va_Qi (fun (r : Int32) (u : Int32 × Int32 × Int32 × Int32 × Int32 × Int32 × (Nat → Int32)) => match u with | (n_fa_begins, n_fa_length, n_fa_cards, n_fa_round, n_fa_rule0, n_fa_rule1, n_fa_yearOf_c) => (ir n_fa_round.toInt 0 15) ∧ (ir r.toInt 0 1)) (fun (u : Int32 × Int32 × Int32 × Int32 × Int32 × Int32 × (Nat → Int32)) (t : State) => bRW g (tyT cI cJ cB cZ cL) (va_A [(fa, .inr (3, [.int fa_begins, .int fa_length, .int fa_cards, .int fa_round, .int fa_rule0, .int fa_rule1, .ref fa_yearOf])), (fa_yearOf, .inl (cI, 16, .inl fa_yearOf_c))] sz) (match u with | (n_fa_begins, n_fa_length, n_fa_cards, n_fa_round, n_fa_rule0, n_fa_rule1, n_fa_yearOf_c) => [(fa, .inr (3, [.int n_fa_begins, .int n_fa_length, .int n_fa_cards, .int n_fa_round, .int n_fa_rule0, .int n_fa_rule1, .ref fa_yearOf])), (fa_yearOf, .inl (cI, 16, .inl n_fa_yearOf_c))]) t) (va_A [(fa, .inr (3, [.int fa_begins, .int fa_length, .int fa_cards, .int fa_round, .int fa_rule0, .int fa_rule1, .ref fa_yearOf])), (fa_yearOf, .inl (cI, 16, .inl fa_yearOf_c))] sz)) 0 0 (va_A [(fa, .inr (3, [.int fa_begins, .int fa_length, .int fa_cards, .int fa_round, .int fa_rule0, .int fa_rule1, .ref fa_yearOf])), (fa_yearOf, .inl (cI, 16, .inl fa_yearOf_c))] sz) := by
  refine Met.ofW (cc := cX3_everDies) (maxL := 4) (ret := (some .boolean)) (by decide) rfl ?_
  intro p e s m args below meth c s₁ B hml hv
  obtain ⟨rfl, hsz, hP, hK, hD0⟩ := hv
  have hx := B.exec
  have hb := B.bytes
  have hr := B.returns
  have hts := atoms_spec (ws := v_X3_everDies) B.pre
  have hown : s.vm.findClass RX3 = some m.cls := findClass_of_methodNamed B.named
  have hlocks := B.notSynchronized
  clear B
  subst hsz
  have hD := hD0.self (sz := s.heap.size)
  generalize hAe : (va_A [(fa, .inr (3, [.int fa_begins, .int fa_length, .int fa_cards, .int fa_round, .int fa_rule0, .int fa_rule1, .ref fa_yearOf])), (fa_yearOf, .inl (cI, 16, .inl fa_yearOf_c))] s.heap.size) = A at hD ⊢
  have hA : ∀ q : Nat, s.heap.size ≤ q → A q := fun q h => by rw [← hAe]; exact Or.inr h
  have hS : va_S A s.heap s.heap [] := va_S.rf
  have hl := lv_entry ([.ref fa, .int p0, .int p1]) (n := 4) (Nat.le_of_ble_eq_true rfl)
  rw [lg_entry_eq]
  generalize (lg_sl ([.ref fa, .int p0, .int p1]) ++ List.replicate (4 - (lg_sl ([.ref fa, .int p0, .int p1])).length) Slot.unset).toArray = ls at hl ⊢
  generalize ([.ref fa, .int p0, .int p1] : List Value).toArray = av at hts ⊢
  generalize hQ : MQ below _ av s _ _ A = QQ
  have hl : lv_has ls 4 [(0, .ref fa), (1, .int p0), (2, .int p1)] := hl
  have hP : va_P g vwCl [(fa, .inr (3, [.int fa_begins, .int fa_length, .int fa_cards, .int fa_round, .int fa_rule0, .int fa_rule1, .ref fa_yearOf])), (fa_yearOf, .inl (cI, 16, .inl fa_yearOf_c))] s.heap := hP
  refine lv_iconst (v := 0) hx hb dX3_everDies_0 (by decide) ?_
  refine lv_istore_n (lv' := [(3, .int 0), (0, .ref fa), (1, .int p0), (2, .int p1)]) hx hb dX3_everDies_1 rfl hl (by decide) rfl (fun ls hl => ?_)
  have J2 : ∀ (n2 : Nat) (j2_l3 : Int32) (j2_fa_begins : Int32) (j2_fa_length : Int32) (j2_fa_cards : Int32) (j2_fa_round : Int32) (j2_fa_rule0 : Int32) (j2_fa_rule1 : Int32) (j2_fa_yearOf_c : Nat → Int32) (H : Heap) (locs : List Loc) (ls : Array Slot), (17 - j2_l3.toInt).toNat < n2 → (ir j2_l3.toInt 0 16) → (ir j2_fa_round.toInt 0 15) → va_P g vwCl [(fa, .inr (3, [.int j2_fa_begins, .int j2_fa_length, .int j2_fa_cards, .int j2_fa_round, .int j2_fa_rule0, .int j2_fa_rule1, .ref fa_yearOf])), (fa_yearOf, .inl (cI, 16, .inl j2_fa_yearOf_c))] H → va_D A [(fa, .inr (3, [.int j2_fa_begins, .int j2_fa_length, .int j2_fa_cards, .int j2_fa_round, .int j2_fa_rule0, .int j2_fa_rule1, .ref fa_yearOf])), (fa_yearOf, .inl (cI, 16, .inl j2_fa_yearOf_c))] → va_S A s.heap H locs → lv_has ls 4 [(0, .ref fa), (1, .int p0), (2, .int p1), (3, .int j2_l3)] → W p l e (headSpec v_X3_everDies ({ frames := 4, cells := 0, slots := 0, locals := 94 })).room s m av below meth c H locs 0 0 QQ (F0 m 2 ls []) := by
    intro n2
    induction n2 with
    | zero => exact fun j2_l3 j2_fa_begins j2_fa_length j2_fa_cards j2_fa_round j2_fa_rule0 j2_fa_rule1 j2_fa_yearOf_c H locs ls hn => absurd hn (Nat.not_lt_zero _)
    | succ n2 ih2 =>
      intro j2_l3 j2_fa_begins j2_fa_length j2_fa_cards j2_fa_round j2_fa_rule0 j2_fa_rule1 j2_fa_yearOf_c H locs ls hn2 hj2_l3 hj2_fa_round hP hD hS hl
      refine lv_iload_n hx hb dX3_everDies_2 rfl (lv_at hl 3 rfl) ?_
      refine lv_bipush (v := 16) hx hb dX3_everDies_3 (by decide) ?_
      refine lv_icmp_ge (tgt := 30) hx hb dX3_everDies_5 (by decide) (fun c5 => ?_) (fun c5 => ?_)
      · have f5 := (show 16 ≤ j2_l3.toInt from z_le rfl rfl c5)
        have r5a : ir j2_l3.toInt 16 16 := ir_leb f5 (ir_c 16) hj2_l3 (by decide)
        refine lv_iconst (v := 0) hx hb dX3_everDies_30 (by decide) ?_
        subst hQ
        have hP9 := hP.sub (ws' := [(fa, .inr (3, [.int j2_fa_begins, .int j2_fa_length, .int j2_fa_cards, .int j2_fa_round, .int j2_fa_rule0, .int j2_fa_rule1, .ref fa_yearOf])), (fa_yearOf, .inl (cI, 16, .inl j2_fa_yearOf_c))]) [0, 1] rfl
        have hD9 := hD.sub (ws' := [(fa, .inr (3, [.int j2_fa_begins, .int j2_fa_length, .int j2_fa_cards, .int j2_fa_round, .int j2_fa_rule0, .int j2_fa_rule1, .ref fa_yearOf])), (fa_yearOf, .inl (cI, 16, .inl j2_fa_yearOf_c))]) [0, 1] (by decide) rfl
        exact W.zret (v := 0) hx hb hr rfl (fun t ht hW => ⟨⟨0, (j2_fa_begins, j2_fa_length, j2_fa_cards, j2_fa_round, j2_fa_rule0, j2_fa_rule1, j2_fa_yearOf_c), rfl, ⟨hj2_fa_round, (show ir (0 : Int32).toInt 0 1 by decide)⟩, ⟨by rw [ht]; exact hP9, va_K.moved hW.alike hK, hD9⟩⟩, hS.F ht⟩) hS.2.2 dX3_everDies_31
      have f5 := (show j2_l3.toInt < 16 from z_nle rfl rfl c5)
      have r5a : ir j2_l3.toInt 0 15 := ir_lta f5 hj2_l3 (ir_c 16) (by decide)
      refine lv_aload_n hx hb dX3_everDies_8 rfl (lv_at hl 0 rfl) ?_
      refine lv_iload_n hx hb dX3_everDies_9 rfl (lv_at hl 1 rfl) ?_
      refine lv_iload_n hx hb dX3_everDies_10 rfl (lv_at hl 2 rfl) ?_
      refine lv_iload_n hx hb dX3_everDies_11 rfl (lv_at hl 3 rfl) ?_
      refine rw_v (wr := []) (va_runV (As := [.int p0, .int p1, .int j2_l3]) (rest := []) ⟨hx, hb, hml, hown, hts⟩ (q_X3_find l g cI cJ cB cZ cL p0 p1 j2_l3 fa j2_fa_begins j2_fa_length j2_fa_cards j2_fa_round j2_fa_rule0 j2_fa_rule1 fa_yearOf j2_fa_yearOf_c H.size r5a hj2_fa_round) (cwV 3 hts (goodIn_app (g_4 (List.mem_cons_of_mem _ (List.mem_append_left _ (List.mem_of_getElem? (i := 0) rfl))) (List.mem_cons_of_mem _ (List.mem_append_left _ (List.mem_of_getElem? (i := 1) rfl))) (List.mem_cons_of_mem _ (List.mem_append_left _ (List.mem_of_getElem? (i := 2) rfl))) (List.mem_cons_of_mem _ (List.mem_append_left _ (List.mem_of_getElem? (i := 3) rfl))) (by decide +kernel)) (goodIn_sub (fun _ h => List.mem_cons_of_mem _ (List.mem_append_right _ (List.mem_append_left _ h))) good_v_X3_find)) rfl rfl rfl (by decide +kernel) ⟨Nat.le_of_ble_eq_true rfl, Nat.le_of_ble_eq_true rfl⟩) (pv_RW (q := (RX3, TX3, 7)) (ci := 3) (q0 := 0) (wc := [(fa, .inr (3, [.int j2_fa_begins, .int j2_fa_length, .int j2_fa_cards, .int j2_fa_round, .int j2_fa_rule0, .int j2_fa_rule1, .ref fa_yearOf])), (fa_yearOf, .inl (cI, 16, .inl j2_fa_yearOf_c))]) hK hP hD [0, 1] (by decide) rfl rfl rfl) rfl rfl hl.1 rfl (lv_room (Nat.le_of_ble_eq_true rfl)) dX3_everDies_12 ⟨Nat.le_of_ble_eq_true rfl, Nat.le_of_ble_eq_true rfl⟩) hS hA hP hD [0, 1] [] rfl rfl (by decide) (by decide) (fun u12 H locs hw12 hP hD hS => ?_)
      obtain ⟨n_fa_begins_12, n_fa_length_12, n_fa_cards_12, n_fa_round_12, n_fa_rule0_12, n_fa_rule1_12, n_fa_yearOf_c_12⟩ := u12
      have hP : va_P g vwCl [(fa, .inr (3, [.int n_fa_begins_12, .int n_fa_length_12, .int n_fa_cards_12, .int n_fa_round_12, .int n_fa_rule0_12, .int n_fa_rule1_12, .ref fa_yearOf])), (fa_yearOf, .inl (cI, 16, .inl n_fa_yearOf_c_12))] H := hP
      have hD : va_D A [(fa, .inr (3, [.int n_fa_begins_12, .int n_fa_length_12, .int n_fa_cards_12, .int n_fa_round_12, .int n_fa_rule0_12, .int n_fa_rule1_12, .ref fa_yearOf])), (fa_yearOf, .inl (cI, 16, .inl n_fa_yearOf_c_12))] := hD
      dsimp only at hw12
      have hw12_0 := hw12
      refine lv_aload_n hx hb dX3_everDies_15 rfl (lv_at hl 0 rfl) ?_
      refine ro_i (va_runV (As := []) (rest := []) ⟨hx, hb, hml, hown, hts⟩ (q_X3_kind l g cI cJ cB cZ cL fa n_fa_begins_12 n_fa_length_12 n_fa_cards_12 n_fa_round_12 n_fa_rule0_12 n_fa_rule1_12 fa_yearOf H.size hw12_0) (cwV 0 hts (goodIn_app (g_4 (List.mem_cons_of_mem _ (List.mem_append_left _ (List.mem_of_getElem? (i := 4) rfl))) (List.mem_cons_of_mem _ (List.mem_append_left _ (List.mem_of_getElem? (i := 5) rfl))) (List.mem_cons_of_mem _ (List.mem_append_left _ (List.mem_of_getElem? (i := 6) rfl))) (List.mem_cons_of_mem _ (List.mem_append_left _ (List.mem_of_getElem? (i := 3) rfl))) (by decide +kernel)) (goodIn_sub (fun _ h => List.mem_cons_of_mem _ (List.mem_append_right _ (List.mem_append_right _ (List.mem_append_left _ h)))) good_v_X3_kind)) rfl rfl rfl (by decide +kernel) ⟨Nat.le_of_ble_eq_true rfl, Nat.le_of_ble_eq_true rfl⟩) (pv_RO (q := (RX3, TX3, 7)) (ci := 3) (q0 := 0) (wc := [(fa, .inr (3, [.int n_fa_begins_12, .int n_fa_length_12, .int n_fa_cards_12, .int n_fa_round_12, .int n_fa_rule0_12, .int n_fa_rule1_12, .ref fa_yearOf]))]) hK hP [0] rfl rfl rfl) rfl rfl hl.1 rfl (lv_room (Nat.le_of_ble_eq_true rfl)) dX3_everDies_16 ⟨Nat.le_of_ble_eq_true rfl, Nat.le_of_ble_eq_true rfl⟩) hS hA hP (fun r16 u16 H locs hw16 hP hS => ?_)
      have hw16_0 := hw16
      refine lv_if_ne (tgt := 24) hx hb dX3_everDies_19 (by decide) (fun c19 => ?_) (fun c19 => ?_)
      rotate_left 1
      · have f19 := (show r16.toInt = 0 from z_eq rfl rfl c19)
        have r19a : ir r16.toInt 0 0 := ir_eqa f19 hw16_0 (ir_c 0) (by decide) (by decide)
        refine lv_iconst (v := 1) hx hb dX3_everDies_22 (by decide) ?_
        subst hQ
        have hP9 := hP.sub (ws' := [(fa, .inr (3, [.int n_fa_begins_12, .int n_fa_length_12, .int n_fa_cards_12, .int n_fa_round_12, .int n_fa_rule0_12, .int n_fa_rule1_12, .ref fa_yearOf])), (fa_yearOf, .inl (cI, 16, .inl n_fa_yearOf_c_12))]) [0, 1] rfl
        have hD9 := hD.sub (ws' := [(fa, .inr (3, [.int n_fa_begins_12, .int n_fa_length_12, .int n_fa_cards_12, .int n_fa_round_12, .int n_fa_rule0_12, .int n_fa_rule1_12, .ref fa_yearOf])), (fa_yearOf, .inl (cI, 16, .inl n_fa_yearOf_c_12))]) [0, 1] (by decide) rfl
        exact W.zret (v := 1) hx hb hr rfl (fun t ht hW => ⟨⟨1, (n_fa_begins_12, n_fa_length_12, n_fa_cards_12, n_fa_round_12, n_fa_rule0_12, n_fa_rule1_12, n_fa_yearOf_c_12), rfl, ⟨hw12_0, (show ir (1 : Int32).toInt 0 1 by decide)⟩, ⟨by rw [ht]; exact hP9, va_K.moved hW.alike hK, hD9⟩⟩, hS.F ht⟩) hS.2.2 dX3_everDies_23
      have f19 := (show r16.toInt ≠ 0 from z_ne rfl rfl c19)
      have r19a : ir r16.toInt 1 2 := ir_nel f19 hw16_0 (by decide) (by decide)
      obtain ⟨y24, e24⟩ : ∃ y : Int32, y = j2_l3 + 1 := ⟨_, rfl⟩
      have q24 : y24.toInt = j2_l3.toInt + 1 := by rw [e24]; exact ad_z rfl rfl r5a (ir_c 1) (by decide) (by decide)
      have r24 : ir y24.toInt 1 16 := ad_r q24 r5a (ir_c 1) (by decide) (by decide)
      refine lv_iinc (v := y24) (lv' := [(3, .int y24), (0, .ref fa), (1, .int p0), (2, .int p1)]) hx hb dX3_everDies_24 hl (k := 3) rfl e24.symm (by decide) rfl (fun ls hl => ?_)
      refine lv_goto (tgt := 2) hx hb dX3_everDies_27 (by decide) ?_
      exact ih2 y24 n_fa_begins_12 n_fa_length_12 n_fa_cards_12 n_fa_round_12 n_fa_rule0_12 n_fa_rule1_12 n_fa_yearOf_c_12 _ _ _ (by omega) (ir_w r24 (by decide) (by decide)) hw12_0 (hP.sub [0, 1] rfl) (hD.sub [0, 1] (by decide) rfl) hS (lv_sub hl [1, 2, 3, 0] rfl)
  exact J2 _ 0 fa_begins fa_length fa_cards fa_round fa_rule0 fa_rule1 fa_yearOf_c _ _ _ (Nat.lt_succ_self _) (by decide) hv_fa_round (hP.sub [0, 1] rfl) (hD.sub [0, 1] (by decide) rfl) hS (lv_sub hl [1, 2, 3, 0] rfl)
def v_X3_isIn : List Cond := .code yX3_isIn cX3_isIn 2 (some .boolean) :: (([.fieldLink RX3 9 "CardsAtYule$Fate" "yearOf" "[I", .fieldLink RX3 35 "CardsAtYule$Fate" "begins" "I"] : List Cond) ++ (wsX30 ++ ([] : List Cond)))
theorem good_v_X3_isIn : v_X3_isIn.all goodWord = true := ga_c (by decide +kernel) (ga_a (by decide +kernel) (ga_a good_wsX30 rfl))
set_option maxHeartbeats 4000000 in
set_option maxRecDepth 100000 in
theorem q_X3_isIn (l : Launch) (g : va_G) (cI cJ cB cZ cL : ClassId) (p0 : Int32) (fa : Nat) (fa_begins : Int32) (fa_length : Int32) (fa_cards : Int32) (fa_round : Int32) (fa_rule0 : Int32) (fa_rule1 : Int32) (fa_yearOf : Nat) (fa_yearOf_c : Nat → Int32) (sz : Nat) (hv_p0 : ir p0.toInt 0 15) (hv_fa_round : ir fa_round.toInt 0 15) : Met l yX3_isIn v_X3_isIn ({ frames := 0, cells := 0, slots := 0, locals := 0 }) (va_Pc [.ref fa, .int p0] (pRO g (tyT cI cJ cB cZ cL) [(fa, .inr (3, [.int fa_begins, .int fa_length, .int fa_cards, .int fa_round, .int fa_rule0, .int fa_rule1, .ref fa_yearOf])), (fa_yearOf, .inl (cI, 16, .inl fa_yearOf_c))] sz)) (va_Qi (fun (r : Int32) (u : Unit) => (ir r.toInt 0 1)) (fun (_ : Unit) (_ : State) => True) (va_A [] sz)) 0 0 (va_A [] sz) := by
  refine Met.ofW (cc := cX3_isIn) (maxL := 2) (ret := (some .boolean)) (by decide) rfl ?_
  intro p e s m args below meth c s₁ B hml hv
  obtain ⟨rfl, hsz, hP, hK⟩ := hv
  have hx := B.exec
  have hb := B.bytes
  have hr := B.returns
  have hts := atoms_spec (ws := v_X3_isIn) B.pre
  have hown : s.vm.findClass RX3 = some m.cls := findClass_of_methodNamed B.named
  have hlocks := B.notSynchronized
  clear B
  subst hsz
  have iX3 : ∀ w ∈ wsX30, w ∈ v_X3_isIn := (fun _ h => List.mem_cons_of_mem _ (List.mem_append_right _ (List.mem_append_left _ h)))
  generalize hAe : (va_A [] s.heap.size) = A
  have hA : ∀ q : Nat, s.heap.size ≤ q → A q := fun q h => by rw [← hAe]; exact Or.inr h
  have hS : va_S A s.heap s.heap [] := va_S.rf
  have hl := lv_entry ([.ref fa, .int p0]) (n := 2) (Nat.le_of_ble_eq_true rfl)
  rw [lg_entry_eq]
  generalize (lg_sl ([.ref fa, .int p0]) ++ List.replicate (2 - (lg_sl ([.ref fa, .int p0])).length) Slot.unset).toArray = ls at hl ⊢
  generalize ([.ref fa, .int p0] : List Value).toArray = av at hts ⊢
  generalize hQ : MQ below _ av s _ _ A = QQ
  have hl : lv_has ls 2 [(0, .ref fa), (1, .int p0)] := hl
  have hP : va_P g vwCl [(fa, .inr (3, [.int fa_begins, .int fa_length, .int fa_cards, .int fa_round, .int fa_rule0, .int fa_rule1, .ref fa_yearOf])), (fa_yearOf, .inl (cI, 16, .inl fa_yearOf_c))] s.heap := hP
  refine lv_aload_n hx hb dX3_isIn_0 rfl (lv_at hl 0 rfl) ?_
  refine va_get (D := g) (ci := 3) (v := .ref fa_yearOf) (C := RX3) (T := TX3) (N := 7) hx hb hts iX3 hown hK hP 0 rfl rfl 6 (by decide) (hts (.fieldLink RX3 9 "CardsAtYule$Fate" "yearOf" "[I") (List.mem_cons_of_mem _ (List.mem_append_left _ (List.mem_of_getElem? (i := 0) rfl)))) (fun _ h9 => h9) rfl dX3_isIn_1 ?_
  refine lv_iload_n hx hb dX3_isIn_4 rfl (lv_at hl 1 rfl) ?_
  refine va_iald (D := g) hx hb hK hP 1 0 rfl rfl (vi_rg rfl hv_p0 (by decide) (by decide)) dX3_isIn_5 ?_
  refine lv_topi (fun y5 e5 => ?_)
  refine lv_aload_n hx hb dX3_isIn_6 rfl (lv_at hl 0 rfl) ?_
  refine va_get (D := g) (ci := 3) (v := .int fa_begins) (C := RX3) (T := TX3) (N := 7) hx hb hts iX3 hown hK hP 0 rfl rfl 0 (by decide) (hts (.fieldLink RX3 35 "CardsAtYule$Fate" "begins" "I") (List.mem_cons_of_mem _ (List.mem_append_left _ (List.mem_of_getElem? (i := 1) rfl)))) (fun _ h9 => h9) rfl dX3_isIn_7 ?_
  refine lv_icmp_lt (tgt := 17) hx hb dX3_isIn_10 (by decide) (fun c10 => ?_) (fun c10 => ?_)
  rotate_left 1
  · have f10 := (show fa_begins.toInt ≤ y5.toInt from z_nlt rfl rfl c10)
    refine lv_iconst (v := 1) hx hb dX3_isIn_13 (by decide) ?_
    refine lv_goto (tgt := 18) hx hb dX3_isIn_14 (by decide) ?_
    subst hQ
    exact W.zret (v := 1) hx hb hr rfl (fun t ht hW => ⟨⟨1, (), rfl, (show ir (1 : Int32).toInt 0 1 by decide), trivial⟩, hS.F ht⟩) hS.2.2 dX3_isIn_18
  have f10 := (show y5.toInt < fa_begins.toInt from z_lt rfl rfl c10)
  have r10a : ir y5.toInt (-2147483648) 2147483646 := ir_lta f10 (rg_all y5) (rg_all fa_begins) (by decide)
  have r10b : ir fa_begins.toInt (-2147483647) 2147483647 := ir_ltb f10 (rg_all y5) (rg_all fa_begins) (by decide)
  refine lv_iconst (v := 0) hx hb dX3_isIn_17 (by decide) ?_
  subst hQ
  exact W.zret (v := 0) hx hb hr rfl (fun t ht hW => ⟨⟨0, (), rfl, (show ir (0 : Int32).toInt 0 1 by decide), trivial⟩, hS.F ht⟩) hS.2.2 dX3_isIn_18
def v_X3_withLoss : List Cond := .code yX3_withLoss cX3_withLoss 5 (some .int) :: (([.fieldLink RX3 32 "CardsAtYule$Fate" "round" "I", .methodLink RX3 28 yX3_next, .instanceMethod yX3_next, .selects RX3 yX3_next yX3_next, .initialized RX3] : List Cond) ++ (v_X3_next ++ (wsX30 ++ ([] : List Cond))))
theorem good_v_X3_withLoss : v_X3_withLoss.all goodWord = true := ga_c (by decide +kernel) (ga_a (by decide +kernel) (ga_a good_v_X3_next (ga_a good_wsX30 rfl)))
set_option maxHeartbeats 4000000 in
set_option maxRecDepth 100000 in
theorem q_X3_withLoss (l : Launch) (g : va_G) (cI cJ cB cZ cL : ClassId) (p0 : Int32) (p1 : Int32) (fa : Nat) (fa_begins : Int32) (fa_length : Int32) (fa_cards : Int32) (fa_round : Int32) (fa_rule0 : Int32) (fa_rule1 : Int32) (fa_yearOf : Nat) (sz : Nat) (hv_fa_round : ir fa_round.toInt 0 15) : Met l yX3_withLoss v_X3_withLoss ({ frames := 3, cells := 0, slots := 0, locals := 68 }) (va_Pc [.ref fa, .int p0, .int p1] (pRO g (tyT cI cJ cB cZ cL) [(fa, .inr (3, [.int fa_begins, .int fa_length, .int fa_cards, .int fa_round, .int fa_rule0, .int fa_rule1, .ref fa_yearOf]))] sz)) (va_Qi (fun (r : Int32) (u : Unit) => (ir r.toInt 0 15)) (fun (_ : Unit) (_ : State) => True) (va_A [] sz)) 0 0 (va_A [] sz) := by
  refine Met.ofW (cc := cX3_withLoss) (maxL := 5) (ret := (some .int)) (by decide) rfl ?_
  intro p e s m args below meth c s₁ B hml hv
  obtain ⟨rfl, hsz, hP, hK⟩ := hv
  have hx := B.exec
  have hb := B.bytes
  have hr := B.returns
  have hts := atoms_spec (ws := v_X3_withLoss) B.pre
  have hown : s.vm.findClass RX3 = some m.cls := findClass_of_methodNamed B.named
  have hlocks := B.notSynchronized
  clear B
  subst hsz
  have iX3 : ∀ w ∈ wsX30, w ∈ v_X3_withLoss := (fun _ h => List.mem_cons_of_mem _ (List.mem_append_right _ (List.mem_append_right _ (List.mem_append_left _ h))))
  generalize hAe : (va_A [] s.heap.size) = A
  have hA : ∀ q : Nat, s.heap.size ≤ q → A q := fun q h => by rw [← hAe]; exact Or.inr h
  have hS : va_S A s.heap s.heap [] := va_S.rf
  have hl := lv_entry ([.ref fa, .int p0, .int p1]) (n := 5) (Nat.le_of_ble_eq_true rfl)
  rw [lg_entry_eq]
  generalize (lg_sl ([.ref fa, .int p0, .int p1]) ++ List.replicate (5 - (lg_sl ([.ref fa, .int p0, .int p1])).length) Slot.unset).toArray = ls at hl ⊢
  generalize ([.ref fa, .int p0, .int p1] : List Value).toArray = av at hts ⊢
  generalize hQ : MQ below _ av s _ _ A = QQ
  have hl : lv_has ls 5 [(0, .ref fa), (1, .int p0), (2, .int p1)] := hl
  have hP : va_P g vwCl [(fa, .inr (3, [.int fa_begins, .int fa_length, .int fa_cards, .int fa_round, .int fa_rule0, .int fa_rule1, .ref fa_yearOf]))] s.heap := hP
  refine lv_aload_n hx hb dX3_withLoss_0 rfl (lv_at hl 0 rfl) ?_
  refine va_get (D := g) (ci := 3) (v := .int fa_round) (C := RX3) (T := TX3) (N := 7) hx hb hts iX3 hown hK hP 0 rfl rfl 3 (by decide) (hts (.fieldLink RX3 32 "CardsAtYule$Fate" "round" "I") (List.mem_cons_of_mem _ (List.mem_append_left _ (List.mem_of_getElem? (i := 0) rfl)))) (fun _ h9 => h9) rfl dX3_withLoss_1 ?_
  refine lv_istore_n (lv' := [(3, .int fa_round), (0, .ref fa), (1, .int p0), (2, .int p1)]) hx hb dX3_withLoss_4 rfl hl (by decide) rfl (fun ls hl => ?_)
  refine lv_iconst (v := 0) hx hb dX3_withLoss_5 (by decide) ?_
  refine lv_istore (lv' := [(4, .int 0), (3, .int fa_round), (0, .ref fa), (1, .int p0), (2, .int p1)]) hx hb dX3_withLoss_6 hl (by decide) rfl (fun ls hl => ?_)
  have J8 : ∀ (n8 : Nat) (j8_l3 : Int32) (j8_l4 : Int32) (H : Heap) (locs : List Loc) (ls : Array Slot), (2147483648 - j8_l4.toInt).toNat < n8 → (ir j8_l3.toInt 0 15) → (ir j8_l4.toInt 0 2147483647) → va_P g vwCl [(fa, .inr (3, [.int fa_begins, .int fa_length, .int fa_cards, .int fa_round, .int fa_rule0, .int fa_rule1, .ref fa_yearOf]))] H → va_S A s.heap H locs → lv_has ls 5 [(0, .ref fa), (1, .int p0), (2, .int p1), (3, .int j8_l3), (4, .int j8_l4)] → W p l e (headSpec v_X3_withLoss ({ frames := 3, cells := 0, slots := 0, locals := 68 })).room s m av below meth c H locs 0 0 QQ (F0 m 8 ls []) := by
    intro n8
    induction n8 with
    | zero => exact fun j8_l3 j8_l4 H locs ls hn => absurd hn (Nat.not_lt_zero _)
    | succ n8 ih8 =>
      intro j8_l3 j8_l4 H locs ls hn8 hj8_l3 hj8_l4 hP hS hl
      refine lv_iload hx hb dX3_withLoss_8 (lv_at hl 4 rfl) ?_
      refine lv_iload_n hx hb dX3_withLoss_10 rfl (lv_at hl 1 rfl) ?_
      refine lv_icmp_ge (tgt := 27) hx hb dX3_withLoss_11 (by decide) (fun c11 => ?_) (fun c11 => ?_)
      rotate_left 1
      · have f11 := (show j8_l4.toInt < p0.toInt from z_nle rfl rfl c11)
        have r11a : ir j8_l4.toInt 0 2147483646 := ir_lta f11 hj8_l4 (rg_all p0) (by decide)
        have r11b : ir p0.toInt 1 2147483647 := ir_ltb f11 hj8_l4 (rg_all p0) (by decide)
        refine lv_aload_n hx hb dX3_withLoss_14 rfl (lv_at hl 0 rfl) ?_
        refine lv_iload_n hx hb dX3_withLoss_15 rfl (lv_at hl 3 rfl) ?_
        refine lv_iconst (v := 3) hx hb dX3_withLoss_16 (by decide) ?_
        refine ro_i (va_runV (As := [.int j8_l3, .int 3]) (rest := []) ⟨hx, hb, hml, hown, hts⟩ (q_X3_next l g cI cJ cB cZ cL j8_l3 3 fa fa_begins fa_length fa_cards fa_round fa_rule0 fa_rule1 fa_yearOf H.size hv_fa_round) (cwV 2 hts (goodIn_app (g_4 (List.mem_cons_of_mem _ (List.mem_append_left _ (List.mem_of_getElem? (i := 1) rfl))) (List.mem_cons_of_mem _ (List.mem_append_left _ (List.mem_of_getElem? (i := 2) rfl))) (List.mem_cons_of_mem _ (List.mem_append_left _ (List.mem_of_getElem? (i := 3) rfl))) (List.mem_cons_of_mem _ (List.mem_append_left _ (List.mem_of_getElem? (i := 4) rfl))) (by decide +kernel)) (goodIn_sub (fun _ h => List.mem_cons_of_mem _ (List.mem_append_right _ (List.mem_append_left _ h))) good_v_X3_next)) rfl rfl rfl (by decide +kernel) ⟨Nat.le_of_ble_eq_true rfl, Nat.le_of_ble_eq_true rfl⟩) (pv_RO (q := (RX3, TX3, 7)) (ci := 3) (q0 := 0) (wc := [(fa, .inr (3, [.int fa_begins, .int fa_length, .int fa_cards, .int fa_round, .int fa_rule0, .int fa_rule1, .ref fa_yearOf]))]) hK hP [0] rfl rfl rfl) rfl rfl hl.1 rfl (lv_room (Nat.le_of_ble_eq_true rfl)) dX3_withLoss_17 ⟨Nat.le_of_ble_eq_true rfl, Nat.le_of_ble_eq_true rfl⟩) hS hA hP (fun r17 u17 H locs hw17 hP hS => ?_)
        have hw17_0 := hw17
        refine lv_istore_n (lv' := [(3, .int r17), (0, .ref fa), (1, .int p0), (2, .int p1), (4, .int j8_l4)]) hx hb dX3_withLoss_20 rfl hl (by decide) rfl (fun ls hl => ?_)
        obtain ⟨y21, e21⟩ : ∃ y : Int32, y = j8_l4 + 1 := ⟨_, rfl⟩
        have q21 : y21.toInt = j8_l4.toInt + 1 := by rw [e21]; exact ad_z rfl rfl r11a (ir_c 1) (by decide) (by decide)
        have r21 : ir y21.toInt 1 2147483647 := ad_r q21 r11a (ir_c 1) (by decide) (by decide)
        refine lv_iinc (v := y21) (lv' := [(4, .int y21), (3, .int r17), (0, .ref fa), (1, .int p0), (2, .int p1)]) hx hb dX3_withLoss_21 hl (k := 4) rfl e21.symm (by decide) rfl (fun ls hl => ?_)
        refine lv_goto (tgt := 8) hx hb dX3_withLoss_24 (by decide) ?_
        exact ih8 r17 y21 _ _ _ (by omega) hw17_0 (ir_w r21 (by decide) (by decide)) (hP.sub [0] rfl) hS (lv_sub hl [2, 3, 4, 1, 0] rfl)
      have f11 := (show p0.toInt ≤ j8_l4.toInt from z_le rfl rfl c11)
      refine lv_aload_n hx hb dX3_withLoss_27 rfl (lv_at hl 0 rfl) ?_
      refine lv_iload_n hx hb dX3_withLoss_28 rfl (lv_at hl 3 rfl) ?_
      refine lv_iconst (v := 3) hx hb dX3_withLoss_29 (by decide) ?_
      refine lv_iconst (v := 1) hx hb dX3_withLoss_30 (by decide) ?_
      refine lv_iload_n hx hb dX3_withLoss_31 rfl (lv_at hl 2 rfl) ?_
      refine lv_ishl hx hb dX3_withLoss_32 ?_
      refine lv_topi (fun y32 e32 => ?_)
      refine lv_iconst (v := (-1)) hx hb dX3_withLoss_33 (by decide) ?_
      refine lv_ixor hx hb dX3_withLoss_34 ?_
      refine lv_topi (fun y34 e34 => ?_)
      refine lv_iand hx hb dX3_withLoss_35 ?_
      refine lv_topi (fun y35 e35 => ?_)
      have r35 : ir y35.toInt 0 3 := by rw [e35]; exact an_x rfl (ir_c 3) (by decide)
      refine ro_i (va_runV (As := [.int j8_l3, .int y35]) (rest := []) ⟨hx, hb, hml, hown, hts⟩ (q_X3_next l g cI cJ cB cZ cL j8_l3 y35 fa fa_begins fa_length fa_cards fa_round fa_rule0 fa_rule1 fa_yearOf H.size hv_fa_round) (cwV 2 hts (goodIn_app (g_4 (List.mem_cons_of_mem _ (List.mem_append_left _ (List.mem_of_getElem? (i := 1) rfl))) (List.mem_cons_of_mem _ (List.mem_append_left _ (List.mem_of_getElem? (i := 2) rfl))) (List.mem_cons_of_mem _ (List.mem_append_left _ (List.mem_of_getElem? (i := 3) rfl))) (List.mem_cons_of_mem _ (List.mem_append_left _ (List.mem_of_getElem? (i := 4) rfl))) (by decide +kernel)) (goodIn_sub (fun _ h => List.mem_cons_of_mem _ (List.mem_append_right _ (List.mem_append_left _ h))) good_v_X3_next)) rfl rfl rfl (by decide +kernel) ⟨Nat.le_of_ble_eq_true rfl, Nat.le_of_ble_eq_true rfl⟩) (pv_RO (q := (RX3, TX3, 7)) (ci := 3) (q0 := 0) (wc := [(fa, .inr (3, [.int fa_begins, .int fa_length, .int fa_cards, .int fa_round, .int fa_rule0, .int fa_rule1, .ref fa_yearOf]))]) hK hP [0] rfl rfl rfl) rfl rfl hl.1 rfl (lv_room (Nat.le_of_ble_eq_true rfl)) dX3_withLoss_36 ⟨Nat.le_of_ble_eq_true rfl, Nat.le_of_ble_eq_true rfl⟩) hS hA hP (fun r36 u36 H locs hw36 hP hS => ?_)
      have hw36_0 := hw36
      subst hQ
      exact W.iret (v := r36) hx hb hr (fun t ht hW => ⟨⟨r36, (), rfl, hw36_0, trivial⟩, hS.F ht⟩) hS.2.2 dX3_withLoss_39
  exact J8 _ fa_round 0 _ _ _ (Nat.lt_succ_self _) hv_fa_round (by decide) (hP.sub [0] rfl) hS (lv_sub hl [2, 3, 4, 1, 0] rfl)
def v_X9_sentBy : List Cond := .code yX9_sentBy cX9_sentBy 6 (some .int) :: (([.fieldLink RX9 23 "CardsAtYule$Will" "side" "I", .methodLink RX9 107 yX10_firsts, .static yX10_firsts, .initialized RX10, .methodLink RX9 110 yX10_returning, .static yX10_returning, .methodLink RX9 113 yX10_backs, .static yX10_backs, .fieldLink RX9 27 "CardsAtYule$Will" "rule" "I"] : List Cond) ++ (v_X10_firsts ++ (v_X10_returning ++ (v_X10_backs ++ (wsX90 ++ ([] : List Cond))))))
theorem good_v_X9_sentBy : v_X9_sentBy.all goodWord = true := ga_c (by decide +kernel) (ga_a (by decide +kernel) (ga_a good_v_X10_firsts (ga_a good_v_X10_returning (ga_a good_v_X10_backs (ga_a good_wsX90 rfl)))))
set_option maxHeartbeats 4000000 in
set_option maxRecDepth 100000 in
theorem q_X9_sentBy (l : Launch) (g : va_G) (cI cJ cB cZ cL : ClassId) (p0 : Int32) (p1 : Int32) (wi : Nat) (wi_side : Int32) (wi_rule : Int32) (wi_begun : Int32) (wi_years : Int32) (wi_card : Int32) (wi_hurt : Int32) (wi_isEnd : Int32) (wi_worth : Nat) (sz : Nat) (hv_wi_side : ir wi_side.toInt 0 1) (hv_wi_begun : ir wi_begun.toInt 0 15) (hv_wi_years : ir wi_years.toInt 0 12) (hv_wi_isEnd : ir wi_isEnd.toInt 0 1) : Met l yX9_sentBy v_X9_sentBy ({ frames := 1, cells := 0, slots := 0, locals := 23 }) (va_Pc [.ref wi, .int p0, .int p1] (pRO g (tyT cI cJ cB cZ cL) [(wi, .inr (9, [.int wi_side, .int wi_rule, .int wi_begun, .int wi_years, .int wi_card, .int wi_hurt, .int wi_isEnd, .ref wi_worth]))] sz)) (va_Qi (fun (r : Int32) (u : Unit) => True) (fun (_ : Unit) (_ : State) => True) (va_A [] sz)) 0 0 (va_A [] sz) := by
  refine Met.ofW (cc := cX9_sentBy) (maxL := 6) (ret := (some .int)) (by decide) rfl ?_
  intro p e s m args below meth c s₁ B hml hv
  obtain ⟨rfl, hsz, hP, hK⟩ := hv
  have hx := B.exec
  have hb := B.bytes
  have hr := B.returns
  have hts := atoms_spec (ws := v_X9_sentBy) B.pre
  have hown : s.vm.findClass RX9 = some m.cls := findClass_of_methodNamed B.named
  have hlocks := B.notSynchronized
  clear B
  subst hsz
  have iX9 : ∀ w ∈ wsX90, w ∈ v_X9_sentBy := (fun _ h => List.mem_cons_of_mem _ (List.mem_append_right _ (List.mem_append_right _ (List.mem_append_right _ (List.mem_append_right _ (List.mem_append_left _ h))))))
  generalize hAe : (va_A [] s.heap.size) = A
  have hA : ∀ q : Nat, s.heap.size ≤ q → A q := fun q h => by rw [← hAe]; exact Or.inr h
  have hS : va_S A s.heap s.heap [] := va_S.rf
  have hl := lv_entry ([.ref wi, .int p0, .int p1]) (n := 6) (Nat.le_of_ble_eq_true rfl)
  rw [lg_entry_eq]
  generalize (lg_sl ([.ref wi, .int p0, .int p1]) ++ List.replicate (6 - (lg_sl ([.ref wi, .int p0, .int p1])).length) Slot.unset).toArray = ls at hl ⊢
  generalize ([.ref wi, .int p0, .int p1] : List Value).toArray = av at hts ⊢
  generalize hQ : MQ below _ av s _ _ A = QQ
  have hl : lv_has ls 6 [(0, .ref wi), (1, .int p0), (2, .int p1)] := hl
  have hP : va_P g vwCl [(wi, .inr (9, [.int wi_side, .int wi_rule, .int wi_begun, .int wi_years, .int wi_card, .int wi_hurt, .int wi_isEnd, .ref wi_worth]))] s.heap := hP
  refine lv_aload_n hx hb dX9_sentBy_0 rfl (lv_at hl 0 rfl) ?_
  refine va_get (D := g) (ci := 9) (v := .int wi_side) (C := RX9) (T := TX9) (N := 8) hx hb hts iX9 hown hK hP 0 rfl rfl 0 (by decide) (hts (.fieldLink RX9 23 "CardsAtYule$Will" "side" "I") (List.mem_cons_of_mem _ (List.mem_append_left _ (List.mem_of_getElem? (i := 0) rfl)))) (fun _ h9 => h9) rfl dX9_sentBy_1 ?_
  have J15 : ∀ (j15_s0 : Int32) (H : Heap) (locs : List Loc) (ls : Array Slot), va_P g vwCl [(wi, .inr (9, [.int wi_side, .int wi_rule, .int wi_begun, .int wi_years, .int wi_card, .int wi_hurt, .int wi_isEnd, .ref wi_worth]))] H → va_S A s.heap H locs → lv_has ls 6 [(0, .ref wi), (1, .int p0), (2, .int p1)] → W p l e (headSpec v_X9_sentBy ({ frames := 1, cells := 0, slots := 0, locals := 23 })).room s m av below meth c H locs 0 0 QQ (F0 m 15 ls [.int j15_s0]) := by
    intro j15_s0 H locs ls  hP hS hl
    refine lv_istore_n (lv' := [(3, .int j15_s0), (0, .ref wi), (1, .int p0), (2, .int p1)]) hx hb dX9_sentBy_15 rfl hl (by decide) rfl (fun ls hl => ?_)
    refine lv_aload_n hx hb dX9_sentBy_16 rfl (lv_at hl 1 rfl) ?_
    refine va_get (D := g) (ci := 9) (v := .int wi_side) (C := RX9) (T := TX9) (N := 8) hx hb hts iX9 hown hK hP 0 rfl rfl 0 (by decide) (hts (.fieldLink RX9 23 "CardsAtYule$Will" "side" "I") (List.mem_cons_of_mem _ (List.mem_append_left _ (List.mem_of_getElem? (i := 0) rfl)))) (fun _ h9 => h9) rfl dX9_sentBy_17 ?_
    have J31 : ∀ (j31_s0 : Int32) (H : Heap) (locs : List Loc) (ls : Array Slot), va_P g vwCl [(wi, .inr (9, [.int wi_side, .int wi_rule, .int wi_begun, .int wi_years, .int wi_card, .int wi_hurt, .int wi_isEnd, .ref wi_worth]))] H → va_S A s.heap H locs → lv_has ls 6 [(0, .ref wi), (1, .int p0), (2, .int p1), (3, .int j15_s0)] → W p l e (headSpec v_X9_sentBy ({ frames := 1, cells := 0, slots := 0, locals := 23 })).room s m av below meth c H locs 0 0 QQ (F0 m 31 ls [.int j31_s0]) := by
      intro j31_s0 H locs ls  hP hS hl
      refine lv_istore (lv' := [(4, .int j31_s0), (0, .ref wi), (1, .int p0), (2, .int p1), (3, .int j15_s0)]) hx hb dX9_sentBy_31 hl (by decide) rfl (fun ls hl => ?_)
      refine lv_iload_n hx hb dX9_sentBy_33 rfl (lv_at hl 4 rfl) ?_
      refine lv_iload hx hb dX9_sentBy_34 (lv_at hl 0 rfl) ?_
      refine lv_iload_n hx hb dX9_sentBy_36 rfl (lv_at hl 2 rfl) ?_
      refine ro_i (va_runS (As := [.int j15_s0, .int j31_s0, .int p0]) (rest := []) ⟨hx, hb, hml, hown, hts⟩ (q_X10_firsts l g cI cJ cB cZ cL j15_s0 j31_s0 p0 H.size ) (va_cwS 3 hts (goodIn_app (g_3 (List.mem_cons_of_mem _ (List.mem_append_left _ (List.mem_of_getElem? (i := 1) rfl))) (List.mem_cons_of_mem _ (List.mem_append_left _ (List.mem_of_getElem? (i := 2) rfl))) (List.mem_cons_of_mem _ (List.mem_append_left _ (List.mem_of_getElem? (i := 3) rfl))) (by decide +kernel)) (goodIn_sub (fun _ h => List.mem_cons_of_mem _ (List.mem_append_right _ (List.mem_append_left _ h))) good_v_X10_firsts)) rfl rfl rfl (by decide +kernel) ⟨Nat.le_of_ble_eq_true rfl, Nat.le_of_ble_eq_true rfl⟩) (ps_RO (wc := []) hK hP [] rfl) rfl rfl hl.1 rfl (lv_room (Nat.le_of_ble_eq_true rfl)) dX9_sentBy_37 ⟨Nat.le_of_ble_eq_true rfl, Nat.le_of_ble_eq_true rfl⟩) hS hA hP (fun r37 u37 H locs hw37 hP hS => ?_)
      have hw37_0 := hw37
      refine lv_iload_n hx hb dX9_sentBy_40 rfl (lv_at hl 3 rfl) ?_
      refine lv_aload_n hx hb dX9_sentBy_41 rfl (lv_at hl 1 rfl) ?_
      refine va_get (D := g) (ci := 9) (v := .int wi_side) (C := RX9) (T := TX9) (N := 8) hx hb hts iX9 hown hK hP 0 rfl rfl 0 (by decide) (hts (.fieldLink RX9 23 "CardsAtYule$Will" "side" "I") (List.mem_cons_of_mem _ (List.mem_append_left _ (List.mem_of_getElem? (i := 0) rfl)))) (fun _ h9 => h9) rfl dX9_sentBy_42 ?_
      refine lv_ishl hx hb dX9_sentBy_45 ?_
      refine lv_topi (fun y45 e45 => ?_)
      refine lv_ior hx hb dX9_sentBy_46 ?_
      refine lv_topi (fun y46 e46 => ?_)
      refine lv_istore (lv' := [(5, .int y46), (4, .int j31_s0), (0, .ref wi), (1, .int p0), (2, .int p1), (3, .int j15_s0)]) hx hb dX9_sentBy_47 hl (by decide) rfl (fun ls hl => ?_)
      refine lv_iload hx hb dX9_sentBy_49 (lv_at hl 0 rfl) ?_
      refine lv_iload hx hb dX9_sentBy_51 (lv_at hl 0 rfl) ?_
      refine lv_iload_n hx hb dX9_sentBy_53 rfl (lv_at hl 5 rfl) ?_
      refine lv_iload hx hb dX9_sentBy_54 (lv_at hl 1 rfl) ?_
      refine ro_i (va_runS (As := [.int j15_s0, .int j31_s0]) (rest := [.int y46, .int y46]) ⟨hx, hb, hml, hown, hts⟩ (q_X10_returning l g cI cJ cB cZ cL j15_s0 j31_s0 H.size ) (va_cwS 2 hts (goodIn_app (g_3 (List.mem_cons_of_mem _ (List.mem_append_left _ (List.mem_of_getElem? (i := 4) rfl))) (List.mem_cons_of_mem _ (List.mem_append_left _ (List.mem_of_getElem? (i := 5) rfl))) (List.mem_cons_of_mem _ (List.mem_append_left _ (List.mem_of_getElem? (i := 3) rfl))) (by decide +kernel)) (goodIn_sub (fun _ h => List.mem_cons_of_mem _ (List.mem_append_right _ (List.mem_append_right _ (List.mem_append_left _ h)))) good_v_X10_returning)) rfl rfl rfl (by decide +kernel) ⟨Nat.le_of_ble_eq_true rfl, Nat.le_of_ble_eq_true rfl⟩) (ps_RO (wc := []) hK hP [] rfl) rfl rfl hl.1 rfl (lv_room (Nat.le_of_ble_eq_true rfl)) dX9_sentBy_56 ⟨Nat.le_of_ble_eq_true rfl, Nat.le_of_ble_eq_true rfl⟩) hS hA hP (fun r56 u56 H locs hw56 hP hS => ?_)
      have hw56_0 := hw56
      refine lv_iconst (v := 3) hx hb dX9_sentBy_59 (by decide) ?_
      refine ro_i (va_runS (As := [.int y46, .int r56, .int 3]) (rest := [.int y46]) ⟨hx, hb, hml, hown, hts⟩ (q_X10_backs l g cI cJ cB cZ cL y46 r56 3 H.size hw56_0) (va_cwS 3 hts (goodIn_app (g_3 (List.mem_cons_of_mem _ (List.mem_append_left _ (List.mem_of_getElem? (i := 6) rfl))) (List.mem_cons_of_mem _ (List.mem_append_left _ (List.mem_of_getElem? (i := 7) rfl))) (List.mem_cons_of_mem _ (List.mem_append_left _ (List.mem_of_getElem? (i := 3) rfl))) (by decide +kernel)) (goodIn_sub (fun _ h => List.mem_cons_of_mem _ (List.mem_append_right _ (List.mem_append_right _ (List.mem_append_right _ (List.mem_append_left _ h))))) good_v_X10_backs)) rfl rfl rfl (by decide +kernel) ⟨Nat.le_of_ble_eq_true rfl, Nat.le_of_ble_eq_true rfl⟩) (ps_RO (wc := []) hK hP [] rfl) rfl rfl hl.1 rfl (lv_room (Nat.le_of_ble_eq_true rfl)) dX9_sentBy_60 ⟨Nat.le_of_ble_eq_true rfl, Nat.le_of_ble_eq_true rfl⟩) hS hA hP (fun r60 u60 H locs hw60 hP hS => ?_)
      have hw60_0 := hw60
      refine lv_ior hx hb dX9_sentBy_63 ?_
      refine lv_topi (fun y63 e63 => ?_)
      subst hQ
      exact W.iret (v := y63) hx hb hr (fun t ht hW => ⟨⟨y63, (), rfl, trivial, trivial⟩, hS.F ht⟩) hS.2.2 dX9_sentBy_64
    refine lv_if_ne (tgt := 30) hx hb dX9_sentBy_20 (by decide) (fun c20 => ?_) (fun c20 => ?_)
    · have f20 := (show wi_side.toInt ≠ 0 from z_ne rfl rfl c20)
      have r20a : ir wi_side.toInt 1 1 := ir_nel f20 hv_wi_side (by decide) (by decide)
      refine lv_iconst (v := 0) hx hb dX9_sentBy_30 (by decide) ?_
      exact J31 0 _ _ _  (hP.sub [0] rfl) hS (lv_sub hl [1, 2, 3, 0] rfl)
    have f20 := (show wi_side.toInt = 0 from z_eq rfl rfl c20)
    have r20a : ir wi_side.toInt 0 0 := ir_eqa f20 hv_wi_side (ir_c 0) (by decide) (by decide)
    refine lv_aload_n hx hb dX9_sentBy_23 rfl (lv_at hl 1 rfl) ?_
    refine va_get (D := g) (ci := 9) (v := .int wi_rule) (C := RX9) (T := TX9) (N := 8) hx hb hts iX9 hown hK hP 0 rfl rfl 1 (by decide) (hts (.fieldLink RX9 27 "CardsAtYule$Will" "rule" "I") (List.mem_cons_of_mem _ (List.mem_append_left _ (List.mem_of_getElem? (i := 8) rfl)))) (fun _ h9 => h9) rfl dX9_sentBy_24 ?_
    refine lv_goto (tgt := 31) hx hb dX9_sentBy_27 (by decide) ?_
    exact J31 wi_rule _ _ _  (hP.sub [0] rfl) hS (lv_sub hl [1, 2, 3, 0] rfl)
  refine lv_if_ne (tgt := 11) hx hb dX9_sentBy_4 (by decide) (fun c4 => ?_) (fun c4 => ?_)
  rotate_left 1
  · have f4 := (show wi_side.toInt = 0 from z_eq rfl rfl c4)
    have r4a : ir wi_side.toInt 0 0 := ir_eqa f4 hv_wi_side (ir_c 0) (by decide) (by decide)
    refine lv_iconst (v := 0) hx hb dX9_sentBy_7 (by decide) ?_
    refine lv_goto (tgt := 15) hx hb dX9_sentBy_8 (by decide) ?_
    exact J15 0 _ _ _  (hP.sub [0] rfl) hS (lv_sub hl [0, 1, 2] rfl)
  have f4 := (show wi_side.toInt ≠ 0 from z_ne rfl rfl c4)
  have r4a : ir wi_side.toInt 1 1 := ir_nel f4 hv_wi_side (by decide) (by decide)
  refine lv_aload_n hx hb dX9_sentBy_11 rfl (lv_at hl 0 rfl) ?_
  refine va_get (D := g) (ci := 9) (v := .int wi_rule) (C := RX9) (T := TX9) (N := 8) hx hb hts iX9 hown hK hP 0 rfl rfl 1 (by decide) (hts (.fieldLink RX9 27 "CardsAtYule$Will" "rule" "I") (List.mem_cons_of_mem _ (List.mem_append_left _ (List.mem_of_getElem? (i := 8) rfl)))) (fun _ h9 => h9) rfl dX9_sentBy_12 ?_
  exact J15 wi_rule _ _ _  (hP.sub [0] rfl) hS (lv_sub hl [0, 1, 2] rfl)
def v_X9_next : List Cond := .code yX9_next cX9_next 3 (some .int) :: (([.methodLink RX9 90 yX9_sentBy, .instanceMethod yX9_sentBy, .selects RX9 yX9_sentBy yX9_sentBy, .initialized RX9, .methodLink RX9 102 yX10_swapped, .static yX10_swapped, .initialized RX10, .methodLink RX9 116 yX10_after, .static yX10_after] : List Cond) ++ (v_X9_sentBy ++ (v_X10_swapped ++ (v_X10_after ++ ([] : List Cond)))))
theorem good_v_X9_next : v_X9_next.all goodWord = true := ga_c (by decide +kernel) (ga_a (by decide +kernel) (ga_a good_v_X9_sentBy (ga_a good_v_X10_swapped (ga_a good_v_X10_after rfl))))
set_option maxHeartbeats 4000000 in
set_option maxRecDepth 100000 in
theorem q_X9_next (l : Launch) (g : va_G) (cI cJ cB cZ cL : ClassId) (p0 : Int32) (p1 : Int32) (wi : Nat) (wi_side : Int32) (wi_rule : Int32) (wi_begun : Int32) (wi_years : Int32) (wi_card : Int32) (wi_hurt : Int32) (wi_isEnd : Int32) (wi_worth : Nat) (sz : Nat) (hv_wi_side : ir wi_side.toInt 0 1) (hv_wi_begun : ir wi_begun.toInt 0 15) (hv_wi_years : ir wi_years.toInt 0 12) (hv_wi_isEnd : ir wi_isEnd.toInt 0 1) : Met l yX9_next v_X9_next ({ frames := 2, cells := 0, slots := 0, locals := 48 }) (va_Pc [.ref wi, .int p0, .int p1] (pRO g (tyT cI cJ cB cZ cL) [(wi, .inr (9, [.int wi_side, .int wi_rule, .int wi_begun, .int wi_years, .int wi_card, .int wi_hurt, .int wi_isEnd, .ref wi_worth]))] sz)) (va_Qi (fun (r : Int32) (u : Unit) => (ir r.toInt 0 15)) (fun (_ : Unit) (_ : State) => True) (va_A [] sz)) 0 0 (va_A [] sz) := by
  refine Met.ofW (cc := cX9_next) (maxL := 3) (ret := (some .int)) (by decide) rfl ?_
  intro p e s m args below meth c s₁ B hml hv
  obtain ⟨rfl, hsz, hP, hK⟩ := hv
  have hx := B.exec
  have hb := B.bytes
  have hr := B.returns
  have hts := atoms_spec (ws := v_X9_next) B.pre
  have hown : s.vm.findClass RX9 = some m.cls := findClass_of_methodNamed B.named
  have hlocks := B.notSynchronized
  clear B
  subst hsz
  generalize hAe : (va_A [] s.heap.size) = A
  have hA : ∀ q : Nat, s.heap.size ≤ q → A q := fun q h => by rw [← hAe]; exact Or.inr h
  have hS : va_S A s.heap s.heap [] := va_S.rf
  have hl := lv_entry ([.ref wi, .int p0, .int p1]) (n := 3) (Nat.le_of_ble_eq_true rfl)
  rw [lg_entry_eq]
  generalize (lg_sl ([.ref wi, .int p0, .int p1]) ++ List.replicate (3 - (lg_sl ([.ref wi, .int p0, .int p1])).length) Slot.unset).toArray = ls at hl ⊢
  generalize ([.ref wi, .int p0, .int p1] : List Value).toArray = av at hts ⊢
  generalize hQ : MQ below _ av s _ _ A = QQ
  have hl : lv_has ls 3 [(0, .ref wi), (1, .int p0), (2, .int p1)] := hl
  have hP : va_P g vwCl [(wi, .inr (9, [.int wi_side, .int wi_rule, .int wi_begun, .int wi_years, .int wi_card, .int wi_hurt, .int wi_isEnd, .ref wi_worth]))] s.heap := hP
  refine lv_iload_n hx hb dX9_next_0 rfl (lv_at hl 1 rfl) ?_
  refine lv_aload_n hx hb dX9_next_1 rfl (lv_at hl 0 rfl) ?_
  refine lv_iload_n hx hb dX9_next_2 rfl (lv_at hl 1 rfl) ?_
  refine lv_iload_n hx hb dX9_next_3 rfl (lv_at hl 2 rfl) ?_
  refine ro_i (va_runV (As := [.int p0, .int p1]) (rest := [.int p0]) ⟨hx, hb, hml, hown, hts⟩ (q_X9_sentBy l g cI cJ cB cZ cL p0 p1 wi wi_side wi_rule wi_begun wi_years wi_card wi_hurt wi_isEnd wi_worth s.heap.size hv_wi_side hv_wi_begun hv_wi_years hv_wi_isEnd) (cwV 2 hts (goodIn_app (g_4 (List.mem_cons_of_mem _ (List.mem_append_left _ (List.mem_of_getElem? (i := 0) rfl))) (List.mem_cons_of_mem _ (List.mem_append_left _ (List.mem_of_getElem? (i := 1) rfl))) (List.mem_cons_of_mem _ (List.mem_append_left _ (List.mem_of_getElem? (i := 2) rfl))) (List.mem_cons_of_mem _ (List.mem_append_left _ (List.mem_of_getElem? (i := 3) rfl))) (by decide +kernel)) (goodIn_sub (fun _ h => List.mem_cons_of_mem _ (List.mem_append_right _ (List.mem_append_left _ h))) good_v_X9_sentBy)) rfl rfl rfl (by decide +kernel) ⟨Nat.le_of_ble_eq_true rfl, Nat.le_of_ble_eq_true rfl⟩) (pv_RO (q := (RX9, TX9, 8)) (ci := 9) (q0 := 0) (wc := [(wi, .inr (9, [.int wi_side, .int wi_rule, .int wi_begun, .int wi_years, .int wi_card, .int wi_hurt, .int wi_isEnd, .ref wi_worth]))]) hK hP [0] rfl rfl rfl) rfl rfl hl.1 rfl (lv_room (Nat.le_of_ble_eq_true rfl)) dX9_next_4 ⟨Nat.le_of_ble_eq_true rfl, Nat.le_of_ble_eq_true rfl⟩) hS hA hP (fun r4 u4 H locs hw4 hP hS => ?_)
  refine ro_i (va_runS (As := [.int r4]) (rest := [.int p0]) ⟨hx, hb, hml, hown, hts⟩ (q_X10_swapped l g cI cJ cB cZ cL r4 H.size ) (va_cwS 1 hts (goodIn_app (g_3 (List.mem_cons_of_mem _ (List.mem_append_left _ (List.mem_of_getElem? (i := 4) rfl))) (List.mem_cons_of_mem _ (List.mem_append_left _ (List.mem_of_getElem? (i := 5) rfl))) (List.mem_cons_of_mem _ (List.mem_append_left _ (List.mem_of_getElem? (i := 6) rfl))) (by decide +kernel)) (goodIn_sub (fun _ h => List.mem_cons_of_mem _ (List.mem_append_right _ (List.mem_append_right _ (List.mem_append_left _ h)))) good_v_X10_swapped)) rfl rfl rfl (by decide +kernel) ⟨Nat.le_of_ble_eq_true rfl, Nat.le_of_ble_eq_true rfl⟩) (ps_RO (wc := []) hK hP [] rfl) rfl rfl hl.1 rfl (lv_room (Nat.le_of_ble_eq_true rfl)) dX9_next_7 ⟨Nat.le_of_ble_eq_true rfl, Nat.le_of_ble_eq_true rfl⟩) hS hA hP (fun r7 u7 H locs hw7 hP hS => ?_)
  have hw7_0 := hw7
  refine ro_i (va_runS (As := [.int p0, .int r7]) (rest := []) ⟨hx, hb, hml, hown, hts⟩ (q_X10_after l g cI cJ cB cZ cL p0 r7 H.size ) (va_cwS 2 hts (goodIn_app (g_3 (List.mem_cons_of_mem _ (List.mem_append_left _ (List.mem_of_getElem? (i := 7) rfl))) (List.mem_cons_of_mem _ (List.mem_append_left _ (List.mem_of_getElem? (i := 8) rfl))) (List.mem_cons_of_mem _ (List.mem_append_left _ (List.mem_of_getElem? (i := 6) rfl))) (by decide +kernel)) (goodIn_sub (fun _ h => List.mem_cons_of_mem _ (List.mem_append_right _ (List.mem_append_right _ (List.mem_append_right _ (List.mem_append_left _ h))))) good_v_X10_after)) rfl rfl rfl (by decide +kernel) ⟨Nat.le_of_ble_eq_true rfl, Nat.le_of_ble_eq_true rfl⟩) (ps_RO (wc := []) hK hP [] rfl) rfl rfl hl.1 rfl (lv_room (Nat.le_of_ble_eq_true rfl)) dX9_next_10 ⟨Nat.le_of_ble_eq_true rfl, Nat.le_of_ble_eq_true rfl⟩) hS hA hP (fun r10 u10 H locs hw10 hP hS => ?_)
  have hw10_0 := hw10
  subst hQ
  exact W.iret (v := r10) hx hb hr (fun t ht hW => ⟨⟨r10, (), rfl, hw10_0, trivial⟩, hS.F ht⟩) hS.2.2 dX9_next_13
def v_X9_priceOf : List Cond := .code yX9_priceOf cX9_priceOf 2 (some .int) :: (([.fieldLink RX9 76 "CardsAtYule$Will" "card" "I", .methodLink RX9 97 yJ6_bitCount_0f7a4, .static yJ6_bitCount_0f7a4, .initialized RJ6, .fieldLink RX9 80 "CardsAtYule$Will" "hurt" "I", .methodLink RX9 102 yX10_swapped, .static yX10_swapped, .initialized RX10] : List Cond) ++ (v_J6_bitCount_0f7a4 ++ (v_X10_swapped ++ (wsX90 ++ ([] : List Cond)))))
theorem good_v_X9_priceOf : v_X9_priceOf.all goodWord = true := ga_c (by decide +kernel) (ga_a (by decide +kernel) (ga_a good_v_J6_bitCount_0f7a4 (ga_a good_v_X10_swapped (ga_a good_wsX90 rfl))))
set_option maxHeartbeats 4000000 in
set_option maxRecDepth 100000 in
theorem q_X9_priceOf (l : Launch) (g : va_G) (cI cJ cB cZ cL : ClassId) (p0 : Int32) (wi : Nat) (wi_side : Int32) (wi_rule : Int32) (wi_begun : Int32) (wi_years : Int32) (wi_card : Int32) (wi_hurt : Int32) (wi_isEnd : Int32) (wi_worth : Nat) (sz : Nat) (hv_wi_side : ir wi_side.toInt 0 1) (hv_wi_begun : ir wi_begun.toInt 0 15) (hv_wi_years : ir wi_years.toInt 0 12) (hv_wi_isEnd : ir wi_isEnd.toInt 0 1) : Met l yX9_priceOf v_X9_priceOf ({ frames := 1, cells := 0, slots := 0, locals := 20 }) (va_Pc [.ref wi, .int p0] (pRO g (tyT cI cJ cB cZ cL) [(wi, .inr (9, [.int wi_side, .int wi_rule, .int wi_begun, .int wi_years, .int wi_card, .int wi_hurt, .int wi_isEnd, .ref wi_worth]))] sz)) (va_Qi (fun (r : Int32) (u : Unit) => True) (fun (_ : Unit) (_ : State) => True) (va_A [] sz)) 0 0 (va_A [] sz) := by
  refine Met.ofW (cc := cX9_priceOf) (maxL := 2) (ret := (some .int)) (by decide) rfl ?_
  intro p e s m args below meth c s₁ B hml hv
  obtain ⟨rfl, hsz, hP, hK⟩ := hv
  have hx := B.exec
  have hb := B.bytes
  have hr := B.returns
  have hts := atoms_spec (ws := v_X9_priceOf) B.pre
  have hown : s.vm.findClass RX9 = some m.cls := findClass_of_methodNamed B.named
  have hlocks := B.notSynchronized
  clear B
  subst hsz
  have iX9 : ∀ w ∈ wsX90, w ∈ v_X9_priceOf := (fun _ h => List.mem_cons_of_mem _ (List.mem_append_right _ (List.mem_append_right _ (List.mem_append_right _ (List.mem_append_left _ h)))))
  generalize hAe : (va_A [] s.heap.size) = A
  have hA : ∀ q : Nat, s.heap.size ≤ q → A q := fun q h => by rw [← hAe]; exact Or.inr h
  have hS : va_S A s.heap s.heap [] := va_S.rf
  have hl := lv_entry ([.ref wi, .int p0]) (n := 2) (Nat.le_of_ble_eq_true rfl)
  rw [lg_entry_eq]
  generalize (lg_sl ([.ref wi, .int p0]) ++ List.replicate (2 - (lg_sl ([.ref wi, .int p0])).length) Slot.unset).toArray = ls at hl ⊢
  generalize ([.ref wi, .int p0] : List Value).toArray = av at hts ⊢
  generalize hQ : MQ below _ av s _ _ A = QQ
  have hl : lv_has ls 2 [(0, .ref wi), (1, .int p0)] := hl
  have hP : va_P g vwCl [(wi, .inr (9, [.int wi_side, .int wi_rule, .int wi_begun, .int wi_years, .int wi_card, .int wi_hurt, .int wi_isEnd, .ref wi_worth]))] s.heap := hP
  refine lv_aload_n hx hb dX9_priceOf_0 rfl (lv_at hl 0 rfl) ?_
  refine va_get (D := g) (ci := 9) (v := .int wi_card) (C := RX9) (T := TX9) (N := 8) hx hb hts iX9 hown hK hP 0 rfl rfl 4 (by decide) (hts (.fieldLink RX9 76 "CardsAtYule$Will" "card" "I") (List.mem_cons_of_mem _ (List.mem_append_left _ (List.mem_of_getElem? (i := 0) rfl)))) (fun _ h9 => h9) rfl dX9_priceOf_1 ?_
  refine lv_iload_n hx hb dX9_priceOf_4 rfl (lv_at hl 1 rfl) ?_
  refine ro_i (va_runS (As := [.int p0]) (rest := [.int wi_card]) ⟨hx, hb, hml, hown, hts⟩ (q_J6_bitCount_0f7a4 l g cI cJ cB cZ cL p0 s.heap.size ) (va_cwS 1 hts (goodIn_app (g_3 (List.mem_cons_of_mem _ (List.mem_append_left _ (List.mem_of_getElem? (i := 1) rfl))) (List.mem_cons_of_mem _ (List.mem_append_left _ (List.mem_of_getElem? (i := 2) rfl))) (List.mem_cons_of_mem _ (List.mem_append_left _ (List.mem_of_getElem? (i := 3) rfl))) (by decide +kernel)) (goodIn_sub (fun _ h => List.mem_cons_of_mem _ (List.mem_append_right _ (List.mem_append_left _ h))) good_v_J6_bitCount_0f7a4)) rfl rfl rfl (by decide +kernel) ⟨Nat.le_of_ble_eq_true rfl, Nat.le_of_ble_eq_true rfl⟩) (ps_RO (wc := []) hK hP [] rfl) rfl rfl hl.1 rfl (lv_room (Nat.le_of_ble_eq_true rfl)) dX9_priceOf_5 ⟨Nat.le_of_ble_eq_true rfl, Nat.le_of_ble_eq_true rfl⟩) hS hA hP (fun r5 u5 H locs hw5 hP hS => ?_)
  have hw5_0 := hw5
  refine lv_imul hx hb dX9_priceOf_8 ?_
  refine lv_topi (fun y8 e8 => ?_)
  refine lv_aload_n hx hb dX9_priceOf_9 rfl (lv_at hl 0 rfl) ?_
  refine va_get (D := g) (ci := 9) (v := .int wi_hurt) (C := RX9) (T := TX9) (N := 8) hx hb hts iX9 hown hK hP 0 rfl rfl 5 (by decide) (hts (.fieldLink RX9 80 "CardsAtYule$Will" "hurt" "I") (List.mem_cons_of_mem _ (List.mem_append_left _ (List.mem_of_getElem? (i := 4) rfl)))) (fun _ h9 => h9) rfl dX9_priceOf_10 ?_
  refine lv_iload_n hx hb dX9_priceOf_13 rfl (lv_at hl 1 rfl) ?_
  refine lv_iload_n hx hb dX9_priceOf_14 rfl (lv_at hl 1 rfl) ?_
  refine ro_i (va_runS (As := [.int p0]) (rest := [.int p0, .int wi_hurt, .int y8]) ⟨hx, hb, hml, hown, hts⟩ (q_X10_swapped l g cI cJ cB cZ cL p0 H.size ) (va_cwS 1 hts (goodIn_app (g_3 (List.mem_cons_of_mem _ (List.mem_append_left _ (List.mem_of_getElem? (i := 5) rfl))) (List.mem_cons_of_mem _ (List.mem_append_left _ (List.mem_of_getElem? (i := 6) rfl))) (List.mem_cons_of_mem _ (List.mem_append_left _ (List.mem_of_getElem? (i := 7) rfl))) (by decide +kernel)) (goodIn_sub (fun _ h => List.mem_cons_of_mem _ (List.mem_append_right _ (List.mem_append_right _ (List.mem_append_left _ h)))) good_v_X10_swapped)) rfl rfl rfl (by decide +kernel) ⟨Nat.le_of_ble_eq_true rfl, Nat.le_of_ble_eq_true rfl⟩) (ps_RO (wc := []) hK hP [] rfl) rfl rfl hl.1 rfl (lv_room (Nat.le_of_ble_eq_true rfl)) dX9_priceOf_15 ⟨Nat.le_of_ble_eq_true rfl, Nat.le_of_ble_eq_true rfl⟩) hS hA hP (fun r15 u15 H locs hw15 hP hS => ?_)
  have hw15_0 := hw15
  refine lv_iconst (v := (-1)) hx hb dX9_priceOf_18 (by decide) ?_
  refine lv_ixor hx hb dX9_priceOf_19 ?_
  refine lv_topi (fun y19 e19 => ?_)
  refine lv_iand hx hb dX9_priceOf_20 ?_
  refine lv_topi (fun y20 e20 => ?_)
  refine ro_i (va_runS (As := [.int y20]) (rest := [.int wi_hurt, .int y8]) ⟨hx, hb, hml, hown, hts⟩ (q_J6_bitCount_0f7a4 l g cI cJ cB cZ cL y20 H.size ) (va_cwS 1 hts (goodIn_app (g_3 (List.mem_cons_of_mem _ (List.mem_append_left _ (List.mem_of_getElem? (i := 1) rfl))) (List.mem_cons_of_mem _ (List.mem_append_left _ (List.mem_of_getElem? (i := 2) rfl))) (List.mem_cons_of_mem _ (List.mem_append_left _ (List.mem_of_getElem? (i := 3) rfl))) (by decide +kernel)) (goodIn_sub (fun _ h => List.mem_cons_of_mem _ (List.mem_append_right _ (List.mem_append_left _ h))) good_v_J6_bitCount_0f7a4)) rfl rfl rfl (by decide +kernel) ⟨Nat.le_of_ble_eq_true rfl, Nat.le_of_ble_eq_true rfl⟩) (ps_RO (wc := []) hK hP [] rfl) rfl rfl hl.1 rfl (lv_room (Nat.le_of_ble_eq_true rfl)) dX9_priceOf_21 ⟨Nat.le_of_ble_eq_true rfl, Nat.le_of_ble_eq_true rfl⟩) hS hA hP (fun r21 u21 H locs hw21 hP hS => ?_)
  have hw21_0 := hw21
  refine lv_imul hx hb dX9_priceOf_24 ?_
  refine lv_topi (fun y24 e24 => ?_)
  refine lv_iadd hx hb dX9_priceOf_25 ?_
  refine lv_topi (fun y25 e25 => ?_)
  subst hQ
  exact W.iret (v := y25) hx hb hr (fun t ht hW => ⟨⟨y25, (), rfl, trivial, trivial⟩, hS.F ht⟩) hS.2.2 dX9_priceOf_26
def v_X9_worthOf : List Cond := .code yX9_worthOf cX9_worthOf 7 (some .int) :: (([.methodLink RX9 90 yX9_sentBy, .instanceMethod yX9_sentBy, .selects RX9 yX9_sentBy yX9_sentBy, .initialized RX9, .fieldLink RX9 19 "CardsAtYule$Will" "isEnd" "Z", .fieldLink RX9 9 "CardsAtYule$Will" "worth" "[I", .methodLink RX9 63 yX9_next, .instanceMethod yX9_next, .selects RX9 yX9_next yX9_next, .constant RX9 43 (1000000), .methodLink RX9 85 Lib.Math.min.name, .static Lib.Math.min.name, .initialized "java/lang/Math", .code Lib.Math.min.name Lib.Math.min.code 2 (some .int), .methodLink RX9 93 yX9_priceOf, .instanceMethod yX9_priceOf, .selects RX9 yX9_priceOf yX9_priceOf, .fieldLink RX9 36 "CardsAtYule$Will" "years" "I"] : List Cond) ++ (v_X9_sentBy ++ (v_X9_next ++ (v_X9_priceOf ++ (wsX90 ++ ([] : List Cond))))))
theorem good_v_X9_worthOf : v_X9_worthOf.all goodWord = true := ga_c (by decide +kernel) (ga_a (by decide +kernel) (ga_a good_v_X9_sentBy (ga_a good_v_X9_next (ga_a good_v_X9_priceOf (ga_a good_wsX90 rfl)))))
set_option maxHeartbeats 4000000 in
set_option maxRecDepth 100000 in
theorem q_X9_worthOf (l : Launch) (g : va_G) (cI cJ cB cZ cL : ClassId) (p0 : Int32) (p1 : Int32) (p2 : Int32) (wi : Nat) (wi_side : Int32) (wi_rule : Int32) (wi_begun : Int32) (wi_years : Int32) (wi_card : Int32) (wi_hurt : Int32) (wi_isEnd : Int32) (wi_worth : Nat) (wi_worth_c : Nat → Int32) (sz : Nat) (hv_p0 : ir p0.toInt 0 11) (hv_wi_side : ir wi_side.toInt 0 1) (hv_wi_begun : ir wi_begun.toInt 0 15) (hv_wi_years : ir wi_years.toInt 0 12) (hv_wi_isEnd : ir wi_isEnd.toInt 0 1) : Met l yX9_worthOf v_X9_worthOf ({ frames := 3, cells := 0, slots := 0, locals := 70 }) (va_Pc [.ref wi, .int p0, .int p1, .int p2] (pRO g (tyT cI cJ cB cZ cL) [(wi, .inr (9, [.int wi_side, .int wi_rule, .int wi_begun, .int wi_years, .int wi_card, .int wi_hurt, .int wi_isEnd, .ref wi_worth])), (wi_worth, .inl (cI, 208, .inl wi_worth_c))] sz)) (va_Qi (fun (r : Int32) (u : Unit) => (ir r.toInt (-2147483648) 1000000)) (fun (_ : Unit) (_ : State) => True) (va_A [] sz)) 0 0 (va_A [] sz) := by
  refine Met.ofW (cc := cX9_worthOf) (maxL := 7) (ret := (some .int)) (by decide) rfl ?_
  intro p e s m args below meth c s₁ B hml hv
  obtain ⟨rfl, hsz, hP, hK⟩ := hv
  have hx := B.exec
  have hb := B.bytes
  have hr := B.returns
  have hts := atoms_spec (ws := v_X9_worthOf) B.pre
  have hown : s.vm.findClass RX9 = some m.cls := findClass_of_methodNamed B.named
  have hlocks := B.notSynchronized
  clear B
  subst hsz
  have iX9 : ∀ w ∈ wsX90, w ∈ v_X9_worthOf := (fun _ h => List.mem_cons_of_mem _ (List.mem_append_right _ (List.mem_append_right _ (List.mem_append_right _ (List.mem_append_right _ (List.mem_append_left _ h))))))
  generalize hAe : (va_A [] s.heap.size) = A
  have hA : ∀ q : Nat, s.heap.size ≤ q → A q := fun q h => by rw [← hAe]; exact Or.inr h
  have hS : va_S A s.heap s.heap [] := va_S.rf
  have hl := lv_entry ([.ref wi, .int p0, .int p1, .int p2]) (n := 7) (Nat.le_of_ble_eq_true rfl)
  rw [lg_entry_eq]
  generalize (lg_sl ([.ref wi, .int p0, .int p1, .int p2]) ++ List.replicate (7 - (lg_sl ([.ref wi, .int p0, .int p1, .int p2])).length) Slot.unset).toArray = ls at hl ⊢
  generalize ([.ref wi, .int p0, .int p1, .int p2] : List Value).toArray = av at hts ⊢
  generalize hQ : MQ below _ av s _ _ A = QQ
  have hl : lv_has ls 7 [(0, .ref wi), (1, .int p0), (2, .int p1), (3, .int p2)] := hl
  have hP : va_P g vwCl [(wi, .inr (9, [.int wi_side, .int wi_rule, .int wi_begun, .int wi_years, .int wi_card, .int wi_hurt, .int wi_isEnd, .ref wi_worth])), (wi_worth, .inl (cI, 208, .inl wi_worth_c))] s.heap := hP
  refine lv_aload_n hx hb dX9_worthOf_0 rfl (lv_at hl 0 rfl) ?_
  refine lv_iload_n hx hb dX9_worthOf_1 rfl (lv_at hl 2 rfl) ?_
  refine lv_iload_n hx hb dX9_worthOf_2 rfl (lv_at hl 3 rfl) ?_
  refine ro_i (va_runV (As := [.int p1, .int p2]) (rest := []) ⟨hx, hb, hml, hown, hts⟩ (q_X9_sentBy l g cI cJ cB cZ cL p1 p2 wi wi_side wi_rule wi_begun wi_years wi_card wi_hurt wi_isEnd wi_worth s.heap.size hv_wi_side hv_wi_begun hv_wi_years hv_wi_isEnd) (cwV 2 hts (goodIn_app (g_4 (List.mem_cons_of_mem _ (List.mem_append_left _ (List.mem_of_getElem? (i := 0) rfl))) (List.mem_cons_of_mem _ (List.mem_append_left _ (List.mem_of_getElem? (i := 1) rfl))) (List.mem_cons_of_mem _ (List.mem_append_left _ (List.mem_of_getElem? (i := 2) rfl))) (List.mem_cons_of_mem _ (List.mem_append_left _ (List.mem_of_getElem? (i := 3) rfl))) (by decide +kernel)) (goodIn_sub (fun _ h => List.mem_cons_of_mem _ (List.mem_append_right _ (List.mem_append_left _ h))) good_v_X9_sentBy)) rfl rfl rfl (by decide +kernel) ⟨Nat.le_of_ble_eq_true rfl, Nat.le_of_ble_eq_true rfl⟩) (pv_RO (q := (RX9, TX9, 8)) (ci := 9) (q0 := 0) (wc := [(wi, .inr (9, [.int wi_side, .int wi_rule, .int wi_begun, .int wi_years, .int wi_card, .int wi_hurt, .int wi_isEnd, .ref wi_worth]))]) hK hP [0] rfl rfl rfl) rfl rfl hl.1 rfl (lv_room (Nat.le_of_ble_eq_true rfl)) dX9_worthOf_3 ⟨Nat.le_of_ble_eq_true rfl, Nat.le_of_ble_eq_true rfl⟩) hS hA hP (fun r3 u3 H locs hw3 hP hS => ?_)
  refine lv_istore (lv' := [(4, .int r3), (0, .ref wi), (1, .int p0), (2, .int p1), (3, .int p2)]) hx hb dX9_worthOf_6 hl (by decide) rfl (fun ls hl => ?_)
  refine lv_aload_n hx hb dX9_worthOf_8 rfl (lv_at hl 1 rfl) ?_
  refine va_get (D := g) (ci := 9) (v := .int wi_isEnd) (C := RX9) (T := TX9) (N := 8) hx hb hts iX9 hown hK hP 0 rfl rfl 6 (by decide) (hts (.fieldLink RX9 19 "CardsAtYule$Will" "isEnd" "Z") (List.mem_cons_of_mem _ (List.mem_append_left _ (List.mem_of_getElem? (i := 4) rfl)))) (fun _ h9 => h9) rfl dX9_worthOf_9 ?_
  have J34 : ∀  (H : Heap) (locs : List Loc) (ls : Array Slot), va_P g vwCl [(wi, .inr (9, [.int wi_side, .int wi_rule, .int wi_begun, .int wi_years, .int wi_card, .int wi_hurt, .int wi_isEnd, .ref wi_worth])), (wi_worth, .inl (cI, 208, .inl wi_worth_c))] H → va_S A s.heap H locs → lv_has ls 7 [(0, .ref wi), (1, .int p0), (2, .int p1), (3, .int p2), (4, .int r3)] → W p l e (headSpec v_X9_worthOf ({ frames := 3, cells := 0, slots := 0, locals := 70 })).room s m av below meth c H locs 0 0 QQ (F0 m 34 ls []) := by
    intro  H locs ls  hP hS hl
    refine lv_aload_n hx hb dX9_worthOf_34 rfl (lv_at hl 0 rfl) ?_
    refine va_get (D := g) (ci := 9) (v := .ref wi_worth) (C := RX9) (T := TX9) (N := 8) hx hb hts iX9 hown hK hP 0 rfl rfl 7 (by decide) (hts (.fieldLink RX9 9 "CardsAtYule$Will" "worth" "[I") (List.mem_cons_of_mem _ (List.mem_append_left _ (List.mem_of_getElem? (i := 5) rfl)))) (fun _ h9 => h9) rfl dX9_worthOf_35 ?_
    refine lv_bipush (v := 16) hx hb dX9_worthOf_38 (by decide) ?_
    refine lv_iload_n hx hb dX9_worthOf_40 rfl (lv_at hl 1 rfl) ?_
    refine lv_iconst (v := 1) hx hb dX9_worthOf_41 (by decide) ?_
    refine lv_iadd hx hb dX9_worthOf_42 ?_
    refine lv_topi (fun y42 e42 => ?_)
    have q42 : y42.toInt = p0.toInt + 1 := by rw [e42]; exact ad_z rfl rfl hv_p0 (ir_c 1) (by decide) (by decide)
    have r42 : ir y42.toInt 1 12 := ad_r q42 hv_p0 (ir_c 1) (by decide) (by decide)
    refine lv_imul hx hb dX9_worthOf_43 ?_
    refine lv_topi (fun y43 e43 => ?_)
    have q43 : y43.toInt = 16 * y42.toInt := by rw [e43]; exact mu_z rfl rfl (ir_c 16) r42 (by decide) (by decide) (by decide)
    have r43 : ir y43.toInt 16 192 := mu_r q43 (ir_c 16) r42 (by decide) (by decide) (by decide) (by decide)
    refine lv_aload_n hx hb dX9_worthOf_44 rfl (lv_at hl 0 rfl) ?_
    refine lv_iload_n hx hb dX9_worthOf_45 rfl (lv_at hl 2 rfl) ?_
    refine lv_iload_n hx hb dX9_worthOf_46 rfl (lv_at hl 3 rfl) ?_
    refine ro_i (va_runV (As := [.int p1, .int p2]) (rest := [.int y43, .ref wi_worth]) ⟨hx, hb, hml, hown, hts⟩ (q_X9_next l g cI cJ cB cZ cL p1 p2 wi wi_side wi_rule wi_begun wi_years wi_card wi_hurt wi_isEnd wi_worth H.size hv_wi_side hv_wi_begun hv_wi_years hv_wi_isEnd) (cwV 2 hts (goodIn_app (g_4 (List.mem_cons_of_mem _ (List.mem_append_left _ (List.mem_of_getElem? (i := 6) rfl))) (List.mem_cons_of_mem _ (List.mem_append_left _ (List.mem_of_getElem? (i := 7) rfl))) (List.mem_cons_of_mem _ (List.mem_append_left _ (List.mem_of_getElem? (i := 8) rfl))) (List.mem_cons_of_mem _ (List.mem_append_left _ (List.mem_of_getElem? (i := 3) rfl))) (by decide +kernel)) (goodIn_sub (fun _ h => List.mem_cons_of_mem _ (List.mem_append_right _ (List.mem_append_right _ (List.mem_append_left _ h)))) good_v_X9_next)) rfl rfl rfl (by decide +kernel) ⟨Nat.le_of_ble_eq_true rfl, Nat.le_of_ble_eq_true rfl⟩) (pv_RO (q := (RX9, TX9, 8)) (ci := 9) (q0 := 0) (wc := [(wi, .inr (9, [.int wi_side, .int wi_rule, .int wi_begun, .int wi_years, .int wi_card, .int wi_hurt, .int wi_isEnd, .ref wi_worth]))]) hK hP [0] rfl rfl rfl) rfl rfl hl.1 rfl (lv_room (Nat.le_of_ble_eq_true rfl)) dX9_worthOf_47 ⟨Nat.le_of_ble_eq_true rfl, Nat.le_of_ble_eq_true rfl⟩) hS hA hP (fun r47 u47 H locs hw47 hP hS => ?_)
    have hw47_0 := hw47
    refine lv_iadd hx hb dX9_worthOf_50 ?_
    refine lv_topi (fun y50 e50 => ?_)
    have q50 : y50.toInt = y43.toInt + r47.toInt := by rw [e50]; exact ad_z rfl rfl r43 hw47_0 (by decide) (by decide)
    have r50 : ir y50.toInt 16 207 := ad_r q50 r43 hw47_0 (by decide) (by decide)
    refine va_iald (D := g) hx hb hK hP 1 0 rfl rfl (vi_rg rfl r50 (by decide) (by decide)) dX9_worthOf_51 ?_
    refine lv_topi (fun y51 e51 => ?_)
    refine lv_istore (lv' := [(5, .int y51), (0, .ref wi), (1, .int p0), (2, .int p1), (3, .int p2), (4, .int r3)]) hx hb dX9_worthOf_52 hl (by decide) rfl (fun ls hl => ?_)
    refine lv_aload_n hx hb dX9_worthOf_54 rfl (lv_at hl 1 rfl) ?_
    refine va_get (D := g) (ci := 9) (v := .int wi_isEnd) (C := RX9) (T := TX9) (N := 8) hx hb hts iX9 hown hK hP 0 rfl rfl 6 (by decide) (hts (.fieldLink RX9 19 "CardsAtYule$Will" "isEnd" "Z") (List.mem_cons_of_mem _ (List.mem_append_left _ (List.mem_of_getElem? (i := 4) rfl)))) (fun _ h9 => h9) rfl dX9_worthOf_55 ?_
    have J71 : ∀ (j71_s0 : Int32) (H : Heap) (locs : List Loc) (ls : Array Slot), va_P g vwCl [(wi, .inr (9, [.int wi_side, .int wi_rule, .int wi_begun, .int wi_years, .int wi_card, .int wi_hurt, .int wi_isEnd, .ref wi_worth])), (wi_worth, .inl (cI, 208, .inl wi_worth_c))] H → va_S A s.heap H locs → lv_has ls 7 [(5, .int y51)] → W p l e (headSpec v_X9_worthOf ({ frames := 3, cells := 0, slots := 0, locals := 70 })).room s m av below meth c H locs 0 0 QQ (F0 m 71 ls [.int j71_s0]) := by
      intro j71_s0 H locs ls  hP hS hl
      refine lv_istore (lv' := [(6, .int j71_s0), (5, .int y51)]) hx hb dX9_worthOf_71 hl (by decide) rfl (fun ls hl => ?_)
      refine lv_ldc (v := 1000000) hx hb hown (hts (.constant RX9 43 (1000000)) (List.mem_cons_of_mem _ (List.mem_append_left _ (List.mem_of_getElem? (i := 9) rfl)))) dX9_worthOf_73 ?_
      refine lv_iload hx hb dX9_worthOf_75 (lv_at hl 1 rfl) ?_
      refine lv_iload hx hb dX9_worthOf_77 (lv_at hl 0 rfl) ?_
      refine lv_iadd hx hb dX9_worthOf_79 ?_
      refine lv_topi (fun y79 e79 => ?_)
      refine va_mmin hx hb (hml.trans hl.1.symm) hown (hts (.methodLink RX9 85 Lib.Math.min.name) (List.mem_cons_of_mem _ (List.mem_append_left _ (List.mem_of_getElem? (i := 10) rfl)))) (hts (.static Lib.Math.min.name) (List.mem_cons_of_mem _ (List.mem_append_left _ (List.mem_of_getElem? (i := 11) rfl)))) (hts (.initialized "java/lang/Math") (List.mem_cons_of_mem _ (List.mem_append_left _ (List.mem_of_getElem? (i := 12) rfl)))) (hts (.code Lib.Math.min.name Lib.Math.min.code 2 (some .int)) (List.mem_cons_of_mem _ (List.mem_append_left _ (List.mem_of_getElem? (i := 13) rfl)))) (Nat.le_of_ble_eq_true rfl) (Nat.le_of_ble_eq_true rfl) (Nat.le_of_ble_eq_true rfl) (Nat.le_of_ble_eq_true rfl) dX9_worthOf_80 ?_
      refine lv_topi (fun y80 e80 => ?_)
      have r80 : ir y80.toInt (-2147483648) 1000000 := by rw [e80]; exact min_r rfl rfl (ir_c 1000000) (rg_all y79) (by decide) (by decide) (by decide) (by decide)
      subst hQ
      exact W.iret (v := y80) hx hb hr (fun t ht hW => ⟨⟨y80, (), rfl, r80, trivial⟩, hS.F ht⟩) hS.2.2 dX9_worthOf_83
    refine lv_if_eq (tgt := 70) hx hb dX9_worthOf_58 (by decide) (fun c58 => ?_) (fun c58 => ?_)
    · have f58 := (show wi_isEnd.toInt = 0 from z_eq rfl rfl c58)
      have r58a : ir wi_isEnd.toInt 0 0 := ir_eqa f58 hv_wi_isEnd (ir_c 0) (by decide) (by decide)
      refine lv_iload_n hx hb dX9_worthOf_70 rfl (lv_at hl 4 rfl) ?_
      exact J71 p2 _ _ _  (hP.sub [0, 1] rfl) hS (lv_sub hl [0] rfl)
    have f58 := (show wi_isEnd.toInt ≠ 0 from z_ne rfl rfl c58)
    have r58a : ir wi_isEnd.toInt 1 1 := ir_nel f58 hv_wi_isEnd (by decide) (by decide)
    refine lv_aload_n hx hb dX9_worthOf_61 rfl (lv_at hl 1 rfl) ?_
    refine lv_iload hx hb dX9_worthOf_62 (lv_at hl 5 rfl) ?_
    refine ro_i (va_runV (As := [.int r3]) (rest := []) ⟨hx, hb, hml, hown, hts⟩ (q_X9_priceOf l g cI cJ cB cZ cL r3 wi wi_side wi_rule wi_begun wi_years wi_card wi_hurt wi_isEnd wi_worth H.size hv_wi_side hv_wi_begun hv_wi_years (ir_w r58a (by decide) (by decide))) (cwV 1 hts (goodIn_app (g_4 (List.mem_cons_of_mem _ (List.mem_append_left _ (List.mem_of_getElem? (i := 14) rfl))) (List.mem_cons_of_mem _ (List.mem_append_left _ (List.mem_of_getElem? (i := 15) rfl))) (List.mem_cons_of_mem _ (List.mem_append_left _ (List.mem_of_getElem? (i := 16) rfl))) (List.mem_cons_of_mem _ (List.mem_append_left _ (List.mem_of_getElem? (i := 3) rfl))) (by decide +kernel)) (goodIn_sub (fun _ h => List.mem_cons_of_mem _ (List.mem_append_right _ (List.mem_append_right _ (List.mem_append_right _ (List.mem_append_left _ h))))) good_v_X9_priceOf)) rfl rfl rfl (by decide +kernel) ⟨Nat.le_of_ble_eq_true rfl, Nat.le_of_ble_eq_true rfl⟩) (pv_RO (q := (RX9, TX9, 8)) (ci := 9) (q0 := 0) (wc := [(wi, .inr (9, [.int wi_side, .int wi_rule, .int wi_begun, .int wi_years, .int wi_card, .int wi_hurt, .int wi_isEnd, .ref wi_worth]))]) hK hP [0] rfl rfl rfl) rfl rfl hl.1 rfl (lv_room (Nat.le_of_ble_eq_true rfl)) dX9_worthOf_64 ⟨Nat.le_of_ble_eq_true rfl, Nat.le_of_ble_eq_true rfl⟩) hS hA hP (fun r64 u64 H locs hw64 hP hS => ?_)
    refine lv_goto (tgt := 71) hx hb dX9_worthOf_67 (by decide) ?_
    exact J71 r64 _ _ _  (hP.sub [0, 1] rfl) hS (lv_sub hl [0] rfl)
  refine lv_if_ne (tgt := 34) hx hb dX9_worthOf_12 (by decide) (fun c12 => ?_) (fun c12 => ?_)
  · have f12 := (show wi_isEnd.toInt ≠ 0 from z_ne rfl rfl c12)
    have r12a : ir wi_isEnd.toInt 1 1 := ir_nel f12 hv_wi_isEnd (by decide) (by decide)
    exact J34  _ _ _  (hP.sub [0, 1] rfl) hS (lv_sub hl [1, 2, 3, 4, 0] rfl)
  have f12 := (show wi_isEnd.toInt = 0 from z_eq rfl rfl c12)
  have r12a : ir wi_isEnd.toInt 0 0 := ir_eqa f12 hv_wi_isEnd (ir_c 0) (by decide) (by decide)
  refine lv_iload_n hx hb dX9_worthOf_15 rfl (lv_at hl 2 rfl) ?_
  refine lv_aload_n hx hb dX9_worthOf_16 rfl (lv_at hl 1 rfl) ?_
  refine va_get (D := g) (ci := 9) (v := .int wi_years) (C := RX9) (T := TX9) (N := 8) hx hb hts iX9 hown hK hP 0 rfl rfl 3 (by decide) (hts (.fieldLink RX9 36 "CardsAtYule$Will" "years" "I") (List.mem_cons_of_mem _ (List.mem_append_left _ (List.mem_of_getElem? (i := 17) rfl)))) (fun _ h9 => h9) rfl dX9_worthOf_17 ?_
  refine lv_iconst (v := 1) hx hb dX9_worthOf_20 (by decide) ?_
  refine lv_isub hx hb dX9_worthOf_21 ?_
  refine lv_topi (fun y21 e21 => ?_)
  have q21 : y21.toInt = wi_years.toInt - 1 := by rw [e21]; exact su_z rfl rfl hv_wi_years (ir_c 1) (by decide) (by decide)
  have r21 : ir y21.toInt (-1) 11 := su_r q21 hv_wi_years (ir_c 1) (by decide) (by decide)
  refine lv_icmp_ne (tgt := 34) hx hb dX9_worthOf_22 (by decide) (fun c22 => ?_) (fun c22 => ?_)
  · have f22 := (show p0.toInt ≠ y21.toInt from z_ne rfl rfl c22)
    exact J34  _ _ _  (hP.sub [0, 1] rfl) hS (lv_sub hl [1, 2, 3, 4, 0] rfl)
  have f22 := (show p0.toInt = y21.toInt from z_eq rfl rfl c22)
  have r22b : ir y21.toInt 0 11 := ir_eqb f22 hv_p0 r21 (by decide) (by decide)
  refine lv_iload hx hb dX9_worthOf_25 (lv_at hl 0 rfl) ?_
  refine lv_iconst (v := 3) hx hb dX9_worthOf_27 (by decide) ?_
  refine lv_icmp_eq (tgt := 34) hx hb dX9_worthOf_28 (by decide) (fun c28 => ?_) (fun c28 => ?_)
  · have f28 := (show r3.toInt = 3 from z_eq rfl rfl c28)
    have r28a : ir r3.toInt 3 3 := ir_eqa f28 (rg_all r3) (ir_c 3) (by decide) (by decide)
    exact J34  _ _ _  (hP.sub [0, 1] rfl) hS (lv_sub hl [1, 2, 3, 4, 0] rfl)
  have f28 := (show r3.toInt ≠ 3 from z_ne rfl rfl c28)
  refine lv_ldc (v := 1000000) hx hb hown (hts (.constant RX9 43 (1000000)) (List.mem_cons_of_mem _ (List.mem_append_left _ (List.mem_of_getElem? (i := 9) rfl)))) dX9_worthOf_31 ?_
  subst hQ
  exact W.iret (v := 1000000) hx hb hr (fun t ht hW => ⟨⟨1000000, (), rfl, (show ir (1000000 : Int32).toInt (-2147483648) 1000000 by decide), trivial⟩, hS.F ht⟩) hS.2.2 dX9_worthOf_33
def v_X9_choiceFrom : List Cond := .code yX9_choiceFrom cX9_choiceFrom 3 (some .int) :: (([.methodLink RX9 81 yX9_worthOf, .instanceMethod yX9_worthOf, .selects RX9 yX9_worthOf yX9_worthOf, .initialized RX9] : List Cond) ++ (v_X9_worthOf ++ ([] : List Cond)))
theorem good_v_X9_choiceFrom : v_X9_choiceFrom.all goodWord = true := ga_c (by decide +kernel) (ga_a (by decide +kernel) (ga_a good_v_X9_worthOf rfl))
set_option maxHeartbeats 4000000 in
set_option maxRecDepth 100000 in
theorem q_X9_choiceFrom (l : Launch) (g : va_G) (cI cJ cB cZ cL : ClassId) (p0 : Int32) (p1 : Int32) (wi : Nat) (wi_side : Int32) (wi_rule : Int32) (wi_begun : Int32) (wi_years : Int32) (wi_card : Int32) (wi_hurt : Int32) (wi_isEnd : Int32) (wi_worth : Nat) (wi_worth_c : Nat → Int32) (sz : Nat) (hv_p0 : ir p0.toInt 0 11) (hv_wi_side : ir wi_side.toInt 0 1) (hv_wi_begun : ir wi_begun.toInt 0 15) (hv_wi_years : ir wi_years.toInt 0 12) (hv_wi_isEnd : ir wi_isEnd.toInt 0 1) : Met l yX9_choiceFrom v_X9_choiceFrom ({ frames := 4, cells := 0, slots := 0, locals := 96 }) (va_Pc [.ref wi, .int p0, .int p1] (pRO g (tyT cI cJ cB cZ cL) [(wi, .inr (9, [.int wi_side, .int wi_rule, .int wi_begun, .int wi_years, .int wi_card, .int wi_hurt, .int wi_isEnd, .ref wi_worth])), (wi_worth, .inl (cI, 208, .inl wi_worth_c))] sz)) (va_Qi (fun (r : Int32) (u : Unit) => (ir r.toInt 0 1)) (fun (_ : Unit) (_ : State) => True) (va_A [] sz)) 0 0 (va_A [] sz) := by
  refine Met.ofW (cc := cX9_choiceFrom) (maxL := 3) (ret := (some .int)) (by decide) rfl ?_
  intro p e s m args below meth c s₁ B hml hv
  obtain ⟨rfl, hsz, hP, hK⟩ := hv
  have hx := B.exec
  have hb := B.bytes
  have hr := B.returns
  have hts := atoms_spec (ws := v_X9_choiceFrom) B.pre
  have hown : s.vm.findClass RX9 = some m.cls := findClass_of_methodNamed B.named
  have hlocks := B.notSynchronized
  clear B
  subst hsz
  generalize hAe : (va_A [] s.heap.size) = A
  have hA : ∀ q : Nat, s.heap.size ≤ q → A q := fun q h => by rw [← hAe]; exact Or.inr h
  have hS : va_S A s.heap s.heap [] := va_S.rf
  have hl := lv_entry ([.ref wi, .int p0, .int p1]) (n := 3) (Nat.le_of_ble_eq_true rfl)
  rw [lg_entry_eq]
  generalize (lg_sl ([.ref wi, .int p0, .int p1]) ++ List.replicate (3 - (lg_sl ([.ref wi, .int p0, .int p1])).length) Slot.unset).toArray = ls at hl ⊢
  generalize ([.ref wi, .int p0, .int p1] : List Value).toArray = av at hts ⊢
  generalize hQ : MQ below _ av s _ _ A = QQ
  have hl : lv_has ls 3 [(0, .ref wi), (1, .int p0), (2, .int p1)] := hl
  have hP : va_P g vwCl [(wi, .inr (9, [.int wi_side, .int wi_rule, .int wi_begun, .int wi_years, .int wi_card, .int wi_hurt, .int wi_isEnd, .ref wi_worth])), (wi_worth, .inl (cI, 208, .inl wi_worth_c))] s.heap := hP
  refine lv_aload_n hx hb dX9_choiceFrom_0 rfl (lv_at hl 0 rfl) ?_
  refine lv_iload_n hx hb dX9_choiceFrom_1 rfl (lv_at hl 1 rfl) ?_
  refine lv_iload_n hx hb dX9_choiceFrom_2 rfl (lv_at hl 2 rfl) ?_
  refine lv_iconst (v := 0) hx hb dX9_choiceFrom_3 (by decide) ?_
  refine ro_i (va_runV (As := [.int p0, .int p1, .int 0]) (rest := []) ⟨hx, hb, hml, hown, hts⟩ (q_X9_worthOf l g cI cJ cB cZ cL p0 p1 0 wi wi_side wi_rule wi_begun wi_years wi_card wi_hurt wi_isEnd wi_worth wi_worth_c s.heap.size hv_p0 hv_wi_side hv_wi_begun hv_wi_years hv_wi_isEnd) (cwV 3 hts (goodIn_app (g_4 (List.mem_cons_of_mem _ (List.mem_append_left _ (List.mem_of_getElem? (i := 0) rfl))) (List.mem_cons_of_mem _ (List.mem_append_left _ (List.mem_of_getElem? (i := 1) rfl))) (List.mem_cons_of_mem _ (List.mem_append_left _ (List.mem_of_getElem? (i := 2) rfl))) (List.mem_cons_of_mem _ (List.mem_append_left _ (List.mem_of_getElem? (i := 3) rfl))) (by decide +kernel)) (goodIn_sub (fun _ h => List.mem_cons_of_mem _ (List.mem_append_right _ (List.mem_append_left _ h))) good_v_X9_worthOf)) rfl rfl rfl (by decide +kernel) ⟨Nat.le_of_ble_eq_true rfl, Nat.le_of_ble_eq_true rfl⟩) (pv_RO (q := (RX9, TX9, 8)) (ci := 9) (q0 := 0) (wc := [(wi, .inr (9, [.int wi_side, .int wi_rule, .int wi_begun, .int wi_years, .int wi_card, .int wi_hurt, .int wi_isEnd, .ref wi_worth])), (wi_worth, .inl (cI, 208, .inl wi_worth_c))]) hK hP [0, 1] rfl rfl rfl) rfl rfl hl.1 rfl (lv_room (Nat.le_of_ble_eq_true rfl)) dX9_choiceFrom_4 ⟨Nat.le_of_ble_eq_true rfl, Nat.le_of_ble_eq_true rfl⟩) hS hA hP (fun r4 u4 H locs hw4 hP hS => ?_)
  have hw4_0 := hw4
  refine lv_aload_n hx hb dX9_choiceFrom_7 rfl (lv_at hl 0 rfl) ?_
  refine lv_iload_n hx hb dX9_choiceFrom_8 rfl (lv_at hl 1 rfl) ?_
  refine lv_iload_n hx hb dX9_choiceFrom_9 rfl (lv_at hl 2 rfl) ?_
  refine lv_iconst (v := 1) hx hb dX9_choiceFrom_10 (by decide) ?_
  refine ro_i (va_runV (As := [.int p0, .int p1, .int 1]) (rest := [.int r4]) ⟨hx, hb, hml, hown, hts⟩ (q_X9_worthOf l g cI cJ cB cZ cL p0 p1 1 wi wi_side wi_rule wi_begun wi_years wi_card wi_hurt wi_isEnd wi_worth wi_worth_c H.size hv_p0 hv_wi_side hv_wi_begun hv_wi_years hv_wi_isEnd) (cwV 3 hts (goodIn_app (g_4 (List.mem_cons_of_mem _ (List.mem_append_left _ (List.mem_of_getElem? (i := 0) rfl))) (List.mem_cons_of_mem _ (List.mem_append_left _ (List.mem_of_getElem? (i := 1) rfl))) (List.mem_cons_of_mem _ (List.mem_append_left _ (List.mem_of_getElem? (i := 2) rfl))) (List.mem_cons_of_mem _ (List.mem_append_left _ (List.mem_of_getElem? (i := 3) rfl))) (by decide +kernel)) (goodIn_sub (fun _ h => List.mem_cons_of_mem _ (List.mem_append_right _ (List.mem_append_left _ h))) good_v_X9_worthOf)) rfl rfl rfl (by decide +kernel) ⟨Nat.le_of_ble_eq_true rfl, Nat.le_of_ble_eq_true rfl⟩) (pv_RO (q := (RX9, TX9, 8)) (ci := 9) (q0 := 0) (wc := [(wi, .inr (9, [.int wi_side, .int wi_rule, .int wi_begun, .int wi_years, .int wi_card, .int wi_hurt, .int wi_isEnd, .ref wi_worth])), (wi_worth, .inl (cI, 208, .inl wi_worth_c))]) hK hP [0, 1] rfl rfl rfl) rfl rfl hl.1 rfl (lv_room (Nat.le_of_ble_eq_true rfl)) dX9_choiceFrom_11 ⟨Nat.le_of_ble_eq_true rfl, Nat.le_of_ble_eq_true rfl⟩) hS hA hP (fun r11 u11 H locs hw11 hP hS => ?_)
  have hw11_0 := hw11
  refine lv_icmp_gt (tgt := 21) hx hb dX9_choiceFrom_14 (by decide) (fun c14 => ?_) (fun c14 => ?_)
  rotate_left 1
  · have f14 := (show r4.toInt ≤ r11.toInt from z_nlt rfl rfl c14)
    refine lv_iconst (v := 0) hx hb dX9_choiceFrom_17 (by decide) ?_
    refine lv_goto (tgt := 22) hx hb dX9_choiceFrom_18 (by decide) ?_
    subst hQ
    exact W.iret (v := 0) hx hb hr (fun t ht hW => ⟨⟨0, (), rfl, (show ir (0 : Int32).toInt 0 1 by decide), trivial⟩, hS.F ht⟩) hS.2.2 dX9_choiceFrom_22
  have f14 := (show r11.toInt < r4.toInt from z_lt rfl rfl c14)
  have r14a : ir r4.toInt (-2147483647) 1000000 := ir_ltb f14 hw11_0 hw4_0 (by decide)
  have r14b : ir r11.toInt (-2147483648) 999999 := ir_lta f14 hw11_0 hw4_0 (by decide)
  refine lv_iconst (v := 1) hx hb dX9_choiceFrom_21 (by decide) ?_
  subst hQ
  exact W.iret (v := 1) hx hb hr (fun t ht hW => ⟨⟨1, (), rfl, (show ir (1 : Int32).toInt 0 1 by decide), trivial⟩, hS.F ht⟩) hS.2.2 dX9_choiceFrom_22
def v_X9_goBack : List Cond := .code yX9_goBack cX9_goBack 3 none :: (([.fieldLink RX9 36 "CardsAtYule$Will" "years" "I", .fieldLink RX9 9 "CardsAtYule$Will" "worth" "[I", .methodLink RX9 81 yX9_worthOf, .instanceMethod yX9_worthOf, .selects RX9 yX9_worthOf yX9_worthOf, .initialized RX9, .methodLink RX9 85 Lib.Math.min.name, .static Lib.Math.min.name, .initialized "java/lang/Math", .code Lib.Math.min.name Lib.Math.min.code 2 (some .int)] : List Cond) ++ (v_X9_worthOf ++ (wsX90 ++ ([] : List Cond))))
theorem good_v_X9_goBack : v_X9_goBack.all goodWord = true := ga_c (by decide +kernel) (ga_a (by decide +kernel) (ga_a good_v_X9_worthOf (ga_a good_wsX90 rfl)))
set_option maxHeartbeats 4000000 in
set_option maxRecDepth 100000 in
theorem q_X9_goBack (l : Launch) (g : va_G) (cI cJ cB cZ cL : ClassId) (wi : Nat) (wi_side : Int32) (wi_rule : Int32) (wi_begun : Int32) (wi_years : Int32) (wi_card : Int32) (wi_hurt : Int32) (wi_isEnd : Int32) (wi_worth : Nat) (wi_worth_c : Nat → Int32) (sz : Nat) (hv_wi_side : ir wi_side.toInt 0 1) (hv_wi_begun : ir wi_begun.toInt 0 15) (hv_wi_years : ir wi_years.toInt 0 12) (hv_wi_isEnd : ir wi_isEnd.toInt 0 1) : Met l yX9_goBack v_X9_goBack ({ frames := 4, cells := 0, slots := 0, locals := 96 }) (va_Pc [.ref wi] (pRW g (tyT cI cJ cB cZ cL) [(wi, .inr (9, [.int wi_side, .int wi_rule, .int wi_begun, .int wi_years, .int wi_card, .int wi_hurt, .int wi_isEnd, .ref wi_worth])), (wi_worth, .inl (cI, 208, .inl wi_worth_c))] sz)) (va_Qv (fun (u : (Nat → Int32)) => match u with | n_wi_worth_c => True) (fun (u : (Nat → Int32)) (t : State) => bRW g (tyT cI cJ cB cZ cL) (va_A [(wi, .inr (9, [.int wi_side, .int wi_rule, .int wi_begun, .int wi_years, .int wi_card, .int wi_hurt, .int wi_isEnd, .ref wi_worth])), (wi_worth, .inl (cI, 208, .inl wi_worth_c))] sz) (match u with | n_wi_worth_c => [(wi, .inr (9, [.int wi_side, .int wi_rule, .int wi_begun, .int wi_years, .int wi_card, .int wi_hurt, .int wi_isEnd, .ref wi_worth])), (wi_worth, .inl (cI, 208, .inl n_wi_worth_c))]) t) (va_A [(wi, .inr (9, [.int wi_side, .int wi_rule, .int wi_begun, .int wi_years, .int wi_card, .int wi_hurt, .int wi_isEnd, .ref wi_worth])), (wi_worth, .inl (cI, 208, .inl wi_worth_c))] sz)) 0 0 (va_A [(wi, .inr (9, [.int wi_side, .int wi_rule, .int wi_begun, .int wi_years, .int wi_card, .int wi_hurt, .int wi_isEnd, .ref wi_worth])), (wi_worth, .inl (cI, 208, .inl wi_worth_c))] sz) := by
  refine Met.ofW (cc := cX9_goBack) (maxL := 3) (ret := none) (by decide) rfl ?_
  intro p e s m args below meth c s₁ B hml hv
  obtain ⟨rfl, hsz, hP, hK, hD0⟩ := hv
  have hx := B.exec
  have hb := B.bytes
  have hr := B.returns
  have hts := atoms_spec (ws := v_X9_goBack) B.pre
  have hown : s.vm.findClass RX9 = some m.cls := findClass_of_methodNamed B.named
  have hlocks := B.notSynchronized
  clear B
  subst hsz
  have iX9 : ∀ w ∈ wsX90, w ∈ v_X9_goBack := (fun _ h => List.mem_cons_of_mem _ (List.mem_append_right _ (List.mem_append_right _ (List.mem_append_left _ h))))
  have hD := hD0.self (sz := s.heap.size)
  generalize hAe : (va_A [(wi, .inr (9, [.int wi_side, .int wi_rule, .int wi_begun, .int wi_years, .int wi_card, .int wi_hurt, .int wi_isEnd, .ref wi_worth])), (wi_worth, .inl (cI, 208, .inl wi_worth_c))] s.heap.size) = A at hD ⊢
  have hA : ∀ q : Nat, s.heap.size ≤ q → A q := fun q h => by rw [← hAe]; exact Or.inr h
  have hS : va_S A s.heap s.heap [] := va_S.rf
  have hl := lv_entry ([.ref wi]) (n := 3) (Nat.le_of_ble_eq_true rfl)
  rw [lg_entry_eq]
  generalize (lg_sl ([.ref wi]) ++ List.replicate (3 - (lg_sl ([.ref wi])).length) Slot.unset).toArray = ls at hl ⊢
  generalize ([.ref wi] : List Value).toArray = av at hts ⊢
  generalize hQ : MQ below _ av s _ _ A = QQ
  have hl : lv_has ls 3 [(0, .ref wi)] := hl
  have hP : va_P g vwCl [(wi, .inr (9, [.int wi_side, .int wi_rule, .int wi_begun, .int wi_years, .int wi_card, .int wi_hurt, .int wi_isEnd, .ref wi_worth])), (wi_worth, .inl (cI, 208, .inl wi_worth_c))] s.heap := hP
  refine lv_aload_n hx hb dX9_goBack_0 rfl (lv_at hl 0 rfl) ?_
  refine va_get (D := g) (ci := 9) (v := .int wi_years) (C := RX9) (T := TX9) (N := 8) hx hb hts iX9 hown hK hP 0 rfl rfl 3 (by decide) (hts (.fieldLink RX9 36 "CardsAtYule$Will" "years" "I") (List.mem_cons_of_mem _ (List.mem_append_left _ (List.mem_of_getElem? (i := 0) rfl)))) (fun _ h9 => h9) rfl dX9_goBack_1 ?_
  refine lv_iconst (v := 1) hx hb dX9_goBack_4 (by decide) ?_
  refine lv_isub hx hb dX9_goBack_5 ?_
  refine lv_topi (fun y5 e5 => ?_)
  have q5 : y5.toInt = wi_years.toInt - 1 := by rw [e5]; exact su_z rfl rfl hv_wi_years (ir_c 1) (by decide) (by decide)
  have r5 : ir y5.toInt (-1) 11 := su_r q5 hv_wi_years (ir_c 1) (by decide) (by decide)
  refine lv_istore_n (lv' := [(1, .int y5), (0, .ref wi)]) hx hb dX9_goBack_6 rfl hl (by decide) rfl (fun ls hl => ?_)
  have J7 : ∀ (n7 : Nat) (j7_l1 : Int32) (j7_wi_worth_c : Nat → Int32) (H : Heap) (locs : List Loc) (ls : Array Slot), (j7_l1.toInt - (-2)).toNat < n7 → (ir j7_l1.toInt (-1) 11) → va_P g vwCl [(wi, .inr (9, [.int wi_side, .int wi_rule, .int wi_begun, .int wi_years, .int wi_card, .int wi_hurt, .int wi_isEnd, .ref wi_worth])), (wi_worth, .inl (cI, 208, .inl j7_wi_worth_c))] H → va_D A [(wi, .inr (9, [.int wi_side, .int wi_rule, .int wi_begun, .int wi_years, .int wi_card, .int wi_hurt, .int wi_isEnd, .ref wi_worth])), (wi_worth, .inl (cI, 208, .inl j7_wi_worth_c))] → va_S A s.heap H locs → lv_has ls 3 [(0, .ref wi), (1, .int j7_l1)] → W p l e (headSpec v_X9_goBack ({ frames := 4, cells := 0, slots := 0, locals := 96 })).room s m av below meth c H locs 0 0 QQ (F0 m 7 ls []) := by
    intro n7
    induction n7 with
    | zero => exact fun j7_l1 j7_wi_worth_c H locs ls hn => absurd hn (Nat.not_lt_zero _)
    | succ n7 ih7 =>
      intro j7_l1 j7_wi_worth_c H locs ls hn7 hj7_l1 hP hD hS hl
      refine lv_iload_n hx hb dX9_goBack_7 rfl (lv_at hl 1 rfl) ?_
      refine lv_if_lt (tgt := 59) hx hb dX9_goBack_8 (by decide) (fun c8 => ?_) (fun c8 => ?_)
      · have f8 := (show j7_l1.toInt < 0 from z_lt rfl rfl c8)
        have r8a : ir j7_l1.toInt (-1) (-1) := ir_lta f8 hj7_l1 (ir_c 0) (by decide)
        subst hQ
        have hP9 := hP.sub (ws' := [(wi, .inr (9, [.int wi_side, .int wi_rule, .int wi_begun, .int wi_years, .int wi_card, .int wi_hurt, .int wi_isEnd, .ref wi_worth])), (wi_worth, .inl (cI, 208, .inl j7_wi_worth_c))]) [0, 1] rfl
        have hD9 := hD.sub (ws' := [(wi, .inr (9, [.int wi_side, .int wi_rule, .int wi_begun, .int wi_years, .int wi_card, .int wi_hurt, .int wi_isEnd, .ref wi_worth])), (wi_worth, .inl (cI, 208, .inl j7_wi_worth_c))]) [0, 1] (by decide) rfl
        exact W.vret hx hb hr (fun t ht hW => ⟨⟨j7_wi_worth_c, rfl, trivial, ⟨by rw [ht]; exact hP9, va_K.moved hW.alike hK, hD9⟩⟩, hS.F ht⟩) hS.2.2 dX9_goBack_59
      have f8 := (show 0 ≤ j7_l1.toInt from z_nlt rfl rfl c8)
      have r8a : ir j7_l1.toInt 0 11 := ir_leb f8 (ir_c 0) hj7_l1 (by decide)
      refine lv_iconst (v := 0) hx hb dX9_goBack_11 (by decide) ?_
      refine lv_istore_n (lv' := [(2, .int 0), (0, .ref wi), (1, .int j7_l1)]) hx hb dX9_goBack_12 rfl hl (by decide) rfl (fun ls hl => ?_)
      have J13 : ∀ (n13 : Nat) (j13_l2 : Int32) (j13_wi_worth_c : Nat → Int32) (H : Heap) (locs : List Loc) (ls : Array Slot), (17 - j13_l2.toInt).toNat < n13 → (ir j13_l2.toInt 0 16) → va_P g vwCl [(wi, .inr (9, [.int wi_side, .int wi_rule, .int wi_begun, .int wi_years, .int wi_card, .int wi_hurt, .int wi_isEnd, .ref wi_worth])), (wi_worth, .inl (cI, 208, .inl j13_wi_worth_c))] H → va_D A [(wi, .inr (9, [.int wi_side, .int wi_rule, .int wi_begun, .int wi_years, .int wi_card, .int wi_hurt, .int wi_isEnd, .ref wi_worth])), (wi_worth, .inl (cI, 208, .inl j13_wi_worth_c))] → va_S A s.heap H locs → lv_has ls 3 [(0, .ref wi), (1, .int j7_l1), (2, .int j13_l2)] → W p l e (headSpec v_X9_goBack ({ frames := 4, cells := 0, slots := 0, locals := 96 })).room s m av below meth c H locs 0 0 QQ (F0 m 13 ls []) := by
        intro n13
        induction n13 with
        | zero => exact fun j13_l2 j13_wi_worth_c H locs ls hn => absurd hn (Nat.not_lt_zero _)
        | succ n13 ih13 =>
          intro j13_l2 j13_wi_worth_c H locs ls hn13 hj13_l2 hP hD hS hl
          refine lv_iload_n hx hb dX9_goBack_13 rfl (lv_at hl 2 rfl) ?_
          refine lv_bipush (v := 16) hx hb dX9_goBack_14 (by decide) ?_
          refine lv_icmp_ge (tgt := 53) hx hb dX9_goBack_16 (by decide) (fun c16 => ?_) (fun c16 => ?_)
          · have f16 := (show 16 ≤ j13_l2.toInt from z_le rfl rfl c16)
            have r16a : ir j13_l2.toInt 16 16 := ir_leb f16 (ir_c 16) hj13_l2 (by decide)
            obtain ⟨y53, e53⟩ : ∃ y : Int32, y = j7_l1 + (-1) := ⟨_, rfl⟩
            have q53 : y53.toInt = j7_l1.toInt + (-1) := by rw [e53]; exact ad_z rfl rfl r8a (ir_c (-1)) (by decide) (by decide)
            have r53 : ir y53.toInt (-1) 10 := ad_r q53 r8a (ir_c (-1)) (by decide) (by decide)
            refine lv_iinc (v := y53) (lv' := [(1, .int y53), (0, .ref wi), (2, .int j13_l2)]) hx hb dX9_goBack_53 hl (k := 1) rfl e53.symm (by decide) rfl (fun ls hl => ?_)
            refine lv_goto (tgt := 7) hx hb dX9_goBack_56 (by decide) ?_
            exact ih7 y53 j13_wi_worth_c _ _ _ (by omega) (ir_w r53 (by decide) (by decide)) (hP.sub [0, 1] rfl) (hD.sub [0, 1] (by decide) rfl) hS (lv_sub hl [1, 0] rfl)
          have f16 := (show j13_l2.toInt < 16 from z_nle rfl rfl c16)
          have r16a : ir j13_l2.toInt 0 15 := ir_lta f16 hj13_l2 (ir_c 16) (by decide)
          refine lv_aload_n hx hb dX9_goBack_19 rfl (lv_at hl 0 rfl) ?_
          refine va_get (D := g) (ci := 9) (v := .ref wi_worth) (C := RX9) (T := TX9) (N := 8) hx hb hts iX9 hown hK hP 0 rfl rfl 7 (by decide) (hts (.fieldLink RX9 9 "CardsAtYule$Will" "worth" "[I") (List.mem_cons_of_mem _ (List.mem_append_left _ (List.mem_of_getElem? (i := 1) rfl)))) (fun _ h9 => h9) rfl dX9_goBack_20 ?_
          refine lv_bipush (v := 16) hx hb dX9_goBack_23 (by decide) ?_
          refine lv_iload_n hx hb dX9_goBack_25 rfl (lv_at hl 1 rfl) ?_
          refine lv_imul hx hb dX9_goBack_26 ?_
          refine lv_topi (fun y26 e26 => ?_)
          have q26 : y26.toInt = 16 * j7_l1.toInt := by rw [e26]; exact mu_z rfl rfl (ir_c 16) r8a (by decide) (by decide) (by decide)
          have r26 : ir y26.toInt 0 176 := mu_r q26 (ir_c 16) r8a (by decide) (by decide) (by decide) (by decide)
          refine lv_iload_n hx hb dX9_goBack_27 rfl (lv_at hl 2 rfl) ?_
          refine lv_iadd hx hb dX9_goBack_28 ?_
          refine lv_topi (fun y28 e28 => ?_)
          have q28 : y28.toInt = y26.toInt + j13_l2.toInt := by rw [e28]; exact ad_z rfl rfl r26 r16a (by decide) (by decide)
          have r28 : ir y28.toInt 0 191 := ad_r q28 r26 r16a (by decide) (by decide)
          refine lv_aload_n hx hb dX9_goBack_29 rfl (lv_at hl 0 rfl) ?_
          refine lv_iload_n hx hb dX9_goBack_30 rfl (lv_at hl 1 rfl) ?_
          refine lv_iload_n hx hb dX9_goBack_31 rfl (lv_at hl 2 rfl) ?_
          refine lv_iconst (v := 0) hx hb dX9_goBack_32 (by decide) ?_
          refine ro_i (va_runV (As := [.int j7_l1, .int j13_l2, .int 0]) (rest := [.int y28, .ref wi_worth]) ⟨hx, hb, hml, hown, hts⟩ (q_X9_worthOf l g cI cJ cB cZ cL j7_l1 j13_l2 0 wi wi_side wi_rule wi_begun wi_years wi_card wi_hurt wi_isEnd wi_worth j13_wi_worth_c H.size r8a hv_wi_side hv_wi_begun hv_wi_years hv_wi_isEnd) (cwV 3 hts (goodIn_app (g_4 (List.mem_cons_of_mem _ (List.mem_append_left _ (List.mem_of_getElem? (i := 2) rfl))) (List.mem_cons_of_mem _ (List.mem_append_left _ (List.mem_of_getElem? (i := 3) rfl))) (List.mem_cons_of_mem _ (List.mem_append_left _ (List.mem_of_getElem? (i := 4) rfl))) (List.mem_cons_of_mem _ (List.mem_append_left _ (List.mem_of_getElem? (i := 5) rfl))) (by decide +kernel)) (goodIn_sub (fun _ h => List.mem_cons_of_mem _ (List.mem_append_right _ (List.mem_append_left _ h))) good_v_X9_worthOf)) rfl rfl rfl (by decide +kernel) ⟨Nat.le_of_ble_eq_true rfl, Nat.le_of_ble_eq_true rfl⟩) (pv_RO (q := (RX9, TX9, 8)) (ci := 9) (q0 := 0) (wc := [(wi, .inr (9, [.int wi_side, .int wi_rule, .int wi_begun, .int wi_years, .int wi_card, .int wi_hurt, .int wi_isEnd, .ref wi_worth])), (wi_worth, .inl (cI, 208, .inl j13_wi_worth_c))]) hK hP [0, 1] rfl rfl rfl) rfl rfl hl.1 rfl (lv_room (Nat.le_of_ble_eq_true rfl)) dX9_goBack_33 ⟨Nat.le_of_ble_eq_true rfl, Nat.le_of_ble_eq_true rfl⟩) hS hA hP (fun r33 u33 H locs hw33 hP hS => ?_)
          have hw33_0 := hw33
          refine lv_aload_n hx hb dX9_goBack_36 rfl (lv_at hl 0 rfl) ?_
          refine lv_iload_n hx hb dX9_goBack_37 rfl (lv_at hl 1 rfl) ?_
          refine lv_iload_n hx hb dX9_goBack_38 rfl (lv_at hl 2 rfl) ?_
          refine lv_iconst (v := 1) hx hb dX9_goBack_39 (by decide) ?_
          refine ro_i (va_runV (As := [.int j7_l1, .int j13_l2, .int 1]) (rest := [.int r33, .int y28, .ref wi_worth]) ⟨hx, hb, hml, hown, hts⟩ (q_X9_worthOf l g cI cJ cB cZ cL j7_l1 j13_l2 1 wi wi_side wi_rule wi_begun wi_years wi_card wi_hurt wi_isEnd wi_worth j13_wi_worth_c H.size r8a hv_wi_side hv_wi_begun hv_wi_years hv_wi_isEnd) (cwV 3 hts (goodIn_app (g_4 (List.mem_cons_of_mem _ (List.mem_append_left _ (List.mem_of_getElem? (i := 2) rfl))) (List.mem_cons_of_mem _ (List.mem_append_left _ (List.mem_of_getElem? (i := 3) rfl))) (List.mem_cons_of_mem _ (List.mem_append_left _ (List.mem_of_getElem? (i := 4) rfl))) (List.mem_cons_of_mem _ (List.mem_append_left _ (List.mem_of_getElem? (i := 5) rfl))) (by decide +kernel)) (goodIn_sub (fun _ h => List.mem_cons_of_mem _ (List.mem_append_right _ (List.mem_append_left _ h))) good_v_X9_worthOf)) rfl rfl rfl (by decide +kernel) ⟨Nat.le_of_ble_eq_true rfl, Nat.le_of_ble_eq_true rfl⟩) (pv_RO (q := (RX9, TX9, 8)) (ci := 9) (q0 := 0) (wc := [(wi, .inr (9, [.int wi_side, .int wi_rule, .int wi_begun, .int wi_years, .int wi_card, .int wi_hurt, .int wi_isEnd, .ref wi_worth])), (wi_worth, .inl (cI, 208, .inl j13_wi_worth_c))]) hK hP [0, 1] rfl rfl rfl) rfl rfl hl.1 rfl (lv_room (Nat.le_of_ble_eq_true rfl)) dX9_goBack_40 ⟨Nat.le_of_ble_eq_true rfl, Nat.le_of_ble_eq_true rfl⟩) hS hA hP (fun r40 u40 H locs hw40 hP hS => ?_)
          have hw40_0 := hw40
          refine va_mmin hx hb (hml.trans hl.1.symm) hown (hts (.methodLink RX9 85 Lib.Math.min.name) (List.mem_cons_of_mem _ (List.mem_append_left _ (List.mem_of_getElem? (i := 6) rfl)))) (hts (.static Lib.Math.min.name) (List.mem_cons_of_mem _ (List.mem_append_left _ (List.mem_of_getElem? (i := 7) rfl)))) (hts (.initialized "java/lang/Math") (List.mem_cons_of_mem _ (List.mem_append_left _ (List.mem_of_getElem? (i := 8) rfl)))) (hts (.code Lib.Math.min.name Lib.Math.min.code 2 (some .int)) (List.mem_cons_of_mem _ (List.mem_append_left _ (List.mem_of_getElem? (i := 9) rfl)))) (Nat.le_of_ble_eq_true rfl) (Nat.le_of_ble_eq_true rfl) (Nat.le_of_ble_eq_true rfl) (Nat.le_of_ble_eq_true rfl) dX9_goBack_43 ?_
          refine lv_topi (fun y43 e43 => ?_)
          have r43 : ir y43.toInt (-2147483648) 1000000 := by rw [e43]; exact min_r rfl rfl hw33_0 hw40_0 (by decide) (by decide) (by decide) (by decide)
          refine va_iast (D := g) hx hb hK hP hD hS 1 0 rfl rfl (vi_rg rfl r28 (by decide) (by decide)) dX9_goBack_46 (fun H locs hP hD hS => ?_)
          obtain ⟨g46, e46⟩ : ∃ z, z = upd j13_wi_worth_c y28.toNatClampNeg y43 := ⟨_, rfl⟩
          have hP : va_P g vwCl [(wi, .inr (9, [.int wi_side, .int wi_rule, .int wi_begun, .int wi_years, .int wi_card, .int wi_hurt, .int wi_isEnd, .ref wi_worth])), (wi_worth, .inl (cI, 208, .inl (upd j13_wi_worth_c y28.toNatClampNeg y43)))] H := hP
          have hD : va_D A [(wi, .inr (9, [.int wi_side, .int wi_rule, .int wi_begun, .int wi_years, .int wi_card, .int wi_hurt, .int wi_isEnd, .ref wi_worth])), (wi_worth, .inl (cI, 208, .inl (upd j13_wi_worth_c y28.toNatClampNeg y43)))] := hD
          rw [← e46] at hP hD
          obtain ⟨y47, e47⟩ : ∃ y : Int32, y = j13_l2 + 1 := ⟨_, rfl⟩
          have q47 : y47.toInt = j13_l2.toInt + 1 := by rw [e47]; exact ad_z rfl rfl r16a (ir_c 1) (by decide) (by decide)
          have r47 : ir y47.toInt 1 16 := ad_r q47 r16a (ir_c 1) (by decide) (by decide)
          refine lv_iinc (v := y47) (lv' := [(2, .int y47), (0, .ref wi), (1, .int j7_l1)]) hx hb dX9_goBack_47 hl (k := 2) rfl e47.symm (by decide) rfl (fun ls hl => ?_)
          refine lv_goto (tgt := 13) hx hb dX9_goBack_50 (by decide) ?_
          exact ih13 y47 g46 _ _ _ (by omega) (ir_w r47 (by decide) (by decide)) (hP.sub [0, 1] rfl) (hD.sub [0, 1] (by decide) rfl) hS (lv_sub hl [1, 2, 0] rfl)
      exact J13 _ 0 j7_wi_worth_c _ _ _ (Nat.lt_succ_self _) (by decide) (hP.sub [0, 1] rfl) (hD.sub [0, 1] (by decide) rfl) hS (lv_sub hl [1, 2, 0] rfl)
  exact J7 _ y5 wi_worth_c _ _ _ (Nat.lt_succ_self _) r5 (hP.sub [0, 1] rfl) (hD.sub [0, 1] (by decide) rfl) hS (lv_sub hl [1, 0] rfl)
def v_X9_take : List Cond := .code yX9_take cX9_take 5 none :: (([.fieldLink RX9 23 "CardsAtYule$Will" "side" "I", .methodLink RX9 66 yX4_ruleOfSide, .instanceMethod yX4_ruleOfSide, .selects RX4 yX4_ruleOfSide yX4_ruleOfSide, .initialized RX4, .fieldLink RX9 27 "CardsAtYule$Will" "rule" "I", .fieldLink RX9 71 "CardsAtYule$Land" "begun" "[I", .fieldLink RX9 53 "CardsAtYule$Will" "begun" "I", .fieldLink RX9 36 "CardsAtYule$Will" "years" "I", .fieldLink RX9 73 "CardsAtYule$Land" "card" "I", .fieldLink RX9 76 "CardsAtYule$Will" "card" "I", .fieldLink RX9 77 "CardsAtYule$Land" "hurt" "I", .fieldLink RX9 80 "CardsAtYule$Will" "hurt" "I"] : List Cond) ++ (v_X4_ruleOfSide ++ (wsX90 ++ (wsX40 ++ ([] : List Cond)))))
theorem good_v_X9_take : v_X9_take.all goodWord = true := ga_c (by decide +kernel) (ga_a (by decide +kernel) (ga_a good_v_X4_ruleOfSide (ga_a good_wsX90 (ga_a good_wsX40 rfl))))
set_option maxHeartbeats 4000000 in
set_option maxRecDepth 100000 in
theorem q_X9_take (l : Launch) (g : va_G) (cI cJ cB cZ cL : ClassId) (p1 : Int32) (p2 : Int32) (p3 : Int32) (wi : Nat) (ld : Nat) (wi_side : Int32) (wi_rule : Int32) (wi_begun : Int32) (wi_years : Int32) (wi_card : Int32) (wi_hurt : Int32) (wi_isEnd : Int32) (wi_worth : Nat) (ld_lines : Int32) (ld_years : Int32) (ld_card : Int32) (ld_hurt : Int32) (ld_people : Int32) (ld_pairs : Int32) (ld_strikes : Int64) (ld_rule : Nat) (ld_returns : Nat) (ld_forgets : Nat) (ld_death : Nat) (ld_move : Nat) (ld_begun : Nat) (ld_who : Nat) (ld_lost : Nat) (ld_who_c : Nat → Int32) (ld_rule_c : Nat → Int32) (ld_returns_c : Nat → Int32) (ld_begun_c : Nat → Int32) (sz : Nat) (hv_p1 : ir p1.toInt 0 15) (hv_p2 : ir p2.toInt 0 1) (hv_p3 : ir p3.toInt 1 12) (hv_wi_side : ir wi_side.toInt 0 1) (hv_wi_begun : ir wi_begun.toInt 0 15) (hv_wi_years : ir wi_years.toInt 0 12) (hv_wi_isEnd : ir wi_isEnd.toInt 0 1) (hv_ld_years : ir ld_years.toInt 0 40) (hv_ld_people : ir ld_people.toInt 0 10) (hv_ld_pairs : ir ld_pairs.toInt 0 16) (ha_ld_who_c : ar ld_who_c 32 0 9) (ha_ld_begun_c : ar ld_begun_c 16 0 15) : Met l yX9_take v_X9_take ({ frames := 1, cells := 0, slots := 0, locals := 23 }) (va_Pc [.ref wi, .ref ld, .int p1, .int p2, .int p3] (pRW g (tyT cI cJ cB cZ cL) [(wi, .inr (9, [.int wi_side, .int wi_rule, .int wi_begun, .int wi_years, .int wi_card, .int wi_hurt, .int wi_isEnd, .ref wi_worth])), (ld, .inr (4, [.int ld_lines, .int ld_years, .int ld_card, .int ld_hurt, .int ld_people, .int ld_pairs, .long ld_strikes, .ref ld_rule, .ref ld_returns, .ref ld_forgets, .ref ld_death, .ref ld_move, .ref ld_begun, .ref ld_who, .ref ld_lost])), (ld_who, .inl (cI, 32, .inl ld_who_c)), (ld_rule, .inl (cI, 10, .inl ld_rule_c)), (ld_returns, .inl (cI, 10, .inl ld_returns_c)), (ld_begun, .inl (cI, 16, .inl ld_begun_c))] sz)) (va_Qv (fun (u : Int32 × Int32 × Int32 × Int32 × Int32 × Int32) => match u with | (n_wi_side, n_wi_rule, n_wi_begun, n_wi_years, n_wi_card, n_wi_hurt) => (ir n_wi_side.toInt 0 1) ∧ (ir n_wi_begun.toInt 0 15) ∧ (ir n_wi_years.toInt 1 12)) (fun (u : Int32 × Int32 × Int32 × Int32 × Int32 × Int32) (t : State) => bRW g (tyT cI cJ cB cZ cL) (va_A [(wi, .inr (9, [.int wi_side, .int wi_rule, .int wi_begun, .int wi_years, .int wi_card, .int wi_hurt, .int wi_isEnd, .ref wi_worth])), (ld, .inr (4, [.int ld_lines, .int ld_years, .int ld_card, .int ld_hurt, .int ld_people, .int ld_pairs, .long ld_strikes, .ref ld_rule, .ref ld_returns, .ref ld_forgets, .ref ld_death, .ref ld_move, .ref ld_begun, .ref ld_who, .ref ld_lost])), (ld_who, .inl (cI, 32, .inl ld_who_c)), (ld_rule, .inl (cI, 10, .inl ld_rule_c)), (ld_returns, .inl (cI, 10, .inl ld_returns_c)), (ld_begun, .inl (cI, 16, .inl ld_begun_c))] sz) (match u with | (n_wi_side, n_wi_rule, n_wi_begun, n_wi_years, n_wi_card, n_wi_hurt) => [(wi, .inr (9, [.int n_wi_side, .int n_wi_rule, .int n_wi_begun, .int n_wi_years, .int n_wi_card, .int n_wi_hurt, .int wi_isEnd, .ref wi_worth])), (ld, .inr (4, [.int ld_lines, .int ld_years, .int ld_card, .int ld_hurt, .int ld_people, .int ld_pairs, .long ld_strikes, .ref ld_rule, .ref ld_returns, .ref ld_forgets, .ref ld_death, .ref ld_move, .ref ld_begun, .ref ld_who, .ref ld_lost])), (ld_who, .inl (cI, 32, .inl ld_who_c)), (ld_rule, .inl (cI, 10, .inl ld_rule_c)), (ld_returns, .inl (cI, 10, .inl ld_returns_c)), (ld_begun, .inl (cI, 16, .inl ld_begun_c))]) t) (va_A [(wi, .inr (9, [.int wi_side, .int wi_rule, .int wi_begun, .int wi_years, .int wi_card, .int wi_hurt, .int wi_isEnd, .ref wi_worth])), (ld, .inr (4, [.int ld_lines, .int ld_years, .int ld_card, .int ld_hurt, .int ld_people, .int ld_pairs, .long ld_strikes, .ref ld_rule, .ref ld_returns, .ref ld_forgets, .ref ld_death, .ref ld_move, .ref ld_begun, .ref ld_who, .ref ld_lost])), (ld_who, .inl (cI, 32, .inl ld_who_c)), (ld_rule, .inl (cI, 10, .inl ld_rule_c)), (ld_returns, .inl (cI, 10, .inl ld_returns_c)), (ld_begun, .inl (cI, 16, .inl ld_begun_c))] sz)) 0 0 (va_A [(wi, .inr (9, [.int wi_side, .int wi_rule, .int wi_begun, .int wi_years, .int wi_card, .int wi_hurt, .int wi_isEnd, .ref wi_worth])), (ld, .inr (4, [.int ld_lines, .int ld_years, .int ld_card, .int ld_hurt, .int ld_people, .int ld_pairs, .long ld_strikes, .ref ld_rule, .ref ld_returns, .ref ld_forgets, .ref ld_death, .ref ld_move, .ref ld_begun, .ref ld_who, .ref ld_lost])), (ld_who, .inl (cI, 32, .inl ld_who_c)), (ld_rule, .inl (cI, 10, .inl ld_rule_c)), (ld_returns, .inl (cI, 10, .inl ld_returns_c)), (ld_begun, .inl (cI, 16, .inl ld_begun_c))] sz) := by
  refine Met.ofW (cc := cX9_take) (maxL := 5) (ret := none) (by decide) rfl ?_
  intro p e s m args below meth c s₁ B hml hv
  obtain ⟨rfl, hsz, hP, hK, hD0⟩ := hv
  have hx := B.exec
  have hb := B.bytes
  have hr := B.returns
  have hts := atoms_spec (ws := v_X9_take) B.pre
  have hown : s.vm.findClass RX9 = some m.cls := findClass_of_methodNamed B.named
  have hlocks := B.notSynchronized
  clear B
  subst hsz
  have iX9 : ∀ w ∈ wsX90, w ∈ v_X9_take := (fun _ h => List.mem_cons_of_mem _ (List.mem_append_right _ (List.mem_append_right _ (List.mem_append_left _ h))))
  have iX4 : ∀ w ∈ wsX40, w ∈ v_X9_take := (fun _ h => List.mem_cons_of_mem _ (List.mem_append_right _ (List.mem_append_right _ (List.mem_append_right _ (List.mem_append_left _ h)))))
  have hD := hD0.self (sz := s.heap.size)
  generalize hAe : (va_A [(wi, .inr (9, [.int wi_side, .int wi_rule, .int wi_begun, .int wi_years, .int wi_card, .int wi_hurt, .int wi_isEnd, .ref wi_worth])), (ld, .inr (4, [.int ld_lines, .int ld_years, .int ld_card, .int ld_hurt, .int ld_people, .int ld_pairs, .long ld_strikes, .ref ld_rule, .ref ld_returns, .ref ld_forgets, .ref ld_death, .ref ld_move, .ref ld_begun, .ref ld_who, .ref ld_lost])), (ld_who, .inl (cI, 32, .inl ld_who_c)), (ld_rule, .inl (cI, 10, .inl ld_rule_c)), (ld_returns, .inl (cI, 10, .inl ld_returns_c)), (ld_begun, .inl (cI, 16, .inl ld_begun_c))] s.heap.size) = A at hD ⊢
  have hA : ∀ q : Nat, s.heap.size ≤ q → A q := fun q h => by rw [← hAe]; exact Or.inr h
  have hS : va_S A s.heap s.heap [] := va_S.rf
  have hl := lv_entry ([.ref wi, .ref ld, .int p1, .int p2, .int p3]) (n := 5) (Nat.le_of_ble_eq_true rfl)
  rw [lg_entry_eq]
  generalize (lg_sl ([.ref wi, .ref ld, .int p1, .int p2, .int p3]) ++ List.replicate (5 - (lg_sl ([.ref wi, .ref ld, .int p1, .int p2, .int p3])).length) Slot.unset).toArray = ls at hl ⊢
  generalize ([.ref wi, .ref ld, .int p1, .int p2, .int p3] : List Value).toArray = av at hts ⊢
  generalize hQ : MQ below _ av s _ _ A = QQ
  have hl : lv_has ls 5 [(0, .ref wi), (1, .ref ld), (2, .int p1), (3, .int p2), (4, .int p3)] := hl
  have hP : va_P g vwCl [(wi, .inr (9, [.int wi_side, .int wi_rule, .int wi_begun, .int wi_years, .int wi_card, .int wi_hurt, .int wi_isEnd, .ref wi_worth])), (ld, .inr (4, [.int ld_lines, .int ld_years, .int ld_card, .int ld_hurt, .int ld_people, .int ld_pairs, .long ld_strikes, .ref ld_rule, .ref ld_returns, .ref ld_forgets, .ref ld_death, .ref ld_move, .ref ld_begun, .ref ld_who, .ref ld_lost])), (ld_who, .inl (cI, 32, .inl ld_who_c)), (ld_rule, .inl (cI, 10, .inl ld_rule_c)), (ld_returns, .inl (cI, 10, .inl ld_returns_c)), (ld_begun, .inl (cI, 16, .inl ld_begun_c))] s.heap := hP
  refine lv_aload_n hx hb dX9_take_0 rfl (lv_at hl 0 rfl) ?_
  refine lv_iload_n hx hb dX9_take_1 rfl (lv_at hl 3 rfl) ?_
  refine va_put (D := g) (ci := 9) (v := .int p2) (ty := .int) (C := RX9) (T := TX9) (N := 8) hx hb hts iX9 tyX9 tyX9_ok nmX9 hown hK hP hD hS 0 rfl rfl 0 (by decide) (hts (.fieldLink RX9 23 "CardsAtYule$Will" "side" "I") (List.mem_cons_of_mem _ (List.mem_append_left _ (List.mem_of_getElem? (i := 0) rfl)))) (fun _ h9 => h9) rfl (by decide +kernel) rfl rfl (Nat.le_of_ble_eq_true rfl) dX9_take_2 (fun H locs hP hD hS => ?_)
  have hP : va_P g vwCl [(wi, .inr (9, [.int p2, .int wi_rule, .int wi_begun, .int wi_years, .int wi_card, .int wi_hurt, .int wi_isEnd, .ref wi_worth])), (ld, .inr (4, [.int ld_lines, .int ld_years, .int ld_card, .int ld_hurt, .int ld_people, .int ld_pairs, .long ld_strikes, .ref ld_rule, .ref ld_returns, .ref ld_forgets, .ref ld_death, .ref ld_move, .ref ld_begun, .ref ld_who, .ref ld_lost])), (ld_who, .inl (cI, 32, .inl ld_who_c)), (ld_rule, .inl (cI, 10, .inl ld_rule_c)), (ld_returns, .inl (cI, 10, .inl ld_returns_c)), (ld_begun, .inl (cI, 16, .inl ld_begun_c))] H := hP
  have hD : va_D A [(wi, .inr (9, [.int p2, .int wi_rule, .int wi_begun, .int wi_years, .int wi_card, .int wi_hurt, .int wi_isEnd, .ref wi_worth])), (ld, .inr (4, [.int ld_lines, .int ld_years, .int ld_card, .int ld_hurt, .int ld_people, .int ld_pairs, .long ld_strikes, .ref ld_rule, .ref ld_returns, .ref ld_forgets, .ref ld_death, .ref ld_move, .ref ld_begun, .ref ld_who, .ref ld_lost])), (ld_who, .inl (cI, 32, .inl ld_who_c)), (ld_rule, .inl (cI, 10, .inl ld_rule_c)), (ld_returns, .inl (cI, 10, .inl ld_returns_c)), (ld_begun, .inl (cI, 16, .inl ld_begun_c))] := hD
  refine lv_aload_n hx hb dX9_take_5 rfl (lv_at hl 0 rfl) ?_
  refine lv_aload_n hx hb dX9_take_6 rfl (lv_at hl 1 rfl) ?_
  refine lv_iload_n hx hb dX9_take_7 rfl (lv_at hl 2 rfl) ?_
  refine lv_iconst (v := 1) hx hb dX9_take_8 (by decide) ?_
  refine lv_iload_n hx hb dX9_take_9 rfl (lv_at hl 3 rfl) ?_
  refine lv_isub hx hb dX9_take_10 ?_
  refine lv_topi (fun y10 e10 => ?_)
  have q10 : y10.toInt = 1 - p2.toInt := by rw [e10]; exact su_z rfl rfl (ir_c 1) hv_p2 (by decide) (by decide)
  have r10 : ir y10.toInt 0 1 := su_r q10 (ir_c 1) hv_p2 (by decide) (by decide)
  refine ro_i (va_runV (As := [.int p1, .int y10]) (rest := [.ref wi]) ⟨hx, hb, hml, hown, hts⟩ (q_X4_ruleOfSide l g cI cJ cB cZ cL p1 y10 ld ld_lines ld_years ld_card ld_hurt ld_people ld_pairs ld_strikes ld_rule ld_returns ld_forgets ld_death ld_move ld_begun ld_who ld_lost ld_who_c ld_rule_c ld_returns_c H.size hv_p1 r10 hv_ld_years hv_ld_people hv_ld_pairs ha_ld_who_c) (cwV 2 hts (goodIn_app (g_4 (List.mem_cons_of_mem _ (List.mem_append_left _ (List.mem_of_getElem? (i := 1) rfl))) (List.mem_cons_of_mem _ (List.mem_append_left _ (List.mem_of_getElem? (i := 2) rfl))) (List.mem_cons_of_mem _ (List.mem_append_left _ (List.mem_of_getElem? (i := 3) rfl))) (List.mem_cons_of_mem _ (List.mem_append_left _ (List.mem_of_getElem? (i := 4) rfl))) (by decide +kernel)) (goodIn_sub (fun _ h => List.mem_cons_of_mem _ (List.mem_append_right _ (List.mem_append_left _ h))) good_v_X4_ruleOfSide)) rfl rfl rfl (by decide +kernel) ⟨Nat.le_of_ble_eq_true rfl, Nat.le_of_ble_eq_true rfl⟩) (pv_RO (q := (RX4, TX4, 15)) (ci := 4) (q0 := 0) (wc := [(ld, .inr (4, [.int ld_lines, .int ld_years, .int ld_card, .int ld_hurt, .int ld_people, .int ld_pairs, .long ld_strikes, .ref ld_rule, .ref ld_returns, .ref ld_forgets, .ref ld_death, .ref ld_move, .ref ld_begun, .ref ld_who, .ref ld_lost])), (ld_who, .inl (cI, 32, .inl ld_who_c)), (ld_rule, .inl (cI, 10, .inl ld_rule_c)), (ld_returns, .inl (cI, 10, .inl ld_returns_c))]) hK hP [1, 2, 3, 4] rfl rfl rfl) rfl rfl hl.1 rfl (lv_room (Nat.le_of_ble_eq_true rfl)) dX9_take_11 ⟨Nat.le_of_ble_eq_true rfl, Nat.le_of_ble_eq_true rfl⟩) hS hA hP (fun r11 u11 H locs hw11 hP hS => ?_)
  refine va_put (D := g) (ci := 9) (v := .int r11) (ty := .int) (C := RX9) (T := TX9) (N := 8) hx hb hts iX9 tyX9 tyX9_ok nmX9 hown hK hP hD hS 0 rfl rfl 1 (by decide) (hts (.fieldLink RX9 27 "CardsAtYule$Will" "rule" "I") (List.mem_cons_of_mem _ (List.mem_append_left _ (List.mem_of_getElem? (i := 5) rfl)))) (fun _ h9 => h9) rfl (by decide +kernel) rfl rfl (Nat.le_of_ble_eq_true rfl) dX9_take_14 (fun H locs hP hD hS => ?_)
  have hP : va_P g vwCl [(wi, .inr (9, [.int p2, .int r11, .int wi_begun, .int wi_years, .int wi_card, .int wi_hurt, .int wi_isEnd, .ref wi_worth])), (ld, .inr (4, [.int ld_lines, .int ld_years, .int ld_card, .int ld_hurt, .int ld_people, .int ld_pairs, .long ld_strikes, .ref ld_rule, .ref ld_returns, .ref ld_forgets, .ref ld_death, .ref ld_move, .ref ld_begun, .ref ld_who, .ref ld_lost])), (ld_who, .inl (cI, 32, .inl ld_who_c)), (ld_rule, .inl (cI, 10, .inl ld_rule_c)), (ld_returns, .inl (cI, 10, .inl ld_returns_c)), (ld_begun, .inl (cI, 16, .inl ld_begun_c))] H := hP
  have hD : va_D A [(wi, .inr (9, [.int p2, .int r11, .int wi_begun, .int wi_years, .int wi_card, .int wi_hurt, .int wi_isEnd, .ref wi_worth])), (ld, .inr (4, [.int ld_lines, .int ld_years, .int ld_card, .int ld_hurt, .int ld_people, .int ld_pairs, .long ld_strikes, .ref ld_rule, .ref ld_returns, .ref ld_forgets, .ref ld_death, .ref ld_move, .ref ld_begun, .ref ld_who, .ref ld_lost])), (ld_who, .inl (cI, 32, .inl ld_who_c)), (ld_rule, .inl (cI, 10, .inl ld_rule_c)), (ld_returns, .inl (cI, 10, .inl ld_returns_c)), (ld_begun, .inl (cI, 16, .inl ld_begun_c))] := hD
  refine lv_aload_n hx hb dX9_take_17 rfl (lv_at hl 0 rfl) ?_
  refine lv_aload_n hx hb dX9_take_18 rfl (lv_at hl 1 rfl) ?_
  refine va_get (D := g) (ci := 4) (v := .ref ld_begun) (C := RX4) (T := TX4) (N := 15) hx hb hts iX4 hown hK hP 1 rfl rfl 12 (by decide) (hts (.fieldLink RX9 71 "CardsAtYule$Land" "begun" "[I") (List.mem_cons_of_mem _ (List.mem_append_left _ (List.mem_of_getElem? (i := 6) rfl)))) (fun _ h9 => h9) rfl dX9_take_19 ?_
  refine lv_iload_n hx hb dX9_take_22 rfl (lv_at hl 2 rfl) ?_
  refine va_iald (D := g) hx hb hK hP 5 0 rfl rfl (vi_rg rfl hv_p1 (by decide) (by decide)) dX9_take_23 ?_
  refine lv_topi (fun y23 e23 => ?_)
  have r23 : ir y23.toInt 0 15 := by rw [e23]; exact ha_ld_begun_c _ (vi_cl (vi_rg rfl hv_p1 (by decide) (by decide)))
  refine va_put (D := g) (ci := 9) (v := .int y23) (ty := .int) (C := RX9) (T := TX9) (N := 8) hx hb hts iX9 tyX9 tyX9_ok nmX9 hown hK hP hD hS 0 rfl rfl 2 (by decide) (hts (.fieldLink RX9 53 "CardsAtYule$Will" "begun" "I") (List.mem_cons_of_mem _ (List.mem_append_left _ (List.mem_of_getElem? (i := 7) rfl)))) (fun _ h9 => h9) rfl (by decide +kernel) rfl rfl (Nat.le_of_ble_eq_true rfl) dX9_take_24 (fun H locs hP hD hS => ?_)
  have hP : va_P g vwCl [(wi, .inr (9, [.int p2, .int r11, .int y23, .int wi_years, .int wi_card, .int wi_hurt, .int wi_isEnd, .ref wi_worth])), (ld, .inr (4, [.int ld_lines, .int ld_years, .int ld_card, .int ld_hurt, .int ld_people, .int ld_pairs, .long ld_strikes, .ref ld_rule, .ref ld_returns, .ref ld_forgets, .ref ld_death, .ref ld_move, .ref ld_begun, .ref ld_who, .ref ld_lost])), (ld_who, .inl (cI, 32, .inl ld_who_c)), (ld_rule, .inl (cI, 10, .inl ld_rule_c)), (ld_returns, .inl (cI, 10, .inl ld_returns_c)), (ld_begun, .inl (cI, 16, .inl ld_begun_c))] H := hP
  have hD : va_D A [(wi, .inr (9, [.int p2, .int r11, .int y23, .int wi_years, .int wi_card, .int wi_hurt, .int wi_isEnd, .ref wi_worth])), (ld, .inr (4, [.int ld_lines, .int ld_years, .int ld_card, .int ld_hurt, .int ld_people, .int ld_pairs, .long ld_strikes, .ref ld_rule, .ref ld_returns, .ref ld_forgets, .ref ld_death, .ref ld_move, .ref ld_begun, .ref ld_who, .ref ld_lost])), (ld_who, .inl (cI, 32, .inl ld_who_c)), (ld_rule, .inl (cI, 10, .inl ld_rule_c)), (ld_returns, .inl (cI, 10, .inl ld_returns_c)), (ld_begun, .inl (cI, 16, .inl ld_begun_c))] := hD
  refine lv_aload_n hx hb dX9_take_27 rfl (lv_at hl 0 rfl) ?_
  refine lv_iload hx hb dX9_take_28 (lv_at hl 4 rfl) ?_
  refine va_put (D := g) (ci := 9) (v := .int p3) (ty := .int) (C := RX9) (T := TX9) (N := 8) hx hb hts iX9 tyX9 tyX9_ok nmX9 hown hK hP hD hS 0 rfl rfl 3 (by decide) (hts (.fieldLink RX9 36 "CardsAtYule$Will" "years" "I") (List.mem_cons_of_mem _ (List.mem_append_left _ (List.mem_of_getElem? (i := 8) rfl)))) (fun _ h9 => h9) rfl (by decide +kernel) rfl rfl (Nat.le_of_ble_eq_true rfl) dX9_take_30 (fun H locs hP hD hS => ?_)
  have hP : va_P g vwCl [(wi, .inr (9, [.int p2, .int r11, .int y23, .int p3, .int wi_card, .int wi_hurt, .int wi_isEnd, .ref wi_worth])), (ld, .inr (4, [.int ld_lines, .int ld_years, .int ld_card, .int ld_hurt, .int ld_people, .int ld_pairs, .long ld_strikes, .ref ld_rule, .ref ld_returns, .ref ld_forgets, .ref ld_death, .ref ld_move, .ref ld_begun, .ref ld_who, .ref ld_lost])), (ld_who, .inl (cI, 32, .inl ld_who_c)), (ld_rule, .inl (cI, 10, .inl ld_rule_c)), (ld_returns, .inl (cI, 10, .inl ld_returns_c)), (ld_begun, .inl (cI, 16, .inl ld_begun_c))] H := hP
  have hD : va_D A [(wi, .inr (9, [.int p2, .int r11, .int y23, .int p3, .int wi_card, .int wi_hurt, .int wi_isEnd, .ref wi_worth])), (ld, .inr (4, [.int ld_lines, .int ld_years, .int ld_card, .int ld_hurt, .int ld_people, .int ld_pairs, .long ld_strikes, .ref ld_rule, .ref ld_returns, .ref ld_forgets, .ref ld_death, .ref ld_move, .ref ld_begun, .ref ld_who, .ref ld_lost])), (ld_who, .inl (cI, 32, .inl ld_who_c)), (ld_rule, .inl (cI, 10, .inl ld_rule_c)), (ld_returns, .inl (cI, 10, .inl ld_returns_c)), (ld_begun, .inl (cI, 16, .inl ld_begun_c))] := hD
  refine lv_aload_n hx hb dX9_take_33 rfl (lv_at hl 0 rfl) ?_
  refine lv_aload_n hx hb dX9_take_34 rfl (lv_at hl 1 rfl) ?_
  refine va_get (D := g) (ci := 4) (v := .int ld_card) (C := RX4) (T := TX4) (N := 15) hx hb hts iX4 hown hK hP 1 rfl rfl 2 (by decide) (hts (.fieldLink RX9 73 "CardsAtYule$Land" "card" "I") (List.mem_cons_of_mem _ (List.mem_append_left _ (List.mem_of_getElem? (i := 9) rfl)))) (fun _ h9 => h9) rfl dX9_take_35 ?_
  refine va_put (D := g) (ci := 9) (v := .int ld_card) (ty := .int) (C := RX9) (T := TX9) (N := 8) hx hb hts iX9 tyX9 tyX9_ok nmX9 hown hK hP hD hS 0 rfl rfl 4 (by decide) (hts (.fieldLink RX9 76 "CardsAtYule$Will" "card" "I") (List.mem_cons_of_mem _ (List.mem_append_left _ (List.mem_of_getElem? (i := 10) rfl)))) (fun _ h9 => h9) rfl (by decide +kernel) rfl rfl (Nat.le_of_ble_eq_true rfl) dX9_take_38 (fun H locs hP hD hS => ?_)
  have hP : va_P g vwCl [(wi, .inr (9, [.int p2, .int r11, .int y23, .int p3, .int ld_card, .int wi_hurt, .int wi_isEnd, .ref wi_worth])), (ld, .inr (4, [.int ld_lines, .int ld_years, .int ld_card, .int ld_hurt, .int ld_people, .int ld_pairs, .long ld_strikes, .ref ld_rule, .ref ld_returns, .ref ld_forgets, .ref ld_death, .ref ld_move, .ref ld_begun, .ref ld_who, .ref ld_lost])), (ld_who, .inl (cI, 32, .inl ld_who_c)), (ld_rule, .inl (cI, 10, .inl ld_rule_c)), (ld_returns, .inl (cI, 10, .inl ld_returns_c)), (ld_begun, .inl (cI, 16, .inl ld_begun_c))] H := hP
  have hD : va_D A [(wi, .inr (9, [.int p2, .int r11, .int y23, .int p3, .int ld_card, .int wi_hurt, .int wi_isEnd, .ref wi_worth])), (ld, .inr (4, [.int ld_lines, .int ld_years, .int ld_card, .int ld_hurt, .int ld_people, .int ld_pairs, .long ld_strikes, .ref ld_rule, .ref ld_returns, .ref ld_forgets, .ref ld_death, .ref ld_move, .ref ld_begun, .ref ld_who, .ref ld_lost])), (ld_who, .inl (cI, 32, .inl ld_who_c)), (ld_rule, .inl (cI, 10, .inl ld_rule_c)), (ld_returns, .inl (cI, 10, .inl ld_returns_c)), (ld_begun, .inl (cI, 16, .inl ld_begun_c))] := hD
  refine lv_aload_n hx hb dX9_take_41 rfl (lv_at hl 0 rfl) ?_
  refine lv_aload_n hx hb dX9_take_42 rfl (lv_at hl 1 rfl) ?_
  refine va_get (D := g) (ci := 4) (v := .int ld_hurt) (C := RX4) (T := TX4) (N := 15) hx hb hts iX4 hown hK hP 1 rfl rfl 3 (by decide) (hts (.fieldLink RX9 77 "CardsAtYule$Land" "hurt" "I") (List.mem_cons_of_mem _ (List.mem_append_left _ (List.mem_of_getElem? (i := 11) rfl)))) (fun _ h9 => h9) rfl dX9_take_43 ?_
  refine va_put (D := g) (ci := 9) (v := .int ld_hurt) (ty := .int) (C := RX9) (T := TX9) (N := 8) hx hb hts iX9 tyX9 tyX9_ok nmX9 hown hK hP hD hS 0 rfl rfl 5 (by decide) (hts (.fieldLink RX9 80 "CardsAtYule$Will" "hurt" "I") (List.mem_cons_of_mem _ (List.mem_append_left _ (List.mem_of_getElem? (i := 12) rfl)))) (fun _ h9 => h9) rfl (by decide +kernel) rfl rfl (Nat.le_of_ble_eq_true rfl) dX9_take_46 (fun H locs hP hD hS => ?_)
  have hP : va_P g vwCl [(wi, .inr (9, [.int p2, .int r11, .int y23, .int p3, .int ld_card, .int ld_hurt, .int wi_isEnd, .ref wi_worth])), (ld, .inr (4, [.int ld_lines, .int ld_years, .int ld_card, .int ld_hurt, .int ld_people, .int ld_pairs, .long ld_strikes, .ref ld_rule, .ref ld_returns, .ref ld_forgets, .ref ld_death, .ref ld_move, .ref ld_begun, .ref ld_who, .ref ld_lost])), (ld_who, .inl (cI, 32, .inl ld_who_c)), (ld_rule, .inl (cI, 10, .inl ld_rule_c)), (ld_returns, .inl (cI, 10, .inl ld_returns_c)), (ld_begun, .inl (cI, 16, .inl ld_begun_c))] H := hP
  have hD : va_D A [(wi, .inr (9, [.int p2, .int r11, .int y23, .int p3, .int ld_card, .int ld_hurt, .int wi_isEnd, .ref wi_worth])), (ld, .inr (4, [.int ld_lines, .int ld_years, .int ld_card, .int ld_hurt, .int ld_people, .int ld_pairs, .long ld_strikes, .ref ld_rule, .ref ld_returns, .ref ld_forgets, .ref ld_death, .ref ld_move, .ref ld_begun, .ref ld_who, .ref ld_lost])), (ld_who, .inl (cI, 32, .inl ld_who_c)), (ld_rule, .inl (cI, 10, .inl ld_rule_c)), (ld_returns, .inl (cI, 10, .inl ld_returns_c)), (ld_begun, .inl (cI, 16, .inl ld_begun_c))] := hD
  subst hQ
  have hP9 := hP.sub (ws' := [(wi, .inr (9, [.int p2, .int r11, .int y23, .int p3, .int ld_card, .int ld_hurt, .int wi_isEnd, .ref wi_worth])), (ld, .inr (4, [.int ld_lines, .int ld_years, .int ld_card, .int ld_hurt, .int ld_people, .int ld_pairs, .long ld_strikes, .ref ld_rule, .ref ld_returns, .ref ld_forgets, .ref ld_death, .ref ld_move, .ref ld_begun, .ref ld_who, .ref ld_lost])), (ld_who, .inl (cI, 32, .inl ld_who_c)), (ld_rule, .inl (cI, 10, .inl ld_rule_c)), (ld_returns, .inl (cI, 10, .inl ld_returns_c)), (ld_begun, .inl (cI, 16, .inl ld_begun_c))]) [0, 1, 2, 3, 4, 5] rfl
  have hD9 := hD.sub (ws' := [(wi, .inr (9, [.int p2, .int r11, .int y23, .int p3, .int ld_card, .int ld_hurt, .int wi_isEnd, .ref wi_worth])), (ld, .inr (4, [.int ld_lines, .int ld_years, .int ld_card, .int ld_hurt, .int ld_people, .int ld_pairs, .long ld_strikes, .ref ld_rule, .ref ld_returns, .ref ld_forgets, .ref ld_death, .ref ld_move, .ref ld_begun, .ref ld_who, .ref ld_lost])), (ld_who, .inl (cI, 32, .inl ld_who_c)), (ld_rule, .inl (cI, 10, .inl ld_rule_c)), (ld_returns, .inl (cI, 10, .inl ld_returns_c)), (ld_begun, .inl (cI, 16, .inl ld_begun_c))]) [0, 1, 2, 3, 4, 5] (by decide) rfl
  exact W.vret hx hb hr (fun t ht hW => ⟨⟨(p2, r11, y23, p3, ld_card, ld_hurt), rfl, ⟨hv_p2, r23, hv_p3⟩, ⟨by rw [ht]; exact hP9, va_K.moved hW.alike hK, hD9⟩⟩, hS.F ht⟩) hS.2.2 dX9_take_49
def v_X9_least : List Cond := .code yX9_least cX9_least 2 (some .int) :: (([.fieldLink RX9 9 "CardsAtYule$Will" "worth" "[I", .fieldLink RX9 53 "CardsAtYule$Will" "begun" "I", .constant RX9 43 (1000000)] : List Cond) ++ (wsX90 ++ ([] : List Cond)))
theorem good_v_X9_least : v_X9_least.all goodWord = true := ga_c (by decide +kernel) (ga_a (by decide +kernel) (ga_a good_wsX90 rfl))
set_option maxHeartbeats 4000000 in
set_option maxRecDepth 100000 in
theorem q_X9_least (l : Launch) (g : va_G) (cI cJ cB cZ cL : ClassId) (wi : Nat) (wi_side : Int32) (wi_rule : Int32) (wi_begun : Int32) (wi_years : Int32) (wi_card : Int32) (wi_hurt : Int32) (wi_isEnd : Int32) (wi_worth : Nat) (wi_worth_c : Nat → Int32) (sz : Nat) (hv_wi_side : ir wi_side.toInt 0 1) (hv_wi_begun : ir wi_begun.toInt 0 15) (hv_wi_years : ir wi_years.toInt 0 12) (hv_wi_isEnd : ir wi_isEnd.toInt 0 1) : Met l yX9_least v_X9_least ({ frames := 0, cells := 0, slots := 0, locals := 0 }) (va_Pc [.ref wi] (pRO g (tyT cI cJ cB cZ cL) [(wi, .inr (9, [.int wi_side, .int wi_rule, .int wi_begun, .int wi_years, .int wi_card, .int wi_hurt, .int wi_isEnd, .ref wi_worth])), (wi_worth, .inl (cI, 208, .inl wi_worth_c))] sz)) (va_Qi (fun (r : Int32) (u : Unit) => (ir r.toInt (-2147483648) 999999)) (fun (_ : Unit) (_ : State) => True) (va_A [] sz)) 0 0 (va_A [] sz) := by
  refine Met.ofW (cc := cX9_least) (maxL := 2) (ret := (some .int)) (by decide) rfl ?_
  intro p e s m args below meth c s₁ B hml hv
  obtain ⟨rfl, hsz, hP, hK⟩ := hv
  have hx := B.exec
  have hb := B.bytes
  have hr := B.returns
  have hts := atoms_spec (ws := v_X9_least) B.pre
  have hown : s.vm.findClass RX9 = some m.cls := findClass_of_methodNamed B.named
  have hlocks := B.notSynchronized
  clear B
  subst hsz
  have iX9 : ∀ w ∈ wsX90, w ∈ v_X9_least := (fun _ h => List.mem_cons_of_mem _ (List.mem_append_right _ (List.mem_append_left _ h)))
  generalize hAe : (va_A [] s.heap.size) = A
  have hA : ∀ q : Nat, s.heap.size ≤ q → A q := fun q h => by rw [← hAe]; exact Or.inr h
  have hS : va_S A s.heap s.heap [] := va_S.rf
  have hl := lv_entry ([.ref wi]) (n := 2) (Nat.le_of_ble_eq_true rfl)
  rw [lg_entry_eq]
  generalize (lg_sl ([.ref wi]) ++ List.replicate (2 - (lg_sl ([.ref wi])).length) Slot.unset).toArray = ls at hl ⊢
  generalize ([.ref wi] : List Value).toArray = av at hts ⊢
  generalize hQ : MQ below _ av s _ _ A = QQ
  have hl : lv_has ls 2 [(0, .ref wi)] := hl
  have hP : va_P g vwCl [(wi, .inr (9, [.int wi_side, .int wi_rule, .int wi_begun, .int wi_years, .int wi_card, .int wi_hurt, .int wi_isEnd, .ref wi_worth])), (wi_worth, .inl (cI, 208, .inl wi_worth_c))] s.heap := hP
  refine lv_aload_n hx hb dX9_least_0 rfl (lv_at hl 0 rfl) ?_
  refine va_get (D := g) (ci := 9) (v := .ref wi_worth) (C := RX9) (T := TX9) (N := 8) hx hb hts iX9 hown hK hP 0 rfl rfl 7 (by decide) (hts (.fieldLink RX9 9 "CardsAtYule$Will" "worth" "[I") (List.mem_cons_of_mem _ (List.mem_append_left _ (List.mem_of_getElem? (i := 0) rfl)))) (fun _ h9 => h9) rfl dX9_least_1 ?_
  refine lv_aload_n hx hb dX9_least_4 rfl (lv_at hl 0 rfl) ?_
  refine va_get (D := g) (ci := 9) (v := .int wi_begun) (C := RX9) (T := TX9) (N := 8) hx hb hts iX9 hown hK hP 0 rfl rfl 2 (by decide) (hts (.fieldLink RX9 53 "CardsAtYule$Will" "begun" "I") (List.mem_cons_of_mem _ (List.mem_append_left _ (List.mem_of_getElem? (i := 1) rfl)))) (fun _ h9 => h9) rfl dX9_least_5 ?_
  refine va_iald (D := g) hx hb hK hP 1 0 rfl rfl (vi_rg rfl hv_wi_begun (by decide) (by decide)) dX9_least_8 ?_
  refine lv_topi (fun y8 e8 => ?_)
  refine lv_istore_n (lv' := [(1, .int y8), (0, .ref wi)]) hx hb dX9_least_9 rfl hl (by decide) rfl (fun ls hl => ?_)
  refine lv_iload_n hx hb dX9_least_10 rfl (lv_at hl 0 rfl) ?_
  refine lv_ldc (v := 1000000) hx hb hown (hts (.constant RX9 43 (1000000)) (List.mem_cons_of_mem _ (List.mem_append_left _ (List.mem_of_getElem? (i := 2) rfl)))) dX9_least_11 ?_
  refine lv_icmp_lt (tgt := 20) hx hb dX9_least_13 (by decide) (fun c13 => ?_) (fun c13 => ?_)
  · have f13 := (show y8.toInt < 1000000 from z_lt rfl rfl c13)
    have r13a : ir y8.toInt (-2147483648) 999999 := ir_lta f13 (rg_all y8) (ir_c 1000000) (by decide)
    refine lv_iload_n hx hb dX9_least_20 rfl (lv_at hl 0 rfl) ?_
    subst hQ
    exact W.iret (v := y8) hx hb hr (fun t ht hW => ⟨⟨y8, (), rfl, r13a, trivial⟩, hS.F ht⟩) hS.2.2 dX9_least_21
  have f13 := (show 1000000 ≤ y8.toInt from z_nlt rfl rfl c13)
  have r13a : ir y8.toInt 1000000 2147483647 := ir_leb f13 (ir_c 1000000) (rg_all y8) (by decide)
  refine lv_iconst (v := (-1)) hx hb dX9_least_16 (by decide) ?_
  refine lv_goto (tgt := 21) hx hb dX9_least_17 (by decide) ?_
  subst hQ
  exact W.iret (v := (-1)) hx hb hr (fun t ht hW => ⟨⟨(-1), (), rfl, (show ir ((-1) : Int32).toInt (-2147483648) 999999 by decide), trivial⟩, hS.F ht⟩) hS.2.2 dX9_least_21
def v_X9_choiceIn : List Cond := .code yX9_choiceIn cX9_choiceIn 4 (some .int) :: (([.methodLink RX9 56 yX9_least, .instanceMethod yX9_least, .selects RX9 yX9_least yX9_least, .initialized RX9, .fieldLink RX9 53 "CardsAtYule$Will" "begun" "I", .methodLink RX9 59 yX9_choiceFrom, .instanceMethod yX9_choiceFrom, .selects RX9 yX9_choiceFrom yX9_choiceFrom, .methodLink RX9 63 yX9_next, .instanceMethod yX9_next, .selects RX9 yX9_next yX9_next] : List Cond) ++ (v_X9_least ++ (v_X9_choiceFrom ++ (v_X9_next ++ (wsX90 ++ ([] : List Cond))))))
theorem good_v_X9_choiceIn : v_X9_choiceIn.all goodWord = true := ga_c (by decide +kernel) (ga_a (by decide +kernel) (ga_a good_v_X9_least (ga_a good_v_X9_choiceFrom (ga_a good_v_X9_next (ga_a good_wsX90 rfl)))))
set_option maxHeartbeats 4000000 in
set_option maxRecDepth 100000 in
theorem q_X9_choiceIn (l : Launch) (g : va_G) (cI cJ cB cZ cL : ClassId) (p0 : Int32) (wi : Nat) (wi_side : Int32) (wi_rule : Int32) (wi_begun : Int32) (wi_years : Int32) (wi_card : Int32) (wi_hurt : Int32) (wi_isEnd : Int32) (wi_worth : Nat) (wi_worth_c : Nat → Int32) (sz : Nat) (hv_p0 : ir p0.toInt 0 11) (hv_wi_side : ir wi_side.toInt 0 1) (hv_wi_begun : ir wi_begun.toInt 0 15) (hv_wi_years : ir wi_years.toInt 0 12) (hv_wi_isEnd : ir wi_isEnd.toInt 0 1) : Met l yX9_choiceIn v_X9_choiceIn ({ frames := 5, cells := 0, slots := 0, locals := 118 }) (va_Pc [.ref wi, .int p0] (pRO g (tyT cI cJ cB cZ cL) [(wi, .inr (9, [.int wi_side, .int wi_rule, .int wi_begun, .int wi_years, .int wi_card, .int wi_hurt, .int wi_isEnd, .ref wi_worth])), (wi_worth, .inl (cI, 208, .inl wi_worth_c))] sz)) (va_Qi (fun (r : Int32) (u : Unit) => (ir r.toInt (-1) 1)) (fun (_ : Unit) (_ : State) => True) (va_A [] sz)) 0 0 (va_A [] sz) := by
  refine Met.ofW (cc := cX9_choiceIn) (maxL := 4) (ret := (some .int)) (by decide) rfl ?_
  intro p e s m args below meth c s₁ B hml hv
  obtain ⟨rfl, hsz, hP, hK⟩ := hv
  have hx := B.exec
  have hb := B.bytes
  have hr := B.returns
  have hts := atoms_spec (ws := v_X9_choiceIn) B.pre
  have hown : s.vm.findClass RX9 = some m.cls := findClass_of_methodNamed B.named
  have hlocks := B.notSynchronized
  clear B
  subst hsz
  have iX9 : ∀ w ∈ wsX90, w ∈ v_X9_choiceIn := (fun _ h => List.mem_cons_of_mem _ (List.mem_append_right _ (List.mem_append_right _ (List.mem_append_right _ (List.mem_append_right _ (List.mem_append_left _ h))))))
  generalize hAe : (va_A [] s.heap.size) = A
  have hA : ∀ q : Nat, s.heap.size ≤ q → A q := fun q h => by rw [← hAe]; exact Or.inr h
  have hS : va_S A s.heap s.heap [] := va_S.rf
  have hl := lv_entry ([.ref wi, .int p0]) (n := 4) (Nat.le_of_ble_eq_true rfl)
  rw [lg_entry_eq]
  generalize (lg_sl ([.ref wi, .int p0]) ++ List.replicate (4 - (lg_sl ([.ref wi, .int p0])).length) Slot.unset).toArray = ls at hl ⊢
  generalize ([.ref wi, .int p0] : List Value).toArray = av at hts ⊢
  generalize hQ : MQ below _ av s _ _ A = QQ
  have hl : lv_has ls 4 [(0, .ref wi), (1, .int p0)] := hl
  have hP : va_P g vwCl [(wi, .inr (9, [.int wi_side, .int wi_rule, .int wi_begun, .int wi_years, .int wi_card, .int wi_hurt, .int wi_isEnd, .ref wi_worth])), (wi_worth, .inl (cI, 208, .inl wi_worth_c))] s.heap := hP
  refine lv_aload_n hx hb dX9_choiceIn_0 rfl (lv_at hl 0 rfl) ?_
  refine ro_i (va_runV (As := []) (rest := []) ⟨hx, hb, hml, hown, hts⟩ (q_X9_least l g cI cJ cB cZ cL wi wi_side wi_rule wi_begun wi_years wi_card wi_hurt wi_isEnd wi_worth wi_worth_c s.heap.size hv_wi_side hv_wi_begun hv_wi_years hv_wi_isEnd) (cwV 0 hts (goodIn_app (g_4 (List.mem_cons_of_mem _ (List.mem_append_left _ (List.mem_of_getElem? (i := 0) rfl))) (List.mem_cons_of_mem _ (List.mem_append_left _ (List.mem_of_getElem? (i := 1) rfl))) (List.mem_cons_of_mem _ (List.mem_append_left _ (List.mem_of_getElem? (i := 2) rfl))) (List.mem_cons_of_mem _ (List.mem_append_left _ (List.mem_of_getElem? (i := 3) rfl))) (by decide +kernel)) (goodIn_sub (fun _ h => List.mem_cons_of_mem _ (List.mem_append_right _ (List.mem_append_left _ h))) good_v_X9_least)) rfl rfl rfl (by decide +kernel) ⟨Nat.le_of_ble_eq_true rfl, Nat.le_of_ble_eq_true rfl⟩) (pv_RO (q := (RX9, TX9, 8)) (ci := 9) (q0 := 0) (wc := [(wi, .inr (9, [.int wi_side, .int wi_rule, .int wi_begun, .int wi_years, .int wi_card, .int wi_hurt, .int wi_isEnd, .ref wi_worth])), (wi_worth, .inl (cI, 208, .inl wi_worth_c))]) hK hP [0, 1] rfl rfl rfl) rfl rfl hl.1 rfl (lv_room (Nat.le_of_ble_eq_true rfl)) dX9_choiceIn_1 ⟨Nat.le_of_ble_eq_true rfl, Nat.le_of_ble_eq_true rfl⟩) hS hA hP (fun r1 u1 H locs hw1 hP hS => ?_)
  have hw1_0 := hw1
  refine lv_iconst (v := (-1)) hx hb dX9_choiceIn_4 (by decide) ?_
  refine lv_icmp_ne (tgt := 10) hx hb dX9_choiceIn_5 (by decide) (fun c5 => ?_) (fun c5 => ?_)
  rotate_left 1
  · have f5 := (show r1.toInt = (-1) from z_eq rfl rfl c5)
    have r5a : ir r1.toInt (-1) (-1) := ir_eqa f5 hw1_0 (ir_c (-1)) (by decide) (by decide)
    refine lv_iconst (v := (-1)) hx hb dX9_choiceIn_8 (by decide) ?_
    subst hQ
    exact W.iret (v := (-1)) hx hb hr (fun t ht hW => ⟨⟨(-1), (), rfl, (show ir ((-1) : Int32).toInt (-1) 1 by decide), trivial⟩, hS.F ht⟩) hS.2.2 dX9_choiceIn_9
  have f5 := (show r1.toInt ≠ (-1) from z_ne rfl rfl c5)
  refine lv_aload_n hx hb dX9_choiceIn_10 rfl (lv_at hl 0 rfl) ?_
  refine va_get (D := g) (ci := 9) (v := .int wi_begun) (C := RX9) (T := TX9) (N := 8) hx hb hts iX9 hown hK hP 0 rfl rfl 2 (by decide) (hts (.fieldLink RX9 53 "CardsAtYule$Will" "begun" "I") (List.mem_cons_of_mem _ (List.mem_append_left _ (List.mem_of_getElem? (i := 4) rfl)))) (fun _ h9 => h9) rfl dX9_choiceIn_11 ?_
  refine lv_istore_n (lv' := [(2, .int wi_begun), (0, .ref wi), (1, .int p0)]) hx hb dX9_choiceIn_14 rfl hl (by decide) rfl (fun ls hl => ?_)
  refine lv_iconst (v := 0) hx hb dX9_choiceIn_15 (by decide) ?_
  refine lv_istore_n (lv' := [(3, .int 0), (2, .int wi_begun), (0, .ref wi), (1, .int p0)]) hx hb dX9_choiceIn_16 rfl hl (by decide) rfl (fun ls hl => ?_)
  have J17 : ∀ (n17 : Nat) (j17_l2 : Int32) (j17_l3 : Int32) (H : Heap) (locs : List Loc) (ls : Array Slot), (12 - j17_l3.toInt).toNat < n17 → (ir j17_l2.toInt 0 15) → (ir j17_l3.toInt 0 11) → va_P g vwCl [(wi, .inr (9, [.int wi_side, .int wi_rule, .int wi_begun, .int wi_years, .int wi_card, .int wi_hurt, .int wi_isEnd, .ref wi_worth])), (wi_worth, .inl (cI, 208, .inl wi_worth_c))] H → va_S A s.heap H locs → lv_has ls 4 [(0, .ref wi), (1, .int p0), (2, .int j17_l2), (3, .int j17_l3)] → W p l e (headSpec v_X9_choiceIn ({ frames := 5, cells := 0, slots := 0, locals := 118 })).room s m av below meth c H locs 0 0 QQ (F0 m 17 ls []) := by
    intro n17
    induction n17 with
    | zero => exact fun j17_l2 j17_l3 H locs ls hn => absurd hn (Nat.not_lt_zero _)
    | succ n17 ih17 =>
      intro j17_l2 j17_l3 H locs ls hn17 hj17_l2 hj17_l3 hP hS hl
      refine lv_iload_n hx hb dX9_choiceIn_17 rfl (lv_at hl 3 rfl) ?_
      refine lv_iload_n hx hb dX9_choiceIn_18 rfl (lv_at hl 1 rfl) ?_
      refine lv_icmp_ge (tgt := 40) hx hb dX9_choiceIn_19 (by decide) (fun c19 => ?_) (fun c19 => ?_)
      · have f19 := (show p0.toInt ≤ j17_l3.toInt from z_le rfl rfl c19)
        refine lv_aload_n hx hb dX9_choiceIn_40 rfl (lv_at hl 0 rfl) ?_
        refine lv_iload_n hx hb dX9_choiceIn_41 rfl (lv_at hl 1 rfl) ?_
        refine lv_iload_n hx hb dX9_choiceIn_42 rfl (lv_at hl 2 rfl) ?_
        refine ro_i (va_runV (As := [.int p0, .int j17_l2]) (rest := []) ⟨hx, hb, hml, hown, hts⟩ (q_X9_choiceFrom l g cI cJ cB cZ cL p0 j17_l2 wi wi_side wi_rule wi_begun wi_years wi_card wi_hurt wi_isEnd wi_worth wi_worth_c H.size hv_p0 hv_wi_side hv_wi_begun hv_wi_years hv_wi_isEnd) (cwV 2 hts (goodIn_app (g_4 (List.mem_cons_of_mem _ (List.mem_append_left _ (List.mem_of_getElem? (i := 5) rfl))) (List.mem_cons_of_mem _ (List.mem_append_left _ (List.mem_of_getElem? (i := 6) rfl))) (List.mem_cons_of_mem _ (List.mem_append_left _ (List.mem_of_getElem? (i := 7) rfl))) (List.mem_cons_of_mem _ (List.mem_append_left _ (List.mem_of_getElem? (i := 3) rfl))) (by decide +kernel)) (goodIn_sub (fun _ h => List.mem_cons_of_mem _ (List.mem_append_right _ (List.mem_append_right _ (List.mem_append_left _ h)))) good_v_X9_choiceFrom)) rfl rfl rfl (by decide +kernel) ⟨Nat.le_of_ble_eq_true rfl, Nat.le_of_ble_eq_true rfl⟩) (pv_RO (q := (RX9, TX9, 8)) (ci := 9) (q0 := 0) (wc := [(wi, .inr (9, [.int wi_side, .int wi_rule, .int wi_begun, .int wi_years, .int wi_card, .int wi_hurt, .int wi_isEnd, .ref wi_worth])), (wi_worth, .inl (cI, 208, .inl wi_worth_c))]) hK hP [0, 1] rfl rfl rfl) rfl rfl hl.1 rfl (lv_room (Nat.le_of_ble_eq_true rfl)) dX9_choiceIn_43 ⟨Nat.le_of_ble_eq_true rfl, Nat.le_of_ble_eq_true rfl⟩) hS hA hP (fun r43 u43 H locs hw43 hP hS => ?_)
        have hw43_0 := hw43
        subst hQ
        exact W.iret (v := r43) hx hb hr (fun t ht hW => ⟨⟨r43, (), rfl, (ir_w hw43_0 (by decide) (by decide)), trivial⟩, hS.F ht⟩) hS.2.2 dX9_choiceIn_46
      have f19 := (show j17_l3.toInt < p0.toInt from z_nle rfl rfl c19)
      have r19a : ir j17_l3.toInt 0 10 := ir_lta f19 hj17_l3 hv_p0 (by decide)
      have r19b : ir p0.toInt 1 11 := ir_ltb f19 hj17_l3 hv_p0 (by decide)
      refine lv_aload_n hx hb dX9_choiceIn_22 rfl (lv_at hl 0 rfl) ?_
      refine lv_iload_n hx hb dX9_choiceIn_23 rfl (lv_at hl 2 rfl) ?_
      refine lv_aload_n hx hb dX9_choiceIn_24 rfl (lv_at hl 0 rfl) ?_
      refine lv_iload_n hx hb dX9_choiceIn_25 rfl (lv_at hl 3 rfl) ?_
      refine lv_iload_n hx hb dX9_choiceIn_26 rfl (lv_at hl 2 rfl) ?_
      refine ro_i (va_runV (As := [.int j17_l3, .int j17_l2]) (rest := [.int j17_l2, .ref wi]) ⟨hx, hb, hml, hown, hts⟩ (q_X9_choiceFrom l g cI cJ cB cZ cL j17_l3 j17_l2 wi wi_side wi_rule wi_begun wi_years wi_card wi_hurt wi_isEnd wi_worth wi_worth_c H.size (ir_w r19a (by decide) (by decide)) hv_wi_side hv_wi_begun hv_wi_years hv_wi_isEnd) (cwV 2 hts (goodIn_app (g_4 (List.mem_cons_of_mem _ (List.mem_append_left _ (List.mem_of_getElem? (i := 5) rfl))) (List.mem_cons_of_mem _ (List.mem_append_left _ (List.mem_of_getElem? (i := 6) rfl))) (List.mem_cons_of_mem _ (List.mem_append_left _ (List.mem_of_getElem? (i := 7) rfl))) (List.mem_cons_of_mem _ (List.mem_append_left _ (List.mem_of_getElem? (i := 3) rfl))) (by decide +kernel)) (goodIn_sub (fun _ h => List.mem_cons_of_mem _ (List.mem_append_right _ (List.mem_append_right _ (List.mem_append_left _ h)))) good_v_X9_choiceFrom)) rfl rfl rfl (by decide +kernel) ⟨Nat.le_of_ble_eq_true rfl, Nat.le_of_ble_eq_true rfl⟩) (pv_RO (q := (RX9, TX9, 8)) (ci := 9) (q0 := 0) (wc := [(wi, .inr (9, [.int wi_side, .int wi_rule, .int wi_begun, .int wi_years, .int wi_card, .int wi_hurt, .int wi_isEnd, .ref wi_worth])), (wi_worth, .inl (cI, 208, .inl wi_worth_c))]) hK hP [0, 1] rfl rfl rfl) rfl rfl hl.1 rfl (lv_room (Nat.le_of_ble_eq_true rfl)) dX9_choiceIn_27 ⟨Nat.le_of_ble_eq_true rfl, Nat.le_of_ble_eq_true rfl⟩) hS hA hP (fun r27 u27 H locs hw27 hP hS => ?_)
      have hw27_0 := hw27
      refine ro_i (va_runV (As := [.int j17_l2, .int r27]) (rest := []) ⟨hx, hb, hml, hown, hts⟩ (q_X9_next l g cI cJ cB cZ cL j17_l2 r27 wi wi_side wi_rule wi_begun wi_years wi_card wi_hurt wi_isEnd wi_worth H.size hv_wi_side hv_wi_begun hv_wi_years hv_wi_isEnd) (cwV 2 hts (goodIn_app (g_4 (List.mem_cons_of_mem _ (List.mem_append_left _ (List.mem_of_getElem? (i := 8) rfl))) (List.mem_cons_of_mem _ (List.mem_append_left _ (List.mem_of_getElem? (i := 9) rfl))) (List.mem_cons_of_mem _ (List.mem_append_left _ (List.mem_of_getElem? (i := 10) rfl))) (List.mem_cons_of_mem _ (List.mem_append_left _ (List.mem_of_getElem? (i := 3) rfl))) (by decide +kernel)) (goodIn_sub (fun _ h => List.mem_cons_of_mem _ (List.mem_append_right _ (List.mem_append_right _ (List.mem_append_right _ (List.mem_append_left _ h))))) good_v_X9_next)) rfl rfl rfl (by decide +kernel) ⟨Nat.le_of_ble_eq_true rfl, Nat.le_of_ble_eq_true rfl⟩) (pv_RO (q := (RX9, TX9, 8)) (ci := 9) (q0 := 0) (wc := [(wi, .inr (9, [.int wi_side, .int wi_rule, .int wi_begun, .int wi_years, .int wi_card, .int wi_hurt, .int wi_isEnd, .ref wi_worth]))]) hK hP [0] rfl rfl rfl) rfl rfl hl.1 rfl (lv_room (Nat.le_of_ble_eq_true rfl)) dX9_choiceIn_30 ⟨Nat.le_of_ble_eq_true rfl, Nat.le_of_ble_eq_true rfl⟩) hS hA hP (fun r30 u30 H locs hw30 hP hS => ?_)
      have hw30_0 := hw30
      refine lv_istore_n (lv' := [(2, .int r30), (0, .ref wi), (1, .int p0), (3, .int j17_l3)]) hx hb dX9_choiceIn_33 rfl hl (by decide) rfl (fun ls hl => ?_)
      obtain ⟨y34, e34⟩ : ∃ y : Int32, y = j17_l3 + 1 := ⟨_, rfl⟩
      have q34 : y34.toInt = j17_l3.toInt + 1 := by rw [e34]; exact ad_z rfl rfl r19a (ir_c 1) (by decide) (by decide)
      have r34 : ir y34.toInt 1 11 := ad_r q34 r19a (ir_c 1) (by decide) (by decide)
      refine lv_iinc (v := y34) (lv' := [(3, .int y34), (2, .int r30), (0, .ref wi), (1, .int p0)]) hx hb dX9_choiceIn_34 hl (k := 3) rfl e34.symm (by decide) rfl (fun ls hl => ?_)
      refine lv_goto (tgt := 17) hx hb dX9_choiceIn_37 (by decide) ?_
      exact ih17 r30 y34 _ _ _ (by omega) hw30_0 (ir_w r34 (by decide) (by decide)) (hP.sub [0, 1] rfl) hS (lv_sub hl [2, 3, 1, 0] rfl)
  exact J17 _ wi_begun 0 _ _ _ (Nat.lt_succ_self _) hv_wi_begun (by decide) (hP.sub [0, 1] rfl) hS (lv_sub hl [2, 3, 1, 0] rfl)
