def v_X10_backs : List Cond := .code yX10_backs cX10_backs 4 (some .int) :: (([] : List Cond) ++ ([] : List Cond))
theorem good_v_X10_backs : v_X10_backs.all goodWord = true := ga_c (by decide +kernel) (ga_a (by decide +kernel) rfl)
set_option maxHeartbeats 4000000 in
set_option maxRecDepth 100000 in
theorem q_X10_backs (l : Launch) (g : va_G) (cI cJ cB cZ cL : ClassId) (p0 : Int32) (p1 : Int32) (p2 : Int32) (sz : Nat) (hv_p1 : ir p1.toInt 0 3) : Met l yX10_backs v_X10_backs ({ frames := 0, cells := 0, slots := 0, locals := 0 }) (va_Pc [.int p0, .int p1, .int p2] (pRO g (tyT cI cJ cB cZ cL) [] sz)) (va_Qi (fun (r : Int32) (u : Unit) => (ir r.toInt 0 3)) (fun (_ : Unit) (_ : State) => True) (va_A [] sz)) 0 0 (va_A [] sz) := by
  refine Met.ofW (cc := cX10_backs) (maxL := 4) (ret := (some .int)) (by decide) rfl ?_
  intro p e s m args below meth c s₁ B hml hv
  obtain ⟨rfl, hsz, hP, hK⟩ := hv
  have hx := B.exec
  have hb := B.bytes
  have hr := B.returns
  have hts := atoms_spec (ws := v_X10_backs) B.pre
  have hown : s.vm.findClass RX10 = some m.cls := findClass_of_methodNamed B.named
  have hlocks := B.notSynchronized
  clear B
  subst hsz
  generalize hAe : (va_A [] s.heap.size) = A
  have hA : ∀ q : Nat, s.heap.size ≤ q → A q := fun q h => by rw [← hAe]; exact Or.inr h
  have hS : va_S A s.heap s.heap [] := va_S.rf
  have hl := lv_entry ([.int p0, .int p1, .int p2]) (n := 4) (Nat.le_of_ble_eq_true rfl)
  rw [lg_entry_eq]
  generalize (lg_sl ([.int p0, .int p1, .int p2]) ++ List.replicate (4 - (lg_sl ([.int p0, .int p1, .int p2])).length) Slot.unset).toArray = ls at hl ⊢
  generalize ([.int p0, .int p1, .int p2] : List Value).toArray = av at hts ⊢
  generalize hQ : MQ below _ av s _ _ A = QQ
  have hl : lv_has ls 4 [(0, .int p0), (1, .int p1), (2, .int p2)] := hl
  have hP : va_P g vwCl [] s.heap := hP
  refine lv_iload_n hx hb dX10_backs_0 rfl (lv_at hl 0 rfl) ?_
  refine lv_iload_n hx hb dX10_backs_1 rfl (lv_at hl 2 rfl) ?_
  refine lv_iand hx hb dX10_backs_2 ?_
  refine lv_topi (fun y2 e2 => ?_)
  refine lv_istore_n (lv' := [(3, .int y2), (0, .int p0), (1, .int p1), (2, .int p2)]) hx hb dX10_backs_3 rfl hl (by decide) rfl (fun ls hl => ?_)
  refine lv_iload_n hx hb dX10_backs_4 rfl (lv_at hl 1 rfl) ?_
  refine lv_iconst (v := (-1)) hx hb dX10_backs_5 (by decide) ?_
  refine lv_ixor hx hb dX10_backs_6 ?_
  refine lv_topi (fun y6 e6 => ?_)
  refine lv_iload_n hx hb dX10_backs_7 rfl (lv_at hl 2 rfl) ?_
  refine lv_iand hx hb dX10_backs_8 ?_
  refine lv_topi (fun y8 e8 => ?_)
  have r8 : ir y8.toInt 0 3 := by rw [e8]; exact an_y rfl hv_p1 (by decide)
  refine lv_iload_n hx hb dX10_backs_9 rfl (lv_at hl 0 rfl) ?_
  refine lv_iconst (v := 1) hx hb dX10_backs_10 (by decide) ?_
  refine lv_iand hx hb dX10_backs_11 ?_
  refine lv_topi (fun y11 e11 => ?_)
  have r11 : ir y11.toInt 0 1 := by rw [e11]; exact an_y rfl (ir_c 1) (by decide)
  refine lv_iconst (v := 1) hx hb dX10_backs_12 (by decide) ?_
  refine lv_ishl hx hb dX10_backs_13 ?_
  refine lv_topi (fun y13 e13 => ?_)
  have r13 : ir y13.toInt 0 2 := by rw [e13]; exact sl_r 1 rfl r11 (by decide) (by decide) (by decide) (by decide) (by decide)
  refine lv_iload_n hx hb dX10_backs_14 rfl (lv_at hl 0 rfl) ?_
  refine lv_iconst (v := 1) hx hb dX10_backs_15 (by decide) ?_
  refine lv_ishr hx hb dX10_backs_16 ?_
  refine lv_topi (fun y16 e16 => ?_)
  refine lv_ior hx hb dX10_backs_17 ?_
  refine lv_topi (fun y17 e17 => ?_)
  refine lv_iand hx hb dX10_backs_18 ?_
  refine lv_topi (fun y18 e18 => ?_)
  have r18 : ir y18.toInt 0 3 := by rw [e18]; exact an_x rfl r8 (by decide)
  subst hQ
  exact W.iret (v := y18) hx hb hr (fun t ht hW => ⟨⟨y18, (), rfl, r18, trivial⟩, hS.F ht⟩) hS.2.2 dX10_backs_19
def v_X10_after : List Cond := .code yX10_after cX10_after 2 (some .int) :: (([] : List Cond) ++ ([] : List Cond))
theorem good_v_X10_after : v_X10_after.all goodWord = true := ga_c (by decide +kernel) (ga_a (by decide +kernel) rfl)
set_option maxHeartbeats 4000000 in
set_option maxRecDepth 100000 in
theorem q_X10_after (l : Launch) (g : va_G) (cI cJ cB cZ cL : ClassId) (p0 : Int32) (p1 : Int32) (sz : Nat)  : Met l yX10_after v_X10_after ({ frames := 0, cells := 0, slots := 0, locals := 0 }) (va_Pc [.int p0, .int p1] (pRO g (tyT cI cJ cB cZ cL) [] sz)) (va_Qi (fun (r : Int32) (u : Unit) => (ir r.toInt 0 15)) (fun (_ : Unit) (_ : State) => True) (va_A [] sz)) 0 0 (va_A [] sz) := by
  refine Met.ofW (cc := cX10_after) (maxL := 2) (ret := (some .int)) (by decide) rfl ?_
  intro p e s m args below meth c s₁ B hml hv
  obtain ⟨rfl, hsz, hP, hK⟩ := hv
  have hx := B.exec
  have hb := B.bytes
  have hr := B.returns
  have hts := atoms_spec (ws := v_X10_after) B.pre
  have hown : s.vm.findClass RX10 = some m.cls := findClass_of_methodNamed B.named
  have hlocks := B.notSynchronized
  clear B
  subst hsz
  generalize hAe : (va_A [] s.heap.size) = A
  have hA : ∀ q : Nat, s.heap.size ≤ q → A q := fun q h => by rw [← hAe]; exact Or.inr h
  have hS : va_S A s.heap s.heap [] := va_S.rf
  have hl := lv_entry ([.int p0, .int p1]) (n := 2) (Nat.le_of_ble_eq_true rfl)
  rw [lg_entry_eq]
  generalize (lg_sl ([.int p0, .int p1]) ++ List.replicate (2 - (lg_sl ([.int p0, .int p1])).length) Slot.unset).toArray = ls at hl ⊢
  generalize ([.int p0, .int p1] : List Value).toArray = av at hts ⊢
  generalize hQ : MQ below _ av s _ _ A = QQ
  have hl : lv_has ls 2 [(0, .int p0), (1, .int p1)] := hl
  have hP : va_P g vwCl [] s.heap := hP
  refine lv_iload_n hx hb dX10_after_0 rfl (lv_at hl 0 rfl) ?_
  refine lv_iconst (v := 5) hx hb dX10_after_1 (by decide) ?_
  refine lv_iand hx hb dX10_after_2 ?_
  refine lv_topi (fun y2 e2 => ?_)
  have r2 : ir y2.toInt 0 5 := by rw [e2]; exact an_y rfl (ir_c 5) (by decide)
  refine lv_iconst (v := 1) hx hb dX10_after_3 (by decide) ?_
  refine lv_ishl hx hb dX10_after_4 ?_
  refine lv_topi (fun y4 e4 => ?_)
  have r4 : ir y4.toInt 0 10 := by rw [e4]; exact sl_r 1 rfl r2 (by decide) (by decide) (by decide) (by decide) (by decide)
  refine lv_iload_n hx hb dX10_after_5 rfl (lv_at hl 1 rfl) ?_
  refine lv_iconst (v := 1) hx hb dX10_after_6 (by decide) ?_
  refine lv_iand hx hb dX10_after_7 ?_
  refine lv_topi (fun y7 e7 => ?_)
  have r7 : ir y7.toInt 0 1 := by rw [e7]; exact an_y rfl (ir_c 1) (by decide)
  refine lv_ior hx hb dX10_after_8 ?_
  refine lv_topi (fun y8 e8 => ?_)
  have r8 : ir y8.toInt 0 15 := by rw [e8]; exact or_r 4 rfl rfl r4 r7 (by decide) (by decide) (by decide) (by decide) (by decide)
  refine lv_iload_n hx hb dX10_after_9 rfl (lv_at hl 1 rfl) ?_
  refine lv_iconst (v := 2) hx hb dX10_after_10 (by decide) ?_
  refine lv_iand hx hb dX10_after_11 ?_
  refine lv_topi (fun y11 e11 => ?_)
  have r11 : ir y11.toInt 0 2 := by rw [e11]; exact an_y rfl (ir_c 2) (by decide)
  refine lv_iconst (v := 1) hx hb dX10_after_12 (by decide) ?_
  refine lv_ishl hx hb dX10_after_13 ?_
  refine lv_topi (fun y13 e13 => ?_)
  have r13 : ir y13.toInt 0 4 := by rw [e13]; exact sl_r 1 rfl r11 (by decide) (by decide) (by decide) (by decide) (by decide)
  refine lv_ior hx hb dX10_after_14 ?_
  refine lv_topi (fun y14 e14 => ?_)
  have r14 : ir y14.toInt 0 15 := by rw [e14]; exact or_r 4 rfl rfl r8 r13 (by decide) (by decide) (by decide) (by decide) (by decide)
  subst hQ
  exact W.iret (v := y14) hx hb hr (fun t ht hW => ⟨⟨y14, (), rfl, r14, trivial⟩, hS.F ht⟩) hS.2.2 dX10_after_15
def v_X2_sidesOf : List Cond := .code yX2_sidesOf cX2_sidesOf 5 (some .int) :: (([] : List Cond) ++ ([] : List Cond))
theorem good_v_X2_sidesOf : v_X2_sidesOf.all goodWord = true := ga_c (by decide +kernel) (ga_a (by decide +kernel) rfl)
set_option maxHeartbeats 4000000 in
set_option maxRecDepth 100000 in
theorem q_X2_sidesOf (l : Launch) (g : va_G) (cI cJ cB cZ cL : ClassId) (p0 : Int64) (p1 : Int64) (p2 : Int32) (sz : Nat)  : Met l yX2_sidesOf v_X2_sidesOf ({ frames := 0, cells := 0, slots := 0, locals := 0 }) (va_Pc [.long p0, .long p1, .int p2] (pRO g (tyT cI cJ cB cZ cL) [] sz)) (va_Qi (fun (r : Int32) (u : Unit) => (ir r.toInt 0 3)) (fun (_ : Unit) (_ : State) => True) (va_A [] sz)) 0 0 (va_A [] sz) := by
  refine Met.ofW (cc := cX2_sidesOf) (maxL := 5) (ret := (some .int)) (by decide) rfl ?_
  intro p e s m args below meth c s₁ B hml hv
  obtain ⟨rfl, hsz, hP, hK⟩ := hv
  have hx := B.exec
  have hb := B.bytes
  have hr := B.returns
  have hts := atoms_spec (ws := v_X2_sidesOf) B.pre
  have hown : s.vm.findClass RX2 = some m.cls := findClass_of_methodNamed B.named
  have hlocks := B.notSynchronized
  clear B
  subst hsz
  generalize hAe : (va_A [] s.heap.size) = A
  have hA : ∀ q : Nat, s.heap.size ≤ q → A q := fun q h => by rw [← hAe]; exact Or.inr h
  have hS : va_S A s.heap s.heap [] := va_S.rf
  have hl := lv_entry ([.long p0, .long p1, .int p2]) (n := 5) (Nat.le_of_ble_eq_true rfl)
  rw [lg_entry_eq]
  generalize (lg_sl ([.long p0, .long p1, .int p2]) ++ List.replicate (5 - (lg_sl ([.long p0, .long p1, .int p2])).length) Slot.unset).toArray = ls at hl ⊢
  generalize ([.long p0, .long p1, .int p2] : List Value).toArray = av at hts ⊢
  generalize hQ : MQ below _ av s _ _ A = QQ
  have hl : lv_has ls 5 [(0, .long p0), (2, .long p1), (4, .int p2)] := hl
  have hP : va_P g vwCl [] s.heap := hP
  refine lv_lload_n hx hb dX2_sidesOf_0 rfl (lv_at hl 0 rfl) ?_
  refine lv_iload hx hb dX2_sidesOf_1 (lv_at hl 2 rfl) ?_
  refine lv_lshr (v := (p0 >>> (p2.toInt64 &&& 63))) hx hb dX2_sidesOf_3 rfl ?_
  refine lv_topl (fun y3 e3 => ?_)
  refine lv_lconst (v := 1) hx hb dX2_sidesOf_4 (by decide) ?_
  refine lv_land hx hb dX2_sidesOf_5 ?_
  refine lv_topl (fun y5 e5 => ?_)
  have r5 : ir y5.toInt 0 1 := by rw [e5]; exact lan_y (by decide)
  refine lv_l2i (v := y5.toInt32) hx hb dX2_sidesOf_6 rfl ?_
  refine lv_topi (fun y6 e6 => ?_)
  have q6 : y6.toInt = y5.toInt := by rw [e6]; exact li_z rfl r5 (by decide) (by decide)
  have r6 : ir y6.toInt 0 1 := q6 ▸ r5
  refine lv_lload_n hx hb dX2_sidesOf_7 rfl (lv_at hl 1 rfl) ?_
  refine lv_iload hx hb dX2_sidesOf_8 (lv_at hl 2 rfl) ?_
  refine lv_lshr (v := (p1 >>> (p2.toInt64 &&& 63))) hx hb dX2_sidesOf_10 rfl ?_
  refine lv_topl (fun y10 e10 => ?_)
  refine lv_lconst (v := 1) hx hb dX2_sidesOf_11 (by decide) ?_
  refine lv_land hx hb dX2_sidesOf_12 ?_
  refine lv_topl (fun y12 e12 => ?_)
  have r12 : ir y12.toInt 0 1 := by rw [e12]; exact lan_y (by decide)
  refine lv_l2i (v := y12.toInt32) hx hb dX2_sidesOf_13 rfl ?_
  refine lv_topi (fun y13 e13 => ?_)
  have q13 : y13.toInt = y12.toInt := by rw [e13]; exact li_z rfl r12 (by decide) (by decide)
  have r13 : ir y13.toInt 0 1 := q13 ▸ r12
  refine lv_iconst (v := 1) hx hb dX2_sidesOf_14 (by decide) ?_
  refine lv_ishl hx hb dX2_sidesOf_15 ?_
  refine lv_topi (fun y15 e15 => ?_)
  have r15 : ir y15.toInt 0 2 := by rw [e15]; exact sl_r 1 rfl r13 (by decide) (by decide) (by decide) (by decide) (by decide)
  refine lv_ior hx hb dX2_sidesOf_16 ?_
  refine lv_topi (fun y16 e16 => ?_)
  have r16 : ir y16.toInt 0 3 := by rw [e16]; exact or_r 2 rfl rfl r6 r15 (by decide) (by decide) (by decide) (by decide) (by decide)
  subst hQ
  exact W.iret (v := y16) hx hb hr (fun t ht hW => ⟨⟨y16, (), rfl, r16, trivial⟩, hS.F ht⟩) hS.2.2 dX2_sidesOf_17
def v_X2_note : List Cond := .code yX2_note cX2_note 3 none :: (([] : List Cond) ++ ([] : List Cond))
theorem good_v_X2_note : v_X2_note.all goodWord = true := ga_c (by decide +kernel) (ga_a (by decide +kernel) rfl)
set_option maxHeartbeats 4000000 in
set_option maxRecDepth 100000 in
theorem q_X2_note (l : Launch) (g : va_G) (cI cJ cB cZ cL : ClassId) (p1 : Int32) (p2 : Int32) (r0 : Nat) (r0_c : Nat → Int64) (sz : Nat)  : Met l yX2_note v_X2_note ({ frames := 0, cells := 0, slots := 0, locals := 0 }) (va_Pc [.ref r0, .int p1, .int p2] (pRW g (tyT cI cJ cB cZ cL) [(r0, .inl (cJ, 2, .inr (.inl r0_c)))] sz)) (va_Qv (fun (u : (Nat → Int64)) => match u with | n_r0_c => True) (fun (u : (Nat → Int64)) (t : State) => bRW g (tyT cI cJ cB cZ cL) (va_A [(r0, .inl (cJ, 2, .inr (.inl r0_c)))] sz) (match u with | n_r0_c => [(r0, .inl (cJ, 2, .inr (.inl n_r0_c)))]) t) (va_A [(r0, .inl (cJ, 2, .inr (.inl r0_c)))] sz)) 0 0 (va_A [(r0, .inl (cJ, 2, .inr (.inl r0_c)))] sz) := by
  refine Met.ofW (cc := cX2_note) (maxL := 3) (ret := none) (by decide) rfl ?_
  intro p e s m args below meth c s₁ B hml hv
  obtain ⟨rfl, hsz, hP, hK, hD0⟩ := hv
  have hx := B.exec
  have hb := B.bytes
  have hr := B.returns
  have hts := atoms_spec (ws := v_X2_note) B.pre
  have hown : s.vm.findClass RX2 = some m.cls := findClass_of_methodNamed B.named
  have hlocks := B.notSynchronized
  clear B
  subst hsz
  have hD := hD0.self (sz := s.heap.size)
  generalize hAe : (va_A [(r0, .inl (cJ, 2, .inr (.inl r0_c)))] s.heap.size) = A at hD ⊢
  have hA : ∀ q : Nat, s.heap.size ≤ q → A q := fun q h => by rw [← hAe]; exact Or.inr h
  have hS : va_S A s.heap s.heap [] := va_S.rf
  have hl := lv_entry ([.ref r0, .int p1, .int p2]) (n := 3) (Nat.le_of_ble_eq_true rfl)
  rw [lg_entry_eq]
  generalize (lg_sl ([.ref r0, .int p1, .int p2]) ++ List.replicate (3 - (lg_sl ([.ref r0, .int p1, .int p2])).length) Slot.unset).toArray = ls at hl ⊢
  generalize ([.ref r0, .int p1, .int p2] : List Value).toArray = av at hts ⊢
  generalize hQ : MQ below _ av s _ _ A = QQ
  have hl : lv_has ls 3 [(0, .ref r0), (1, .int p1), (2, .int p2)] := hl
  have hP : va_P g vwCl [(r0, .inl (cJ, 2, .inr (.inl r0_c)))] s.heap := hP
  refine lv_aload_n hx hb dX2_note_0 rfl (lv_at hl 0 rfl) ?_
  refine lv_iconst (v := 0) hx hb dX2_note_1 (by decide) ?_
  refine lv_dup2_11 hx hb dX2_note_2 rfl rfl ?_
  refine va_lald (D := g) hx hb hK hP 0 1 rfl rfl (vc_in (by decide)) dX2_note_3 ?_
  refine lv_topl (nm_r (e' := (r0_c 0)) rfl ?_)
  refine lv_iload_n hx hb dX2_note_4 rfl (lv_at hl 2 rfl) ?_
  refine lv_iconst (v := 1) hx hb dX2_note_5 (by decide) ?_
  refine lv_iand hx hb dX2_note_6 ?_
  refine lv_topi (fun y6 e6 => ?_)
  have r6 : ir y6.toInt 0 1 := by rw [e6]; exact an_y rfl (ir_c 1) (by decide)
  refine lv_i2l (v := y6.toInt64) hx hb dX2_note_7 rfl ?_
  refine lv_iload_n hx hb dX2_note_8 rfl (lv_at hl 1 rfl) ?_
  refine lv_lshl (v := (y6.toInt64 <<< (p1.toInt64 &&& 63))) hx hb dX2_note_9 rfl ?_
  refine lv_topl (fun y9 e9 => ?_)
  refine lv_lor hx hb dX2_note_10 ?_
  refine lv_topl (fun y10 e10 => ?_)
  refine va_last (D := g) hx hb hK hP hD hS 0 1 rfl rfl (vc_in (by decide)) dX2_note_11 (fun H locs hP hD hS => ?_)
  obtain ⟨g11, e11⟩ : ∃ z, z = vp_updL r0_c 0 y10 := ⟨_, rfl⟩
  have hP : va_P g vwCl [(r0, .inl (cJ, 2, .inr (.inl (vp_updL r0_c 0 y10))))] H := hP
  have hD : va_D A [(r0, .inl (cJ, 2, .inr (.inl (vp_updL r0_c 0 y10))))] := hD
  rw [← e11] at hP hD
  refine lv_aload_n hx hb dX2_note_12 rfl (lv_at hl 0 rfl) ?_
  refine lv_iconst (v := 1) hx hb dX2_note_13 (by decide) ?_
  refine lv_dup2_11 hx hb dX2_note_14 rfl rfl ?_
  refine va_lald (D := g) hx hb hK hP 0 1 rfl rfl (vc_in (by decide)) dX2_note_15 ?_
  refine lv_topl (nm_r (e' := (g11 1)) rfl ?_)
  refine lv_iload_n hx hb dX2_note_16 rfl (lv_at hl 2 rfl) ?_
  refine lv_iconst (v := 1) hx hb dX2_note_17 (by decide) ?_
  refine lv_ishr hx hb dX2_note_18 ?_
  refine lv_topi (fun y18 e18 => ?_)
  refine lv_i2l (v := y18.toInt64) hx hb dX2_note_19 rfl ?_
  refine lv_iload_n hx hb dX2_note_20 rfl (lv_at hl 1 rfl) ?_
  refine lv_lshl (v := (y18.toInt64 <<< (p1.toInt64 &&& 63))) hx hb dX2_note_21 rfl ?_
  refine lv_topl (fun y21 e21 => ?_)
  refine lv_lor hx hb dX2_note_22 ?_
  refine lv_topl (fun y22 e22 => ?_)
  refine va_last (D := g) hx hb hK hP hD hS 0 1 rfl rfl (vc_in (by decide)) dX2_note_23 (fun H locs hP hD hS => ?_)
  obtain ⟨g23, e23⟩ : ∃ z, z = vp_updL g11 1 y22 := ⟨_, rfl⟩
  have hP : va_P g vwCl [(r0, .inl (cJ, 2, .inr (.inl (vp_updL g11 1 y22))))] H := hP
  have hD : va_D A [(r0, .inl (cJ, 2, .inr (.inl (vp_updL g11 1 y22))))] := hD
  rw [← e23] at hP hD
  subst hQ
  have hP9 := hP.sub (ws' := [(r0, .inl (cJ, 2, .inr (.inl g23)))]) [0] rfl
  have hD9 := hD.sub (ws' := [(r0, .inl (cJ, 2, .inr (.inl g23)))]) [0] (by decide) rfl
  exact W.vret hx hb hr (fun t ht hW => ⟨⟨g23, rfl, trivial, ⟨by rw [ht]; exact hP9, va_K.moved hW.alike hK, hD9⟩⟩, hS.F ht⟩) hS.2.2 dX2_note_24
def v_X2_take : List Cond := .code yX2_take cX2_take 4 none :: (([.fieldLink RX2 29 "CardsAtYule$Land" "years" "I", .fieldLink RX2 35 "CardsAtYule$Course" "years" "I", .fieldLink RX2 36 "CardsAtYule$Land" "begun" "[I", .fieldLink RX2 39 "CardsAtYule$Course" "begun" "I", .fieldLink RX2 7 "CardsAtYule$Course" "rule" "[I", .methodLink RX2 41 yX4_ruleOfSide, .instanceMethod yX4_ruleOfSide, .selects RX4 yX4_ruleOfSide yX4_ruleOfSide, .initialized RX4, .fieldLink RX2 13 "CardsAtYule$Course" "may" "[J", .fieldLink RX2 45 "CardsAtYule$Land" "who" "[I", .methodLink RX2 48 yX4_livingYears, .instanceMethod yX4_livingYears, .selects RX4 yX4_livingYears yX4_livingYears, .fieldLink RX2 17 "CardsAtYule$Course" "reach" "[J", .methodLink RX2 52 yX4_reachOf, .instanceMethod yX4_reachOf, .selects RX4 yX4_reachOf yX4_reachOf] : List Cond) ++ (v_X4_ruleOfSide ++ (v_X4_livingYears ++ (v_X4_reachOf ++ (wsX40 ++ (wsX20 ++ ([] : List Cond)))))))
theorem good_v_X2_take : v_X2_take.all goodWord = true := ga_c (by decide +kernel) (ga_a (by decide +kernel) (ga_a good_v_X4_ruleOfSide (ga_a good_v_X4_livingYears (ga_a good_v_X4_reachOf (ga_a good_wsX40 (ga_a good_wsX20 rfl))))))
set_option maxHeartbeats 4000000 in
set_option maxRecDepth 100000 in
theorem q_X2_take (l : Launch) (g : va_G) (cI cJ cB cZ cL : ClassId) (p1 : Int32) (co : Nat) (ld : Nat) (ld_lines : Int32) (ld_years : Int32) (ld_card : Int32) (ld_hurt : Int32) (ld_people : Int32) (ld_pairs : Int32) (ld_strikes : Int64) (ld_rule : Nat) (ld_returns : Nat) (ld_forgets : Nat) (ld_death : Nat) (ld_move : Nat) (ld_begun : Nat) (ld_who : Nat) (ld_lost : Nat) (co_years : Int32) (co_begun : Int32) (co_rule : Nat) (co_may : Nat) (co_reach : Nat) (co_first : Nat) (co_back : Nat) (co_got : Nat) (ld_begun_c : Nat → Int32) (ld_who_c : Nat → Int32) (ld_rule_c : Nat → Int32) (ld_returns_c : Nat → Int32) (co_rule_c : Nat → Int32) (ld_death_c : Nat → Int32) (co_may_c : Nat → Int64) (ld_move_c : Nat → Int32) (ld_lost_c : Nat → Int64) (co_reach_c : Nat → Int64) (sz : Nat) (hv_p1 : ir p1.toInt 0 15) (hv_ld_years : ir ld_years.toInt 0 40) (hv_ld_people : ir ld_people.toInt 0 10) (hv_ld_pairs : ir ld_pairs.toInt 0 16) (ha_ld_begun_c : ar ld_begun_c 16 0 15) (ha_ld_who_c : ar ld_who_c 32 0 9) : Met l yX2_take v_X2_take ({ frames := 2, cells := 0, slots := 0, locals := 46 }) (va_Pc [.ref co, .ref ld, .int p1] (pRW g (tyT cI cJ cB cZ cL) [(ld, .inr (4, [.int ld_lines, .int ld_years, .int ld_card, .int ld_hurt, .int ld_people, .int ld_pairs, .long ld_strikes, .ref ld_rule, .ref ld_returns, .ref ld_forgets, .ref ld_death, .ref ld_move, .ref ld_begun, .ref ld_who, .ref ld_lost])), (co, .inr (2, [.int co_years, .int co_begun, .ref co_rule, .ref co_may, .ref co_reach, .ref co_first, .ref co_back, .ref co_got])), (ld_begun, .inl (cI, 16, .inl ld_begun_c)), (ld_who, .inl (cI, 32, .inl ld_who_c)), (ld_rule, .inl (cI, 10, .inl ld_rule_c)), (ld_returns, .inl (cI, 10, .inl ld_returns_c)), (co_rule, .inl (cI, 2, .inl co_rule_c)), (ld_death, .inl (cI, 10, .inl ld_death_c)), (co_may, .inl (cJ, 2, .inr (.inl co_may_c))), (ld_move, .inl (cI, 10, .inl ld_move_c)), (ld_lost, .inl (cJ, 32, .inr (.inl ld_lost_c))), (co_reach, .inl (cJ, 2, .inr (.inl co_reach_c)))] sz)) (va_Qv (fun (u : Int32 × Int32 × (Nat → Int32) × (Nat → Int64) × (Nat → Int64)) => match u with | (n_co_years, n_co_begun, n_co_rule_c, n_co_may_c, n_co_reach_c) => (ir n_co_years.toInt 0 40) ∧ (ir n_co_begun.toInt 0 15)) (fun (u : Int32 × Int32 × (Nat → Int32) × (Nat → Int64) × (Nat → Int64)) (t : State) => bRW g (tyT cI cJ cB cZ cL) (va_A [(ld, .inr (4, [.int ld_lines, .int ld_years, .int ld_card, .int ld_hurt, .int ld_people, .int ld_pairs, .long ld_strikes, .ref ld_rule, .ref ld_returns, .ref ld_forgets, .ref ld_death, .ref ld_move, .ref ld_begun, .ref ld_who, .ref ld_lost])), (co, .inr (2, [.int co_years, .int co_begun, .ref co_rule, .ref co_may, .ref co_reach, .ref co_first, .ref co_back, .ref co_got])), (ld_begun, .inl (cI, 16, .inl ld_begun_c)), (ld_who, .inl (cI, 32, .inl ld_who_c)), (ld_rule, .inl (cI, 10, .inl ld_rule_c)), (ld_returns, .inl (cI, 10, .inl ld_returns_c)), (co_rule, .inl (cI, 2, .inl co_rule_c)), (ld_death, .inl (cI, 10, .inl ld_death_c)), (co_may, .inl (cJ, 2, .inr (.inl co_may_c))), (ld_move, .inl (cI, 10, .inl ld_move_c)), (ld_lost, .inl (cJ, 32, .inr (.inl ld_lost_c))), (co_reach, .inl (cJ, 2, .inr (.inl co_reach_c)))] sz) (match u with | (n_co_years, n_co_begun, n_co_rule_c, n_co_may_c, n_co_reach_c) => [(ld, .inr (4, [.int ld_lines, .int ld_years, .int ld_card, .int ld_hurt, .int ld_people, .int ld_pairs, .long ld_strikes, .ref ld_rule, .ref ld_returns, .ref ld_forgets, .ref ld_death, .ref ld_move, .ref ld_begun, .ref ld_who, .ref ld_lost])), (co, .inr (2, [.int n_co_years, .int n_co_begun, .ref co_rule, .ref co_may, .ref co_reach, .ref co_first, .ref co_back, .ref co_got])), (ld_begun, .inl (cI, 16, .inl ld_begun_c)), (ld_who, .inl (cI, 32, .inl ld_who_c)), (ld_rule, .inl (cI, 10, .inl ld_rule_c)), (ld_returns, .inl (cI, 10, .inl ld_returns_c)), (co_rule, .inl (cI, 2, .inl n_co_rule_c)), (ld_death, .inl (cI, 10, .inl ld_death_c)), (co_may, .inl (cJ, 2, .inr (.inl n_co_may_c))), (ld_move, .inl (cI, 10, .inl ld_move_c)), (ld_lost, .inl (cJ, 32, .inr (.inl ld_lost_c))), (co_reach, .inl (cJ, 2, .inr (.inl n_co_reach_c)))]) t) (va_A [(ld, .inr (4, [.int ld_lines, .int ld_years, .int ld_card, .int ld_hurt, .int ld_people, .int ld_pairs, .long ld_strikes, .ref ld_rule, .ref ld_returns, .ref ld_forgets, .ref ld_death, .ref ld_move, .ref ld_begun, .ref ld_who, .ref ld_lost])), (co, .inr (2, [.int co_years, .int co_begun, .ref co_rule, .ref co_may, .ref co_reach, .ref co_first, .ref co_back, .ref co_got])), (ld_begun, .inl (cI, 16, .inl ld_begun_c)), (ld_who, .inl (cI, 32, .inl ld_who_c)), (ld_rule, .inl (cI, 10, .inl ld_rule_c)), (ld_returns, .inl (cI, 10, .inl ld_returns_c)), (co_rule, .inl (cI, 2, .inl co_rule_c)), (ld_death, .inl (cI, 10, .inl ld_death_c)), (co_may, .inl (cJ, 2, .inr (.inl co_may_c))), (ld_move, .inl (cI, 10, .inl ld_move_c)), (ld_lost, .inl (cJ, 32, .inr (.inl ld_lost_c))), (co_reach, .inl (cJ, 2, .inr (.inl co_reach_c)))] sz)) 0 0 (va_A [(ld, .inr (4, [.int ld_lines, .int ld_years, .int ld_card, .int ld_hurt, .int ld_people, .int ld_pairs, .long ld_strikes, .ref ld_rule, .ref ld_returns, .ref ld_forgets, .ref ld_death, .ref ld_move, .ref ld_begun, .ref ld_who, .ref ld_lost])), (co, .inr (2, [.int co_years, .int co_begun, .ref co_rule, .ref co_may, .ref co_reach, .ref co_first, .ref co_back, .ref co_got])), (ld_begun, .inl (cI, 16, .inl ld_begun_c)), (ld_who, .inl (cI, 32, .inl ld_who_c)), (ld_rule, .inl (cI, 10, .inl ld_rule_c)), (ld_returns, .inl (cI, 10, .inl ld_returns_c)), (co_rule, .inl (cI, 2, .inl co_rule_c)), (ld_death, .inl (cI, 10, .inl ld_death_c)), (co_may, .inl (cJ, 2, .inr (.inl co_may_c))), (ld_move, .inl (cI, 10, .inl ld_move_c)), (ld_lost, .inl (cJ, 32, .inr (.inl ld_lost_c))), (co_reach, .inl (cJ, 2, .inr (.inl co_reach_c)))] sz) := by
  refine Met.ofW (cc := cX2_take) (maxL := 4) (ret := none) (by decide) rfl ?_
  intro p e s m args below meth c s₁ B hml hv
  obtain ⟨rfl, hsz, hP, hK, hD0⟩ := hv
  have hx := B.exec
  have hb := B.bytes
  have hr := B.returns
  have hts := atoms_spec (ws := v_X2_take) B.pre
  have hown : s.vm.findClass RX2 = some m.cls := findClass_of_methodNamed B.named
  have hlocks := B.notSynchronized
  clear B
  subst hsz
  have iX4 : ∀ w ∈ wsX40, w ∈ v_X2_take := (fun _ h => List.mem_cons_of_mem _ (List.mem_append_right _ (List.mem_append_right _ (List.mem_append_right _ (List.mem_append_right _ (List.mem_append_left _ h))))))
  have iX2 : ∀ w ∈ wsX20, w ∈ v_X2_take := (fun _ h => List.mem_cons_of_mem _ (List.mem_append_right _ (List.mem_append_right _ (List.mem_append_right _ (List.mem_append_right _ (List.mem_append_right _ (List.mem_append_left _ h)))))))
  have hD := hD0.self (sz := s.heap.size)
  generalize hAe : (va_A [(ld, .inr (4, [.int ld_lines, .int ld_years, .int ld_card, .int ld_hurt, .int ld_people, .int ld_pairs, .long ld_strikes, .ref ld_rule, .ref ld_returns, .ref ld_forgets, .ref ld_death, .ref ld_move, .ref ld_begun, .ref ld_who, .ref ld_lost])), (co, .inr (2, [.int co_years, .int co_begun, .ref co_rule, .ref co_may, .ref co_reach, .ref co_first, .ref co_back, .ref co_got])), (ld_begun, .inl (cI, 16, .inl ld_begun_c)), (ld_who, .inl (cI, 32, .inl ld_who_c)), (ld_rule, .inl (cI, 10, .inl ld_rule_c)), (ld_returns, .inl (cI, 10, .inl ld_returns_c)), (co_rule, .inl (cI, 2, .inl co_rule_c)), (ld_death, .inl (cI, 10, .inl ld_death_c)), (co_may, .inl (cJ, 2, .inr (.inl co_may_c))), (ld_move, .inl (cI, 10, .inl ld_move_c)), (ld_lost, .inl (cJ, 32, .inr (.inl ld_lost_c))), (co_reach, .inl (cJ, 2, .inr (.inl co_reach_c)))] s.heap.size) = A at hD ⊢
  have hA : ∀ q : Nat, s.heap.size ≤ q → A q := fun q h => by rw [← hAe]; exact Or.inr h
  have hS : va_S A s.heap s.heap [] := va_S.rf
  have hl := lv_entry ([.ref co, .ref ld, .int p1]) (n := 4) (Nat.le_of_ble_eq_true rfl)
  rw [lg_entry_eq]
  generalize (lg_sl ([.ref co, .ref ld, .int p1]) ++ List.replicate (4 - (lg_sl ([.ref co, .ref ld, .int p1])).length) Slot.unset).toArray = ls at hl ⊢
  generalize ([.ref co, .ref ld, .int p1] : List Value).toArray = av at hts ⊢
  generalize hQ : MQ below _ av s _ _ A = QQ
  have hl : lv_has ls 4 [(0, .ref co), (1, .ref ld), (2, .int p1)] := hl
  have hP : va_P g vwCl [(ld, .inr (4, [.int ld_lines, .int ld_years, .int ld_card, .int ld_hurt, .int ld_people, .int ld_pairs, .long ld_strikes, .ref ld_rule, .ref ld_returns, .ref ld_forgets, .ref ld_death, .ref ld_move, .ref ld_begun, .ref ld_who, .ref ld_lost])), (co, .inr (2, [.int co_years, .int co_begun, .ref co_rule, .ref co_may, .ref co_reach, .ref co_first, .ref co_back, .ref co_got])), (ld_begun, .inl (cI, 16, .inl ld_begun_c)), (ld_who, .inl (cI, 32, .inl ld_who_c)), (ld_rule, .inl (cI, 10, .inl ld_rule_c)), (ld_returns, .inl (cI, 10, .inl ld_returns_c)), (co_rule, .inl (cI, 2, .inl co_rule_c)), (ld_death, .inl (cI, 10, .inl ld_death_c)), (co_may, .inl (cJ, 2, .inr (.inl co_may_c))), (ld_move, .inl (cI, 10, .inl ld_move_c)), (ld_lost, .inl (cJ, 32, .inr (.inl ld_lost_c))), (co_reach, .inl (cJ, 2, .inr (.inl co_reach_c)))] s.heap := hP
  refine lv_aload_n hx hb dX2_take_0 rfl (lv_at hl 0 rfl) ?_
  refine lv_aload_n hx hb dX2_take_1 rfl (lv_at hl 1 rfl) ?_
  refine va_get (D := g) (ci := 4) (v := .int ld_years) (C := RX4) (T := TX4) (N := 15) hx hb hts iX4 hown hK hP 0 rfl rfl 1 (by decide) (hts (.fieldLink RX2 29 "CardsAtYule$Land" "years" "I") (List.mem_cons_of_mem _ (List.mem_append_left _ (List.mem_of_getElem? (i := 0) rfl)))) (fun _ h9 => h9) rfl dX2_take_2 ?_
  refine va_put (D := g) (ci := 2) (v := .int ld_years) (ty := .int) (C := RX2) (T := TX2) (N := 8) hx hb hts iX2 tyX2 tyX2_ok nmX2 hown hK hP hD hS 1 rfl rfl 0 (by decide) (hts (.fieldLink RX2 35 "CardsAtYule$Course" "years" "I") (List.mem_cons_of_mem _ (List.mem_append_left _ (List.mem_of_getElem? (i := 1) rfl)))) (fun _ h9 => h9) rfl (by decide +kernel) rfl rfl (Nat.le_of_ble_eq_true rfl) dX2_take_5 (fun H locs hP hD hS => ?_)
  have hP : va_P g vwCl [(ld, .inr (4, [.int ld_lines, .int ld_years, .int ld_card, .int ld_hurt, .int ld_people, .int ld_pairs, .long ld_strikes, .ref ld_rule, .ref ld_returns, .ref ld_forgets, .ref ld_death, .ref ld_move, .ref ld_begun, .ref ld_who, .ref ld_lost])), (co, .inr (2, [.int ld_years, .int co_begun, .ref co_rule, .ref co_may, .ref co_reach, .ref co_first, .ref co_back, .ref co_got])), (ld_begun, .inl (cI, 16, .inl ld_begun_c)), (ld_who, .inl (cI, 32, .inl ld_who_c)), (ld_rule, .inl (cI, 10, .inl ld_rule_c)), (ld_returns, .inl (cI, 10, .inl ld_returns_c)), (co_rule, .inl (cI, 2, .inl co_rule_c)), (ld_death, .inl (cI, 10, .inl ld_death_c)), (co_may, .inl (cJ, 2, .inr (.inl co_may_c))), (ld_move, .inl (cI, 10, .inl ld_move_c)), (ld_lost, .inl (cJ, 32, .inr (.inl ld_lost_c))), (co_reach, .inl (cJ, 2, .inr (.inl co_reach_c)))] H := hP
  have hD : va_D A [(ld, .inr (4, [.int ld_lines, .int ld_years, .int ld_card, .int ld_hurt, .int ld_people, .int ld_pairs, .long ld_strikes, .ref ld_rule, .ref ld_returns, .ref ld_forgets, .ref ld_death, .ref ld_move, .ref ld_begun, .ref ld_who, .ref ld_lost])), (co, .inr (2, [.int ld_years, .int co_begun, .ref co_rule, .ref co_may, .ref co_reach, .ref co_first, .ref co_back, .ref co_got])), (ld_begun, .inl (cI, 16, .inl ld_begun_c)), (ld_who, .inl (cI, 32, .inl ld_who_c)), (ld_rule, .inl (cI, 10, .inl ld_rule_c)), (ld_returns, .inl (cI, 10, .inl ld_returns_c)), (co_rule, .inl (cI, 2, .inl co_rule_c)), (ld_death, .inl (cI, 10, .inl ld_death_c)), (co_may, .inl (cJ, 2, .inr (.inl co_may_c))), (ld_move, .inl (cI, 10, .inl ld_move_c)), (ld_lost, .inl (cJ, 32, .inr (.inl ld_lost_c))), (co_reach, .inl (cJ, 2, .inr (.inl co_reach_c)))] := hD
  refine lv_aload_n hx hb dX2_take_8 rfl (lv_at hl 0 rfl) ?_
  refine lv_aload_n hx hb dX2_take_9 rfl (lv_at hl 1 rfl) ?_
  refine va_get (D := g) (ci := 4) (v := .ref ld_begun) (C := RX4) (T := TX4) (N := 15) hx hb hts iX4 hown hK hP 0 rfl rfl 12 (by decide) (hts (.fieldLink RX2 36 "CardsAtYule$Land" "begun" "[I") (List.mem_cons_of_mem _ (List.mem_append_left _ (List.mem_of_getElem? (i := 2) rfl)))) (fun _ h9 => h9) rfl dX2_take_10 ?_
  refine lv_iload_n hx hb dX2_take_13 rfl (lv_at hl 2 rfl) ?_
  refine va_iald (D := g) hx hb hK hP 2 0 rfl rfl (vi_rg rfl hv_p1 (by decide) (by decide)) dX2_take_14 ?_
  refine lv_topi (fun y14 e14 => ?_)
  have r14 : ir y14.toInt 0 15 := by rw [e14]; exact ha_ld_begun_c _ (vi_cl (vi_rg rfl hv_p1 (by decide) (by decide)))
  refine va_put (D := g) (ci := 2) (v := .int y14) (ty := .int) (C := RX2) (T := TX2) (N := 8) hx hb hts iX2 tyX2 tyX2_ok nmX2 hown hK hP hD hS 1 rfl rfl 1 (by decide) (hts (.fieldLink RX2 39 "CardsAtYule$Course" "begun" "I") (List.mem_cons_of_mem _ (List.mem_append_left _ (List.mem_of_getElem? (i := 3) rfl)))) (fun _ h9 => h9) rfl (by decide +kernel) rfl rfl (Nat.le_of_ble_eq_true rfl) dX2_take_15 (fun H locs hP hD hS => ?_)
  have hP : va_P g vwCl [(ld, .inr (4, [.int ld_lines, .int ld_years, .int ld_card, .int ld_hurt, .int ld_people, .int ld_pairs, .long ld_strikes, .ref ld_rule, .ref ld_returns, .ref ld_forgets, .ref ld_death, .ref ld_move, .ref ld_begun, .ref ld_who, .ref ld_lost])), (co, .inr (2, [.int ld_years, .int y14, .ref co_rule, .ref co_may, .ref co_reach, .ref co_first, .ref co_back, .ref co_got])), (ld_begun, .inl (cI, 16, .inl ld_begun_c)), (ld_who, .inl (cI, 32, .inl ld_who_c)), (ld_rule, .inl (cI, 10, .inl ld_rule_c)), (ld_returns, .inl (cI, 10, .inl ld_returns_c)), (co_rule, .inl (cI, 2, .inl co_rule_c)), (ld_death, .inl (cI, 10, .inl ld_death_c)), (co_may, .inl (cJ, 2, .inr (.inl co_may_c))), (ld_move, .inl (cI, 10, .inl ld_move_c)), (ld_lost, .inl (cJ, 32, .inr (.inl ld_lost_c))), (co_reach, .inl (cJ, 2, .inr (.inl co_reach_c)))] H := hP
  have hD : va_D A [(ld, .inr (4, [.int ld_lines, .int ld_years, .int ld_card, .int ld_hurt, .int ld_people, .int ld_pairs, .long ld_strikes, .ref ld_rule, .ref ld_returns, .ref ld_forgets, .ref ld_death, .ref ld_move, .ref ld_begun, .ref ld_who, .ref ld_lost])), (co, .inr (2, [.int ld_years, .int y14, .ref co_rule, .ref co_may, .ref co_reach, .ref co_first, .ref co_back, .ref co_got])), (ld_begun, .inl (cI, 16, .inl ld_begun_c)), (ld_who, .inl (cI, 32, .inl ld_who_c)), (ld_rule, .inl (cI, 10, .inl ld_rule_c)), (ld_returns, .inl (cI, 10, .inl ld_returns_c)), (co_rule, .inl (cI, 2, .inl co_rule_c)), (ld_death, .inl (cI, 10, .inl ld_death_c)), (co_may, .inl (cJ, 2, .inr (.inl co_may_c))), (ld_move, .inl (cI, 10, .inl ld_move_c)), (ld_lost, .inl (cJ, 32, .inr (.inl ld_lost_c))), (co_reach, .inl (cJ, 2, .inr (.inl co_reach_c)))] := hD
  refine lv_iconst (v := 0) hx hb dX2_take_18 (by decide) ?_
  refine lv_istore_n (lv' := [(3, .int 0), (0, .ref co), (1, .ref ld), (2, .int p1)]) hx hb dX2_take_19 rfl hl (by decide) rfl (fun ls hl => ?_)
  have J20 : ∀ (n20 : Nat) (j20_l3 : Int32) (j20_co_rule_c : Nat → Int32) (j20_co_may_c : Nat → Int64) (j20_co_reach_c : Nat → Int64) (H : Heap) (locs : List Loc) (ls : Array Slot), (3 - j20_l3.toInt).toNat < n20 → (ir j20_l3.toInt 0 2) → va_P g vwCl [(ld, .inr (4, [.int ld_lines, .int ld_years, .int ld_card, .int ld_hurt, .int ld_people, .int ld_pairs, .long ld_strikes, .ref ld_rule, .ref ld_returns, .ref ld_forgets, .ref ld_death, .ref ld_move, .ref ld_begun, .ref ld_who, .ref ld_lost])), (co, .inr (2, [.int ld_years, .int y14, .ref co_rule, .ref co_may, .ref co_reach, .ref co_first, .ref co_back, .ref co_got])), (ld_begun, .inl (cI, 16, .inl ld_begun_c)), (ld_who, .inl (cI, 32, .inl ld_who_c)), (ld_rule, .inl (cI, 10, .inl ld_rule_c)), (ld_returns, .inl (cI, 10, .inl ld_returns_c)), (co_rule, .inl (cI, 2, .inl j20_co_rule_c)), (ld_death, .inl (cI, 10, .inl ld_death_c)), (co_may, .inl (cJ, 2, .inr (.inl j20_co_may_c))), (ld_move, .inl (cI, 10, .inl ld_move_c)), (ld_lost, .inl (cJ, 32, .inr (.inl ld_lost_c))), (co_reach, .inl (cJ, 2, .inr (.inl j20_co_reach_c)))] H → va_D A [(ld, .inr (4, [.int ld_lines, .int ld_years, .int ld_card, .int ld_hurt, .int ld_people, .int ld_pairs, .long ld_strikes, .ref ld_rule, .ref ld_returns, .ref ld_forgets, .ref ld_death, .ref ld_move, .ref ld_begun, .ref ld_who, .ref ld_lost])), (co, .inr (2, [.int ld_years, .int y14, .ref co_rule, .ref co_may, .ref co_reach, .ref co_first, .ref co_back, .ref co_got])), (ld_begun, .inl (cI, 16, .inl ld_begun_c)), (ld_who, .inl (cI, 32, .inl ld_who_c)), (ld_rule, .inl (cI, 10, .inl ld_rule_c)), (ld_returns, .inl (cI, 10, .inl ld_returns_c)), (co_rule, .inl (cI, 2, .inl j20_co_rule_c)), (ld_death, .inl (cI, 10, .inl ld_death_c)), (co_may, .inl (cJ, 2, .inr (.inl j20_co_may_c))), (ld_move, .inl (cI, 10, .inl ld_move_c)), (ld_lost, .inl (cJ, 32, .inr (.inl ld_lost_c))), (co_reach, .inl (cJ, 2, .inr (.inl j20_co_reach_c)))] → va_S A s.heap H locs → lv_has ls 4 [(0, .ref co), (1, .ref ld), (2, .int p1), (3, .int j20_l3)] → W p l e (headSpec v_X2_take ({ frames := 2, cells := 0, slots := 0, locals := 46 })).room s m av below meth c H locs 0 0 QQ (F0 m 20 ls []) := by
    intro n20
    induction n20 with
    | zero => exact fun j20_l3 j20_co_rule_c j20_co_may_c j20_co_reach_c H locs ls hn => absurd hn (Nat.not_lt_zero _)
    | succ n20 ih20 =>
      intro j20_l3 j20_co_rule_c j20_co_may_c j20_co_reach_c H locs ls hn20 hj20_l3 hP hD hS hl
      refine lv_iload_n hx hb dX2_take_20 rfl (lv_at hl 3 rfl) ?_
      refine lv_iconst (v := 2) hx hb dX2_take_21 (by decide) ?_
      refine lv_icmp_ge (tgt := 75) hx hb dX2_take_22 (by decide) (fun c22 => ?_) (fun c22 => ?_)
      · have f22 := (show 2 ≤ j20_l3.toInt from z_le rfl rfl c22)
        have r22a : ir j20_l3.toInt 2 2 := ir_leb f22 (ir_c 2) hj20_l3 (by decide)
        subst hQ
        have hP9 := hP.sub (ws' := [(ld, .inr (4, [.int ld_lines, .int ld_years, .int ld_card, .int ld_hurt, .int ld_people, .int ld_pairs, .long ld_strikes, .ref ld_rule, .ref ld_returns, .ref ld_forgets, .ref ld_death, .ref ld_move, .ref ld_begun, .ref ld_who, .ref ld_lost])), (co, .inr (2, [.int ld_years, .int y14, .ref co_rule, .ref co_may, .ref co_reach, .ref co_first, .ref co_back, .ref co_got])), (ld_begun, .inl (cI, 16, .inl ld_begun_c)), (ld_who, .inl (cI, 32, .inl ld_who_c)), (ld_rule, .inl (cI, 10, .inl ld_rule_c)), (ld_returns, .inl (cI, 10, .inl ld_returns_c)), (co_rule, .inl (cI, 2, .inl j20_co_rule_c)), (ld_death, .inl (cI, 10, .inl ld_death_c)), (co_may, .inl (cJ, 2, .inr (.inl j20_co_may_c))), (ld_move, .inl (cI, 10, .inl ld_move_c)), (ld_lost, .inl (cJ, 32, .inr (.inl ld_lost_c))), (co_reach, .inl (cJ, 2, .inr (.inl j20_co_reach_c)))]) [0, 1, 2, 3, 4, 5, 6, 7, 8, 9, 10, 11] rfl
        have hD9 := hD.sub (ws' := [(ld, .inr (4, [.int ld_lines, .int ld_years, .int ld_card, .int ld_hurt, .int ld_people, .int ld_pairs, .long ld_strikes, .ref ld_rule, .ref ld_returns, .ref ld_forgets, .ref ld_death, .ref ld_move, .ref ld_begun, .ref ld_who, .ref ld_lost])), (co, .inr (2, [.int ld_years, .int y14, .ref co_rule, .ref co_may, .ref co_reach, .ref co_first, .ref co_back, .ref co_got])), (ld_begun, .inl (cI, 16, .inl ld_begun_c)), (ld_who, .inl (cI, 32, .inl ld_who_c)), (ld_rule, .inl (cI, 10, .inl ld_rule_c)), (ld_returns, .inl (cI, 10, .inl ld_returns_c)), (co_rule, .inl (cI, 2, .inl j20_co_rule_c)), (ld_death, .inl (cI, 10, .inl ld_death_c)), (co_may, .inl (cJ, 2, .inr (.inl j20_co_may_c))), (ld_move, .inl (cI, 10, .inl ld_move_c)), (ld_lost, .inl (cJ, 32, .inr (.inl ld_lost_c))), (co_reach, .inl (cJ, 2, .inr (.inl j20_co_reach_c)))]) [0, 1, 2, 3, 4, 5, 6, 7, 8, 9, 10, 11] (by decide) rfl
        exact W.vret hx hb hr (fun t ht hW => ⟨⟨(ld_years, y14, j20_co_rule_c, j20_co_may_c, j20_co_reach_c), rfl, ⟨hv_ld_years, r14⟩, ⟨by rw [ht]; exact hP9, va_K.moved hW.alike hK, hD9⟩⟩, hS.F ht⟩) hS.2.2 dX2_take_75
      have f22 := (show j20_l3.toInt < 2 from z_nle rfl rfl c22)
      have r22a : ir j20_l3.toInt 0 1 := ir_lta f22 hj20_l3 (ir_c 2) (by decide)
      refine lv_aload_n hx hb dX2_take_25 rfl (lv_at hl 0 rfl) ?_
      refine va_get (D := g) (ci := 2) (v := .ref co_rule) (C := RX2) (T := TX2) (N := 8) hx hb hts iX2 hown hK hP 1 rfl rfl 2 (by decide) (hts (.fieldLink RX2 7 "CardsAtYule$Course" "rule" "[I") (List.mem_cons_of_mem _ (List.mem_append_left _ (List.mem_of_getElem? (i := 4) rfl)))) (fun _ h9 => h9) rfl dX2_take_26 ?_
      refine lv_iload_n hx hb dX2_take_29 rfl (lv_at hl 3 rfl) ?_
      refine lv_aload_n hx hb dX2_take_30 rfl (lv_at hl 1 rfl) ?_
      refine lv_iload_n hx hb dX2_take_31 rfl (lv_at hl 2 rfl) ?_
      refine lv_iload_n hx hb dX2_take_32 rfl (lv_at hl 3 rfl) ?_
      refine ro_i (va_runV (As := [.int p1, .int j20_l3]) (rest := [.int j20_l3, .ref co_rule]) ⟨hx, hb, hml, hown, hts⟩ (q_X4_ruleOfSide l g cI cJ cB cZ cL p1 j20_l3 ld ld_lines ld_years ld_card ld_hurt ld_people ld_pairs ld_strikes ld_rule ld_returns ld_forgets ld_death ld_move ld_begun ld_who ld_lost ld_who_c ld_rule_c ld_returns_c H.size hv_p1 r22a hv_ld_years hv_ld_people hv_ld_pairs ha_ld_who_c) (cwV 2 hts (goodIn_app (g_4 (List.mem_cons_of_mem _ (List.mem_append_left _ (List.mem_of_getElem? (i := 5) rfl))) (List.mem_cons_of_mem _ (List.mem_append_left _ (List.mem_of_getElem? (i := 6) rfl))) (List.mem_cons_of_mem _ (List.mem_append_left _ (List.mem_of_getElem? (i := 7) rfl))) (List.mem_cons_of_mem _ (List.mem_append_left _ (List.mem_of_getElem? (i := 8) rfl))) (by decide +kernel)) (goodIn_sub (fun _ h => List.mem_cons_of_mem _ (List.mem_append_right _ (List.mem_append_left _ h))) good_v_X4_ruleOfSide)) rfl rfl rfl (by decide +kernel) ⟨Nat.le_of_ble_eq_true rfl, Nat.le_of_ble_eq_true rfl⟩) (pv_RO (q := (RX4, TX4, 15)) (ci := 4) (q0 := 0) (wc := [(ld, .inr (4, [.int ld_lines, .int ld_years, .int ld_card, .int ld_hurt, .int ld_people, .int ld_pairs, .long ld_strikes, .ref ld_rule, .ref ld_returns, .ref ld_forgets, .ref ld_death, .ref ld_move, .ref ld_begun, .ref ld_who, .ref ld_lost])), (ld_who, .inl (cI, 32, .inl ld_who_c)), (ld_rule, .inl (cI, 10, .inl ld_rule_c)), (ld_returns, .inl (cI, 10, .inl ld_returns_c))]) hK hP [0, 3, 4, 5] rfl rfl rfl) rfl rfl hl.1 rfl (lv_room (Nat.le_of_ble_eq_true rfl)) dX2_take_33 ⟨Nat.le_of_ble_eq_true rfl, Nat.le_of_ble_eq_true rfl⟩) hS hA hP (fun r33 u33 H locs hw33 hP hS => ?_)
      refine va_iast (D := g) hx hb hK hP hD hS 6 0 rfl rfl (vi_rg rfl r22a (by decide) (by decide)) dX2_take_36 (fun H locs hP hD hS => ?_)
      obtain ⟨g36, e36⟩ : ∃ z, z = upd j20_co_rule_c j20_l3.toNatClampNeg r33 := ⟨_, rfl⟩
      have hP : va_P g vwCl [(ld, .inr (4, [.int ld_lines, .int ld_years, .int ld_card, .int ld_hurt, .int ld_people, .int ld_pairs, .long ld_strikes, .ref ld_rule, .ref ld_returns, .ref ld_forgets, .ref ld_death, .ref ld_move, .ref ld_begun, .ref ld_who, .ref ld_lost])), (co, .inr (2, [.int ld_years, .int y14, .ref co_rule, .ref co_may, .ref co_reach, .ref co_first, .ref co_back, .ref co_got])), (ld_begun, .inl (cI, 16, .inl ld_begun_c)), (ld_who, .inl (cI, 32, .inl ld_who_c)), (ld_rule, .inl (cI, 10, .inl ld_rule_c)), (ld_returns, .inl (cI, 10, .inl ld_returns_c)), (co_rule, .inl (cI, 2, .inl (upd j20_co_rule_c j20_l3.toNatClampNeg r33))), (ld_death, .inl (cI, 10, .inl ld_death_c)), (co_may, .inl (cJ, 2, .inr (.inl j20_co_may_c))), (ld_move, .inl (cI, 10, .inl ld_move_c)), (ld_lost, .inl (cJ, 32, .inr (.inl ld_lost_c))), (co_reach, .inl (cJ, 2, .inr (.inl j20_co_reach_c)))] H := hP
      have hD : va_D A [(ld, .inr (4, [.int ld_lines, .int ld_years, .int ld_card, .int ld_hurt, .int ld_people, .int ld_pairs, .long ld_strikes, .ref ld_rule, .ref ld_returns, .ref ld_forgets, .ref ld_death, .ref ld_move, .ref ld_begun, .ref ld_who, .ref ld_lost])), (co, .inr (2, [.int ld_years, .int y14, .ref co_rule, .ref co_may, .ref co_reach, .ref co_first, .ref co_back, .ref co_got])), (ld_begun, .inl (cI, 16, .inl ld_begun_c)), (ld_who, .inl (cI, 32, .inl ld_who_c)), (ld_rule, .inl (cI, 10, .inl ld_rule_c)), (ld_returns, .inl (cI, 10, .inl ld_returns_c)), (co_rule, .inl (cI, 2, .inl (upd j20_co_rule_c j20_l3.toNatClampNeg r33))), (ld_death, .inl (cI, 10, .inl ld_death_c)), (co_may, .inl (cJ, 2, .inr (.inl j20_co_may_c))), (ld_move, .inl (cI, 10, .inl ld_move_c)), (ld_lost, .inl (cJ, 32, .inr (.inl ld_lost_c))), (co_reach, .inl (cJ, 2, .inr (.inl j20_co_reach_c)))] := hD
      rw [← e36] at hP hD
      refine lv_aload_n hx hb dX2_take_37 rfl (lv_at hl 0 rfl) ?_
      refine va_get (D := g) (ci := 2) (v := .ref co_may) (C := RX2) (T := TX2) (N := 8) hx hb hts iX2 hown hK hP 1 rfl rfl 3 (by decide) (hts (.fieldLink RX2 13 "CardsAtYule$Course" "may" "[J") (List.mem_cons_of_mem _ (List.mem_append_left _ (List.mem_of_getElem? (i := 9) rfl)))) (fun _ h9 => h9) rfl dX2_take_38 ?_
      refine lv_iload_n hx hb dX2_take_41 rfl (lv_at hl 3 rfl) ?_
      refine lv_aload_n hx hb dX2_take_42 rfl (lv_at hl 1 rfl) ?_
      refine lv_aload_n hx hb dX2_take_43 rfl (lv_at hl 1 rfl) ?_
      refine va_get (D := g) (ci := 4) (v := .ref ld_who) (C := RX4) (T := TX4) (N := 15) hx hb hts iX4 hown hK hP 0 rfl rfl 13 (by decide) (hts (.fieldLink RX2 45 "CardsAtYule$Land" "who" "[I") (List.mem_cons_of_mem _ (List.mem_append_left _ (List.mem_of_getElem? (i := 10) rfl)))) (fun _ h9 => h9) rfl dX2_take_44 ?_
      refine lv_iconst (v := 2) hx hb dX2_take_47 (by decide) ?_
      refine lv_iload_n hx hb dX2_take_48 rfl (lv_at hl 2 rfl) ?_
      refine lv_imul hx hb dX2_take_49 ?_
      refine lv_topi (fun y49 e49 => ?_)
      have q49 : y49.toInt = 2 * p1.toInt := by rw [e49]; exact mu_z rfl rfl (ir_c 2) hv_p1 (by decide) (by decide) (by decide)
      have r49 : ir y49.toInt 0 30 := mu_r q49 (ir_c 2) hv_p1 (by decide) (by decide) (by decide) (by decide)
      refine lv_iload_n hx hb dX2_take_50 rfl (lv_at hl 3 rfl) ?_
      refine lv_iadd hx hb dX2_take_51 ?_
      refine lv_topi (fun y51 e51 => ?_)
      have q51 : y51.toInt = y49.toInt + j20_l3.toInt := by rw [e51]; exact ad_z rfl rfl r49 r22a (by decide) (by decide)
      have r51 : ir y51.toInt 0 31 := ad_r q51 r49 r22a (by decide) (by decide)
      refine va_iald (D := g) hx hb hK hP 3 0 rfl rfl (vi_rg rfl r51 (by decide) (by decide)) dX2_take_52 ?_
      refine lv_topi (fun y52 e52 => ?_)
      have r52 : ir y52.toInt 0 9 := by rw [e52]; exact ha_ld_who_c _ (vi_cl (vi_rg rfl r51 (by decide) (by decide)))
      refine ro_l (va_runV (As := [.int y52]) (rest := [.int j20_l3, .ref co_may]) ⟨hx, hb, hml, hown, hts⟩ (q_X4_livingYears l g cI cJ cB cZ cL y52 ld ld_lines ld_years ld_card ld_hurt ld_people ld_pairs ld_strikes ld_rule ld_returns ld_forgets ld_death ld_move ld_begun ld_who ld_lost ld_death_c H.size r52 hv_ld_years hv_ld_people hv_ld_pairs) (cwV 1 hts (goodIn_app (g_4 (List.mem_cons_of_mem _ (List.mem_append_left _ (List.mem_of_getElem? (i := 11) rfl))) (List.mem_cons_of_mem _ (List.mem_append_left _ (List.mem_of_getElem? (i := 12) rfl))) (List.mem_cons_of_mem _ (List.mem_append_left _ (List.mem_of_getElem? (i := 13) rfl))) (List.mem_cons_of_mem _ (List.mem_append_left _ (List.mem_of_getElem? (i := 8) rfl))) (by decide +kernel)) (goodIn_sub (fun _ h => List.mem_cons_of_mem _ (List.mem_append_right _ (List.mem_append_right _ (List.mem_append_left _ h)))) good_v_X4_livingYears)) rfl rfl rfl (by decide +kernel) ⟨Nat.le_of_ble_eq_true rfl, Nat.le_of_ble_eq_true rfl⟩) (pv_RO (q := (RX4, TX4, 15)) (ci := 4) (q0 := 0) (wc := [(ld, .inr (4, [.int ld_lines, .int ld_years, .int ld_card, .int ld_hurt, .int ld_people, .int ld_pairs, .long ld_strikes, .ref ld_rule, .ref ld_returns, .ref ld_forgets, .ref ld_death, .ref ld_move, .ref ld_begun, .ref ld_who, .ref ld_lost])), (ld_death, .inl (cI, 10, .inl ld_death_c))]) hK hP [0, 7] rfl rfl rfl) rfl rfl hl.1 rfl (lv_room (Nat.le_of_ble_eq_true rfl)) dX2_take_53 ⟨Nat.le_of_ble_eq_true rfl, Nat.le_of_ble_eq_true rfl⟩) hS hA hP (fun r53 u53 H locs hw53 hP hS => ?_)
      refine va_last (D := g) hx hb hK hP hD hS 8 1 rfl rfl (vi_rg rfl r22a (by decide) (by decide)) dX2_take_56 (fun H locs hP hD hS => ?_)
      obtain ⟨g56, e56⟩ : ∃ z, z = vp_updL j20_co_may_c j20_l3.toNatClampNeg r53 := ⟨_, rfl⟩
      have hP : va_P g vwCl [(ld, .inr (4, [.int ld_lines, .int ld_years, .int ld_card, .int ld_hurt, .int ld_people, .int ld_pairs, .long ld_strikes, .ref ld_rule, .ref ld_returns, .ref ld_forgets, .ref ld_death, .ref ld_move, .ref ld_begun, .ref ld_who, .ref ld_lost])), (co, .inr (2, [.int ld_years, .int y14, .ref co_rule, .ref co_may, .ref co_reach, .ref co_first, .ref co_back, .ref co_got])), (ld_begun, .inl (cI, 16, .inl ld_begun_c)), (ld_who, .inl (cI, 32, .inl ld_who_c)), (ld_rule, .inl (cI, 10, .inl ld_rule_c)), (ld_returns, .inl (cI, 10, .inl ld_returns_c)), (co_rule, .inl (cI, 2, .inl g36)), (ld_death, .inl (cI, 10, .inl ld_death_c)), (co_may, .inl (cJ, 2, .inr (.inl (vp_updL j20_co_may_c j20_l3.toNatClampNeg r53)))), (ld_move, .inl (cI, 10, .inl ld_move_c)), (ld_lost, .inl (cJ, 32, .inr (.inl ld_lost_c))), (co_reach, .inl (cJ, 2, .inr (.inl j20_co_reach_c)))] H := hP
      have hD : va_D A [(ld, .inr (4, [.int ld_lines, .int ld_years, .int ld_card, .int ld_hurt, .int ld_people, .int ld_pairs, .long ld_strikes, .ref ld_rule, .ref ld_returns, .ref ld_forgets, .ref ld_death, .ref ld_move, .ref ld_begun, .ref ld_who, .ref ld_lost])), (co, .inr (2, [.int ld_years, .int y14, .ref co_rule, .ref co_may, .ref co_reach, .ref co_first, .ref co_back, .ref co_got])), (ld_begun, .inl (cI, 16, .inl ld_begun_c)), (ld_who, .inl (cI, 32, .inl ld_who_c)), (ld_rule, .inl (cI, 10, .inl ld_rule_c)), (ld_returns, .inl (cI, 10, .inl ld_returns_c)), (co_rule, .inl (cI, 2, .inl g36)), (ld_death, .inl (cI, 10, .inl ld_death_c)), (co_may, .inl (cJ, 2, .inr (.inl (vp_updL j20_co_may_c j20_l3.toNatClampNeg r53)))), (ld_move, .inl (cI, 10, .inl ld_move_c)), (ld_lost, .inl (cJ, 32, .inr (.inl ld_lost_c))), (co_reach, .inl (cJ, 2, .inr (.inl j20_co_reach_c)))] := hD
      rw [← e56] at hP hD
      refine lv_aload_n hx hb dX2_take_57 rfl (lv_at hl 0 rfl) ?_
      refine va_get (D := g) (ci := 2) (v := .ref co_reach) (C := RX2) (T := TX2) (N := 8) hx hb hts iX2 hown hK hP 1 rfl rfl 4 (by decide) (hts (.fieldLink RX2 17 "CardsAtYule$Course" "reach" "[J") (List.mem_cons_of_mem _ (List.mem_append_left _ (List.mem_of_getElem? (i := 14) rfl)))) (fun _ h9 => h9) rfl dX2_take_58 ?_
      refine lv_iload_n hx hb dX2_take_61 rfl (lv_at hl 3 rfl) ?_
      refine lv_aload_n hx hb dX2_take_62 rfl (lv_at hl 1 rfl) ?_
      refine lv_iload_n hx hb dX2_take_63 rfl (lv_at hl 2 rfl) ?_
      refine lv_iload_n hx hb dX2_take_64 rfl (lv_at hl 3 rfl) ?_
      refine ro_l (va_runV (As := [.int p1, .int j20_l3]) (rest := [.int j20_l3, .ref co_reach]) ⟨hx, hb, hml, hown, hts⟩ (q_X4_reachOf l g cI cJ cB cZ cL p1 j20_l3 ld ld_lines ld_years ld_card ld_hurt ld_people ld_pairs ld_strikes ld_rule ld_returns ld_forgets ld_death ld_move ld_begun ld_who ld_lost ld_who_c ld_move_c ld_death_c ld_lost_c H.size hv_p1 r22a hv_ld_years hv_ld_people hv_ld_pairs ha_ld_who_c) (cwV 2 hts (goodIn_app (g_4 (List.mem_cons_of_mem _ (List.mem_append_left _ (List.mem_of_getElem? (i := 15) rfl))) (List.mem_cons_of_mem _ (List.mem_append_left _ (List.mem_of_getElem? (i := 16) rfl))) (List.mem_cons_of_mem _ (List.mem_append_left _ (List.mem_of_getElem? (i := 17) rfl))) (List.mem_cons_of_mem _ (List.mem_append_left _ (List.mem_of_getElem? (i := 8) rfl))) (by decide +kernel)) (goodIn_sub (fun _ h => List.mem_cons_of_mem _ (List.mem_append_right _ (List.mem_append_right _ (List.mem_append_right _ (List.mem_append_left _ h))))) good_v_X4_reachOf)) rfl rfl rfl (by decide +kernel) ⟨Nat.le_of_ble_eq_true rfl, Nat.le_of_ble_eq_true rfl⟩) (pv_RO (q := (RX4, TX4, 15)) (ci := 4) (q0 := 0) (wc := [(ld, .inr (4, [.int ld_lines, .int ld_years, .int ld_card, .int ld_hurt, .int ld_people, .int ld_pairs, .long ld_strikes, .ref ld_rule, .ref ld_returns, .ref ld_forgets, .ref ld_death, .ref ld_move, .ref ld_begun, .ref ld_who, .ref ld_lost])), (ld_who, .inl (cI, 32, .inl ld_who_c)), (ld_move, .inl (cI, 10, .inl ld_move_c)), (ld_death, .inl (cI, 10, .inl ld_death_c)), (ld_lost, .inl (cJ, 32, .inr (.inl ld_lost_c)))]) hK hP [0, 3, 9, 7, 10] rfl rfl rfl) rfl rfl hl.1 rfl (lv_room (Nat.le_of_ble_eq_true rfl)) dX2_take_65 ⟨Nat.le_of_ble_eq_true rfl, Nat.le_of_ble_eq_true rfl⟩) hS hA hP (fun r65 u65 H locs hw65 hP hS => ?_)
      refine va_last (D := g) hx hb hK hP hD hS 11 1 rfl rfl (vi_rg rfl r22a (by decide) (by decide)) dX2_take_68 (fun H locs hP hD hS => ?_)
      obtain ⟨g68, e68⟩ : ∃ z, z = vp_updL j20_co_reach_c j20_l3.toNatClampNeg r65 := ⟨_, rfl⟩
      have hP : va_P g vwCl [(ld, .inr (4, [.int ld_lines, .int ld_years, .int ld_card, .int ld_hurt, .int ld_people, .int ld_pairs, .long ld_strikes, .ref ld_rule, .ref ld_returns, .ref ld_forgets, .ref ld_death, .ref ld_move, .ref ld_begun, .ref ld_who, .ref ld_lost])), (co, .inr (2, [.int ld_years, .int y14, .ref co_rule, .ref co_may, .ref co_reach, .ref co_first, .ref co_back, .ref co_got])), (ld_begun, .inl (cI, 16, .inl ld_begun_c)), (ld_who, .inl (cI, 32, .inl ld_who_c)), (ld_rule, .inl (cI, 10, .inl ld_rule_c)), (ld_returns, .inl (cI, 10, .inl ld_returns_c)), (co_rule, .inl (cI, 2, .inl g36)), (ld_death, .inl (cI, 10, .inl ld_death_c)), (co_may, .inl (cJ, 2, .inr (.inl g56))), (ld_move, .inl (cI, 10, .inl ld_move_c)), (ld_lost, .inl (cJ, 32, .inr (.inl ld_lost_c))), (co_reach, .inl (cJ, 2, .inr (.inl (vp_updL j20_co_reach_c j20_l3.toNatClampNeg r65))))] H := hP
      have hD : va_D A [(ld, .inr (4, [.int ld_lines, .int ld_years, .int ld_card, .int ld_hurt, .int ld_people, .int ld_pairs, .long ld_strikes, .ref ld_rule, .ref ld_returns, .ref ld_forgets, .ref ld_death, .ref ld_move, .ref ld_begun, .ref ld_who, .ref ld_lost])), (co, .inr (2, [.int ld_years, .int y14, .ref co_rule, .ref co_may, .ref co_reach, .ref co_first, .ref co_back, .ref co_got])), (ld_begun, .inl (cI, 16, .inl ld_begun_c)), (ld_who, .inl (cI, 32, .inl ld_who_c)), (ld_rule, .inl (cI, 10, .inl ld_rule_c)), (ld_returns, .inl (cI, 10, .inl ld_returns_c)), (co_rule, .inl (cI, 2, .inl g36)), (ld_death, .inl (cI, 10, .inl ld_death_c)), (co_may, .inl (cJ, 2, .inr (.inl g56))), (ld_move, .inl (cI, 10, .inl ld_move_c)), (ld_lost, .inl (cJ, 32, .inr (.inl ld_lost_c))), (co_reach, .inl (cJ, 2, .inr (.inl (vp_updL j20_co_reach_c j20_l3.toNatClampNeg r65))))] := hD
      rw [← e68] at hP hD
      obtain ⟨y69, e69⟩ : ∃ y : Int32, y = j20_l3 + 1 := ⟨_, rfl⟩
      have q69 : y69.toInt = j20_l3.toInt + 1 := by rw [e69]; exact ad_z rfl rfl r22a (ir_c 1) (by decide) (by decide)
      have r69 : ir y69.toInt 1 2 := ad_r q69 r22a (ir_c 1) (by decide) (by decide)
      refine lv_iinc (v := y69) (lv' := [(3, .int y69), (0, .ref co), (1, .ref ld), (2, .int p1)]) hx hb dX2_take_69 hl (k := 3) rfl e69.symm (by decide) rfl (fun ls hl => ?_)
      refine lv_goto (tgt := 20) hx hb dX2_take_72 (by decide) ?_
      exact ih20 y69 g36 g56 g68 _ _ _ (by omega) (ir_w r69 (by decide) (by decide)) (hP.sub [0, 1, 2, 3, 4, 5, 6, 7, 8, 9, 10, 11] rfl) (hD.sub [0, 1, 2, 3, 4, 5, 6, 7, 8, 9, 10, 11] (by decide) rfl) hS (lv_sub hl [1, 2, 3, 0] rfl)
  exact J20 _ 0 co_rule_c co_may_c co_reach_c _ _ _ (Nat.lt_succ_self _) (by decide) (hP.sub [0, 1, 2, 3, 4, 5, 6, 7, 8, 9, 10, 11] rfl) (hD.sub [0, 1, 2, 3, 4, 5, 6, 7, 8, 9, 10, 11] (by decide) rfl) hS (lv_sub hl [1, 2, 3, 0] rfl)
def v_X2_runWhile : List Cond := .code yX2_runWhile cX2_runWhile 15 (some .boolean) :: (([.fieldLink RX2 7 "CardsAtYule$Course" "rule" "[I", .methodLink RX2 60 yX10_returning, .static yX10_returning, .initialized RX10, .fieldLink RX2 39 "CardsAtYule$Course" "begun" "I", .fieldLink RX2 35 "CardsAtYule$Course" "years" "I", .fieldLink RX2 13 "CardsAtYule$Course" "may" "[J", .methodLink RX2 65 yX2_sidesOf, .static yX2_sidesOf, .initialized RX2, .fieldLink RX2 17 "CardsAtYule$Course" "reach" "[J", .methodLink RX2 69 yX10_firsts, .static yX10_firsts, .methodLink RX2 73 yX10_backs, .static yX10_backs, .methodLink RX2 76 yX10_swapped, .static yX10_swapped, .fieldLink RX2 20 "CardsAtYule$Course" "first" "[J", .methodLink RX2 80 yX2_note, .static yX2_note, .fieldLink RX2 23 "CardsAtYule$Course" "back" "[J", .fieldLink RX2 26 "CardsAtYule$Course" "got" "[J", .initialized RX11, .static yX11_isAt, .methodLink RX2 90 yX10_after, .static yX10_after] : List Cond) ++ (v_X10_returning ++ (v_X2_sidesOf ++ (v_X10_firsts ++ (v_X10_backs ++ (v_X10_swapped ++ (v_X2_note ++ (v_X11_isAt ++ (v_X10_after ++ (wsX20 ++ ([] : List Cond)))))))))))
theorem good_v_X2_runWhile : v_X2_runWhile.all goodWord = true := ga_c (by decide +kernel) (ga_a (by decide +kernel) (ga_a good_v_X10_returning (ga_a good_v_X2_sidesOf (ga_a good_v_X10_firsts (ga_a good_v_X10_backs (ga_a good_v_X10_swapped (ga_a good_v_X2_note (ga_a good_v_X11_isAt (ga_a good_v_X10_after (ga_a good_wsX20 rfl))))))))))
set_option maxHeartbeats 4000000 in
set_option maxRecDepth 100000 in
theorem q_X2_runWhile (l : Launch) (g : va_G) (cI cJ cB cZ cL : ClassId) (kA : Nat → Nat) (vA : Nat → Nat) (p0 : Int64) (p1 : Int64) (p2 : Int64) (co : Nat) (co_years : Int32) (co_begun : Int32) (co_rule : Nat) (co_may : Nat) (co_reach : Nat) (co_first : Nat) (co_back : Nat) (co_got : Nat) (co_first_c : Nat → Int64) (co_back_c : Nat → Int64) (co_got_c : Nat → Int64) (co_rule_c : Nat → Int32) (co_may_c : Nat → Int64) (co_reach_c : Nat → Int64) (sz : Nat)  : Met l yX2_runWhile v_X2_runWhile ({ frames := 1, cells := 0, slots := 0, locals := 24 }) (va_Pc [.ref co, .long p0, .long p1, .long p2] (eRW g (tyT cI cJ cB cZ cL) [(co, .inr (2, [.int co_years, .int co_begun, .ref co_rule, .ref co_may, .ref co_reach, .ref co_first, .ref co_back, .ref co_got])), (co_first, .inl (cJ, 2, .inr (.inl co_first_c))), (co_back, .inl (cJ, 2, .inr (.inl co_back_c))), (co_got, .inl (cJ, 2, .inr (.inl co_got_c))), (co_rule, .inl (cI, 2, .inl co_rule_c)), (co_may, .inl (cJ, 2, .inr (.inl co_may_c))), (co_reach, .inl (cJ, 2, .inr (.inl co_reach_c)))] sz kA vA)) (va_Qi (fun (r : Int32) (u : (Nat → Int64) × (Nat → Int64) × (Nat → Int64)) => match u with | (n_co_first_c, n_co_back_c, n_co_got_c) => (ir r.toInt 0 1)) (fun (u : (Nat → Int64) × (Nat → Int64) × (Nat → Int64)) (t : State) => bRW g (tyT cI cJ cB cZ cL) (va_A [(co, .inr (2, [.int co_years, .int co_begun, .ref co_rule, .ref co_may, .ref co_reach, .ref co_first, .ref co_back, .ref co_got])), (co_first, .inl (cJ, 2, .inr (.inl co_first_c))), (co_back, .inl (cJ, 2, .inr (.inl co_back_c))), (co_got, .inl (cJ, 2, .inr (.inl co_got_c))), (co_rule, .inl (cI, 2, .inl co_rule_c)), (co_may, .inl (cJ, 2, .inr (.inl co_may_c))), (co_reach, .inl (cJ, 2, .inr (.inl co_reach_c)))] sz) (match u with | (n_co_first_c, n_co_back_c, n_co_got_c) => [(co, .inr (2, [.int co_years, .int co_begun, .ref co_rule, .ref co_may, .ref co_reach, .ref co_first, .ref co_back, .ref co_got])), (co_first, .inl (cJ, 2, .inr (.inl n_co_first_c))), (co_back, .inl (cJ, 2, .inr (.inl n_co_back_c))), (co_got, .inl (cJ, 2, .inr (.inl n_co_got_c))), (co_rule, .inl (cI, 2, .inl co_rule_c)), (co_may, .inl (cJ, 2, .inr (.inl co_may_c))), (co_reach, .inl (cJ, 2, .inr (.inl co_reach_c)))]) t) (va_A [(co, .inr (2, [.int co_years, .int co_begun, .ref co_rule, .ref co_may, .ref co_reach, .ref co_first, .ref co_back, .ref co_got])), (co_first, .inl (cJ, 2, .inr (.inl co_first_c))), (co_back, .inl (cJ, 2, .inr (.inl co_back_c))), (co_got, .inl (cJ, 2, .inr (.inl co_got_c))), (co_rule, .inl (cI, 2, .inl co_rule_c)), (co_may, .inl (cJ, 2, .inr (.inl co_may_c))), (co_reach, .inl (cJ, 2, .inr (.inl co_reach_c)))] sz)) 0 0 (va_A [(co, .inr (2, [.int co_years, .int co_begun, .ref co_rule, .ref co_may, .ref co_reach, .ref co_first, .ref co_back, .ref co_got])), (co_first, .inl (cJ, 2, .inr (.inl co_first_c))), (co_back, .inl (cJ, 2, .inr (.inl co_back_c))), (co_got, .inl (cJ, 2, .inr (.inl co_got_c))), (co_rule, .inl (cI, 2, .inl co_rule_c)), (co_may, .inl (cJ, 2, .inr (.inl co_may_c))), (co_reach, .inl (cJ, 2, .inr (.inl co_reach_c)))] sz) := by
  refine Met.ofW (cc := cX2_runWhile) (maxL := 15) (ret := (some .boolean)) (by decide) rfl ?_
  intro p e s m args below meth c s₁ B hml hv
  obtain ⟨rfl, ⟨hsz, hP, hK, hD0⟩, hE⟩ := hv
  have hx := B.exec
  have hb := B.bytes
  have hr := B.returns
  have hts := atoms_spec (ws := v_X2_runWhile) B.pre
  have hown : s.vm.findClass RX2 = some m.cls := findClass_of_methodNamed B.named
  have hlocks := B.notSynchronized
  clear B
  subst hsz
  have iX2 : ∀ w ∈ wsX20, w ∈ v_X2_runWhile := (fun _ h => List.mem_cons_of_mem _ (List.mem_append_right _ (List.mem_append_right _ (List.mem_append_right _ (List.mem_append_right _ (List.mem_append_right _ (List.mem_append_right _ (List.mem_append_right _ (List.mem_append_right _ (List.mem_append_right _ (List.mem_append_left _ h)))))))))))
  have hD := hD0.self (sz := s.heap.size)
  generalize hAe : (va_A [(co, .inr (2, [.int co_years, .int co_begun, .ref co_rule, .ref co_may, .ref co_reach, .ref co_first, .ref co_back, .ref co_got])), (co_first, .inl (cJ, 2, .inr (.inl co_first_c))), (co_back, .inl (cJ, 2, .inr (.inl co_back_c))), (co_got, .inl (cJ, 2, .inr (.inl co_got_c))), (co_rule, .inl (cI, 2, .inl co_rule_c)), (co_may, .inl (cJ, 2, .inr (.inl co_may_c))), (co_reach, .inl (cJ, 2, .inr (.inl co_reach_c)))] s.heap.size) = A at hD hE ⊢
  have hA : ∀ q : Nat, s.heap.size ≤ q → A q := fun q h => by rw [← hAe]; exact Or.inr h
  have hS : va_S A s.heap s.heap [] := va_S.rf
  have hl := lv_entry ([.ref co, .long p0, .long p1, .long p2]) (n := 15) (Nat.le_of_ble_eq_true rfl)
  rw [lg_entry_eq]
  generalize (lg_sl ([.ref co, .long p0, .long p1, .long p2]) ++ List.replicate (15 - (lg_sl ([.ref co, .long p0, .long p1, .long p2])).length) Slot.unset).toArray = ls at hl ⊢
  generalize ([.ref co, .long p0, .long p1, .long p2] : List Value).toArray = av at hts ⊢
  generalize hQ : MQ below _ av s _ _ A = QQ
  have hl : lv_has ls 15 [(0, .ref co), (1, .long p0), (3, .long p1), (5, .long p2)] := hl
  have hP : va_P g vwCl [(co, .inr (2, [.int co_years, .int co_begun, .ref co_rule, .ref co_may, .ref co_reach, .ref co_first, .ref co_back, .ref co_got])), (co_first, .inl (cJ, 2, .inr (.inl co_first_c))), (co_back, .inl (cJ, 2, .inr (.inl co_back_c))), (co_got, .inl (cJ, 2, .inr (.inl co_got_c))), (co_rule, .inl (cI, 2, .inl co_rule_c)), (co_may, .inl (cJ, 2, .inr (.inl co_may_c))), (co_reach, .inl (cJ, 2, .inr (.inl co_reach_c)))] s.heap := hP
  refine lv_iconst (v := 0) hx hb dX2_runWhile_0 (by decide) ?_
  refine lv_istore (lv' := [(7, .int 0), (0, .ref co), (1, .long p0), (3, .long p1), (5, .long p2)]) hx hb dX2_runWhile_1 hl (by decide) rfl (fun ls hl => ?_)
  have J3 : ∀ (n3 : Nat) (j3_l7 : Int32) (j3_co_first_c : Nat → Int64) (j3_co_back_c : Nat → Int64) (j3_co_got_c : Nat → Int64) (H : Heap) (locs : List Loc) (ls : Array Slot), (3 - j3_l7.toInt).toNat < n3 → (ir j3_l7.toInt 0 2) → va_P g vwCl [(co, .inr (2, [.int co_years, .int co_begun, .ref co_rule, .ref co_may, .ref co_reach, .ref co_first, .ref co_back, .ref co_got])), (co_first, .inl (cJ, 2, .inr (.inl j3_co_first_c))), (co_back, .inl (cJ, 2, .inr (.inl j3_co_back_c))), (co_got, .inl (cJ, 2, .inr (.inl j3_co_got_c))), (co_rule, .inl (cI, 2, .inl co_rule_c)), (co_may, .inl (cJ, 2, .inr (.inl co_may_c))), (co_reach, .inl (cJ, 2, .inr (.inl co_reach_c)))] H → va_D A [(co, .inr (2, [.int co_years, .int co_begun, .ref co_rule, .ref co_may, .ref co_reach, .ref co_first, .ref co_back, .ref co_got])), (co_first, .inl (cJ, 2, .inr (.inl j3_co_first_c))), (co_back, .inl (cJ, 2, .inr (.inl j3_co_back_c))), (co_got, .inl (cJ, 2, .inr (.inl j3_co_got_c))), (co_rule, .inl (cI, 2, .inl co_rule_c)), (co_may, .inl (cJ, 2, .inr (.inl co_may_c))), (co_reach, .inl (cJ, 2, .inr (.inl co_reach_c)))] → va_S A s.heap H locs → lv_has ls 15 [(0, .ref co), (1, .long p0), (3, .long p1), (5, .long p2), (7, .int j3_l7)] → W p l e (headSpec v_X2_runWhile ({ frames := 1, cells := 0, slots := 0, locals := 24 })).room s m av below meth c H locs 0 0 QQ (F0 m 3 ls []) := by
    intro n3
    induction n3 with
    | zero => exact fun j3_l7 j3_co_first_c j3_co_back_c j3_co_got_c H locs ls hn => absurd hn (Nat.not_lt_zero _)
    | succ n3 ih3 =>
      intro j3_l7 j3_co_first_c j3_co_back_c j3_co_got_c H locs ls hn3 hj3_l7 hP hD hS hl
      refine lv_iload hx hb dX2_runWhile_3 (lv_at hl 4 rfl) ?_
      refine lv_iconst (v := 2) hx hb dX2_runWhile_5 (by decide) ?_
      refine lv_icmp_ge (tgt := 39) hx hb dX2_runWhile_6 (by decide) (fun c6 => ?_) (fun c6 => ?_)
      rotate_left 1
      · have f6 := (show j3_l7.toInt < 2 from z_nle rfl rfl c6)
        have r6a : ir j3_l7.toInt 0 1 := ir_lta f6 hj3_l7 (ir_c 2) (by decide)
        refine lv_aload_n hx hb dX2_runWhile_9 rfl (lv_at hl 0 rfl) ?_
        refine va_get (D := g) (ci := 2) (v := .ref co_first) (C := RX2) (T := TX2) (N := 8) hx hb hts iX2 hown hK hP 0 rfl rfl 5 (by decide) (hts (.fieldLink RX2 20 "CardsAtYule$Course" "first" "[J") (List.mem_cons_of_mem _ (List.mem_append_left _ (List.mem_of_getElem? (i := 17) rfl)))) (fun _ h9 => h9) rfl dX2_runWhile_10 ?_
        refine lv_iload hx hb dX2_runWhile_13 (lv_at hl 4 rfl) ?_
        refine lv_lconst (v := 0) hx hb dX2_runWhile_15 (by decide) ?_
        refine va_last (D := g) hx hb hK hP hD hS 1 1 rfl rfl (vi_rg rfl r6a (by decide) (by decide)) dX2_runWhile_16 (fun H locs hP hD hS => ?_)
        obtain ⟨g16, e16⟩ : ∃ z, z = vp_updL j3_co_first_c j3_l7.toNatClampNeg (0 : Int64) := ⟨_, rfl⟩
        have hP : va_P g vwCl [(co, .inr (2, [.int co_years, .int co_begun, .ref co_rule, .ref co_may, .ref co_reach, .ref co_first, .ref co_back, .ref co_got])), (co_first, .inl (cJ, 2, .inr (.inl (vp_updL j3_co_first_c j3_l7.toNatClampNeg (0 : Int64))))), (co_back, .inl (cJ, 2, .inr (.inl j3_co_back_c))), (co_got, .inl (cJ, 2, .inr (.inl j3_co_got_c))), (co_rule, .inl (cI, 2, .inl co_rule_c)), (co_may, .inl (cJ, 2, .inr (.inl co_may_c))), (co_reach, .inl (cJ, 2, .inr (.inl co_reach_c)))] H := hP
        have hD : va_D A [(co, .inr (2, [.int co_years, .int co_begun, .ref co_rule, .ref co_may, .ref co_reach, .ref co_first, .ref co_back, .ref co_got])), (co_first, .inl (cJ, 2, .inr (.inl (vp_updL j3_co_first_c j3_l7.toNatClampNeg (0 : Int64))))), (co_back, .inl (cJ, 2, .inr (.inl j3_co_back_c))), (co_got, .inl (cJ, 2, .inr (.inl j3_co_got_c))), (co_rule, .inl (cI, 2, .inl co_rule_c)), (co_may, .inl (cJ, 2, .inr (.inl co_may_c))), (co_reach, .inl (cJ, 2, .inr (.inl co_reach_c)))] := hD
        rw [← e16] at hP hD
        refine lv_aload_n hx hb dX2_runWhile_17 rfl (lv_at hl 0 rfl) ?_
        refine va_get (D := g) (ci := 2) (v := .ref co_back) (C := RX2) (T := TX2) (N := 8) hx hb hts iX2 hown hK hP 0 rfl rfl 6 (by decide) (hts (.fieldLink RX2 23 "CardsAtYule$Course" "back" "[J") (List.mem_cons_of_mem _ (List.mem_append_left _ (List.mem_of_getElem? (i := 20) rfl)))) (fun _ h9 => h9) rfl dX2_runWhile_18 ?_
        refine lv_iload hx hb dX2_runWhile_21 (lv_at hl 4 rfl) ?_
        refine lv_lconst (v := 0) hx hb dX2_runWhile_23 (by decide) ?_
        refine va_last (D := g) hx hb hK hP hD hS 2 1 rfl rfl (vi_rg rfl r6a (by decide) (by decide)) dX2_runWhile_24 (fun H locs hP hD hS => ?_)
        obtain ⟨g24, e24⟩ : ∃ z, z = vp_updL j3_co_back_c j3_l7.toNatClampNeg (0 : Int64) := ⟨_, rfl⟩
        have hP : va_P g vwCl [(co, .inr (2, [.int co_years, .int co_begun, .ref co_rule, .ref co_may, .ref co_reach, .ref co_first, .ref co_back, .ref co_got])), (co_first, .inl (cJ, 2, .inr (.inl g16))), (co_back, .inl (cJ, 2, .inr (.inl (vp_updL j3_co_back_c j3_l7.toNatClampNeg (0 : Int64))))), (co_got, .inl (cJ, 2, .inr (.inl j3_co_got_c))), (co_rule, .inl (cI, 2, .inl co_rule_c)), (co_may, .inl (cJ, 2, .inr (.inl co_may_c))), (co_reach, .inl (cJ, 2, .inr (.inl co_reach_c)))] H := hP
        have hD : va_D A [(co, .inr (2, [.int co_years, .int co_begun, .ref co_rule, .ref co_may, .ref co_reach, .ref co_first, .ref co_back, .ref co_got])), (co_first, .inl (cJ, 2, .inr (.inl g16))), (co_back, .inl (cJ, 2, .inr (.inl (vp_updL j3_co_back_c j3_l7.toNatClampNeg (0 : Int64))))), (co_got, .inl (cJ, 2, .inr (.inl j3_co_got_c))), (co_rule, .inl (cI, 2, .inl co_rule_c)), (co_may, .inl (cJ, 2, .inr (.inl co_may_c))), (co_reach, .inl (cJ, 2, .inr (.inl co_reach_c)))] := hD
        rw [← e24] at hP hD
        refine lv_aload_n hx hb dX2_runWhile_25 rfl (lv_at hl 0 rfl) ?_
        refine va_get (D := g) (ci := 2) (v := .ref co_got) (C := RX2) (T := TX2) (N := 8) hx hb hts iX2 hown hK hP 0 rfl rfl 7 (by decide) (hts (.fieldLink RX2 26 "CardsAtYule$Course" "got" "[J") (List.mem_cons_of_mem _ (List.mem_append_left _ (List.mem_of_getElem? (i := 21) rfl)))) (fun _ h9 => h9) rfl dX2_runWhile_26 ?_
        refine lv_iload hx hb dX2_runWhile_29 (lv_at hl 4 rfl) ?_
        refine lv_lconst (v := 0) hx hb dX2_runWhile_31 (by decide) ?_
        refine va_last (D := g) hx hb hK hP hD hS 3 1 rfl rfl (vi_rg rfl r6a (by decide) (by decide)) dX2_runWhile_32 (fun H locs hP hD hS => ?_)
        obtain ⟨g32, e32⟩ : ∃ z, z = vp_updL j3_co_got_c j3_l7.toNatClampNeg (0 : Int64) := ⟨_, rfl⟩
        have hP : va_P g vwCl [(co, .inr (2, [.int co_years, .int co_begun, .ref co_rule, .ref co_may, .ref co_reach, .ref co_first, .ref co_back, .ref co_got])), (co_first, .inl (cJ, 2, .inr (.inl g16))), (co_back, .inl (cJ, 2, .inr (.inl g24))), (co_got, .inl (cJ, 2, .inr (.inl (vp_updL j3_co_got_c j3_l7.toNatClampNeg (0 : Int64))))), (co_rule, .inl (cI, 2, .inl co_rule_c)), (co_may, .inl (cJ, 2, .inr (.inl co_may_c))), (co_reach, .inl (cJ, 2, .inr (.inl co_reach_c)))] H := hP
        have hD : va_D A [(co, .inr (2, [.int co_years, .int co_begun, .ref co_rule, .ref co_may, .ref co_reach, .ref co_first, .ref co_back, .ref co_got])), (co_first, .inl (cJ, 2, .inr (.inl g16))), (co_back, .inl (cJ, 2, .inr (.inl g24))), (co_got, .inl (cJ, 2, .inr (.inl (vp_updL j3_co_got_c j3_l7.toNatClampNeg (0 : Int64))))), (co_rule, .inl (cI, 2, .inl co_rule_c)), (co_may, .inl (cJ, 2, .inr (.inl co_may_c))), (co_reach, .inl (cJ, 2, .inr (.inl co_reach_c)))] := hD
        rw [← e32] at hP hD
        obtain ⟨y33, e33⟩ : ∃ y : Int32, y = j3_l7 + 1 := ⟨_, rfl⟩
        have q33 : y33.toInt = j3_l7.toInt + 1 := by rw [e33]; exact ad_z rfl rfl r6a (ir_c 1) (by decide) (by decide)
        have r33 : ir y33.toInt 1 2 := ad_r q33 r6a (ir_c 1) (by decide) (by decide)
        refine lv_iinc (v := y33) (lv' := [(7, .int y33), (0, .ref co), (1, .long p0), (3, .long p1), (5, .long p2)]) hx hb dX2_runWhile_33 hl (k := 4) rfl e33.symm (by decide) rfl (fun ls hl => ?_)
        refine lv_goto (tgt := 3) hx hb dX2_runWhile_36 (by decide) ?_
        exact ih3 y33 g16 g24 g32 _ _ _ (by omega) (ir_w r33 (by decide) (by decide)) (hP.sub [0, 1, 2, 3, 4, 5, 6] rfl) (hD.sub [0, 1, 2, 3, 4, 5, 6] (by decide) rfl) hS (lv_sub hl [1, 2, 3, 4, 0] rfl)
      have f6 := (show 2 ≤ j3_l7.toInt from z_le rfl rfl c6)
      have r6a : ir j3_l7.toInt 2 2 := ir_leb f6 (ir_c 2) hj3_l7 (by decide)
      refine lv_aload_n hx hb dX2_runWhile_39 rfl (lv_at hl 0 rfl) ?_
      refine va_get (D := g) (ci := 2) (v := .ref co_rule) (C := RX2) (T := TX2) (N := 8) hx hb hts iX2 hown hK hP 0 rfl rfl 2 (by decide) (hts (.fieldLink RX2 7 "CardsAtYule$Course" "rule" "[I") (List.mem_cons_of_mem _ (List.mem_append_left _ (List.mem_of_getElem? (i := 0) rfl)))) (fun _ h9 => h9) rfl dX2_runWhile_40 ?_
      refine lv_iconst (v := 0) hx hb dX2_runWhile_43 (by decide) ?_
      refine va_iald (D := g) hx hb hK hP 4 0 rfl rfl (vc_in (by decide)) dX2_runWhile_44 ?_
      refine lv_topi (nm_r (e' := (co_rule_c 0)) rfl ?_)
      refine lv_aload_n hx hb dX2_runWhile_45 rfl (lv_at hl 0 rfl) ?_
      refine va_get (D := g) (ci := 2) (v := .ref co_rule) (C := RX2) (T := TX2) (N := 8) hx hb hts iX2 hown hK hP 0 rfl rfl 2 (by decide) (hts (.fieldLink RX2 7 "CardsAtYule$Course" "rule" "[I") (List.mem_cons_of_mem _ (List.mem_append_left _ (List.mem_of_getElem? (i := 0) rfl)))) (fun _ h9 => h9) rfl dX2_runWhile_46 ?_
      refine lv_iconst (v := 1) hx hb dX2_runWhile_49 (by decide) ?_
      refine va_iald (D := g) hx hb hK hP 4 0 rfl rfl (vc_in (by decide)) dX2_runWhile_50 ?_
      refine lv_topi (nm_r (e' := (co_rule_c 1)) rfl ?_)
      refine ro_i (va_runS (As := [.int (co_rule_c 0), .int (co_rule_c 1)]) (rest := []) ⟨hx, hb, hml, hown, hts⟩ (q_X10_returning l g cI cJ cB cZ cL (co_rule_c 0) (co_rule_c 1) H.size ) (va_cwS 2 hts (goodIn_app (g_3 (List.mem_cons_of_mem _ (List.mem_append_left _ (List.mem_of_getElem? (i := 1) rfl))) (List.mem_cons_of_mem _ (List.mem_append_left _ (List.mem_of_getElem? (i := 2) rfl))) (List.mem_cons_of_mem _ (List.mem_append_left _ (List.mem_of_getElem? (i := 3) rfl))) (by decide +kernel)) (goodIn_sub (fun _ h => List.mem_cons_of_mem _ (List.mem_append_right _ (List.mem_append_left _ h))) good_v_X10_returning)) rfl rfl rfl (by decide +kernel) ⟨Nat.le_of_ble_eq_true rfl, Nat.le_of_ble_eq_true rfl⟩) (ps_RO (wc := []) hK hP [] rfl) rfl rfl hl.1 rfl (lv_room (Nat.le_of_ble_eq_true rfl)) dX2_runWhile_51 ⟨Nat.le_of_ble_eq_true rfl, Nat.le_of_ble_eq_true rfl⟩) hS hA hP (fun r51 u51 H locs hw51 hP hS => ?_)
      have hw51_0 := hw51
      refine lv_istore (lv' := [(7, .int r51), (0, .ref co), (1, .long p0), (3, .long p1), (5, .long p2)]) hx hb dX2_runWhile_54 hl (by decide) rfl (fun ls hl => ?_)
      refine lv_aload_n hx hb dX2_runWhile_56 rfl (lv_at hl 1 rfl) ?_
      refine va_get (D := g) (ci := 2) (v := .int co_begun) (C := RX2) (T := TX2) (N := 8) hx hb hts iX2 hown hK hP 0 rfl rfl 1 (by decide) (hts (.fieldLink RX2 39 "CardsAtYule$Course" "begun" "I") (List.mem_cons_of_mem _ (List.mem_append_left _ (List.mem_of_getElem? (i := 4) rfl)))) (fun _ h9 => h9) rfl dX2_runWhile_57 ?_
      refine lv_istore (lv' := [(8, .int co_begun), (7, .int r51), (0, .ref co), (1, .long p0), (3, .long p1), (5, .long p2)]) hx hb dX2_runWhile_60 hl (by decide) rfl (fun ls hl => ?_)
      refine lv_iconst (v := 0) hx hb dX2_runWhile_62 (by decide) ?_
      refine lv_istore (lv' := [(9, .int 0), (8, .int co_begun), (7, .int r51), (0, .ref co), (1, .long p0), (3, .long p1), (5, .long p2)]) hx hb dX2_runWhile_63 hl (by decide) rfl (fun ls hl => ?_)
      have J65 : ∀ (n65 : Nat) (j65_l8 : Int32) (j65_l9 : Int32) (j65_co_first_c : Nat → Int64) (j65_co_back_c : Nat → Int64) (j65_co_got_c : Nat → Int64) (H : Heap) (locs : List Loc) (ls : Array Slot), (2147483648 - j65_l9.toInt).toNat < n65 → (ir j65_l9.toInt 0 2147483647) → va_P g vwCl [(co, .inr (2, [.int co_years, .int co_begun, .ref co_rule, .ref co_may, .ref co_reach, .ref co_first, .ref co_back, .ref co_got])), (co_first, .inl (cJ, 2, .inr (.inl j65_co_first_c))), (co_back, .inl (cJ, 2, .inr (.inl j65_co_back_c))), (co_got, .inl (cJ, 2, .inr (.inl j65_co_got_c))), (co_rule, .inl (cI, 2, .inl co_rule_c)), (co_may, .inl (cJ, 2, .inr (.inl co_may_c))), (co_reach, .inl (cJ, 2, .inr (.inl co_reach_c)))] H → va_D A [(co, .inr (2, [.int co_years, .int co_begun, .ref co_rule, .ref co_may, .ref co_reach, .ref co_first, .ref co_back, .ref co_got])), (co_first, .inl (cJ, 2, .inr (.inl j65_co_first_c))), (co_back, .inl (cJ, 2, .inr (.inl j65_co_back_c))), (co_got, .inl (cJ, 2, .inr (.inl j65_co_got_c))), (co_rule, .inl (cI, 2, .inl co_rule_c)), (co_may, .inl (cJ, 2, .inr (.inl co_may_c))), (co_reach, .inl (cJ, 2, .inr (.inl co_reach_c)))] → va_S A s.heap H locs → lv_has ls 15 [(0, .ref co), (1, .long p0), (3, .long p1), (5, .long p2), (7, .int r51), (8, .int j65_l8), (9, .int j65_l9)] → W p l e (headSpec v_X2_runWhile ({ frames := 1, cells := 0, slots := 0, locals := 24 })).room s m av below meth c H locs 0 0 QQ (F0 m 65 ls []) := by
        intro n65
        induction n65 with
        | zero => exact fun j65_l8 j65_l9 j65_co_first_c j65_co_back_c j65_co_got_c H locs ls hn => absurd hn (Nat.not_lt_zero _)
        | succ n65 ih65 =>
          intro j65_l8 j65_l9 j65_co_first_c j65_co_back_c j65_co_got_c H locs ls hn65 hj65_l9 hP hD hS hl
          refine lv_iload hx hb dX2_runWhile_65 (lv_at hl 6 rfl) ?_
          refine lv_aload_n hx hb dX2_runWhile_67 rfl (lv_at hl 0 rfl) ?_
          refine va_get (D := g) (ci := 2) (v := .int co_years) (C := RX2) (T := TX2) (N := 8) hx hb hts iX2 hown hK hP 0 rfl rfl 0 (by decide) (hts (.fieldLink RX2 35 "CardsAtYule$Course" "years" "I") (List.mem_cons_of_mem _ (List.mem_append_left _ (List.mem_of_getElem? (i := 5) rfl)))) (fun _ h9 => h9) rfl dX2_runWhile_68 ?_
          refine lv_icmp_ge (tgt := 233) hx hb dX2_runWhile_71 (by decide) (fun c71 => ?_) (fun c71 => ?_)
          · have f71 := (show co_years.toInt ≤ j65_l9.toInt from z_le rfl rfl c71)
            refine lv_iconst (v := 1) hx hb dX2_runWhile_233 (by decide) ?_
            subst hQ
            have hP9 := hP.sub (ws' := [(co, .inr (2, [.int co_years, .int co_begun, .ref co_rule, .ref co_may, .ref co_reach, .ref co_first, .ref co_back, .ref co_got])), (co_first, .inl (cJ, 2, .inr (.inl j65_co_first_c))), (co_back, .inl (cJ, 2, .inr (.inl j65_co_back_c))), (co_got, .inl (cJ, 2, .inr (.inl j65_co_got_c))), (co_rule, .inl (cI, 2, .inl co_rule_c)), (co_may, .inl (cJ, 2, .inr (.inl co_may_c))), (co_reach, .inl (cJ, 2, .inr (.inl co_reach_c)))]) [0, 1, 2, 3, 4, 5, 6] rfl
            have hD9 := hD.sub (ws' := [(co, .inr (2, [.int co_years, .int co_begun, .ref co_rule, .ref co_may, .ref co_reach, .ref co_first, .ref co_back, .ref co_got])), (co_first, .inl (cJ, 2, .inr (.inl j65_co_first_c))), (co_back, .inl (cJ, 2, .inr (.inl j65_co_back_c))), (co_got, .inl (cJ, 2, .inr (.inl j65_co_got_c))), (co_rule, .inl (cI, 2, .inl co_rule_c)), (co_may, .inl (cJ, 2, .inr (.inl co_may_c))), (co_reach, .inl (cJ, 2, .inr (.inl co_reach_c)))]) [0, 1, 2, 3, 4, 5, 6] (by decide) rfl
            exact W.zret (v := 1) hx hb hr rfl (fun t ht hW => ⟨⟨1, (j65_co_first_c, j65_co_back_c, j65_co_got_c), rfl, (show ir (1 : Int32).toInt 0 1 by decide), ⟨by rw [ht]; exact hP9, va_K.moved hW.alike hK, hD9⟩⟩, hS.F ht⟩) hS.2.2 dX2_runWhile_234
          have f71 := (show j65_l9.toInt < co_years.toInt from z_nle rfl rfl c71)
          have r71a : ir j65_l9.toInt 0 2147483646 := ir_lta f71 hj65_l9 (rg_all co_years) (by decide)
          have r71b : ir co_years.toInt 1 2147483647 := ir_ltb f71 hj65_l9 (rg_all co_years) (by decide)
          refine lv_aload_n hx hb dX2_runWhile_74 rfl (lv_at hl 0 rfl) ?_
          refine va_get (D := g) (ci := 2) (v := .ref co_may) (C := RX2) (T := TX2) (N := 8) hx hb hts iX2 hown hK hP 0 rfl rfl 3 (by decide) (hts (.fieldLink RX2 13 "CardsAtYule$Course" "may" "[J") (List.mem_cons_of_mem _ (List.mem_append_left _ (List.mem_of_getElem? (i := 6) rfl)))) (fun _ h9 => h9) rfl dX2_runWhile_75 ?_
          refine lv_iconst (v := 0) hx hb dX2_runWhile_78 (by decide) ?_
          refine va_lald (D := g) hx hb hK hP 5 1 rfl rfl (vc_in (by decide)) dX2_runWhile_79 ?_
          refine lv_topl (nm_r (e' := (co_may_c 0)) rfl ?_)
          refine lv_aload_n hx hb dX2_runWhile_80 rfl (lv_at hl 0 rfl) ?_
          refine va_get (D := g) (ci := 2) (v := .ref co_may) (C := RX2) (T := TX2) (N := 8) hx hb hts iX2 hown hK hP 0 rfl rfl 3 (by decide) (hts (.fieldLink RX2 13 "CardsAtYule$Course" "may" "[J") (List.mem_cons_of_mem _ (List.mem_append_left _ (List.mem_of_getElem? (i := 6) rfl)))) (fun _ h9 => h9) rfl dX2_runWhile_81 ?_
          refine lv_iconst (v := 1) hx hb dX2_runWhile_84 (by decide) ?_
          refine va_lald (D := g) hx hb hK hP 5 1 rfl rfl (vc_in (by decide)) dX2_runWhile_85 ?_
          refine lv_topl (nm_r (e' := (co_may_c 1)) rfl ?_)
          refine lv_iload hx hb dX2_runWhile_86 (lv_at hl 6 rfl) ?_
          refine ro_i (va_runS (As := [.long (co_may_c 0), .long (co_may_c 1), .int j65_l9]) (rest := []) ⟨hx, hb, hml, hown, hts⟩ (q_X2_sidesOf l g cI cJ cB cZ cL (co_may_c 0) (co_may_c 1) j65_l9 H.size ) (va_cwS 3 hts (goodIn_app (g_3 (List.mem_cons_of_mem _ (List.mem_append_left _ (List.mem_of_getElem? (i := 7) rfl))) (List.mem_cons_of_mem _ (List.mem_append_left _ (List.mem_of_getElem? (i := 8) rfl))) (List.mem_cons_of_mem _ (List.mem_append_left _ (List.mem_of_getElem? (i := 9) rfl))) (by decide +kernel)) (goodIn_sub (fun _ h => List.mem_cons_of_mem _ (List.mem_append_right _ (List.mem_append_right _ (List.mem_append_left _ h)))) good_v_X2_sidesOf)) rfl rfl rfl (by decide +kernel) ⟨Nat.le_of_ble_eq_true rfl, Nat.le_of_ble_eq_true rfl⟩) (ps_RO (wc := []) hK hP [] rfl) rfl rfl hl.1 rfl (lv_room (Nat.le_of_ble_eq_true rfl)) dX2_runWhile_88 ⟨Nat.le_of_ble_eq_true rfl, Nat.le_of_ble_eq_true rfl⟩) hS hA hP (fun r88 u88 H locs hw88 hP hS => ?_)
          have hw88_0 := hw88
          refine lv_istore (lv' := [(10, .int r88), (0, .ref co), (1, .long p0), (3, .long p1), (5, .long p2), (7, .int r51), (8, .int j65_l8), (9, .int j65_l9)]) hx hb dX2_runWhile_91 hl (by decide) rfl (fun ls hl => ?_)
          refine lv_aload_n hx hb dX2_runWhile_93 rfl (lv_at hl 1 rfl) ?_
          refine va_get (D := g) (ci := 2) (v := .ref co_reach) (C := RX2) (T := TX2) (N := 8) hx hb hts iX2 hown hK hP 0 rfl rfl 4 (by decide) (hts (.fieldLink RX2 17 "CardsAtYule$Course" "reach" "[J") (List.mem_cons_of_mem _ (List.mem_append_left _ (List.mem_of_getElem? (i := 10) rfl)))) (fun _ h9 => h9) rfl dX2_runWhile_94 ?_
          refine lv_iconst (v := 0) hx hb dX2_runWhile_97 (by decide) ?_
          refine va_lald (D := g) hx hb hK hP 6 1 rfl rfl (vc_in (by decide)) dX2_runWhile_98 ?_
          refine lv_topl (nm_r (e' := (co_reach_c 0)) rfl ?_)
          refine lv_aload_n hx hb dX2_runWhile_99 rfl (lv_at hl 1 rfl) ?_
          refine va_get (D := g) (ci := 2) (v := .ref co_reach) (C := RX2) (T := TX2) (N := 8) hx hb hts iX2 hown hK hP 0 rfl rfl 4 (by decide) (hts (.fieldLink RX2 17 "CardsAtYule$Course" "reach" "[J") (List.mem_cons_of_mem _ (List.mem_append_left _ (List.mem_of_getElem? (i := 10) rfl)))) (fun _ h9 => h9) rfl dX2_runWhile_100 ?_
          refine lv_iconst (v := 1) hx hb dX2_runWhile_103 (by decide) ?_
          refine va_lald (D := g) hx hb hK hP 6 1 rfl rfl (vc_in (by decide)) dX2_runWhile_104 ?_
          refine lv_topl (nm_r (e' := (co_reach_c 1)) rfl ?_)
          refine lv_iload hx hb dX2_runWhile_105 (lv_at hl 7 rfl) ?_
          refine ro_i (va_runS (As := [.long (co_reach_c 0), .long (co_reach_c 1), .int j65_l9]) (rest := []) ⟨hx, hb, hml, hown, hts⟩ (q_X2_sidesOf l g cI cJ cB cZ cL (co_reach_c 0) (co_reach_c 1) j65_l9 H.size ) (va_cwS 3 hts (goodIn_app (g_3 (List.mem_cons_of_mem _ (List.mem_append_left _ (List.mem_of_getElem? (i := 7) rfl))) (List.mem_cons_of_mem _ (List.mem_append_left _ (List.mem_of_getElem? (i := 8) rfl))) (List.mem_cons_of_mem _ (List.mem_append_left _ (List.mem_of_getElem? (i := 9) rfl))) (by decide +kernel)) (goodIn_sub (fun _ h => List.mem_cons_of_mem _ (List.mem_append_right _ (List.mem_append_right _ (List.mem_append_left _ h)))) good_v_X2_sidesOf)) rfl rfl rfl (by decide +kernel) ⟨Nat.le_of_ble_eq_true rfl, Nat.le_of_ble_eq_true rfl⟩) (ps_RO (wc := []) hK hP [] rfl) rfl rfl hl.1 rfl (lv_room (Nat.le_of_ble_eq_true rfl)) dX2_runWhile_107 ⟨Nat.le_of_ble_eq_true rfl, Nat.le_of_ble_eq_true rfl⟩) hS hA hP (fun r107 u107 H locs hw107 hP hS => ?_)
          have hw107_0 := hw107
          refine lv_istore (lv' := [(11, .int r107), (10, .int r88), (0, .ref co), (1, .long p0), (3, .long p1), (5, .long p2), (7, .int r51), (8, .int j65_l8), (9, .int j65_l9)]) hx hb dX2_runWhile_110 hl (by decide) rfl (fun ls hl => ?_)
          refine lv_aload_n hx hb dX2_runWhile_112 rfl (lv_at hl 2 rfl) ?_
          refine va_get (D := g) (ci := 2) (v := .ref co_rule) (C := RX2) (T := TX2) (N := 8) hx hb hts iX2 hown hK hP 0 rfl rfl 2 (by decide) (hts (.fieldLink RX2 7 "CardsAtYule$Course" "rule" "[I") (List.mem_cons_of_mem _ (List.mem_append_left _ (List.mem_of_getElem? (i := 0) rfl)))) (fun _ h9 => h9) rfl dX2_runWhile_113 ?_
          refine lv_iconst (v := 0) hx hb dX2_runWhile_116 (by decide) ?_
          refine va_iald (D := g) hx hb hK hP 4 0 rfl rfl (vc_in (by decide)) dX2_runWhile_117 ?_
          refine lv_topi (nm_r (e' := (co_rule_c 0)) rfl ?_)
          refine lv_aload_n hx hb dX2_runWhile_118 rfl (lv_at hl 2 rfl) ?_
          refine va_get (D := g) (ci := 2) (v := .ref co_rule) (C := RX2) (T := TX2) (N := 8) hx hb hts iX2 hown hK hP 0 rfl rfl 2 (by decide) (hts (.fieldLink RX2 7 "CardsAtYule$Course" "rule" "[I") (List.mem_cons_of_mem _ (List.mem_append_left _ (List.mem_of_getElem? (i := 0) rfl)))) (fun _ h9 => h9) rfl dX2_runWhile_119 ?_
          refine lv_iconst (v := 1) hx hb dX2_runWhile_122 (by decide) ?_
          refine va_iald (D := g) hx hb hK hP 4 0 rfl rfl (vc_in (by decide)) dX2_runWhile_123 ?_
          refine lv_topi (nm_r (e' := (co_rule_c 1)) rfl ?_)
          refine lv_iload hx hb dX2_runWhile_124 (lv_at hl 7 rfl) ?_
          refine ro_i (va_runS (As := [.int (co_rule_c 0), .int (co_rule_c 1), .int j65_l8]) (rest := []) ⟨hx, hb, hml, hown, hts⟩ (q_X10_firsts l g cI cJ cB cZ cL (co_rule_c 0) (co_rule_c 1) j65_l8 H.size ) (va_cwS 3 hts (goodIn_app (g_3 (List.mem_cons_of_mem _ (List.mem_append_left _ (List.mem_of_getElem? (i := 11) rfl))) (List.mem_cons_of_mem _ (List.mem_append_left _ (List.mem_of_getElem? (i := 12) rfl))) (List.mem_cons_of_mem _ (List.mem_append_left _ (List.mem_of_getElem? (i := 3) rfl))) (by decide +kernel)) (goodIn_sub (fun _ h => List.mem_cons_of_mem _ (List.mem_append_right _ (List.mem_append_right _ (List.mem_append_right _ (List.mem_append_left _ h))))) good_v_X10_firsts)) rfl rfl rfl (by decide +kernel) ⟨Nat.le_of_ble_eq_true rfl, Nat.le_of_ble_eq_true rfl⟩) (ps_RO (wc := []) hK hP [] rfl) rfl rfl hl.1 rfl (lv_room (Nat.le_of_ble_eq_true rfl)) dX2_runWhile_126 ⟨Nat.le_of_ble_eq_true rfl, Nat.le_of_ble_eq_true rfl⟩) hS hA hP (fun r126 u126 H locs hw126 hP hS => ?_)
          have hw126_0 := hw126
          refine lv_iload hx hb dX2_runWhile_129 (lv_at hl 1 rfl) ?_
          refine lv_iand hx hb dX2_runWhile_131 ?_
          refine lv_topi (fun y131 e131 => ?_)
          have r131 : ir y131.toInt 0 3 := by rw [e131]; exact an_y rfl hw88_0 (by decide)
          refine lv_istore (lv' := [(12, .int y131), (11, .int r107), (10, .int r88), (0, .ref co), (1, .long p0), (3, .long p1), (5, .long p2), (7, .int r51), (8, .int j65_l8), (9, .int j65_l9)]) hx hb dX2_runWhile_132 hl (by decide) rfl (fun ls hl => ?_)
          refine lv_iload hx hb dX2_runWhile_134 (lv_at hl 0 rfl) ?_
          refine lv_iload hx hb dX2_runWhile_136 (lv_at hl 7 rfl) ?_
          refine lv_iload hx hb dX2_runWhile_138 (lv_at hl 2 rfl) ?_
          refine lv_iand hx hb dX2_runWhile_140 ?_
          refine lv_topi (fun y140 e140 => ?_)
          have r140 : ir y140.toInt 0 3 := by rw [e140]; exact an_y rfl hw88_0 (by decide)
          refine lv_iload hx hb dX2_runWhile_141 (lv_at hl 1 rfl) ?_
          refine ro_i (va_runS (As := [.int y131, .int y140, .int r107]) (rest := []) ⟨hx, hb, hml, hown, hts⟩ (q_X10_backs l g cI cJ cB cZ cL y131 y140 r107 H.size r140) (va_cwS 3 hts (goodIn_app (g_3 (List.mem_cons_of_mem _ (List.mem_append_left _ (List.mem_of_getElem? (i := 13) rfl))) (List.mem_cons_of_mem _ (List.mem_append_left _ (List.mem_of_getElem? (i := 14) rfl))) (List.mem_cons_of_mem _ (List.mem_append_left _ (List.mem_of_getElem? (i := 3) rfl))) (by decide +kernel)) (goodIn_sub (fun _ h => List.mem_cons_of_mem _ (List.mem_append_right _ (List.mem_append_right _ (List.mem_append_right _ (List.mem_append_right _ (List.mem_append_left _ h)))))) good_v_X10_backs)) rfl rfl rfl (by decide +kernel) ⟨Nat.le_of_ble_eq_true rfl, Nat.le_of_ble_eq_true rfl⟩) (ps_RO (wc := []) hK hP [] rfl) rfl rfl hl.1 rfl (lv_room (Nat.le_of_ble_eq_true rfl)) dX2_runWhile_143 ⟨Nat.le_of_ble_eq_true rfl, Nat.le_of_ble_eq_true rfl⟩) hS hA hP (fun r143 u143 H locs hw143 hP hS => ?_)
          have hw143_0 := hw143
          refine lv_istore (lv' := [(13, .int r143), (12, .int y131), (11, .int r107), (10, .int r88), (0, .ref co), (1, .long p0), (3, .long p1), (5, .long p2), (7, .int r51), (8, .int j65_l8), (9, .int j65_l9)]) hx hb dX2_runWhile_146 hl (by decide) rfl (fun ls hl => ?_)
          refine lv_iload hx hb dX2_runWhile_148 (lv_at hl 1 rfl) ?_
          refine lv_iload hx hb dX2_runWhile_150 (lv_at hl 0 rfl) ?_
          refine lv_ior hx hb dX2_runWhile_152 ?_
          refine lv_topi (fun y152 e152 => ?_)
          have r152 : ir y152.toInt 0 3 := by rw [e152]; exact or_r 2 rfl rfl r131 hw143_0 (by decide) (by decide) (by decide) (by decide) (by decide)
          refine lv_iload hx hb dX2_runWhile_153 (lv_at hl 2 rfl) ?_
          refine lv_iand hx hb dX2_runWhile_155 ?_
          refine lv_topi (fun y155 e155 => ?_)
          have r155 : ir y155.toInt 0 3 := by rw [e155]; exact an_y rfl hw107_0 (by decide)
          refine ro_i (va_runS (As := [.int y155]) (rest := []) ⟨hx, hb, hml, hown, hts⟩ (q_X10_swapped l g cI cJ cB cZ cL y155 H.size ) (va_cwS 1 hts (goodIn_app (g_3 (List.mem_cons_of_mem _ (List.mem_append_left _ (List.mem_of_getElem? (i := 15) rfl))) (List.mem_cons_of_mem _ (List.mem_append_left _ (List.mem_of_getElem? (i := 16) rfl))) (List.mem_cons_of_mem _ (List.mem_append_left _ (List.mem_of_getElem? (i := 3) rfl))) (by decide +kernel)) (goodIn_sub (fun _ h => List.mem_cons_of_mem _ (List.mem_append_right _ (List.mem_append_right _ (List.mem_append_right _ (List.mem_append_right _ (List.mem_append_right _ (List.mem_append_left _ h))))))) good_v_X10_swapped)) rfl rfl rfl (by decide +kernel) ⟨Nat.le_of_ble_eq_true rfl, Nat.le_of_ble_eq_true rfl⟩) (ps_RO (wc := []) hK hP [] rfl) rfl rfl hl.1 rfl (lv_room (Nat.le_of_ble_eq_true rfl)) dX2_runWhile_156 ⟨Nat.le_of_ble_eq_true rfl, Nat.le_of_ble_eq_true rfl⟩) hS hA hP (fun r156 u156 H locs hw156 hP hS => ?_)
          have hw156_0 := hw156
          refine lv_istore (lv' := [(14, .int r156), (13, .int r143), (12, .int y131), (11, .int r107), (10, .int r88), (0, .ref co), (1, .long p0), (3, .long p1), (5, .long p2), (7, .int r51), (8, .int j65_l8), (9, .int j65_l9)]) hx hb dX2_runWhile_159 hl (by decide) rfl (fun ls hl => ?_)
          refine lv_aload_n hx hb dX2_runWhile_161 rfl (lv_at hl 5 rfl) ?_
          refine va_get (D := g) (ci := 2) (v := .ref co_first) (C := RX2) (T := TX2) (N := 8) hx hb hts iX2 hown hK hP 0 rfl rfl 5 (by decide) (hts (.fieldLink RX2 20 "CardsAtYule$Course" "first" "[J") (List.mem_cons_of_mem _ (List.mem_append_left _ (List.mem_of_getElem? (i := 17) rfl)))) (fun _ h9 => h9) rfl dX2_runWhile_162 ?_
          refine lv_iload hx hb dX2_runWhile_165 (lv_at hl 11 rfl) ?_
          refine lv_iload hx hb dX2_runWhile_167 (lv_at hl 2 rfl) ?_
          refine rw_v (wr := [(co, .inr (2, [.int co_years, .int co_begun, .ref co_rule, .ref co_may, .ref co_reach, .ref co_first, .ref co_back, .ref co_got])), (co_back, .inl (cJ, 2, .inr (.inl j65_co_back_c))), (co_got, .inl (cJ, 2, .inr (.inl j65_co_got_c))), (co_rule, .inl (cI, 2, .inl co_rule_c)), (co_may, .inl (cJ, 2, .inr (.inl co_may_c))), (co_reach, .inl (cJ, 2, .inr (.inl co_reach_c)))]) (va_runS (As := [.ref co_first, .int j65_l9, .int y131]) (rest := []) ⟨hx, hb, hml, hown, hts⟩ (q_X2_note l g cI cJ cB cZ cL j65_l9 y131 co_first j65_co_first_c H.size ) (va_cwS 3 hts (goodIn_app (g_3 (List.mem_cons_of_mem _ (List.mem_append_left _ (List.mem_of_getElem? (i := 18) rfl))) (List.mem_cons_of_mem _ (List.mem_append_left _ (List.mem_of_getElem? (i := 19) rfl))) (List.mem_cons_of_mem _ (List.mem_append_left _ (List.mem_of_getElem? (i := 9) rfl))) (by decide +kernel)) (goodIn_sub (fun _ h => List.mem_cons_of_mem _ (List.mem_append_right _ (List.mem_append_right _ (List.mem_append_right _ (List.mem_append_right _ (List.mem_append_right _ (List.mem_append_right _ (List.mem_append_left _ h)))))))) good_v_X2_note)) rfl rfl rfl (by decide +kernel) ⟨Nat.le_of_ble_eq_true rfl, Nat.le_of_ble_eq_true rfl⟩) (ps_RW (wc := [(co_first, .inl (cJ, 2, .inr (.inl j65_co_first_c)))]) hK hP hD [1] (by decide) rfl) rfl rfl hl.1 rfl (lv_room (Nat.le_of_ble_eq_true rfl)) dX2_runWhile_169 ⟨Nat.le_of_ble_eq_true rfl, Nat.le_of_ble_eq_true rfl⟩) hS hA hP hD [1] [0, 2, 3, 4, 5, 6] rfl rfl (by decide) (by decide) (fun u169 H locs hw169 hP hD hS => ?_)
          generalize u169 = n_r0_c_169 at hw169 hP hD
          have hP : va_P g vwCl [(co, .inr (2, [.int co_years, .int co_begun, .ref co_rule, .ref co_may, .ref co_reach, .ref co_first, .ref co_back, .ref co_got])), (co_back, .inl (cJ, 2, .inr (.inl j65_co_back_c))), (co_got, .inl (cJ, 2, .inr (.inl j65_co_got_c))), (co_rule, .inl (cI, 2, .inl co_rule_c)), (co_may, .inl (cJ, 2, .inr (.inl co_may_c))), (co_reach, .inl (cJ, 2, .inr (.inl co_reach_c))), (co_first, .inl (cJ, 2, .inr (.inl n_r0_c_169)))] H := hP
          have hD : va_D A [(co, .inr (2, [.int co_years, .int co_begun, .ref co_rule, .ref co_may, .ref co_reach, .ref co_first, .ref co_back, .ref co_got])), (co_back, .inl (cJ, 2, .inr (.inl j65_co_back_c))), (co_got, .inl (cJ, 2, .inr (.inl j65_co_got_c))), (co_rule, .inl (cI, 2, .inl co_rule_c)), (co_may, .inl (cJ, 2, .inr (.inl co_may_c))), (co_reach, .inl (cJ, 2, .inr (.inl co_reach_c))), (co_first, .inl (cJ, 2, .inr (.inl n_r0_c_169)))] := hD
          refine lv_aload_n hx hb dX2_runWhile_172 rfl (lv_at hl 5 rfl) ?_
          refine va_get (D := g) (ci := 2) (v := .ref co_back) (C := RX2) (T := TX2) (N := 8) hx hb hts iX2 hown hK hP 0 rfl rfl 6 (by decide) (hts (.fieldLink RX2 23 "CardsAtYule$Course" "back" "[J") (List.mem_cons_of_mem _ (List.mem_append_left _ (List.mem_of_getElem? (i := 20) rfl)))) (fun _ h9 => h9) rfl dX2_runWhile_173 ?_
          refine lv_iload hx hb dX2_runWhile_176 (lv_at hl 11 rfl) ?_
          refine lv_iload hx hb dX2_runWhile_178 (lv_at hl 1 rfl) ?_
          refine rw_v (wr := [(co, .inr (2, [.int co_years, .int co_begun, .ref co_rule, .ref co_may, .ref co_reach, .ref co_first, .ref co_back, .ref co_got])), (co_got, .inl (cJ, 2, .inr (.inl j65_co_got_c))), (co_rule, .inl (cI, 2, .inl co_rule_c)), (co_may, .inl (cJ, 2, .inr (.inl co_may_c))), (co_reach, .inl (cJ, 2, .inr (.inl co_reach_c))), (co_first, .inl (cJ, 2, .inr (.inl n_r0_c_169)))]) (va_runS (As := [.ref co_back, .int j65_l9, .int r143]) (rest := []) ⟨hx, hb, hml, hown, hts⟩ (q_X2_note l g cI cJ cB cZ cL j65_l9 r143 co_back j65_co_back_c H.size ) (va_cwS 3 hts (goodIn_app (g_3 (List.mem_cons_of_mem _ (List.mem_append_left _ (List.mem_of_getElem? (i := 18) rfl))) (List.mem_cons_of_mem _ (List.mem_append_left _ (List.mem_of_getElem? (i := 19) rfl))) (List.mem_cons_of_mem _ (List.mem_append_left _ (List.mem_of_getElem? (i := 9) rfl))) (by decide +kernel)) (goodIn_sub (fun _ h => List.mem_cons_of_mem _ (List.mem_append_right _ (List.mem_append_right _ (List.mem_append_right _ (List.mem_append_right _ (List.mem_append_right _ (List.mem_append_right _ (List.mem_append_left _ h)))))))) good_v_X2_note)) rfl rfl rfl (by decide +kernel) ⟨Nat.le_of_ble_eq_true rfl, Nat.le_of_ble_eq_true rfl⟩) (ps_RW (wc := [(co_back, .inl (cJ, 2, .inr (.inl j65_co_back_c)))]) hK hP hD [1] (by decide) rfl) rfl rfl hl.1 rfl (lv_room (Nat.le_of_ble_eq_true rfl)) dX2_runWhile_180 ⟨Nat.le_of_ble_eq_true rfl, Nat.le_of_ble_eq_true rfl⟩) hS hA hP hD [1] [0, 2, 3, 4, 5, 6] rfl rfl (by decide) (by decide) (fun u180 H locs hw180 hP hD hS => ?_)
          generalize u180 = n_r0_c_180 at hw180 hP hD
          have hP : va_P g vwCl [(co, .inr (2, [.int co_years, .int co_begun, .ref co_rule, .ref co_may, .ref co_reach, .ref co_first, .ref co_back, .ref co_got])), (co_got, .inl (cJ, 2, .inr (.inl j65_co_got_c))), (co_rule, .inl (cI, 2, .inl co_rule_c)), (co_may, .inl (cJ, 2, .inr (.inl co_may_c))), (co_reach, .inl (cJ, 2, .inr (.inl co_reach_c))), (co_first, .inl (cJ, 2, .inr (.inl n_r0_c_169))), (co_back, .inl (cJ, 2, .inr (.inl n_r0_c_180)))] H := hP
          have hD : va_D A [(co, .inr (2, [.int co_years, .int co_begun, .ref co_rule, .ref co_may, .ref co_reach, .ref co_first, .ref co_back, .ref co_got])), (co_got, .inl (cJ, 2, .inr (.inl j65_co_got_c))), (co_rule, .inl (cI, 2, .inl co_rule_c)), (co_may, .inl (cJ, 2, .inr (.inl co_may_c))), (co_reach, .inl (cJ, 2, .inr (.inl co_reach_c))), (co_first, .inl (cJ, 2, .inr (.inl n_r0_c_169))), (co_back, .inl (cJ, 2, .inr (.inl n_r0_c_180)))] := hD
          refine lv_aload_n hx hb dX2_runWhile_183 rfl (lv_at hl 5 rfl) ?_
          refine va_get (D := g) (ci := 2) (v := .ref co_got) (C := RX2) (T := TX2) (N := 8) hx hb hts iX2 hown hK hP 0 rfl rfl 7 (by decide) (hts (.fieldLink RX2 26 "CardsAtYule$Course" "got" "[J") (List.mem_cons_of_mem _ (List.mem_append_left _ (List.mem_of_getElem? (i := 21) rfl)))) (fun _ h9 => h9) rfl dX2_runWhile_184 ?_
          refine lv_iload hx hb dX2_runWhile_187 (lv_at hl 11 rfl) ?_
          refine lv_iload hx hb dX2_runWhile_189 (lv_at hl 0 rfl) ?_
          refine rw_v (wr := [(co, .inr (2, [.int co_years, .int co_begun, .ref co_rule, .ref co_may, .ref co_reach, .ref co_first, .ref co_back, .ref co_got])), (co_rule, .inl (cI, 2, .inl co_rule_c)), (co_may, .inl (cJ, 2, .inr (.inl co_may_c))), (co_reach, .inl (cJ, 2, .inr (.inl co_reach_c))), (co_first, .inl (cJ, 2, .inr (.inl n_r0_c_169))), (co_back, .inl (cJ, 2, .inr (.inl n_r0_c_180)))]) (va_runS (As := [.ref co_got, .int j65_l9, .int r156]) (rest := []) ⟨hx, hb, hml, hown, hts⟩ (q_X2_note l g cI cJ cB cZ cL j65_l9 r156 co_got j65_co_got_c H.size ) (va_cwS 3 hts (goodIn_app (g_3 (List.mem_cons_of_mem _ (List.mem_append_left _ (List.mem_of_getElem? (i := 18) rfl))) (List.mem_cons_of_mem _ (List.mem_append_left _ (List.mem_of_getElem? (i := 19) rfl))) (List.mem_cons_of_mem _ (List.mem_append_left _ (List.mem_of_getElem? (i := 9) rfl))) (by decide +kernel)) (goodIn_sub (fun _ h => List.mem_cons_of_mem _ (List.mem_append_right _ (List.mem_append_right _ (List.mem_append_right _ (List.mem_append_right _ (List.mem_append_right _ (List.mem_append_right _ (List.mem_append_left _ h)))))))) good_v_X2_note)) rfl rfl rfl (by decide +kernel) ⟨Nat.le_of_ble_eq_true rfl, Nat.le_of_ble_eq_true rfl⟩) (ps_RW (wc := [(co_got, .inl (cJ, 2, .inr (.inl j65_co_got_c)))]) hK hP hD [1] (by decide) rfl) rfl rfl hl.1 rfl (lv_room (Nat.le_of_ble_eq_true rfl)) dX2_runWhile_191 ⟨Nat.le_of_ble_eq_true rfl, Nat.le_of_ble_eq_true rfl⟩) hS hA hP hD [1] [0, 2, 3, 4, 5, 6] rfl rfl (by decide) (by decide) (fun u191 H locs hw191 hP hD hS => ?_)
          generalize u191 = n_r0_c_191 at hw191 hP hD
          have hP : va_P g vwCl [(co, .inr (2, [.int co_years, .int co_begun, .ref co_rule, .ref co_may, .ref co_reach, .ref co_first, .ref co_back, .ref co_got])), (co_rule, .inl (cI, 2, .inl co_rule_c)), (co_may, .inl (cJ, 2, .inr (.inl co_may_c))), (co_reach, .inl (cJ, 2, .inr (.inl co_reach_c))), (co_first, .inl (cJ, 2, .inr (.inl n_r0_c_169))), (co_back, .inl (cJ, 2, .inr (.inl n_r0_c_180))), (co_got, .inl (cJ, 2, .inr (.inl n_r0_c_191)))] H := hP
          have hD : va_D A [(co, .inr (2, [.int co_years, .int co_begun, .ref co_rule, .ref co_may, .ref co_reach, .ref co_first, .ref co_back, .ref co_got])), (co_rule, .inl (cI, 2, .inl co_rule_c)), (co_may, .inl (cJ, 2, .inr (.inl co_may_c))), (co_reach, .inl (cJ, 2, .inr (.inl co_reach_c))), (co_first, .inl (cJ, 2, .inr (.inl n_r0_c_169))), (co_back, .inl (cJ, 2, .inr (.inl n_r0_c_180))), (co_got, .inl (cJ, 2, .inr (.inl n_r0_c_191)))] := hD
          refine lv_lload_n hx hb dX2_runWhile_194 rfl (lv_at hl 6 rfl) ?_
          refine lv_iload hx hb dX2_runWhile_195 (lv_at hl 11 rfl) ?_
          refine ro_i (va_runSN (As := [.long p0, .int j65_l9]) (rest := []) ⟨hx, hb, hml, hown, hts⟩ (q_X11_isAt l g cI cJ cB cZ cL p0 j65_l9 H.size ) ⟨(va_cnB 2 hts (goodIn_sub (fun _ h => List.mem_cons_of_mem _ (List.mem_append_right _ (List.mem_append_right _ (List.mem_append_right _ (List.mem_append_right _ (List.mem_append_right _ (List.mem_append_right _ (List.mem_append_right _ (List.mem_append_left _ h))))))))) good_v_X11_isAt) rfl rfl rfl (hE.nest _ (List.mem_of_getElem? (i := 1) rfl)) (hts (.initialized RX11) (List.mem_cons_of_mem _ (List.mem_append_left _ (List.mem_of_getElem? (i := 22) rfl)))) (by decide +kernel) ⟨Nat.le_of_ble_eq_true rfl, Nat.le_of_ble_eq_true rfl⟩), (hts (.static yX11_isAt) (List.mem_cons_of_mem _ (List.mem_append_left _ (List.mem_of_getElem? (i := 23) rfl)))), trivial⟩ (ps_RO (wc := []) hK hP [] rfl) rfl rfl hl.1 rfl (lv_room (Nat.le_of_ble_eq_true rfl)) dX2_runWhile_197 ⟨Nat.le_of_ble_eq_true rfl, Nat.le_of_ble_eq_true rfl⟩) hS hA hP (fun r197 u197 H locs hw197 hP hS => ?_)
          have hw197_0 := hw197
          have J218 : ∀  (H : Heap) (locs : List Loc) (ls : Array Slot), va_P g vwCl [(co, .inr (2, [.int co_years, .int co_begun, .ref co_rule, .ref co_may, .ref co_reach, .ref co_first, .ref co_back, .ref co_got])), (co_rule, .inl (cI, 2, .inl co_rule_c)), (co_may, .inl (cJ, 2, .inr (.inl co_may_c))), (co_reach, .inl (cJ, 2, .inr (.inl co_reach_c))), (co_first, .inl (cJ, 2, .inr (.inl n_r0_c_169))), (co_back, .inl (cJ, 2, .inr (.inl n_r0_c_180))), (co_got, .inl (cJ, 2, .inr (.inl n_r0_c_191)))] H → va_D A [(co, .inr (2, [.int co_years, .int co_begun, .ref co_rule, .ref co_may, .ref co_reach, .ref co_first, .ref co_back, .ref co_got])), (co_rule, .inl (cI, 2, .inl co_rule_c)), (co_may, .inl (cJ, 2, .inr (.inl co_may_c))), (co_reach, .inl (cJ, 2, .inr (.inl co_reach_c))), (co_first, .inl (cJ, 2, .inr (.inl n_r0_c_169))), (co_back, .inl (cJ, 2, .inr (.inl n_r0_c_180))), (co_got, .inl (cJ, 2, .inr (.inl n_r0_c_191)))] → va_S A s.heap H locs → lv_has ls 15 [(0, .ref co), (1, .long p0), (3, .long p1), (5, .long p2), (7, .int r51), (8, .int j65_l8), (9, .int j65_l9), (14, .int r156)] → W p l e (headSpec v_X2_runWhile ({ frames := 1, cells := 0, slots := 0, locals := 24 })).room s m av below meth c H locs 0 0 QQ (F0 m 218 ls []) := by
            intro  H locs ls  hP hD hS hl
            refine lv_iload hx hb dX2_runWhile_218 (lv_at hl 5 rfl) ?_
            refine lv_iload hx hb dX2_runWhile_220 (lv_at hl 7 rfl) ?_
            refine ro_i (va_runS (As := [.int j65_l8, .int r156]) (rest := []) ⟨hx, hb, hml, hown, hts⟩ (q_X10_after l g cI cJ cB cZ cL j65_l8 r156 H.size ) (va_cwS 2 hts (goodIn_app (g_3 (List.mem_cons_of_mem _ (List.mem_append_left _ (List.mem_of_getElem? (i := 24) rfl))) (List.mem_cons_of_mem _ (List.mem_append_left _ (List.mem_of_getElem? (i := 25) rfl))) (List.mem_cons_of_mem _ (List.mem_append_left _ (List.mem_of_getElem? (i := 3) rfl))) (by decide +kernel)) (goodIn_sub (fun _ h => List.mem_cons_of_mem _ (List.mem_append_right _ (List.mem_append_right _ (List.mem_append_right _ (List.mem_append_right _ (List.mem_append_right _ (List.mem_append_right _ (List.mem_append_right _ (List.mem_append_right _ (List.mem_append_left _ h)))))))))) good_v_X10_after)) rfl rfl rfl (by decide +kernel) ⟨Nat.le_of_ble_eq_true rfl, Nat.le_of_ble_eq_true rfl⟩) (ps_RO (wc := []) hK hP [] rfl) rfl rfl hl.1 rfl (lv_room (Nat.le_of_ble_eq_true rfl)) dX2_runWhile_222 ⟨Nat.le_of_ble_eq_true rfl, Nat.le_of_ble_eq_true rfl⟩) hS hA hP (fun r222 u222 H locs hw222 hP hS => ?_)
            have hw222_0 := hw222
            refine lv_istore (lv' := [(8, .int r222), (0, .ref co), (1, .long p0), (3, .long p1), (5, .long p2), (7, .int r51), (9, .int j65_l9), (14, .int r156)]) hx hb dX2_runWhile_225 hl (by decide) rfl (fun ls hl => ?_)
            obtain ⟨y227, e227⟩ : ∃ y : Int32, y = j65_l9 + 1 := ⟨_, rfl⟩
            have q227 : y227.toInt = j65_l9.toInt + 1 := by rw [e227]; exact ad_z rfl rfl r71a (ir_c 1) (by decide) (by decide)
            have r227 : ir y227.toInt 1 2147483647 := ad_r q227 r71a (ir_c 1) (by decide) (by decide)
            refine lv_iinc (v := y227) (lv' := [(9, .int y227), (8, .int r222), (0, .ref co), (1, .long p0), (3, .long p1), (5, .long p2), (7, .int r51), (14, .int r156)]) hx hb dX2_runWhile_227 hl (k := 6) rfl e227.symm (by decide) rfl (fun ls hl => ?_)
            refine lv_goto (tgt := 65) hx hb dX2_runWhile_230 (by decide) ?_
            exact ih65 r222 y227 n_r0_c_169 n_r0_c_180 n_r0_c_191 _ _ _ (by omega) (ir_w r227 (by decide) (by decide)) (hP.sub [0, 4, 5, 6, 1, 2, 3] rfl) (hD.sub [0, 4, 5, 6, 1, 2, 3] (by decide) rfl) hS (lv_sub hl [2, 3, 4, 5, 6, 1, 0] rfl)
          refine lv_if_eq (tgt := 218) hx hb dX2_runWhile_200 (by decide) (fun c200 => ?_) (fun c200 => ?_)
          · have f200 := (show r197.toInt = 0 from z_eq rfl rfl c200)
            have r200a : ir r197.toInt 0 0 := ir_eqa f200 hw197_0 (ir_c 0) (by decide) (by decide)
            exact J218  _ _ _  (hP.sub [0, 1, 2, 3, 4, 5, 6] rfl) (hD.sub [0, 1, 2, 3, 4, 5, 6] (by decide) rfl) hS (lv_sub hl [5, 6, 7, 8, 9, 10, 11, 0] rfl)
          have f200 := (show r197.toInt ≠ 0 from z_ne rfl rfl c200)
          have r200a : ir r197.toInt 1 1 := ir_nel f200 hw197_0 (by decide) (by decide)
          refine lv_iload hx hb dX2_runWhile_203 (lv_at hl 0 rfl) ?_
          refine lv_lload_n hx hb dX2_runWhile_205 rfl (lv_at hl 7 rfl) ?_
          refine lv_lload hx hb dX2_runWhile_206 (lv_at hl 8 rfl) ?_
          refine lv_iload hx hb dX2_runWhile_208 (lv_at hl 11 rfl) ?_
          refine ro_i (va_runS (As := [.long p1, .long p2, .int j65_l9]) (rest := [.int r156]) ⟨hx, hb, hml, hown, hts⟩ (q_X2_sidesOf l g cI cJ cB cZ cL p1 p2 j65_l9 H.size ) (va_cwS 3 hts (goodIn_app (g_3 (List.mem_cons_of_mem _ (List.mem_append_left _ (List.mem_of_getElem? (i := 7) rfl))) (List.mem_cons_of_mem _ (List.mem_append_left _ (List.mem_of_getElem? (i := 8) rfl))) (List.mem_cons_of_mem _ (List.mem_append_left _ (List.mem_of_getElem? (i := 9) rfl))) (by decide +kernel)) (goodIn_sub (fun _ h => List.mem_cons_of_mem _ (List.mem_append_right _ (List.mem_append_right _ (List.mem_append_left _ h)))) good_v_X2_sidesOf)) rfl rfl rfl (by decide +kernel) ⟨Nat.le_of_ble_eq_true rfl, Nat.le_of_ble_eq_true rfl⟩) (ps_RO (wc := []) hK hP [] rfl) rfl rfl hl.1 rfl (lv_room (Nat.le_of_ble_eq_true rfl)) dX2_runWhile_210 ⟨Nat.le_of_ble_eq_true rfl, Nat.le_of_ble_eq_true rfl⟩) hS hA hP (fun r210 u210 H locs hw210 hP hS => ?_)
          have hw210_0 := hw210
          refine lv_icmp_eq (tgt := 218) hx hb dX2_runWhile_213 (by decide) (fun c213 => ?_) (fun c213 => ?_)
          · have f213 := (show r156.toInt = r210.toInt from z_eq rfl rfl c213)
            exact J218  _ _ _  (hP.sub [0, 1, 2, 3, 4, 5, 6] rfl) (hD.sub [0, 1, 2, 3, 4, 5, 6] (by decide) rfl) hS (lv_sub hl [5, 6, 7, 8, 9, 10, 11, 0] rfl)
          have f213 := (show r156.toInt ≠ r210.toInt from z_ne rfl rfl c213)
          refine lv_iconst (v := 0) hx hb dX2_runWhile_216 (by decide) ?_
          subst hQ
          have hP9 := hP.sub (ws' := [(co, .inr (2, [.int co_years, .int co_begun, .ref co_rule, .ref co_may, .ref co_reach, .ref co_first, .ref co_back, .ref co_got])), (co_first, .inl (cJ, 2, .inr (.inl n_r0_c_169))), (co_back, .inl (cJ, 2, .inr (.inl n_r0_c_180))), (co_got, .inl (cJ, 2, .inr (.inl n_r0_c_191))), (co_rule, .inl (cI, 2, .inl co_rule_c)), (co_may, .inl (cJ, 2, .inr (.inl co_may_c))), (co_reach, .inl (cJ, 2, .inr (.inl co_reach_c)))]) [0, 4, 5, 6, 1, 2, 3] rfl
          have hD9 := hD.sub (ws' := [(co, .inr (2, [.int co_years, .int co_begun, .ref co_rule, .ref co_may, .ref co_reach, .ref co_first, .ref co_back, .ref co_got])), (co_first, .inl (cJ, 2, .inr (.inl n_r0_c_169))), (co_back, .inl (cJ, 2, .inr (.inl n_r0_c_180))), (co_got, .inl (cJ, 2, .inr (.inl n_r0_c_191))), (co_rule, .inl (cI, 2, .inl co_rule_c)), (co_may, .inl (cJ, 2, .inr (.inl co_may_c))), (co_reach, .inl (cJ, 2, .inr (.inl co_reach_c)))]) [0, 4, 5, 6, 1, 2, 3] (by decide) rfl
          exact W.zret (v := 0) hx hb hr rfl (fun t ht hW => ⟨⟨0, (n_r0_c_169, n_r0_c_180, n_r0_c_191), rfl, (show ir (0 : Int32).toInt 0 1 by decide), ⟨by rw [ht]; exact hP9, va_K.moved hW.alike hK, hD9⟩⟩, hS.F ht⟩) hS.2.2 dX2_runWhile_217
      exact J65 _ co_begun 0 j3_co_first_c j3_co_back_c j3_co_got_c _ _ _ (Nat.lt_succ_self _) (by decide) (hP.sub [0, 1, 2, 3, 4, 5, 6] rfl) (hD.sub [0, 1, 2, 3, 4, 5, 6] (by decide) rfl) hS (lv_sub hl [3, 4, 5, 6, 2, 1, 0] rfl)
  exact J3 _ 0 co_first_c co_back_c co_got_c _ _ _ (Nat.lt_succ_self _) (by decide) (hP.sub [0, 1, 2, 3, 4, 5, 6] rfl) (hD.sub [0, 1, 2, 3, 4, 5, 6] (by decide) rfl) hS (lv_sub hl [1, 2, 3, 4, 0] rfl)
def v_X2_run : List Cond := .code yX2_run cX2_run 1 none :: (([.methodLink RX2 56 yX2_runWhile, .instanceMethod yX2_runWhile, .selects RX2 yX2_runWhile yX2_runWhile, .initialized RX2] : List Cond) ++ (v_X2_runWhile ++ ([] : List Cond)))
theorem good_v_X2_run : v_X2_run.all goodWord = true := ga_c (by decide +kernel) (ga_a (by decide +kernel) (ga_a good_v_X2_runWhile rfl))
set_option maxHeartbeats 4000000 in
set_option maxRecDepth 100000 in
theorem q_X2_run (l : Launch) (g : va_G) (cI cJ cB cZ cL : ClassId) (kA : Nat → Nat) (vA : Nat → Nat) (co : Nat) (co_years : Int32) (co_begun : Int32) (co_rule : Nat) (co_may : Nat) (co_reach : Nat) (co_first : Nat) (co_back : Nat) (co_got : Nat) (co_first_c : Nat → Int64) (co_back_c : Nat → Int64) (co_got_c : Nat → Int64) (co_rule_c : Nat → Int32) (co_may_c : Nat → Int64) (co_reach_c : Nat → Int64) (sz : Nat)  : Met l yX2_run v_X2_run ({ frames := 2, cells := 0, slots := 0, locals := 58 }) (va_Pc [.ref co] (eRW g (tyT cI cJ cB cZ cL) [(co, .inr (2, [.int co_years, .int co_begun, .ref co_rule, .ref co_may, .ref co_reach, .ref co_first, .ref co_back, .ref co_got])), (co_first, .inl (cJ, 2, .inr (.inl co_first_c))), (co_back, .inl (cJ, 2, .inr (.inl co_back_c))), (co_got, .inl (cJ, 2, .inr (.inl co_got_c))), (co_rule, .inl (cI, 2, .inl co_rule_c)), (co_may, .inl (cJ, 2, .inr (.inl co_may_c))), (co_reach, .inl (cJ, 2, .inr (.inl co_reach_c)))] sz kA vA)) (va_Qv (fun (u : (Nat → Int64) × (Nat → Int64) × (Nat → Int64)) => match u with | (n_co_first_c, n_co_back_c, n_co_got_c) => True) (fun (u : (Nat → Int64) × (Nat → Int64) × (Nat → Int64)) (t : State) => bRW g (tyT cI cJ cB cZ cL) (va_A [(co, .inr (2, [.int co_years, .int co_begun, .ref co_rule, .ref co_may, .ref co_reach, .ref co_first, .ref co_back, .ref co_got])), (co_first, .inl (cJ, 2, .inr (.inl co_first_c))), (co_back, .inl (cJ, 2, .inr (.inl co_back_c))), (co_got, .inl (cJ, 2, .inr (.inl co_got_c))), (co_rule, .inl (cI, 2, .inl co_rule_c)), (co_may, .inl (cJ, 2, .inr (.inl co_may_c))), (co_reach, .inl (cJ, 2, .inr (.inl co_reach_c)))] sz) (match u with | (n_co_first_c, n_co_back_c, n_co_got_c) => [(co, .inr (2, [.int co_years, .int co_begun, .ref co_rule, .ref co_may, .ref co_reach, .ref co_first, .ref co_back, .ref co_got])), (co_first, .inl (cJ, 2, .inr (.inl n_co_first_c))), (co_back, .inl (cJ, 2, .inr (.inl n_co_back_c))), (co_got, .inl (cJ, 2, .inr (.inl n_co_got_c))), (co_rule, .inl (cI, 2, .inl co_rule_c)), (co_may, .inl (cJ, 2, .inr (.inl co_may_c))), (co_reach, .inl (cJ, 2, .inr (.inl co_reach_c)))]) t) (va_A [(co, .inr (2, [.int co_years, .int co_begun, .ref co_rule, .ref co_may, .ref co_reach, .ref co_first, .ref co_back, .ref co_got])), (co_first, .inl (cJ, 2, .inr (.inl co_first_c))), (co_back, .inl (cJ, 2, .inr (.inl co_back_c))), (co_got, .inl (cJ, 2, .inr (.inl co_got_c))), (co_rule, .inl (cI, 2, .inl co_rule_c)), (co_may, .inl (cJ, 2, .inr (.inl co_may_c))), (co_reach, .inl (cJ, 2, .inr (.inl co_reach_c)))] sz)) 0 0 (va_A [(co, .inr (2, [.int co_years, .int co_begun, .ref co_rule, .ref co_may, .ref co_reach, .ref co_first, .ref co_back, .ref co_got])), (co_first, .inl (cJ, 2, .inr (.inl co_first_c))), (co_back, .inl (cJ, 2, .inr (.inl co_back_c))), (co_got, .inl (cJ, 2, .inr (.inl co_got_c))), (co_rule, .inl (cI, 2, .inl co_rule_c)), (co_may, .inl (cJ, 2, .inr (.inl co_may_c))), (co_reach, .inl (cJ, 2, .inr (.inl co_reach_c)))] sz) := by
  refine Met.ofW (cc := cX2_run) (maxL := 1) (ret := none) (by decide) rfl ?_
  intro p e s m args below meth c s₁ B hml hv
  obtain ⟨rfl, ⟨hsz, hP, hK, hD0⟩, hE⟩ := hv
  have hx := B.exec
  have hb := B.bytes
  have hr := B.returns
  have hts := atoms_spec (ws := v_X2_run) B.pre
  have hown : s.vm.findClass RX2 = some m.cls := findClass_of_methodNamed B.named
  have hlocks := B.notSynchronized
  clear B
  subst hsz
  have hD := hD0.self (sz := s.heap.size)
  generalize hAe : (va_A [(co, .inr (2, [.int co_years, .int co_begun, .ref co_rule, .ref co_may, .ref co_reach, .ref co_first, .ref co_back, .ref co_got])), (co_first, .inl (cJ, 2, .inr (.inl co_first_c))), (co_back, .inl (cJ, 2, .inr (.inl co_back_c))), (co_got, .inl (cJ, 2, .inr (.inl co_got_c))), (co_rule, .inl (cI, 2, .inl co_rule_c)), (co_may, .inl (cJ, 2, .inr (.inl co_may_c))), (co_reach, .inl (cJ, 2, .inr (.inl co_reach_c)))] s.heap.size) = A at hD hE ⊢
  have hA : ∀ q : Nat, s.heap.size ≤ q → A q := fun q h => by rw [← hAe]; exact Or.inr h
  have hS : va_S A s.heap s.heap [] := va_S.rf
  have hl := lv_entry ([.ref co]) (n := 1) (Nat.le_of_ble_eq_true rfl)
  rw [lg_entry_eq]
  generalize (lg_sl ([.ref co]) ++ List.replicate (1 - (lg_sl ([.ref co])).length) Slot.unset).toArray = ls at hl ⊢
  generalize ([.ref co] : List Value).toArray = av at hts ⊢
  generalize hQ : MQ below _ av s _ _ A = QQ
  have hl : lv_has ls 1 [(0, .ref co)] := hl
  have hP : va_P g vwCl [(co, .inr (2, [.int co_years, .int co_begun, .ref co_rule, .ref co_may, .ref co_reach, .ref co_first, .ref co_back, .ref co_got])), (co_first, .inl (cJ, 2, .inr (.inl co_first_c))), (co_back, .inl (cJ, 2, .inr (.inl co_back_c))), (co_got, .inl (cJ, 2, .inr (.inl co_got_c))), (co_rule, .inl (cI, 2, .inl co_rule_c)), (co_may, .inl (cJ, 2, .inr (.inl co_may_c))), (co_reach, .inl (cJ, 2, .inr (.inl co_reach_c)))] s.heap := hP
  refine lv_aload_n hx hb dX2_run_0 rfl (lv_at hl 0 rfl) ?_
  refine lv_lconst (v := 0) hx hb dX2_run_1 (by decide) ?_
  refine lv_lconst (v := 0) hx hb dX2_run_2 (by decide) ?_
  refine lv_lconst (v := 0) hx hb dX2_run_3 (by decide) ?_
  refine rw_i (wr := []) (va_runV (As := [.long 0, .long 0, .long 0]) (rest := []) ⟨hx, hb, hml, hown, hts⟩ (q_X2_runWhile l g cI cJ cB cZ cL kA vA 0 0 0 co co_years co_begun co_rule co_may co_reach co_first co_back co_got co_first_c co_back_c co_got_c co_rule_c co_may_c co_reach_c s.heap.size ) (cwV 3 hts (goodIn_app (g_4 (List.mem_cons_of_mem _ (List.mem_append_left _ (List.mem_of_getElem? (i := 0) rfl))) (List.mem_cons_of_mem _ (List.mem_append_left _ (List.mem_of_getElem? (i := 1) rfl))) (List.mem_cons_of_mem _ (List.mem_append_left _ (List.mem_of_getElem? (i := 2) rfl))) (List.mem_cons_of_mem _ (List.mem_append_left _ (List.mem_of_getElem? (i := 3) rfl))) (by decide +kernel)) (goodIn_sub (fun _ h => List.mem_cons_of_mem _ (List.mem_append_right _ (List.mem_append_left _ h))) good_v_X2_runWhile)) rfl rfl rfl (by decide +kernel) ⟨Nat.le_of_ble_eq_true rfl, Nat.le_of_ble_eq_true rfl⟩) (pvE_RW (pv_RW (q := (RX2, TX2, 8)) (ci := 2) (q0 := 0) (wc := [(co, .inr (2, [.int co_years, .int co_begun, .ref co_rule, .ref co_may, .ref co_reach, .ref co_first, .ref co_back, .ref co_got])), (co_first, .inl (cJ, 2, .inr (.inl co_first_c))), (co_back, .inl (cJ, 2, .inr (.inl co_back_c))), (co_got, .inl (cJ, 2, .inr (.inl co_got_c))), (co_rule, .inl (cI, 2, .inl co_rule_c)), (co_may, .inl (cJ, 2, .inr (.inl co_may_c))), (co_reach, .inl (cJ, 2, .inr (.inl co_reach_c)))]) hK hP hD [0, 1, 2, 3, 4, 5, 6] (by decide) rfl rfl rfl) hE hS (va_free hD hS hA [0, 1, 2, 3, 4, 5, 6] rfl)) rfl rfl hl.1 rfl (lv_room (Nat.le_of_ble_eq_true rfl)) dX2_run_4 ⟨Nat.le_of_ble_eq_true rfl, Nat.le_of_ble_eq_true rfl⟩) hS hA hP hD [0, 1, 2, 3, 4, 5, 6] [] rfl rfl (by decide) (by decide) (fun r4 u4 H locs hw4 hP hD hS => ?_)
  obtain ⟨n_co_first_c_4, n_co_back_c_4, n_co_got_c_4⟩ := u4
  have hP : va_P g vwCl [(co, .inr (2, [.int co_years, .int co_begun, .ref co_rule, .ref co_may, .ref co_reach, .ref co_first, .ref co_back, .ref co_got])), (co_first, .inl (cJ, 2, .inr (.inl n_co_first_c_4))), (co_back, .inl (cJ, 2, .inr (.inl n_co_back_c_4))), (co_got, .inl (cJ, 2, .inr (.inl n_co_got_c_4))), (co_rule, .inl (cI, 2, .inl co_rule_c)), (co_may, .inl (cJ, 2, .inr (.inl co_may_c))), (co_reach, .inl (cJ, 2, .inr (.inl co_reach_c)))] H := hP
  have hD : va_D A [(co, .inr (2, [.int co_years, .int co_begun, .ref co_rule, .ref co_may, .ref co_reach, .ref co_first, .ref co_back, .ref co_got])), (co_first, .inl (cJ, 2, .inr (.inl n_co_first_c_4))), (co_back, .inl (cJ, 2, .inr (.inl n_co_back_c_4))), (co_got, .inl (cJ, 2, .inr (.inl n_co_got_c_4))), (co_rule, .inl (cI, 2, .inl co_rule_c)), (co_may, .inl (cJ, 2, .inr (.inl co_may_c))), (co_reach, .inl (cJ, 2, .inr (.inl co_reach_c)))] := hD
  dsimp only at hw4
  have hw4_0 := hw4
  refine lv_pop hx hb dX2_run_7 rfl ?_
  subst hQ
  have hP9 := hP.sub (ws' := [(co, .inr (2, [.int co_years, .int co_begun, .ref co_rule, .ref co_may, .ref co_reach, .ref co_first, .ref co_back, .ref co_got])), (co_first, .inl (cJ, 2, .inr (.inl n_co_first_c_4))), (co_back, .inl (cJ, 2, .inr (.inl n_co_back_c_4))), (co_got, .inl (cJ, 2, .inr (.inl n_co_got_c_4))), (co_rule, .inl (cI, 2, .inl co_rule_c)), (co_may, .inl (cJ, 2, .inr (.inl co_may_c))), (co_reach, .inl (cJ, 2, .inr (.inl co_reach_c)))]) [0, 1, 2, 3, 4, 5, 6] rfl
  have hD9 := hD.sub (ws' := [(co, .inr (2, [.int co_years, .int co_begun, .ref co_rule, .ref co_may, .ref co_reach, .ref co_first, .ref co_back, .ref co_got])), (co_first, .inl (cJ, 2, .inr (.inl n_co_first_c_4))), (co_back, .inl (cJ, 2, .inr (.inl n_co_back_c_4))), (co_got, .inl (cJ, 2, .inr (.inl n_co_got_c_4))), (co_rule, .inl (cI, 2, .inl co_rule_c)), (co_may, .inl (cJ, 2, .inr (.inl co_may_c))), (co_reach, .inl (cJ, 2, .inr (.inl co_reach_c)))]) [0, 1, 2, 3, 4, 5, 6] (by decide) rfl
  exact W.vret hx hb hr (fun t ht hW => ⟨⟨(n_co_first_c_4, n_co_back_c_4, n_co_got_c_4), rfl, trivial, ⟨by rw [ht]; exact hP9, va_K.moved hW.alike hK, hD9⟩⟩, hS.F ht⟩) hS.2.2 dX2_run_8
def v_X2_hurtsOf : List Cond := .code yX2_hurtsOf cX2_hurtsOf 2 (some .int) :: (([.fieldLink RX2 20 "CardsAtYule$Course" "first" "[J", .fieldLink RX2 23 "CardsAtYule$Course" "back" "[J", .fieldLink RX2 26 "CardsAtYule$Course" "got" "[J", .constantLong RX2 93 (-1), .methodLink RX2 95 yJ13_bitCount_95d88, .static yJ13_bitCount_95d88, .initialized RJ13] : List Cond) ++ (v_J13_bitCount_95d88 ++ (wsX20 ++ ([] : List Cond))))
theorem good_v_X2_hurtsOf : v_X2_hurtsOf.all goodWord = true := ga_c (by decide +kernel) (ga_a (by decide +kernel) (ga_a good_v_J13_bitCount_95d88 (ga_a good_wsX20 rfl)))
set_option maxHeartbeats 4000000 in
set_option maxRecDepth 100000 in
theorem q_X2_hurtsOf (l : Launch) (g : va_G) (cI cJ cB cZ cL : ClassId) (p0 : Int32) (co : Nat) (co_years : Int32) (co_begun : Int32) (co_rule : Nat) (co_may : Nat) (co_reach : Nat) (co_first : Nat) (co_back : Nat) (co_got : Nat) (co_first_c : Nat → Int64) (co_back_c : Nat → Int64) (co_got_c : Nat → Int64) (sz : Nat) (hv_p0 : ir p0.toInt 0 1) : Met l yX2_hurtsOf v_X2_hurtsOf ({ frames := 1, cells := 0, slots := 0, locals := 21 }) (va_Pc [.ref co, .int p0] (pRO g (tyT cI cJ cB cZ cL) [(co, .inr (2, [.int co_years, .int co_begun, .ref co_rule, .ref co_may, .ref co_reach, .ref co_first, .ref co_back, .ref co_got])), (co_first, .inl (cJ, 2, .inr (.inl co_first_c))), (co_back, .inl (cJ, 2, .inr (.inl co_back_c))), (co_got, .inl (cJ, 2, .inr (.inl co_got_c)))] sz)) (va_Qi (fun (r : Int32) (u : Unit) => (ir r.toInt 0 127)) (fun (_ : Unit) (_ : State) => True) (va_A [] sz)) 0 0 (va_A [] sz) := by
  refine Met.ofW (cc := cX2_hurtsOf) (maxL := 2) (ret := (some .int)) (by decide) rfl ?_
  intro p e s m args below meth c s₁ B hml hv
  obtain ⟨rfl, hsz, hP, hK⟩ := hv
  have hx := B.exec
  have hb := B.bytes
  have hr := B.returns
  have hts := atoms_spec (ws := v_X2_hurtsOf) B.pre
  have hown : s.vm.findClass RX2 = some m.cls := findClass_of_methodNamed B.named
  have hlocks := B.notSynchronized
  clear B
  subst hsz
  have iX2 : ∀ w ∈ wsX20, w ∈ v_X2_hurtsOf := (fun _ h => List.mem_cons_of_mem _ (List.mem_append_right _ (List.mem_append_right _ (List.mem_append_left _ h))))
  generalize hAe : (va_A [] s.heap.size) = A
  have hA : ∀ q : Nat, s.heap.size ≤ q → A q := fun q h => by rw [← hAe]; exact Or.inr h
  have hS : va_S A s.heap s.heap [] := va_S.rf
  have hl := lv_entry ([.ref co, .int p0]) (n := 2) (Nat.le_of_ble_eq_true rfl)
  rw [lg_entry_eq]
  generalize (lg_sl ([.ref co, .int p0]) ++ List.replicate (2 - (lg_sl ([.ref co, .int p0])).length) Slot.unset).toArray = ls at hl ⊢
  generalize ([.ref co, .int p0] : List Value).toArray = av at hts ⊢
  generalize hQ : MQ below _ av s _ _ A = QQ
  have hl : lv_has ls 2 [(0, .ref co), (1, .int p0)] := hl
  have hP : va_P g vwCl [(co, .inr (2, [.int co_years, .int co_begun, .ref co_rule, .ref co_may, .ref co_reach, .ref co_first, .ref co_back, .ref co_got])), (co_first, .inl (cJ, 2, .inr (.inl co_first_c))), (co_back, .inl (cJ, 2, .inr (.inl co_back_c))), (co_got, .inl (cJ, 2, .inr (.inl co_got_c)))] s.heap := hP
  refine lv_aload_n hx hb dX2_hurtsOf_0 rfl (lv_at hl 0 rfl) ?_
  refine va_get (D := g) (ci := 2) (v := .ref co_first) (C := RX2) (T := TX2) (N := 8) hx hb hts iX2 hown hK hP 0 rfl rfl 5 (by decide) (hts (.fieldLink RX2 20 "CardsAtYule$Course" "first" "[J") (List.mem_cons_of_mem _ (List.mem_append_left _ (List.mem_of_getElem? (i := 0) rfl)))) (fun _ h9 => h9) rfl dX2_hurtsOf_1 ?_
  refine lv_iload_n hx hb dX2_hurtsOf_4 rfl (lv_at hl 1 rfl) ?_
  refine va_lald (D := g) hx hb hK hP 1 1 rfl rfl (vi_rg rfl hv_p0 (by decide) (by decide)) dX2_hurtsOf_5 ?_
  refine lv_topl (fun y5 e5 => ?_)
  refine lv_aload_n hx hb dX2_hurtsOf_6 rfl (lv_at hl 0 rfl) ?_
  refine va_get (D := g) (ci := 2) (v := .ref co_back) (C := RX2) (T := TX2) (N := 8) hx hb hts iX2 hown hK hP 0 rfl rfl 6 (by decide) (hts (.fieldLink RX2 23 "CardsAtYule$Course" "back" "[J") (List.mem_cons_of_mem _ (List.mem_append_left _ (List.mem_of_getElem? (i := 1) rfl)))) (fun _ h9 => h9) rfl dX2_hurtsOf_7 ?_
  refine lv_iload_n hx hb dX2_hurtsOf_10 rfl (lv_at hl 1 rfl) ?_
  refine va_lald (D := g) hx hb hK hP 2 1 rfl rfl (vi_rg rfl hv_p0 (by decide) (by decide)) dX2_hurtsOf_11 ?_
  refine lv_topl (fun y11 e11 => ?_)
  refine lv_lor hx hb dX2_hurtsOf_12 ?_
  refine lv_topl (fun y12 e12 => ?_)
  refine lv_aload_n hx hb dX2_hurtsOf_13 rfl (lv_at hl 0 rfl) ?_
  refine va_get (D := g) (ci := 2) (v := .ref co_got) (C := RX2) (T := TX2) (N := 8) hx hb hts iX2 hown hK hP 0 rfl rfl 7 (by decide) (hts (.fieldLink RX2 26 "CardsAtYule$Course" "got" "[J") (List.mem_cons_of_mem _ (List.mem_append_left _ (List.mem_of_getElem? (i := 2) rfl)))) (fun _ h9 => h9) rfl dX2_hurtsOf_14 ?_
  refine lv_iload_n hx hb dX2_hurtsOf_17 rfl (lv_at hl 1 rfl) ?_
  refine va_lald (D := g) hx hb hK hP 3 1 rfl rfl (vi_rg rfl hv_p0 (by decide) (by decide)) dX2_hurtsOf_18 ?_
  refine lv_topl (fun y18 e18 => ?_)
  refine lv_ldc2 (v := (-1)) hx hb hown (hts (.constantLong RX2 93 (-1)) (List.mem_cons_of_mem _ (List.mem_append_left _ (List.mem_of_getElem? (i := 3) rfl)))) dX2_hurtsOf_19 ?_
  refine lv_lxor hx hb dX2_hurtsOf_22 ?_
  refine lv_topl (fun y22 e22 => ?_)
  refine lv_land hx hb dX2_hurtsOf_23 ?_
  refine lv_topl (fun y23 e23 => ?_)
  refine ro_i (va_runS (As := [.long y23]) (rest := []) ⟨hx, hb, hml, hown, hts⟩ (q_J13_bitCount_95d88 l g cI cJ cB cZ cL y23 s.heap.size ) (va_cwS 1 hts (goodIn_app (g_3 (List.mem_cons_of_mem _ (List.mem_append_left _ (List.mem_of_getElem? (i := 4) rfl))) (List.mem_cons_of_mem _ (List.mem_append_left _ (List.mem_of_getElem? (i := 5) rfl))) (List.mem_cons_of_mem _ (List.mem_append_left _ (List.mem_of_getElem? (i := 6) rfl))) (by decide +kernel)) (goodIn_sub (fun _ h => List.mem_cons_of_mem _ (List.mem_append_right _ (List.mem_append_left _ h))) good_v_J13_bitCount_95d88)) rfl rfl rfl (by decide +kernel) ⟨Nat.le_of_ble_eq_true rfl, Nat.le_of_ble_eq_true rfl⟩) (ps_RO (wc := []) hK hP [] rfl) rfl rfl hl.1 rfl (lv_room (Nat.le_of_ble_eq_true rfl)) dX2_hurtsOf_24 ⟨Nat.le_of_ble_eq_true rfl, Nat.le_of_ble_eq_true rfl⟩) hS hA hP (fun r24 u24 H locs hw24 hP hS => ?_)
  have hw24_0 := hw24
  subst hQ
  exact W.iret (v := r24) hx hb hr (fun t ht hW => ⟨⟨r24, (), rfl, hw24_0, trivial⟩, hS.F ht⟩) hS.2.2 dX2_hurtsOf_27
def v_X2_costOf : List Cond := .code yX2_costOf cX2_costOf 3 (some .int) :: (([.fieldLink RX2 101 "CardsAtYule$Land" "card" "I", .fieldLink RX2 20 "CardsAtYule$Course" "first" "[J", .fieldLink RX2 23 "CardsAtYule$Course" "back" "[J", .methodLink RX2 95 yJ13_bitCount_95d88, .static yJ13_bitCount_95d88, .initialized RJ13, .fieldLink RX2 104 "CardsAtYule$Land" "hurt" "I", .methodLink RX2 107 yX2_hurtsOf, .instanceMethod yX2_hurtsOf, .selects RX2 yX2_hurtsOf yX2_hurtsOf, .initialized RX2] : List Cond) ++ (v_J13_bitCount_95d88 ++ (v_X2_hurtsOf ++ (wsX40 ++ (wsX20 ++ ([] : List Cond))))))
theorem good_v_X2_costOf : v_X2_costOf.all goodWord = true := ga_c (by decide +kernel) (ga_a (by decide +kernel) (ga_a good_v_J13_bitCount_95d88 (ga_a good_v_X2_hurtsOf (ga_a good_wsX40 (ga_a good_wsX20 rfl)))))
set_option maxHeartbeats 4000000 in
set_option maxRecDepth 100000 in
theorem q_X2_costOf (l : Launch) (g : va_G) (cI cJ cB cZ cL : ClassId) (p1 : Int32) (co : Nat) (ld : Nat) (ld_lines : Int32) (ld_years : Int32) (ld_card : Int32) (ld_hurt : Int32) (ld_people : Int32) (ld_pairs : Int32) (ld_strikes : Int64) (ld_rule : Nat) (ld_returns : Nat) (ld_forgets : Nat) (ld_death : Nat) (ld_move : Nat) (ld_begun : Nat) (ld_who : Nat) (ld_lost : Nat) (co_years : Int32) (co_begun : Int32) (co_rule : Nat) (co_may : Nat) (co_reach : Nat) (co_first : Nat) (co_back : Nat) (co_got : Nat) (co_first_c : Nat → Int64) (co_back_c : Nat → Int64) (co_got_c : Nat → Int64) (sz : Nat) (hv_p1 : ir p1.toInt 0 1) (hv_ld_years : ir ld_years.toInt 0 40) (hv_ld_people : ir ld_people.toInt 0 10) (hv_ld_pairs : ir ld_pairs.toInt 0 16) : Met l yX2_costOf v_X2_costOf ({ frames := 2, cells := 0, slots := 0, locals := 42 }) (va_Pc [.ref co, .ref ld, .int p1] (pRO g (tyT cI cJ cB cZ cL) [(ld, .inr (4, [.int ld_lines, .int ld_years, .int ld_card, .int ld_hurt, .int ld_people, .int ld_pairs, .long ld_strikes, .ref ld_rule, .ref ld_returns, .ref ld_forgets, .ref ld_death, .ref ld_move, .ref ld_begun, .ref ld_who, .ref ld_lost])), (co, .inr (2, [.int co_years, .int co_begun, .ref co_rule, .ref co_may, .ref co_reach, .ref co_first, .ref co_back, .ref co_got])), (co_first, .inl (cJ, 2, .inr (.inl co_first_c))), (co_back, .inl (cJ, 2, .inr (.inl co_back_c))), (co_got, .inl (cJ, 2, .inr (.inl co_got_c)))] sz)) (va_Qi (fun (r : Int32) (u : Unit) => True) (fun (_ : Unit) (_ : State) => True) (va_A [] sz)) 0 0 (va_A [] sz) := by
  refine Met.ofW (cc := cX2_costOf) (maxL := 3) (ret := (some .int)) (by decide) rfl ?_
  intro p e s m args below meth c s₁ B hml hv
  obtain ⟨rfl, hsz, hP, hK⟩ := hv
  have hx := B.exec
  have hb := B.bytes
  have hr := B.returns
  have hts := atoms_spec (ws := v_X2_costOf) B.pre
  have hown : s.vm.findClass RX2 = some m.cls := findClass_of_methodNamed B.named
  have hlocks := B.notSynchronized
  clear B
  subst hsz
  have iX4 : ∀ w ∈ wsX40, w ∈ v_X2_costOf := (fun _ h => List.mem_cons_of_mem _ (List.mem_append_right _ (List.mem_append_right _ (List.mem_append_right _ (List.mem_append_left _ h)))))
  have iX2 : ∀ w ∈ wsX20, w ∈ v_X2_costOf := (fun _ h => List.mem_cons_of_mem _ (List.mem_append_right _ (List.mem_append_right _ (List.mem_append_right _ (List.mem_append_right _ (List.mem_append_left _ h))))))
  generalize hAe : (va_A [] s.heap.size) = A
  have hA : ∀ q : Nat, s.heap.size ≤ q → A q := fun q h => by rw [← hAe]; exact Or.inr h
  have hS : va_S A s.heap s.heap [] := va_S.rf
  have hl := lv_entry ([.ref co, .ref ld, .int p1]) (n := 3) (Nat.le_of_ble_eq_true rfl)
  rw [lg_entry_eq]
  generalize (lg_sl ([.ref co, .ref ld, .int p1]) ++ List.replicate (3 - (lg_sl ([.ref co, .ref ld, .int p1])).length) Slot.unset).toArray = ls at hl ⊢
  generalize ([.ref co, .ref ld, .int p1] : List Value).toArray = av at hts ⊢
  generalize hQ : MQ below _ av s _ _ A = QQ
  have hl : lv_has ls 3 [(0, .ref co), (1, .ref ld), (2, .int p1)] := hl
  have hP : va_P g vwCl [(ld, .inr (4, [.int ld_lines, .int ld_years, .int ld_card, .int ld_hurt, .int ld_people, .int ld_pairs, .long ld_strikes, .ref ld_rule, .ref ld_returns, .ref ld_forgets, .ref ld_death, .ref ld_move, .ref ld_begun, .ref ld_who, .ref ld_lost])), (co, .inr (2, [.int co_years, .int co_begun, .ref co_rule, .ref co_may, .ref co_reach, .ref co_first, .ref co_back, .ref co_got])), (co_first, .inl (cJ, 2, .inr (.inl co_first_c))), (co_back, .inl (cJ, 2, .inr (.inl co_back_c))), (co_got, .inl (cJ, 2, .inr (.inl co_got_c)))] s.heap := hP
  refine lv_aload_n hx hb dX2_costOf_0 rfl (lv_at hl 1 rfl) ?_
  refine va_get (D := g) (ci := 4) (v := .int ld_card) (C := RX4) (T := TX4) (N := 15) hx hb hts iX4 hown hK hP 0 rfl rfl 2 (by decide) (hts (.fieldLink RX2 101 "CardsAtYule$Land" "card" "I") (List.mem_cons_of_mem _ (List.mem_append_left _ (List.mem_of_getElem? (i := 0) rfl)))) (fun _ h9 => h9) rfl dX2_costOf_1 ?_
  refine lv_aload_n hx hb dX2_costOf_4 rfl (lv_at hl 0 rfl) ?_
  refine va_get (D := g) (ci := 2) (v := .ref co_first) (C := RX2) (T := TX2) (N := 8) hx hb hts iX2 hown hK hP 1 rfl rfl 5 (by decide) (hts (.fieldLink RX2 20 "CardsAtYule$Course" "first" "[J") (List.mem_cons_of_mem _ (List.mem_append_left _ (List.mem_of_getElem? (i := 1) rfl)))) (fun _ h9 => h9) rfl dX2_costOf_5 ?_
  refine lv_iload_n hx hb dX2_costOf_8 rfl (lv_at hl 2 rfl) ?_
  refine va_lald (D := g) hx hb hK hP 2 1 rfl rfl (vi_rg rfl hv_p1 (by decide) (by decide)) dX2_costOf_9 ?_
  refine lv_topl (fun y9 e9 => ?_)
  refine lv_aload_n hx hb dX2_costOf_10 rfl (lv_at hl 0 rfl) ?_
  refine va_get (D := g) (ci := 2) (v := .ref co_back) (C := RX2) (T := TX2) (N := 8) hx hb hts iX2 hown hK hP 1 rfl rfl 6 (by decide) (hts (.fieldLink RX2 23 "CardsAtYule$Course" "back" "[J") (List.mem_cons_of_mem _ (List.mem_append_left _ (List.mem_of_getElem? (i := 2) rfl)))) (fun _ h9 => h9) rfl dX2_costOf_11 ?_
  refine lv_iload_n hx hb dX2_costOf_14 rfl (lv_at hl 2 rfl) ?_
  refine va_lald (D := g) hx hb hK hP 3 1 rfl rfl (vi_rg rfl hv_p1 (by decide) (by decide)) dX2_costOf_15 ?_
  refine lv_topl (fun y15 e15 => ?_)
  refine lv_lor hx hb dX2_costOf_16 ?_
  refine lv_topl (fun y16 e16 => ?_)
  refine ro_i (va_runS (As := [.long y16]) (rest := [.int ld_card]) ⟨hx, hb, hml, hown, hts⟩ (q_J13_bitCount_95d88 l g cI cJ cB cZ cL y16 s.heap.size ) (va_cwS 1 hts (goodIn_app (g_3 (List.mem_cons_of_mem _ (List.mem_append_left _ (List.mem_of_getElem? (i := 3) rfl))) (List.mem_cons_of_mem _ (List.mem_append_left _ (List.mem_of_getElem? (i := 4) rfl))) (List.mem_cons_of_mem _ (List.mem_append_left _ (List.mem_of_getElem? (i := 5) rfl))) (by decide +kernel)) (goodIn_sub (fun _ h => List.mem_cons_of_mem _ (List.mem_append_right _ (List.mem_append_left _ h))) good_v_J13_bitCount_95d88)) rfl rfl rfl (by decide +kernel) ⟨Nat.le_of_ble_eq_true rfl, Nat.le_of_ble_eq_true rfl⟩) (ps_RO (wc := []) hK hP [] rfl) rfl rfl hl.1 rfl (lv_room (Nat.le_of_ble_eq_true rfl)) dX2_costOf_17 ⟨Nat.le_of_ble_eq_true rfl, Nat.le_of_ble_eq_true rfl⟩) hS hA hP (fun r17 u17 H locs hw17 hP hS => ?_)
  have hw17_0 := hw17
  refine lv_imul hx hb dX2_costOf_20 ?_
  refine lv_topi (fun y20 e20 => ?_)
  refine lv_aload_n hx hb dX2_costOf_21 rfl (lv_at hl 1 rfl) ?_
  refine va_get (D := g) (ci := 4) (v := .int ld_hurt) (C := RX4) (T := TX4) (N := 15) hx hb hts iX4 hown hK hP 0 rfl rfl 3 (by decide) (hts (.fieldLink RX2 104 "CardsAtYule$Land" "hurt" "I") (List.mem_cons_of_mem _ (List.mem_append_left _ (List.mem_of_getElem? (i := 6) rfl)))) (fun _ h9 => h9) rfl dX2_costOf_22 ?_
  refine lv_aload_n hx hb dX2_costOf_25 rfl (lv_at hl 0 rfl) ?_
  refine lv_iload_n hx hb dX2_costOf_26 rfl (lv_at hl 2 rfl) ?_
  refine ro_i (va_runV (As := [.int p1]) (rest := [.int ld_hurt, .int y20]) ⟨hx, hb, hml, hown, hts⟩ (q_X2_hurtsOf l g cI cJ cB cZ cL p1 co co_years co_begun co_rule co_may co_reach co_first co_back co_got co_first_c co_back_c co_got_c H.size hv_p1) (cwV 1 hts (goodIn_app (g_4 (List.mem_cons_of_mem _ (List.mem_append_left _ (List.mem_of_getElem? (i := 7) rfl))) (List.mem_cons_of_mem _ (List.mem_append_left _ (List.mem_of_getElem? (i := 8) rfl))) (List.mem_cons_of_mem _ (List.mem_append_left _ (List.mem_of_getElem? (i := 9) rfl))) (List.mem_cons_of_mem _ (List.mem_append_left _ (List.mem_of_getElem? (i := 10) rfl))) (by decide +kernel)) (goodIn_sub (fun _ h => List.mem_cons_of_mem _ (List.mem_append_right _ (List.mem_append_right _ (List.mem_append_left _ h)))) good_v_X2_hurtsOf)) rfl rfl rfl (by decide +kernel) ⟨Nat.le_of_ble_eq_true rfl, Nat.le_of_ble_eq_true rfl⟩) (pv_RO (q := (RX2, TX2, 8)) (ci := 2) (q0 := 0) (wc := [(co, .inr (2, [.int co_years, .int co_begun, .ref co_rule, .ref co_may, .ref co_reach, .ref co_first, .ref co_back, .ref co_got])), (co_first, .inl (cJ, 2, .inr (.inl co_first_c))), (co_back, .inl (cJ, 2, .inr (.inl co_back_c))), (co_got, .inl (cJ, 2, .inr (.inl co_got_c)))]) hK hP [1, 2, 3, 4] rfl rfl rfl) rfl rfl hl.1 rfl (lv_room (Nat.le_of_ble_eq_true rfl)) dX2_costOf_27 ⟨Nat.le_of_ble_eq_true rfl, Nat.le_of_ble_eq_true rfl⟩) hS hA hP (fun r27 u27 H locs hw27 hP hS => ?_)
  have hw27_0 := hw27
  refine lv_imul hx hb dX2_costOf_30 ?_
  refine lv_topi (fun y30 e30 => ?_)
  refine lv_iadd hx hb dX2_costOf_31 ?_
  refine lv_topi (fun y31 e31 => ?_)
  subst hQ
  exact W.iret (v := y31) hx hb hr (fun t ht hW => ⟨⟨y31, (), rfl, trivial, trivial⟩, hS.F ht⟩) hS.2.2 dX2_costOf_32
def v_X0_stateOfSide : List Cond := .code yX0_stateOfSide cX0_stateOfSide 6 (some .int) :: (([] : List Cond) ++ ([] : List Cond))
theorem good_v_X0_stateOfSide : v_X0_stateOfSide.all goodWord = true := ga_c (by decide +kernel) (ga_a (by decide +kernel) rfl)
set_option maxHeartbeats 4000000 in
set_option maxRecDepth 100000 in
theorem q_X0_stateOfSide (l : Launch) (g : va_G) (cI cJ cB cZ cL : ClassId) (p0 : Int64) (p1 : Int32) (p2 : Int32) (sz : Nat)  : Met l yX0_stateOfSide v_X0_stateOfSide ({ frames := 0, cells := 0, slots := 0, locals := 0 }) (va_Pc [.long p0, .int p1, .int p2] (pRO g (tyT cI cJ cB cZ cL) [] sz)) (va_Qi (fun (r : Int32) (u : Unit) => (ir r.toInt 0 3)) (fun (_ : Unit) (_ : State) => True) (va_A [] sz)) 0 0 (va_A [] sz) := by
  refine Met.ofW (cc := cX0_stateOfSide) (maxL := 6) (ret := (some .int)) (by decide) rfl ?_
  intro p e s m args below meth c s₁ B hml hv
  obtain ⟨rfl, hsz, hP, hK⟩ := hv
  have hx := B.exec
  have hb := B.bytes
  have hr := B.returns
  have hts := atoms_spec (ws := v_X0_stateOfSide) B.pre
  have hown : s.vm.findClass RX0 = some m.cls := findClass_of_methodNamed B.named
  have hlocks := B.notSynchronized
  clear B
  subst hsz
  generalize hAe : (va_A [] s.heap.size) = A
  have hA : ∀ q : Nat, s.heap.size ≤ q → A q := fun q h => by rw [← hAe]; exact Or.inr h
  have hS : va_S A s.heap s.heap [] := va_S.rf
  have hl := lv_entry ([.long p0, .int p1, .int p2]) (n := 6) (Nat.le_of_ble_eq_true rfl)
  rw [lg_entry_eq]
  generalize (lg_sl ([.long p0, .int p1, .int p2]) ++ List.replicate (6 - (lg_sl ([.long p0, .int p1, .int p2])).length) Slot.unset).toArray = ls at hl ⊢
  generalize ([.long p0, .int p1, .int p2] : List Value).toArray = av at hts ⊢
  generalize hQ : MQ below _ av s _ _ A = QQ
  have hl : lv_has ls 6 [(0, .long p0), (2, .int p1), (3, .int p2)] := hl
  have hP : va_P g vwCl [] s.heap := hP
  refine lv_lload_n hx hb dX0_stateOfSide_0 rfl (lv_at hl 0 rfl) ?_
  refine lv_iconst (v := 2) hx hb dX0_stateOfSide_1 (by decide) ?_
  refine lv_lshl (v := (p0 <<< ((2 : Int32).toInt64 &&& 63))) hx hb dX0_stateOfSide_2 rfl ?_
  refine lv_topl (fun y2 e2 => ?_)
  refine lv_iload_n hx hb dX0_stateOfSide_3 rfl (lv_at hl 1 rfl) ?_
  refine lv_iconst (v := 1) hx hb dX0_stateOfSide_4 (by decide) ?_
  refine lv_iand hx hb dX0_stateOfSide_5 ?_
  refine lv_topi (fun y5 e5 => ?_)
  have r5 : ir y5.toInt 0 1 := by rw [e5]; exact an_y rfl (ir_c 1) (by decide)
  refine lv_iconst (v := 1) hx hb dX0_stateOfSide_6 (by decide) ?_
  refine lv_ishl hx hb dX0_stateOfSide_7 ?_
  refine lv_topi (fun y7 e7 => ?_)
  have r7 : ir y7.toInt 0 2 := by rw [e7]; exact sl_r 1 rfl r5 (by decide) (by decide) (by decide) (by decide) (by decide)
  refine lv_i2l (v := y7.toInt64) hx hb dX0_stateOfSide_8 rfl ?_
  refine lv_lor hx hb dX0_stateOfSide_9 ?_
  refine lv_topl (fun y9 e9 => ?_)
  refine lv_iload_n hx hb dX0_stateOfSide_10 rfl (lv_at hl 1 rfl) ?_
  refine lv_iconst (v := 1) hx hb dX0_stateOfSide_11 (by decide) ?_
  refine lv_ishr hx hb dX0_stateOfSide_12 ?_
  refine lv_topi (fun y12 e12 => ?_)
  refine lv_i2l (v := y12.toInt64) hx hb dX0_stateOfSide_13 rfl ?_
  refine lv_lor hx hb dX0_stateOfSide_14 ?_
  refine lv_topl (fun y14 e14 => ?_)
  refine lv_lstore (lv' := [(4, .long y14), (0, .long p0), (2, .int p1), (3, .int p2)]) hx hb dX0_stateOfSide_15 hl (by decide) rfl (fun ls hl => ?_)
  refine lv_lload hx hb dX0_stateOfSide_17 (lv_at hl 0 rfl) ?_
  refine lv_iload_n hx hb dX0_stateOfSide_19 rfl (lv_at hl 3 rfl) ?_
  refine lv_iconst (v := 1) hx hb dX0_stateOfSide_20 (by decide) ?_
  refine lv_iadd hx hb dX0_stateOfSide_21 ?_
  refine lv_topi (fun y21 e21 => ?_)
  refine lv_lshr (v := (y14 >>> (y21.toInt64 &&& 63))) hx hb dX0_stateOfSide_22 rfl ?_
  refine lv_topl (fun y22 e22 => ?_)
  refine lv_lconst (v := 1) hx hb dX0_stateOfSide_23 (by decide) ?_
  refine lv_land hx hb dX0_stateOfSide_24 ?_
  refine lv_topl (fun y24 e24 => ?_)
  have r24 : ir y24.toInt 0 1 := by rw [e24]; exact lan_y (by decide)
  refine lv_l2i (v := y24.toInt32) hx hb dX0_stateOfSide_25 rfl ?_
  refine lv_topi (fun y25 e25 => ?_)
  have q25 : y25.toInt = y24.toInt := by rw [e25]; exact li_z rfl r24 (by decide) (by decide)
  have r25 : ir y25.toInt 0 1 := q25 ▸ r24
  refine lv_lload hx hb dX0_stateOfSide_26 (lv_at hl 0 rfl) ?_
  refine lv_iload_n hx hb dX0_stateOfSide_28 rfl (lv_at hl 3 rfl) ?_
  refine lv_lshr (v := (y14 >>> (p2.toInt64 &&& 63))) hx hb dX0_stateOfSide_29 rfl ?_
  refine lv_topl (fun y29 e29 => ?_)
  refine lv_lconst (v := 1) hx hb dX0_stateOfSide_30 (by decide) ?_
  refine lv_land hx hb dX0_stateOfSide_31 ?_
  refine lv_topl (fun y31 e31 => ?_)
  have r31 : ir y31.toInt 0 1 := by rw [e31]; exact lan_y (by decide)
  refine lv_l2i (v := y31.toInt32) hx hb dX0_stateOfSide_32 rfl ?_
  refine lv_topi (fun y32 e32 => ?_)
  have q32 : y32.toInt = y31.toInt := by rw [e32]; exact li_z rfl r31 (by decide) (by decide)
  have r32 : ir y32.toInt 0 1 := q32 ▸ r31
  refine lv_iconst (v := 1) hx hb dX0_stateOfSide_33 (by decide) ?_
  refine lv_ishl hx hb dX0_stateOfSide_34 ?_
  refine lv_topi (fun y34 e34 => ?_)
  have r34 : ir y34.toInt 0 2 := by rw [e34]; exact sl_r 1 rfl r32 (by decide) (by decide) (by decide) (by decide) (by decide)
  refine lv_ior hx hb dX0_stateOfSide_35 ?_
  refine lv_topi (fun y35 e35 => ?_)
  have r35 : ir y35.toInt 0 3 := by rw [e35]; exact or_r 2 rfl rfl r25 r34 (by decide) (by decide) (by decide) (by decide) (by decide)
  subst hQ
  exact W.iret (v := y35) hx hb hr (fun t ht hW => ⟨⟨y35, (), rfl, r35, trivial⟩, hS.F ht⟩) hS.2.2 dX0_stateOfSide_36
