def v_J6_bitCount_0f7a4 : List Cond := .code yJ6_bitCount_0f7a4 cJ6_bitCount_0f7a4 1 (some .int) :: (([.constant RJ6 265 (1431655765), .constant RJ6 266 (858993459), .constant RJ6 267 (252645135)] : List Cond) ++ ([] : List Cond))
theorem good_v_J6_bitCount_0f7a4 : v_J6_bitCount_0f7a4.all goodWord = true := ga_c (by decide +kernel) (ga_a (by decide +kernel) rfl)
set_option maxHeartbeats 4000000 in
set_option maxRecDepth 100000 in
theorem q_J6_bitCount_0f7a4 (l : Launch) (g : va_G) (cI cJ cB cZ cL : ClassId) (p0 : Int32) (sz : Nat)  : Met l yJ6_bitCount_0f7a4 v_J6_bitCount_0f7a4 ({ frames := 0, cells := 0, slots := 0, locals := 0 }) (va_Pc [.int p0] (pRO g (tyT cI cJ cB cZ cL) [] sz)) (va_Qi (fun (r : Int32) (u : Unit) => (ir r.toInt 0 63)) (fun (_ : Unit) (_ : State) => True) (va_A [] sz)) 0 0 (va_A [] sz) := by
  refine Met.ofW (cc := cJ6_bitCount_0f7a4) (maxL := 1) (ret := (some .int)) (by decide) rfl ?_
  intro p e s m args below meth c s₁ B hml hv
  obtain ⟨rfl, hsz, hP, hK⟩ := hv
  have hx := B.exec
  have hb := B.bytes
  have hr := B.returns
  have hts := atoms_spec (ws := v_J6_bitCount_0f7a4) B.pre
  have hown : s.vm.findClass RJ6 = some m.cls := findClass_of_methodNamed B.named
  have hlocks := B.notSynchronized
  clear B
  subst hsz
  generalize hAe : (va_A [] s.heap.size) = A
  have hA : ∀ q : Nat, s.heap.size ≤ q → A q := fun q h => by rw [← hAe]; exact Or.inr h
  have hS : va_S A s.heap s.heap [] := va_S.rf
  have hl := lv_entry ([.int p0]) (n := 1) (Nat.le_of_ble_eq_true rfl)
  rw [lg_entry_eq]
  generalize (lg_sl ([.int p0]) ++ List.replicate (1 - (lg_sl ([.int p0])).length) Slot.unset).toArray = ls at hl ⊢
  generalize ([.int p0] : List Value).toArray = av at hts ⊢
  generalize hQ : MQ below _ av s _ _ A = QQ
  have hl : lv_has ls 1 [(0, .int p0)] := hl
  have hP : va_P g vwCl [] s.heap := hP
  refine lv_iload_n hx hb dJ6_bitCount_0f7a4_0 rfl (lv_at hl 0 rfl) ?_
  refine lv_iload_n hx hb dJ6_bitCount_0f7a4_1 rfl (lv_at hl 0 rfl) ?_
  refine lv_iconst (v := 1) hx hb dJ6_bitCount_0f7a4_2 (by decide) ?_
  refine lv_iushr (v := (p0.toUInt32 >>> ((1 : Int32).toUInt32 &&& Int32.toUInt32 31)).toInt32) hx hb dJ6_bitCount_0f7a4_3 rfl ?_
  refine lv_topi (fun y3 e3 => ?_)
  refine lv_ldcw (v := 1431655765) hx hb hown (hts (.constant RJ6 265 (1431655765)) (List.mem_cons_of_mem _ (List.mem_append_left _ (List.mem_of_getElem? (i := 0) rfl)))) dJ6_bitCount_0f7a4_4 ?_
  refine lv_iand hx hb dJ6_bitCount_0f7a4_7 ?_
  refine lv_topi (fun y7 e7 => ?_)
  have r7 : ir y7.toInt 0 1431655765 := by rw [e7]; exact an_y rfl (ir_c 1431655765) (by decide)
  refine lv_isub hx hb dJ6_bitCount_0f7a4_8 ?_
  refine lv_topi (fun y8 e8 => ?_)
  refine lv_istore_n (lv' := [(0, .int y8)]) hx hb dJ6_bitCount_0f7a4_9 rfl hl (by decide) rfl (fun ls hl => ?_)
  refine lv_iload_n hx hb dJ6_bitCount_0f7a4_10 rfl (lv_at hl 0 rfl) ?_
  refine lv_ldcw (v := 858993459) hx hb hown (hts (.constant RJ6 266 (858993459)) (List.mem_cons_of_mem _ (List.mem_append_left _ (List.mem_of_getElem? (i := 1) rfl)))) dJ6_bitCount_0f7a4_11 ?_
  refine lv_iand hx hb dJ6_bitCount_0f7a4_14 ?_
  refine lv_topi (fun y14 e14 => ?_)
  have r14 : ir y14.toInt 0 858993459 := by rw [e14]; exact an_y rfl (ir_c 858993459) (by decide)
  refine lv_iload_n hx hb dJ6_bitCount_0f7a4_15 rfl (lv_at hl 0 rfl) ?_
  refine lv_iconst (v := 2) hx hb dJ6_bitCount_0f7a4_16 (by decide) ?_
  refine lv_iushr (v := (y8.toUInt32 >>> ((2 : Int32).toUInt32 &&& Int32.toUInt32 31)).toInt32) hx hb dJ6_bitCount_0f7a4_17 rfl ?_
  refine lv_topi (fun y17 e17 => ?_)
  refine lv_ldcw (v := 858993459) hx hb hown (hts (.constant RJ6 266 (858993459)) (List.mem_cons_of_mem _ (List.mem_append_left _ (List.mem_of_getElem? (i := 1) rfl)))) dJ6_bitCount_0f7a4_18 ?_
  refine lv_iand hx hb dJ6_bitCount_0f7a4_21 ?_
  refine lv_topi (fun y21 e21 => ?_)
  have r21 : ir y21.toInt 0 858993459 := by rw [e21]; exact an_y rfl (ir_c 858993459) (by decide)
  refine lv_iadd hx hb dJ6_bitCount_0f7a4_22 ?_
  refine lv_topi (fun y22 e22 => ?_)
  have q22 : y22.toInt = y14.toInt + y21.toInt := by rw [e22]; exact ad_z rfl rfl r14 r21 (by decide) (by decide)
  have r22 : ir y22.toInt 0 1717986918 := ad_r q22 r14 r21 (by decide) (by decide)
  refine lv_istore_n (lv' := [(0, .int y22)]) hx hb dJ6_bitCount_0f7a4_23 rfl hl (by decide) rfl (fun ls hl => ?_)
  refine lv_iload_n hx hb dJ6_bitCount_0f7a4_24 rfl (lv_at hl 0 rfl) ?_
  refine lv_iload_n hx hb dJ6_bitCount_0f7a4_25 rfl (lv_at hl 0 rfl) ?_
  refine lv_iconst (v := 4) hx hb dJ6_bitCount_0f7a4_26 (by decide) ?_
  refine lv_iushr (v := (y22.toUInt32 >>> ((4 : Int32).toUInt32 &&& Int32.toUInt32 31)).toInt32) hx hb dJ6_bitCount_0f7a4_27 rfl ?_
  refine lv_topi (fun y27 e27 => ?_)
  refine lv_iadd hx hb dJ6_bitCount_0f7a4_28 ?_
  refine lv_topi (fun y28 e28 => ?_)
  refine lv_ldcw (v := 252645135) hx hb hown (hts (.constant RJ6 267 (252645135)) (List.mem_cons_of_mem _ (List.mem_append_left _ (List.mem_of_getElem? (i := 2) rfl)))) dJ6_bitCount_0f7a4_29 ?_
  refine lv_iand hx hb dJ6_bitCount_0f7a4_32 ?_
  refine lv_topi (fun y32 e32 => ?_)
  have r32 : ir y32.toInt 0 252645135 := by rw [e32]; exact an_y rfl (ir_c 252645135) (by decide)
  refine lv_istore_n (lv' := [(0, .int y32)]) hx hb dJ6_bitCount_0f7a4_33 rfl hl (by decide) rfl (fun ls hl => ?_)
  refine lv_iload_n hx hb dJ6_bitCount_0f7a4_34 rfl (lv_at hl 0 rfl) ?_
  refine lv_iload_n hx hb dJ6_bitCount_0f7a4_35 rfl (lv_at hl 0 rfl) ?_
  refine lv_bipush (v := 8) hx hb dJ6_bitCount_0f7a4_36 (by decide) ?_
  refine lv_iushr (v := (y32.toUInt32 >>> ((8 : Int32).toUInt32 &&& Int32.toUInt32 31)).toInt32) hx hb dJ6_bitCount_0f7a4_38 rfl ?_
  refine lv_topi (fun y38 e38 => ?_)
  refine lv_iadd hx hb dJ6_bitCount_0f7a4_39 ?_
  refine lv_topi (fun y39 e39 => ?_)
  refine lv_istore_n (lv' := [(0, .int y39)]) hx hb dJ6_bitCount_0f7a4_40 rfl hl (by decide) rfl (fun ls hl => ?_)
  refine lv_iload_n hx hb dJ6_bitCount_0f7a4_41 rfl (lv_at hl 0 rfl) ?_
  refine lv_iload_n hx hb dJ6_bitCount_0f7a4_42 rfl (lv_at hl 0 rfl) ?_
  refine lv_bipush (v := 16) hx hb dJ6_bitCount_0f7a4_43 (by decide) ?_
  refine lv_iushr (v := (y39.toUInt32 >>> ((16 : Int32).toUInt32 &&& Int32.toUInt32 31)).toInt32) hx hb dJ6_bitCount_0f7a4_45 rfl ?_
  refine lv_topi (fun y45 e45 => ?_)
  refine lv_iadd hx hb dJ6_bitCount_0f7a4_46 ?_
  refine lv_topi (fun y46 e46 => ?_)
  refine lv_istore_n (lv' := [(0, .int y46)]) hx hb dJ6_bitCount_0f7a4_47 rfl hl (by decide) rfl (fun ls hl => ?_)
  refine lv_iload_n hx hb dJ6_bitCount_0f7a4_48 rfl (lv_at hl 0 rfl) ?_
  refine lv_bipush (v := 63) hx hb dJ6_bitCount_0f7a4_49 (by decide) ?_
  refine lv_iand hx hb dJ6_bitCount_0f7a4_51 ?_
  refine lv_topi (fun y51 e51 => ?_)
  have r51 : ir y51.toInt 0 63 := by rw [e51]; exact an_y rfl (ir_c 63) (by decide)
  subst hQ
  exact W.iret (v := y51) hx hb hr (fun t ht hW => ⟨⟨y51, (), rfl, r51, trivial⟩, hS.F ht⟩) hS.2.2 dJ6_bitCount_0f7a4_52
def v_J13_bitCount_95d88 : List Cond := .code yJ13_bitCount_95d88 cJ13_bitCount_95d88 2 (some .int) :: (([.constantLong RJ13 314 (6148914691236517205), .constantLong RJ13 316 (3689348814741910323), .constantLong RJ13 318 (1085102592571150095)] : List Cond) ++ ([] : List Cond))
theorem good_v_J13_bitCount_95d88 : v_J13_bitCount_95d88.all goodWord = true := ga_c (by decide +kernel) (ga_a (by decide +kernel) rfl)
set_option maxHeartbeats 4000000 in
set_option maxRecDepth 100000 in
theorem q_J13_bitCount_95d88 (l : Launch) (g : va_G) (cI cJ cB cZ cL : ClassId) (p0 : Int64) (sz : Nat)  : Met l yJ13_bitCount_95d88 v_J13_bitCount_95d88 ({ frames := 0, cells := 0, slots := 0, locals := 0 }) (va_Pc [.long p0] (pRO g (tyT cI cJ cB cZ cL) [] sz)) (va_Qi (fun (r : Int32) (u : Unit) => (ir r.toInt 0 127)) (fun (_ : Unit) (_ : State) => True) (va_A [] sz)) 0 0 (va_A [] sz) := by
  refine Met.ofW (cc := cJ13_bitCount_95d88) (maxL := 2) (ret := (some .int)) (by decide) rfl ?_
  intro p e s m args below meth c s₁ B hml hv
  obtain ⟨rfl, hsz, hP, hK⟩ := hv
  have hx := B.exec
  have hb := B.bytes
  have hr := B.returns
  have hts := atoms_spec (ws := v_J13_bitCount_95d88) B.pre
  have hown : s.vm.findClass RJ13 = some m.cls := findClass_of_methodNamed B.named
  have hlocks := B.notSynchronized
  clear B
  subst hsz
  generalize hAe : (va_A [] s.heap.size) = A
  have hA : ∀ q : Nat, s.heap.size ≤ q → A q := fun q h => by rw [← hAe]; exact Or.inr h
  have hS : va_S A s.heap s.heap [] := va_S.rf
  have hl := lv_entry ([.long p0]) (n := 2) (Nat.le_of_ble_eq_true rfl)
  rw [lg_entry_eq]
  generalize (lg_sl ([.long p0]) ++ List.replicate (2 - (lg_sl ([.long p0])).length) Slot.unset).toArray = ls at hl ⊢
  generalize ([.long p0] : List Value).toArray = av at hts ⊢
  generalize hQ : MQ below _ av s _ _ A = QQ
  have hl : lv_has ls 2 [(0, .long p0)] := hl
  have hP : va_P g vwCl [] s.heap := hP
  refine lv_lload_n hx hb dJ13_bitCount_95d88_0 rfl (lv_at hl 0 rfl) ?_
  refine lv_lload_n hx hb dJ13_bitCount_95d88_1 rfl (lv_at hl 0 rfl) ?_
  refine lv_iconst (v := 1) hx hb dJ13_bitCount_95d88_2 (by decide) ?_
  refine lv_lushr (v := (p0.toUInt64 >>> ((1 : Int32).toInt64.toUInt64 &&& Int64.toUInt64 63)).toInt64) hx hb dJ13_bitCount_95d88_3 rfl ?_
  refine lv_topl (fun y3 e3 => ?_)
  refine lv_ldc2 (v := 6148914691236517205) hx hb hown (hts (.constantLong RJ13 314 (6148914691236517205)) (List.mem_cons_of_mem _ (List.mem_append_left _ (List.mem_of_getElem? (i := 0) rfl)))) dJ13_bitCount_95d88_4 ?_
  refine lv_land hx hb dJ13_bitCount_95d88_7 ?_
  refine lv_topl (fun y7 e7 => ?_)
  have r7 : ir y7.toInt 0 6148914691236517205 := by rw [e7]; exact lan_y (by decide)
  refine lv_lsub hx hb dJ13_bitCount_95d88_8 ?_
  refine lv_topl (fun y8 e8 => ?_)
  refine lv_lstore_n (lv' := [(0, .long y8)]) hx hb dJ13_bitCount_95d88_9 rfl hl (by decide) rfl (fun ls hl => ?_)
  refine lv_lload_n hx hb dJ13_bitCount_95d88_10 rfl (lv_at hl 0 rfl) ?_
  refine lv_ldc2 (v := 3689348814741910323) hx hb hown (hts (.constantLong RJ13 316 (3689348814741910323)) (List.mem_cons_of_mem _ (List.mem_append_left _ (List.mem_of_getElem? (i := 1) rfl)))) dJ13_bitCount_95d88_11 ?_
  refine lv_land hx hb dJ13_bitCount_95d88_14 ?_
  refine lv_topl (fun y14 e14 => ?_)
  have r14 : ir y14.toInt 0 3689348814741910323 := by rw [e14]; exact lan_y (by decide)
  refine lv_lload_n hx hb dJ13_bitCount_95d88_15 rfl (lv_at hl 0 rfl) ?_
  refine lv_iconst (v := 2) hx hb dJ13_bitCount_95d88_16 (by decide) ?_
  refine lv_lushr (v := (y8.toUInt64 >>> ((2 : Int32).toInt64.toUInt64 &&& Int64.toUInt64 63)).toInt64) hx hb dJ13_bitCount_95d88_17 rfl ?_
  refine lv_topl (fun y17 e17 => ?_)
  refine lv_ldc2 (v := 3689348814741910323) hx hb hown (hts (.constantLong RJ13 316 (3689348814741910323)) (List.mem_cons_of_mem _ (List.mem_append_left _ (List.mem_of_getElem? (i := 1) rfl)))) dJ13_bitCount_95d88_18 ?_
  refine lv_land hx hb dJ13_bitCount_95d88_21 ?_
  refine lv_topl (fun y21 e21 => ?_)
  have r21 : ir y21.toInt 0 3689348814741910323 := by rw [e21]; exact lan_y (by decide)
  refine lv_ladd hx hb dJ13_bitCount_95d88_22 ?_
  refine lv_topl (fun y22 e22 => ?_)
  refine lv_lstore_n (lv' := [(0, .long y22)]) hx hb dJ13_bitCount_95d88_23 rfl hl (by decide) rfl (fun ls hl => ?_)
  refine lv_lload_n hx hb dJ13_bitCount_95d88_24 rfl (lv_at hl 0 rfl) ?_
  refine lv_lload_n hx hb dJ13_bitCount_95d88_25 rfl (lv_at hl 0 rfl) ?_
  refine lv_iconst (v := 4) hx hb dJ13_bitCount_95d88_26 (by decide) ?_
  refine lv_lushr (v := (y22.toUInt64 >>> ((4 : Int32).toInt64.toUInt64 &&& Int64.toUInt64 63)).toInt64) hx hb dJ13_bitCount_95d88_27 rfl ?_
  refine lv_topl (fun y27 e27 => ?_)
  refine lv_ladd hx hb dJ13_bitCount_95d88_28 ?_
  refine lv_topl (fun y28 e28 => ?_)
  refine lv_ldc2 (v := 1085102592571150095) hx hb hown (hts (.constantLong RJ13 318 (1085102592571150095)) (List.mem_cons_of_mem _ (List.mem_append_left _ (List.mem_of_getElem? (i := 2) rfl)))) dJ13_bitCount_95d88_29 ?_
  refine lv_land hx hb dJ13_bitCount_95d88_32 ?_
  refine lv_topl (fun y32 e32 => ?_)
  have r32 : ir y32.toInt 0 1085102592571150095 := by rw [e32]; exact lan_y (by decide)
  refine lv_lstore_n (lv' := [(0, .long y32)]) hx hb dJ13_bitCount_95d88_33 rfl hl (by decide) rfl (fun ls hl => ?_)
  refine lv_lload_n hx hb dJ13_bitCount_95d88_34 rfl (lv_at hl 0 rfl) ?_
  refine lv_lload_n hx hb dJ13_bitCount_95d88_35 rfl (lv_at hl 0 rfl) ?_
  refine lv_bipush (v := 8) hx hb dJ13_bitCount_95d88_36 (by decide) ?_
  refine lv_lushr (v := (y32.toUInt64 >>> ((8 : Int32).toInt64.toUInt64 &&& Int64.toUInt64 63)).toInt64) hx hb dJ13_bitCount_95d88_38 rfl ?_
  refine lv_topl (fun y38 e38 => ?_)
  refine lv_ladd hx hb dJ13_bitCount_95d88_39 ?_
  refine lv_topl (fun y39 e39 => ?_)
  refine lv_lstore_n (lv' := [(0, .long y39)]) hx hb dJ13_bitCount_95d88_40 rfl hl (by decide) rfl (fun ls hl => ?_)
  refine lv_lload_n hx hb dJ13_bitCount_95d88_41 rfl (lv_at hl 0 rfl) ?_
  refine lv_lload_n hx hb dJ13_bitCount_95d88_42 rfl (lv_at hl 0 rfl) ?_
  refine lv_bipush (v := 16) hx hb dJ13_bitCount_95d88_43 (by decide) ?_
  refine lv_lushr (v := (y39.toUInt64 >>> ((16 : Int32).toInt64.toUInt64 &&& Int64.toUInt64 63)).toInt64) hx hb dJ13_bitCount_95d88_45 rfl ?_
  refine lv_topl (fun y45 e45 => ?_)
  refine lv_ladd hx hb dJ13_bitCount_95d88_46 ?_
  refine lv_topl (fun y46 e46 => ?_)
  refine lv_lstore_n (lv' := [(0, .long y46)]) hx hb dJ13_bitCount_95d88_47 rfl hl (by decide) rfl (fun ls hl => ?_)
  refine lv_lload_n hx hb dJ13_bitCount_95d88_48 rfl (lv_at hl 0 rfl) ?_
  refine lv_lload_n hx hb dJ13_bitCount_95d88_49 rfl (lv_at hl 0 rfl) ?_
  refine lv_bipush (v := 32) hx hb dJ13_bitCount_95d88_50 (by decide) ?_
  refine lv_lushr (v := (y46.toUInt64 >>> ((32 : Int32).toInt64.toUInt64 &&& Int64.toUInt64 63)).toInt64) hx hb dJ13_bitCount_95d88_52 rfl ?_
  refine lv_topl (fun y52 e52 => ?_)
  refine lv_ladd hx hb dJ13_bitCount_95d88_53 ?_
  refine lv_topl (fun y53 e53 => ?_)
  refine lv_lstore_n (lv' := [(0, .long y53)]) hx hb dJ13_bitCount_95d88_54 rfl hl (by decide) rfl (fun ls hl => ?_)
  refine lv_lload_n hx hb dJ13_bitCount_95d88_55 rfl (lv_at hl 0 rfl) ?_
  refine lv_l2i (v := y53.toInt32) hx hb dJ13_bitCount_95d88_56 rfl ?_
  refine lv_topi (fun y56 e56 => ?_)
  refine lv_bipush (v := 127) hx hb dJ13_bitCount_95d88_57 (by decide) ?_
  refine lv_iand hx hb dJ13_bitCount_95d88_59 ?_
  refine lv_topi (fun y59 e59 => ?_)
  have r59 : ir y59.toInt 0 127 := by rw [e59]; exact an_y rfl (ir_c 127) (by decide)
  subst hQ
  exact W.iret (v := y59) hx hb hr (fun t ht hW => ⟨⟨y59, (), rfl, r59, trivial⟩, hS.F ht⟩) hS.2.2 dJ13_bitCount_95d88_60
def v_J6_numberOfLeadingZeros_0f7a4 : List Cond := .code yJ6_numberOfLeadingZeros_0f7a4 cJ6_numberOfLeadingZeros_0f7a4 2 (some .int) :: (([.constant RJ6 264 (65536)] : List Cond) ++ ([] : List Cond))
theorem good_v_J6_numberOfLeadingZeros_0f7a4 : v_J6_numberOfLeadingZeros_0f7a4.all goodWord = true := ga_c (by decide +kernel) (ga_a (by decide +kernel) rfl)
set_option maxHeartbeats 4000000 in
set_option maxRecDepth 100000 in
theorem q_J6_numberOfLeadingZeros_0f7a4 (l : Launch) (g : va_G) (cI cJ cB cZ cL : ClassId) (p0 : Int32) (sz : Nat)  : Met l yJ6_numberOfLeadingZeros_0f7a4 v_J6_numberOfLeadingZeros_0f7a4 ({ frames := 0, cells := 0, slots := 0, locals := 0 }) (va_Pc [.int p0] (pRO g (tyT cI cJ cB cZ cL) [] sz)) (va_Qi (fun (r : Int32) (u : Unit) => True) (fun (_ : Unit) (_ : State) => True) (va_A [] sz)) 0 0 (va_A [] sz) := by
  refine Met.ofW (cc := cJ6_numberOfLeadingZeros_0f7a4) (maxL := 2) (ret := (some .int)) (by decide) rfl ?_
  intro p e s m args below meth c s₁ B hml hv
  obtain ⟨rfl, hsz, hP, hK⟩ := hv
  have hx := B.exec
  have hb := B.bytes
  have hr := B.returns
  have hts := atoms_spec (ws := v_J6_numberOfLeadingZeros_0f7a4) B.pre
  have hown : s.vm.findClass RJ6 = some m.cls := findClass_of_methodNamed B.named
  have hlocks := B.notSynchronized
  clear B
  subst hsz
  generalize hAe : (va_A [] s.heap.size) = A
  have hA : ∀ q : Nat, s.heap.size ≤ q → A q := fun q h => by rw [← hAe]; exact Or.inr h
  have hS : va_S A s.heap s.heap [] := va_S.rf
  have hl := lv_entry ([.int p0]) (n := 2) (Nat.le_of_ble_eq_true rfl)
  rw [lg_entry_eq]
  generalize (lg_sl ([.int p0]) ++ List.replicate (2 - (lg_sl ([.int p0])).length) Slot.unset).toArray = ls at hl ⊢
  generalize ([.int p0] : List Value).toArray = av at hts ⊢
  generalize hQ : MQ below _ av s _ _ A = QQ
  have hl : lv_has ls 2 [(0, .int p0)] := hl
  have hP : va_P g vwCl [] s.heap := hP
  refine lv_iload_n hx hb dJ6_numberOfLeadingZeros_0f7a4_0 rfl (lv_at hl 0 rfl) ?_
  refine lv_if_gt (tgt := 15) hx hb dJ6_numberOfLeadingZeros_0f7a4_1 (by decide) (fun c1 => ?_) (fun c1 => ?_)
  rotate_left 1
  · have f1 := (show p0.toInt ≤ 0 from z_nlt rfl rfl c1)
    have r1a : ir p0.toInt (-2147483648) 0 := ir_lea f1 (rg_all p0) (ir_c 0) (by decide)
    refine lv_iload_n hx hb dJ6_numberOfLeadingZeros_0f7a4_4 rfl (lv_at hl 0 rfl) ?_
    refine lv_if_ne (tgt := 13) hx hb dJ6_numberOfLeadingZeros_0f7a4_5 (by decide) (fun c5 => ?_) (fun c5 => ?_)
    · have f5 := (show p0.toInt ≠ 0 from z_ne rfl rfl c5)
      have r5a : ir p0.toInt (-2147483648) (-1) := ir_neh f5 r1a (by decide) (by decide)
      refine lv_iconst (v := 0) hx hb dJ6_numberOfLeadingZeros_0f7a4_13 (by decide) ?_
      subst hQ
      exact W.iret (v := 0) hx hb hr (fun t ht hW => ⟨⟨0, (), rfl, trivial, trivial⟩, hS.F ht⟩) hS.2.2 dJ6_numberOfLeadingZeros_0f7a4_14
    have f5 := (show p0.toInt = 0 from z_eq rfl rfl c5)
    have r5a : ir p0.toInt 0 0 := ir_eqa f5 r1a (ir_c 0) (by decide) (by decide)
    refine lv_bipush (v := 32) hx hb dJ6_numberOfLeadingZeros_0f7a4_8 (by decide) ?_
    refine lv_goto (tgt := 14) hx hb dJ6_numberOfLeadingZeros_0f7a4_10 (by decide) ?_
    subst hQ
    exact W.iret (v := 32) hx hb hr (fun t ht hW => ⟨⟨32, (), rfl, trivial, trivial⟩, hS.F ht⟩) hS.2.2 dJ6_numberOfLeadingZeros_0f7a4_14
  have f1 := (show 0 < p0.toInt from z_lt rfl rfl c1)
  have r1a : ir p0.toInt 1 2147483647 := ir_ltb f1 (ir_c 0) (rg_all p0) (by decide)
  refine lv_bipush (v := 31) hx hb dJ6_numberOfLeadingZeros_0f7a4_15 (by decide) ?_
  refine lv_istore_n (lv' := [(1, .int 31), (0, .int p0)]) hx hb dJ6_numberOfLeadingZeros_0f7a4_17 rfl hl (by decide) rfl (fun ls hl => ?_)
  refine lv_iload_n hx hb dJ6_numberOfLeadingZeros_0f7a4_18 rfl (lv_at hl 1 rfl) ?_
  refine lv_ldcw (v := 65536) hx hb hown (hts (.constant RJ6 264 (65536)) (List.mem_cons_of_mem _ (List.mem_append_left _ (List.mem_of_getElem? (i := 0) rfl)))) dJ6_numberOfLeadingZeros_0f7a4_19 ?_
  have J33 : ∀ (j33_l0 : Int32) (j33_l1 : Int32) (H : Heap) (locs : List Loc) (ls : Array Slot), (ir j33_l1.toInt 15 31) → va_P g vwCl [] H → va_S A s.heap H locs → lv_has ls 2 [(0, .int j33_l0), (1, .int j33_l1)] → W p l e (headSpec v_J6_numberOfLeadingZeros_0f7a4 ({ frames := 0, cells := 0, slots := 0, locals := 0 })).room s m av below meth c H locs 0 0 QQ (F0 m 33 ls []) := by
    intro j33_l0 j33_l1 H locs ls hj33_l1 hP hS hl
    refine lv_iload_n hx hb dJ6_numberOfLeadingZeros_0f7a4_33 rfl (lv_at hl 0 rfl) ?_
    refine lv_sipush (v := 256) hx hb dJ6_numberOfLeadingZeros_0f7a4_34 (by decide) ?_
    have J48 : ∀ (j48_l0 : Int32) (j48_l1 : Int32) (H : Heap) (locs : List Loc) (ls : Array Slot), (ir j48_l1.toInt 7 31) → (ir j33_l0.toInt (-2147483648) 2147483647) → va_P g vwCl [] H → va_S A s.heap H locs → lv_has ls 2 [(0, .int j48_l0), (1, .int j48_l1)] → W p l e (headSpec v_J6_numberOfLeadingZeros_0f7a4 ({ frames := 0, cells := 0, slots := 0, locals := 0 })).room s m av below meth c H locs 0 0 QQ (F0 m 48 ls []) := by
      intro j48_l0 j48_l1 H locs ls hj48_l1 t48_1 hP hS hl
      refine lv_iload_n hx hb dJ6_numberOfLeadingZeros_0f7a4_48 rfl (lv_at hl 0 rfl) ?_
      refine lv_bipush (v := 16) hx hb dJ6_numberOfLeadingZeros_0f7a4_49 (by decide) ?_
      have J61 : ∀ (j61_l0 : Int32) (j61_l1 : Int32) (H : Heap) (locs : List Loc) (ls : Array Slot), (ir j61_l1.toInt 3 31) → (ir j48_l0.toInt (-2147483648) 2147483647) → va_P g vwCl [] H → va_S A s.heap H locs → lv_has ls 2 [(0, .int j61_l0), (1, .int j61_l1)] → W p l e (headSpec v_J6_numberOfLeadingZeros_0f7a4 ({ frames := 0, cells := 0, slots := 0, locals := 0 })).room s m av below meth c H locs 0 0 QQ (F0 m 61 ls []) := by
        intro j61_l0 j61_l1 H locs ls hj61_l1 t61_2 hP hS hl
        refine lv_iload_n hx hb dJ6_numberOfLeadingZeros_0f7a4_61 rfl (lv_at hl 0 rfl) ?_
        refine lv_iconst (v := 4) hx hb dJ6_numberOfLeadingZeros_0f7a4_62 (by decide) ?_
        refine lv_icmp_lt (tgt := 73) hx hb dJ6_numberOfLeadingZeros_0f7a4_63 (by decide) (fun c63 => ?_) (fun c63 => ?_)
        · have f63 := (show j61_l0.toInt < 4 from z_lt rfl rfl c63)
          have r63a : ir j61_l0.toInt (-2147483648) 3 := ir_lta f63 (rg_all j61_l0) (ir_c 4) (by decide)
          refine lv_iload_n hx hb dJ6_numberOfLeadingZeros_0f7a4_73 rfl (lv_at hl 1 rfl) ?_
          refine lv_iload_n hx hb dJ6_numberOfLeadingZeros_0f7a4_74 rfl (lv_at hl 0 rfl) ?_
          refine lv_iconst (v := 1) hx hb dJ6_numberOfLeadingZeros_0f7a4_75 (by decide) ?_
          refine lv_iushr (v := (j61_l0.toUInt32 >>> ((1 : Int32).toUInt32 &&& Int32.toUInt32 31)).toInt32) hx hb dJ6_numberOfLeadingZeros_0f7a4_76 rfl ?_
          refine lv_topi (fun y76 e76 => ?_)
          refine lv_isub hx hb dJ6_numberOfLeadingZeros_0f7a4_77 ?_
          refine lv_topi (fun y77 e77 => ?_)
          subst hQ
          exact W.iret (v := y77) hx hb hr (fun t ht hW => ⟨⟨y77, (), rfl, trivial, trivial⟩, hS.F ht⟩) hS.2.2 dJ6_numberOfLeadingZeros_0f7a4_78
        have f63 := (show 4 ≤ j61_l0.toInt from z_nlt rfl rfl c63)
        have r63a : ir j61_l0.toInt 4 2147483647 := ir_leb f63 (ir_c 4) (rg_all j61_l0) (by decide)
        obtain ⟨y66, e66⟩ : ∃ y : Int32, y = j61_l1 + (-2) := ⟨_, rfl⟩
        have q66 : y66.toInt = j61_l1.toInt + (-2) := by rw [e66]; exact ad_z rfl rfl hj61_l1 (ir_c (-2)) (by decide) (by decide)
        have r66 : ir y66.toInt 1 29 := ad_r q66 hj61_l1 (ir_c (-2)) (by decide) (by decide)
        refine lv_iinc (v := y66) (lv' := [(1, .int y66), (0, .int j61_l0)]) hx hb dJ6_numberOfLeadingZeros_0f7a4_66 hl (k := 1) rfl e66.symm (by decide) rfl (fun ls hl => ?_)
        refine lv_iload_n hx hb dJ6_numberOfLeadingZeros_0f7a4_69 rfl (lv_at hl 1 rfl) ?_
        refine lv_iconst (v := 2) hx hb dJ6_numberOfLeadingZeros_0f7a4_70 (by decide) ?_
        refine lv_iushr (v := (j61_l0.toUInt32 >>> ((2 : Int32).toUInt32 &&& Int32.toUInt32 31)).toInt32) hx hb dJ6_numberOfLeadingZeros_0f7a4_71 rfl ?_
        refine lv_topi (fun y71 e71 => ?_)
        refine lv_istore_n (lv' := [(0, .int y71), (1, .int y66)]) hx hb dJ6_numberOfLeadingZeros_0f7a4_72 rfl hl (by decide) rfl (fun ls hl => ?_)
        refine lv_iload_n hx hb dJ6_numberOfLeadingZeros_0f7a4_73 rfl (lv_at hl 1 rfl) ?_
        refine lv_iload_n hx hb dJ6_numberOfLeadingZeros_0f7a4_74 rfl (lv_at hl 0 rfl) ?_
        refine lv_iconst (v := 1) hx hb dJ6_numberOfLeadingZeros_0f7a4_75 (by decide) ?_
        refine lv_iushr (v := (y71.toUInt32 >>> ((1 : Int32).toUInt32 &&& Int32.toUInt32 31)).toInt32) hx hb dJ6_numberOfLeadingZeros_0f7a4_76 rfl ?_
        refine lv_topi (fun y76 e76 => ?_)
        refine lv_isub hx hb dJ6_numberOfLeadingZeros_0f7a4_77 ?_
        refine lv_topi (fun y77 e77 => ?_)
        subst hQ
        exact W.iret (v := y77) hx hb hr (fun t ht hW => ⟨⟨y77, (), rfl, trivial, trivial⟩, hS.F ht⟩) hS.2.2 dJ6_numberOfLeadingZeros_0f7a4_78
      refine lv_icmp_lt (tgt := 61) hx hb dJ6_numberOfLeadingZeros_0f7a4_51 (by decide) (fun c51 => ?_) (fun c51 => ?_)
      · have f51 := (show j48_l0.toInt < 16 from z_lt rfl rfl c51)
        have r51a : ir j48_l0.toInt (-2147483648) 15 := ir_lta f51 (rg_all j48_l0) (ir_c 16) (by decide)
        exact J61 j48_l0 j48_l1 _ _ _ (ir_w hj48_l1 (by decide) (by decide)) (ir_w r51a (by decide) (by decide)) (hP.sub [] rfl) hS (lv_sub hl [0, 1] rfl)
      have f51 := (show 16 ≤ j48_l0.toInt from z_nlt rfl rfl c51)
      have r51a : ir j48_l0.toInt 16 2147483647 := ir_leb f51 (ir_c 16) (rg_all j48_l0) (by decide)
      obtain ⟨y54, e54⟩ : ∃ y : Int32, y = j48_l1 + (-4) := ⟨_, rfl⟩
      have q54 : y54.toInt = j48_l1.toInt + (-4) := by rw [e54]; exact ad_z rfl rfl hj48_l1 (ir_c (-4)) (by decide) (by decide)
      have r54 : ir y54.toInt 3 27 := ad_r q54 hj48_l1 (ir_c (-4)) (by decide) (by decide)
      refine lv_iinc (v := y54) (lv' := [(1, .int y54), (0, .int j48_l0)]) hx hb dJ6_numberOfLeadingZeros_0f7a4_54 hl (k := 1) rfl e54.symm (by decide) rfl (fun ls hl => ?_)
      refine lv_iload_n hx hb dJ6_numberOfLeadingZeros_0f7a4_57 rfl (lv_at hl 1 rfl) ?_
      refine lv_iconst (v := 4) hx hb dJ6_numberOfLeadingZeros_0f7a4_58 (by decide) ?_
      refine lv_iushr (v := (j48_l0.toUInt32 >>> ((4 : Int32).toUInt32 &&& Int32.toUInt32 31)).toInt32) hx hb dJ6_numberOfLeadingZeros_0f7a4_59 rfl ?_
      refine lv_topi (fun y59 e59 => ?_)
      refine lv_istore_n (lv' := [(0, .int y59), (1, .int y54)]) hx hb dJ6_numberOfLeadingZeros_0f7a4_60 rfl hl (by decide) rfl (fun ls hl => ?_)
      exact J61 y59 y54 _ _ _ (ir_w r54 (by decide) (by decide)) (ir_w r51a (by decide) (by decide)) (hP.sub [] rfl) hS (lv_sub hl [0, 1] rfl)
    refine lv_icmp_lt (tgt := 48) hx hb dJ6_numberOfLeadingZeros_0f7a4_37 (by decide) (fun c37 => ?_) (fun c37 => ?_)
    · have f37 := (show j33_l0.toInt < 256 from z_lt rfl rfl c37)
      have r37a : ir j33_l0.toInt (-2147483648) 255 := ir_lta f37 (rg_all j33_l0) (ir_c 256) (by decide)
      exact J48 j33_l0 j33_l1 _ _ _ (ir_w hj33_l1 (by decide) (by decide)) (ir_w r37a (by decide) (by decide)) (hP.sub [] rfl) hS (lv_sub hl [0, 1] rfl)
    have f37 := (show 256 ≤ j33_l0.toInt from z_nlt rfl rfl c37)
    have r37a : ir j33_l0.toInt 256 2147483647 := ir_leb f37 (ir_c 256) (rg_all j33_l0) (by decide)
    obtain ⟨y40, e40⟩ : ∃ y : Int32, y = j33_l1 + (-8) := ⟨_, rfl⟩
    have q40 : y40.toInt = j33_l1.toInt + (-8) := by rw [e40]; exact ad_z rfl rfl hj33_l1 (ir_c (-8)) (by decide) (by decide)
    have r40 : ir y40.toInt 7 23 := ad_r q40 hj33_l1 (ir_c (-8)) (by decide) (by decide)
    refine lv_iinc (v := y40) (lv' := [(1, .int y40), (0, .int j33_l0)]) hx hb dJ6_numberOfLeadingZeros_0f7a4_40 hl (k := 1) rfl e40.symm (by decide) rfl (fun ls hl => ?_)
    refine lv_iload_n hx hb dJ6_numberOfLeadingZeros_0f7a4_43 rfl (lv_at hl 1 rfl) ?_
    refine lv_bipush (v := 8) hx hb dJ6_numberOfLeadingZeros_0f7a4_44 (by decide) ?_
    refine lv_iushr (v := (j33_l0.toUInt32 >>> ((8 : Int32).toUInt32 &&& Int32.toUInt32 31)).toInt32) hx hb dJ6_numberOfLeadingZeros_0f7a4_46 rfl ?_
    refine lv_topi (fun y46 e46 => ?_)
    refine lv_istore_n (lv' := [(0, .int y46), (1, .int y40)]) hx hb dJ6_numberOfLeadingZeros_0f7a4_47 rfl hl (by decide) rfl (fun ls hl => ?_)
    exact J48 y46 y40 _ _ _ (ir_w r40 (by decide) (by decide)) (ir_w r37a (by decide) (by decide)) (hP.sub [] rfl) hS (lv_sub hl [0, 1] rfl)
  refine lv_icmp_lt (tgt := 33) hx hb dJ6_numberOfLeadingZeros_0f7a4_22 (by decide) (fun c22 => ?_) (fun c22 => ?_)
  · have f22 := (show p0.toInt < 65536 from z_lt rfl rfl c22)
    have r22a : ir p0.toInt 1 65535 := ir_lta f22 r1a (ir_c 65536) (by decide)
    exact J33 p0 31 _ _ _ (by decide) (hP.sub [] rfl) hS (lv_sub hl [1, 0] rfl)
  have f22 := (show 65536 ≤ p0.toInt from z_nlt rfl rfl c22)
  have r22a : ir p0.toInt 65536 2147483647 := ir_leb f22 (ir_c 65536) r1a (by decide)
  refine lv_iinc (v := 15) (lv' := [(1, .int 15), (0, .int p0)]) hx hb dJ6_numberOfLeadingZeros_0f7a4_25 hl (k := 0) rfl (by decide) (by decide) rfl (fun ls hl => ?_)
  refine lv_iload_n hx hb dJ6_numberOfLeadingZeros_0f7a4_28 rfl (lv_at hl 1 rfl) ?_
  refine lv_bipush (v := 16) hx hb dJ6_numberOfLeadingZeros_0f7a4_29 (by decide) ?_
  refine lv_iushr (v := (p0.toUInt32 >>> ((16 : Int32).toUInt32 &&& Int32.toUInt32 31)).toInt32) hx hb dJ6_numberOfLeadingZeros_0f7a4_31 rfl ?_
  refine lv_topi (fun y31 e31 => ?_)
  refine lv_istore_n (lv' := [(0, .int y31), (1, .int 15)]) hx hb dJ6_numberOfLeadingZeros_0f7a4_32 rfl hl (by decide) rfl (fun ls hl => ?_)
  exact J33 y31 15 _ _ _ (by decide) (hP.sub [] rfl) hS (lv_sub hl [0, 1] rfl)
def v_J13_numberOfLeadingZeros_95d88 : List Cond := .code yJ13_numberOfLeadingZeros_95d88 cJ13_numberOfLeadingZeros_95d88 3 (some .int) :: (([.methodLink RJ13 308 yJ6_numberOfLeadingZeros_0f7a4, .static yJ6_numberOfLeadingZeros_0f7a4, .initialized RJ6] : List Cond) ++ (v_J6_numberOfLeadingZeros_0f7a4 ++ ([] : List Cond)))
theorem good_v_J13_numberOfLeadingZeros_95d88 : v_J13_numberOfLeadingZeros_95d88.all goodWord = true := ga_c (by decide +kernel) (ga_a (by decide +kernel) (ga_a good_v_J6_numberOfLeadingZeros_0f7a4 rfl))
set_option maxHeartbeats 4000000 in
set_option maxRecDepth 100000 in
theorem q_J13_numberOfLeadingZeros_95d88 (l : Launch) (g : va_G) (cI cJ cB cZ cL : ClassId) (p0 : Int64) (sz : Nat)  : Met l yJ13_numberOfLeadingZeros_95d88 v_J13_numberOfLeadingZeros_95d88 ({ frames := 1, cells := 0, slots := 0, locals := 21 }) (va_Pc [.long p0] (pRO g (tyT cI cJ cB cZ cL) [] sz)) (va_Qi (fun (r : Int32) (u : Unit) => True) (fun (_ : Unit) (_ : State) => True) (va_A [] sz)) 0 0 (va_A [] sz) := by
  refine Met.ofW (cc := cJ13_numberOfLeadingZeros_95d88) (maxL := 3) (ret := (some .int)) (by decide) rfl ?_
  intro p e s m args below meth c s₁ B hml hv
  obtain ⟨rfl, hsz, hP, hK⟩ := hv
  have hx := B.exec
  have hb := B.bytes
  have hr := B.returns
  have hts := atoms_spec (ws := v_J13_numberOfLeadingZeros_95d88) B.pre
  have hown : s.vm.findClass RJ13 = some m.cls := findClass_of_methodNamed B.named
  have hlocks := B.notSynchronized
  clear B
  subst hsz
  generalize hAe : (va_A [] s.heap.size) = A
  have hA : ∀ q : Nat, s.heap.size ≤ q → A q := fun q h => by rw [← hAe]; exact Or.inr h
  have hS : va_S A s.heap s.heap [] := va_S.rf
  have hl := lv_entry ([.long p0]) (n := 3) (Nat.le_of_ble_eq_true rfl)
  rw [lg_entry_eq]
  generalize (lg_sl ([.long p0]) ++ List.replicate (3 - (lg_sl ([.long p0])).length) Slot.unset).toArray = ls at hl ⊢
  generalize ([.long p0] : List Value).toArray = av at hts ⊢
  generalize hQ : MQ below _ av s _ _ A = QQ
  have hl : lv_has ls 3 [(0, .long p0)] := hl
  have hP : va_P g vwCl [] s.heap := hP
  refine lv_lload_n hx hb dJ13_numberOfLeadingZeros_95d88_0 rfl (lv_at hl 0 rfl) ?_
  refine lv_bipush (v := 32) hx hb dJ13_numberOfLeadingZeros_95d88_1 (by decide) ?_
  refine lv_lushr (v := (p0.toUInt64 >>> ((32 : Int32).toInt64.toUInt64 &&& Int64.toUInt64 63)).toInt64) hx hb dJ13_numberOfLeadingZeros_95d88_3 rfl ?_
  refine lv_topl (fun y3 e3 => ?_)
  refine lv_l2i (v := y3.toInt32) hx hb dJ13_numberOfLeadingZeros_95d88_4 rfl ?_
  refine lv_topi (fun y4 e4 => ?_)
  refine lv_istore_n (lv' := [(2, .int y4), (0, .long p0)]) hx hb dJ13_numberOfLeadingZeros_95d88_5 rfl hl (by decide) rfl (fun ls hl => ?_)
  refine lv_iload_n hx hb dJ13_numberOfLeadingZeros_95d88_6 rfl (lv_at hl 0 rfl) ?_
  refine lv_if_ne (tgt := 21) hx hb dJ13_numberOfLeadingZeros_95d88_7 (by decide) (fun c7 => ?_) (fun c7 => ?_)
  · have f7 := (show y4.toInt ≠ 0 from z_ne rfl rfl c7)
    refine lv_iload_n hx hb dJ13_numberOfLeadingZeros_95d88_21 rfl (lv_at hl 0 rfl) ?_
    refine ro_i (va_runS (As := [.int y4]) (rest := []) ⟨hx, hb, hml, hown, hts⟩ (q_J6_numberOfLeadingZeros_0f7a4 l g cI cJ cB cZ cL y4 s.heap.size ) (va_cwS 1 hts (goodIn_app (g_3 (List.mem_cons_of_mem _ (List.mem_append_left _ (List.mem_of_getElem? (i := 0) rfl))) (List.mem_cons_of_mem _ (List.mem_append_left _ (List.mem_of_getElem? (i := 1) rfl))) (List.mem_cons_of_mem _ (List.mem_append_left _ (List.mem_of_getElem? (i := 2) rfl))) (by decide +kernel)) (goodIn_sub (fun _ h => List.mem_cons_of_mem _ (List.mem_append_right _ (List.mem_append_left _ h))) good_v_J6_numberOfLeadingZeros_0f7a4)) rfl rfl rfl (by decide +kernel) ⟨Nat.le_of_ble_eq_true rfl, Nat.le_of_ble_eq_true rfl⟩) (ps_RO (wc := []) hK hP [] rfl) rfl rfl hl.1 rfl (lv_room (Nat.le_of_ble_eq_true rfl)) dJ13_numberOfLeadingZeros_95d88_22 ⟨Nat.le_of_ble_eq_true rfl, Nat.le_of_ble_eq_true rfl⟩) hS hA hP (fun r22 u22 H locs hw22 hP hS => ?_)
    subst hQ
    exact W.iret (v := r22) hx hb hr (fun t ht hW => ⟨⟨r22, (), rfl, trivial, trivial⟩, hS.F ht⟩) hS.2.2 dJ13_numberOfLeadingZeros_95d88_25
  have f7 := (show y4.toInt = 0 from z_eq rfl rfl c7)
  have r7a : ir y4.toInt 0 0 := ir_eqa f7 (rg_all y4) (ir_c 0) (by decide) (by decide)
  refine lv_bipush (v := 32) hx hb dJ13_numberOfLeadingZeros_95d88_10 (by decide) ?_
  refine lv_lload_n hx hb dJ13_numberOfLeadingZeros_95d88_12 rfl (lv_at hl 1 rfl) ?_
  refine lv_l2i (v := p0.toInt32) hx hb dJ13_numberOfLeadingZeros_95d88_13 rfl ?_
  refine lv_topi (fun y13 e13 => ?_)
  refine ro_i (va_runS (As := [.int y13]) (rest := [.int 32]) ⟨hx, hb, hml, hown, hts⟩ (q_J6_numberOfLeadingZeros_0f7a4 l g cI cJ cB cZ cL y13 s.heap.size ) (va_cwS 1 hts (goodIn_app (g_3 (List.mem_cons_of_mem _ (List.mem_append_left _ (List.mem_of_getElem? (i := 0) rfl))) (List.mem_cons_of_mem _ (List.mem_append_left _ (List.mem_of_getElem? (i := 1) rfl))) (List.mem_cons_of_mem _ (List.mem_append_left _ (List.mem_of_getElem? (i := 2) rfl))) (by decide +kernel)) (goodIn_sub (fun _ h => List.mem_cons_of_mem _ (List.mem_append_right _ (List.mem_append_left _ h))) good_v_J6_numberOfLeadingZeros_0f7a4)) rfl rfl rfl (by decide +kernel) ⟨Nat.le_of_ble_eq_true rfl, Nat.le_of_ble_eq_true rfl⟩) (ps_RO (wc := []) hK hP [] rfl) rfl rfl hl.1 rfl (lv_room (Nat.le_of_ble_eq_true rfl)) dJ13_numberOfLeadingZeros_95d88_14 ⟨Nat.le_of_ble_eq_true rfl, Nat.le_of_ble_eq_true rfl⟩) hS hA hP (fun r14 u14 H locs hw14 hP hS => ?_)
  refine lv_iadd hx hb dJ13_numberOfLeadingZeros_95d88_17 ?_
  refine lv_topi (fun y17 e17 => ?_)
  refine lv_goto (tgt := 25) hx hb dJ13_numberOfLeadingZeros_95d88_18 (by decide) ?_
  subst hQ
  exact W.iret (v := y17) hx hb hr (fun t ht hW => ⟨⟨y17, (), rfl, trivial, trivial⟩, hS.F ht⟩) hS.2.2 dJ13_numberOfLeadingZeros_95d88_25
def v_J7_filli16 : List Cond := .code yJ7_fill_53178 cJ7_fill_53178 4 none :: (([] : List Cond) ++ ([] : List Cond))
theorem good_v_J7_filli16 : v_J7_filli16.all goodWord = true := ga_c (by decide +kernel) (ga_a (by decide +kernel) rfl)
set_option maxHeartbeats 4000000 in
set_option maxRecDepth 100000 in
theorem q_J7_filli16 (l : Launch) (g : va_G) (cI cJ cB cZ cL : ClassId) (p1 : Int32) (r0 : Nat) (r0_c : Nat → Int32) (sz : Nat)  : Met l yJ7_fill_53178 v_J7_filli16 ({ frames := 0, cells := 0, slots := 0, locals := 0 }) (va_Pc [.ref r0, .int p1] (pRW g (tyT cI cJ cB cZ cL) [(r0, .inl (cI, 16, .inl r0_c))] sz)) (va_Qv (fun (u : (Nat → Int32)) => match u with | n_r0_c => True) (fun (u : (Nat → Int32)) (t : State) => bRW g (tyT cI cJ cB cZ cL) (va_A [(r0, .inl (cI, 16, .inl r0_c))] sz) (match u with | n_r0_c => [(r0, .inl (cI, 16, .inl n_r0_c))]) t) (va_A [(r0, .inl (cI, 16, .inl r0_c))] sz)) 0 0 (va_A [(r0, .inl (cI, 16, .inl r0_c))] sz) := by
  refine Met.ofW (cc := cJ7_fill_53178) (maxL := 4) (ret := none) (by decide) rfl ?_
  intro p e s m args below meth c s₁ B hml hv
  obtain ⟨rfl, hsz, hP, hK, hD0⟩ := hv
  have hx := B.exec
  have hb := B.bytes
  have hr := B.returns
  have hts := atoms_spec (ws := v_J7_filli16) B.pre
  have hown : s.vm.findClass RJ7 = some m.cls := findClass_of_methodNamed B.named
  have hlocks := B.notSynchronized
  clear B
  subst hsz
  have hD := hD0.self (sz := s.heap.size)
  generalize hAe : (va_A [(r0, .inl (cI, 16, .inl r0_c))] s.heap.size) = A at hD ⊢
  have hA : ∀ q : Nat, s.heap.size ≤ q → A q := fun q h => by rw [← hAe]; exact Or.inr h
  have hS : va_S A s.heap s.heap [] := va_S.rf
  have hl := lv_entry ([.ref r0, .int p1]) (n := 4) (Nat.le_of_ble_eq_true rfl)
  rw [lg_entry_eq]
  generalize (lg_sl ([.ref r0, .int p1]) ++ List.replicate (4 - (lg_sl ([.ref r0, .int p1])).length) Slot.unset).toArray = ls at hl ⊢
  generalize ([.ref r0, .int p1] : List Value).toArray = av at hts ⊢
  generalize hQ : MQ below _ av s _ _ A = QQ
  have hl : lv_has ls 4 [(0, .ref r0), (1, .int p1)] := hl
  have hP : va_P g vwCl [(r0, .inl (cI, 16, .inl r0_c))] s.heap := hP
  refine lv_iconst (v := 0) hx hb dJ7_fill_53178_0 (by decide) ?_
  refine lv_istore_n (lv' := [(2, .int 0), (0, .ref r0), (1, .int p1)]) hx hb dJ7_fill_53178_1 rfl hl (by decide) rfl (fun ls hl => ?_)
  refine lv_aload_n hx hb dJ7_fill_53178_2 rfl (lv_at hl 1 rfl) ?_
  refine va_alen (D := g) hx hb hK hP 0 0 rfl rfl (v := 16) rfl dJ7_fill_53178_3 ?_
  refine lv_istore_n (lv' := [(3, .int 16), (2, .int 0), (0, .ref r0), (1, .int p1)]) hx hb dJ7_fill_53178_4 rfl hl (by decide) rfl (fun ls hl => ?_)
  have J5 : ∀ (n5 : Nat) (j5_l2 : Int32) (j5_r0_c : Nat → Int32) (H : Heap) (locs : List Loc) (ls : Array Slot), (17 - j5_l2.toInt).toNat < n5 → (ir j5_l2.toInt 0 16) → va_P g vwCl [(r0, .inl (cI, 16, .inl j5_r0_c))] H → va_D A [(r0, .inl (cI, 16, .inl j5_r0_c))] → va_S A s.heap H locs → lv_has ls 4 [(0, .ref r0), (1, .int p1), (2, .int j5_l2), (3, .int 16)] → W p l e (headSpec v_J7_filli16 ({ frames := 0, cells := 0, slots := 0, locals := 0 })).room s m av below meth c H locs 0 0 QQ (F0 m 5 ls []) := by
    intro n5
    induction n5 with
    | zero => exact fun j5_l2 j5_r0_c H locs ls hn => absurd hn (Nat.not_lt_zero _)
    | succ n5 ih5 =>
      intro j5_l2 j5_r0_c H locs ls hn5 hj5_l2 hP hD hS hl
      refine lv_iload_n hx hb dJ7_fill_53178_5 rfl (lv_at hl 2 rfl) ?_
      refine lv_iload_n hx hb dJ7_fill_53178_6 rfl (lv_at hl 3 rfl) ?_
      refine lv_icmp_ge (tgt := 20) hx hb dJ7_fill_53178_7 (by decide) (fun c7 => ?_) (fun c7 => ?_)
      · have f7 := (show 16 ≤ j5_l2.toInt from z_le rfl rfl c7)
        have r7a : ir j5_l2.toInt 16 16 := ir_leb f7 (ir_c 16) hj5_l2 (by decide)
        subst hQ
        have hP9 := hP.sub (ws' := [(r0, .inl (cI, 16, .inl j5_r0_c))]) [0] rfl
        have hD9 := hD.sub (ws' := [(r0, .inl (cI, 16, .inl j5_r0_c))]) [0] (by decide) rfl
        exact W.vret hx hb hr (fun t ht hW => ⟨⟨j5_r0_c, rfl, trivial, ⟨by rw [ht]; exact hP9, va_K.moved hW.alike hK, hD9⟩⟩, hS.F ht⟩) hS.2.2 dJ7_fill_53178_20
      have f7 := (show j5_l2.toInt < 16 from z_nle rfl rfl c7)
      have r7a : ir j5_l2.toInt 0 15 := ir_lta f7 hj5_l2 (ir_c 16) (by decide)
      refine lv_aload_n hx hb dJ7_fill_53178_10 rfl (lv_at hl 0 rfl) ?_
      refine lv_iload_n hx hb dJ7_fill_53178_11 rfl (lv_at hl 2 rfl) ?_
      refine lv_iload_n hx hb dJ7_fill_53178_12 rfl (lv_at hl 1 rfl) ?_
      refine va_iast (D := g) hx hb hK hP hD hS 0 0 rfl rfl (vi_rg rfl r7a (by decide) (by decide)) dJ7_fill_53178_13 (fun H locs hP hD hS => ?_)
      obtain ⟨g13, e13⟩ : ∃ z, z = upd j5_r0_c j5_l2.toNatClampNeg p1 := ⟨_, rfl⟩
      have hP : va_P g vwCl [(r0, .inl (cI, 16, .inl (upd j5_r0_c j5_l2.toNatClampNeg p1)))] H := hP
      have hD : va_D A [(r0, .inl (cI, 16, .inl (upd j5_r0_c j5_l2.toNatClampNeg p1)))] := hD
      rw [← e13] at hP hD
      obtain ⟨y14, e14⟩ : ∃ y : Int32, y = j5_l2 + 1 := ⟨_, rfl⟩
      have q14 : y14.toInt = j5_l2.toInt + 1 := by rw [e14]; exact ad_z rfl rfl r7a (ir_c 1) (by decide) (by decide)
      have r14 : ir y14.toInt 1 16 := ad_r q14 r7a (ir_c 1) (by decide) (by decide)
      refine lv_iinc (v := y14) (lv' := [(2, .int y14), (0, .ref r0), (1, .int p1), (3, .int 16)]) hx hb dJ7_fill_53178_14 hl (k := 2) rfl e14.symm (by decide) rfl (fun ls hl => ?_)
      refine lv_goto (tgt := 5) hx hb dJ7_fill_53178_17 (by decide) ?_
      exact ih5 y14 g13 _ _ _ (by omega) (ir_w r14 (by decide) (by decide)) (hP.sub [0] rfl) (hD.sub [0] (by decide) rfl) hS (lv_sub hl [1, 2, 0, 3] rfl)
  exact J5 _ 0 r0_c _ _ _ (Nat.lt_succ_self _) (by decide) (hP.sub [0] rfl) (hD.sub [0] (by decide) rfl) hS (lv_sub hl [2, 3, 1, 0] rfl)
def v_J7_filli208 : List Cond := .code yJ7_fill_53178 cJ7_fill_53178 4 none :: (([] : List Cond) ++ ([] : List Cond))
theorem good_v_J7_filli208 : v_J7_filli208.all goodWord = true := ga_c (by decide +kernel) (ga_a (by decide +kernel) rfl)
set_option maxHeartbeats 4000000 in
set_option maxRecDepth 100000 in
theorem q_J7_filli208 (l : Launch) (g : va_G) (cI cJ cB cZ cL : ClassId) (p1 : Int32) (r0 : Nat) (r0_c : Nat → Int32) (sz : Nat)  : Met l yJ7_fill_53178 v_J7_filli208 ({ frames := 0, cells := 0, slots := 0, locals := 0 }) (va_Pc [.ref r0, .int p1] (pRW g (tyT cI cJ cB cZ cL) [(r0, .inl (cI, 208, .inl r0_c))] sz)) (va_Qv (fun (u : (Nat → Int32)) => match u with | n_r0_c => True) (fun (u : (Nat → Int32)) (t : State) => bRW g (tyT cI cJ cB cZ cL) (va_A [(r0, .inl (cI, 208, .inl r0_c))] sz) (match u with | n_r0_c => [(r0, .inl (cI, 208, .inl n_r0_c))]) t) (va_A [(r0, .inl (cI, 208, .inl r0_c))] sz)) 0 0 (va_A [(r0, .inl (cI, 208, .inl r0_c))] sz) := by
  refine Met.ofW (cc := cJ7_fill_53178) (maxL := 4) (ret := none) (by decide) rfl ?_
  intro p e s m args below meth c s₁ B hml hv
  obtain ⟨rfl, hsz, hP, hK, hD0⟩ := hv
  have hx := B.exec
  have hb := B.bytes
  have hr := B.returns
  have hts := atoms_spec (ws := v_J7_filli208) B.pre
  have hown : s.vm.findClass RJ7 = some m.cls := findClass_of_methodNamed B.named
  have hlocks := B.notSynchronized
  clear B
  subst hsz
  have hD := hD0.self (sz := s.heap.size)
  generalize hAe : (va_A [(r0, .inl (cI, 208, .inl r0_c))] s.heap.size) = A at hD ⊢
  have hA : ∀ q : Nat, s.heap.size ≤ q → A q := fun q h => by rw [← hAe]; exact Or.inr h
  have hS : va_S A s.heap s.heap [] := va_S.rf
  have hl := lv_entry ([.ref r0, .int p1]) (n := 4) (Nat.le_of_ble_eq_true rfl)
  rw [lg_entry_eq]
  generalize (lg_sl ([.ref r0, .int p1]) ++ List.replicate (4 - (lg_sl ([.ref r0, .int p1])).length) Slot.unset).toArray = ls at hl ⊢
  generalize ([.ref r0, .int p1] : List Value).toArray = av at hts ⊢
  generalize hQ : MQ below _ av s _ _ A = QQ
  have hl : lv_has ls 4 [(0, .ref r0), (1, .int p1)] := hl
  have hP : va_P g vwCl [(r0, .inl (cI, 208, .inl r0_c))] s.heap := hP
  refine lv_iconst (v := 0) hx hb dJ7_fill_53178_0 (by decide) ?_
  refine lv_istore_n (lv' := [(2, .int 0), (0, .ref r0), (1, .int p1)]) hx hb dJ7_fill_53178_1 rfl hl (by decide) rfl (fun ls hl => ?_)
  refine lv_aload_n hx hb dJ7_fill_53178_2 rfl (lv_at hl 1 rfl) ?_
  refine va_alen (D := g) hx hb hK hP 0 0 rfl rfl (v := 208) rfl dJ7_fill_53178_3 ?_
  refine lv_istore_n (lv' := [(3, .int 208), (2, .int 0), (0, .ref r0), (1, .int p1)]) hx hb dJ7_fill_53178_4 rfl hl (by decide) rfl (fun ls hl => ?_)
  have J5 : ∀ (n5 : Nat) (j5_l2 : Int32) (j5_r0_c : Nat → Int32) (H : Heap) (locs : List Loc) (ls : Array Slot), (240 - j5_l2.toInt).toNat < n5 → (ir j5_l2.toInt 0 239) → va_P g vwCl [(r0, .inl (cI, 208, .inl j5_r0_c))] H → va_D A [(r0, .inl (cI, 208, .inl j5_r0_c))] → va_S A s.heap H locs → lv_has ls 4 [(0, .ref r0), (1, .int p1), (2, .int j5_l2), (3, .int 208)] → W p l e (headSpec v_J7_filli208 ({ frames := 0, cells := 0, slots := 0, locals := 0 })).room s m av below meth c H locs 0 0 QQ (F0 m 5 ls []) := by
    intro n5
    induction n5 with
    | zero => exact fun j5_l2 j5_r0_c H locs ls hn => absurd hn (Nat.not_lt_zero _)
    | succ n5 ih5 =>
      intro j5_l2 j5_r0_c H locs ls hn5 hj5_l2 hP hD hS hl
      refine lv_iload_n hx hb dJ7_fill_53178_5 rfl (lv_at hl 2 rfl) ?_
      refine lv_iload_n hx hb dJ7_fill_53178_6 rfl (lv_at hl 3 rfl) ?_
      refine lv_icmp_ge (tgt := 20) hx hb dJ7_fill_53178_7 (by decide) (fun c7 => ?_) (fun c7 => ?_)
      · have f7 := (show 208 ≤ j5_l2.toInt from z_le rfl rfl c7)
        have r7a : ir j5_l2.toInt 208 239 := ir_leb f7 (ir_c 208) hj5_l2 (by decide)
        subst hQ
        have hP9 := hP.sub (ws' := [(r0, .inl (cI, 208, .inl j5_r0_c))]) [0] rfl
        have hD9 := hD.sub (ws' := [(r0, .inl (cI, 208, .inl j5_r0_c))]) [0] (by decide) rfl
        exact W.vret hx hb hr (fun t ht hW => ⟨⟨j5_r0_c, rfl, trivial, ⟨by rw [ht]; exact hP9, va_K.moved hW.alike hK, hD9⟩⟩, hS.F ht⟩) hS.2.2 dJ7_fill_53178_20
      have f7 := (show j5_l2.toInt < 208 from z_nle rfl rfl c7)
      have r7a : ir j5_l2.toInt 0 207 := ir_lta f7 hj5_l2 (ir_c 208) (by decide)
      refine lv_aload_n hx hb dJ7_fill_53178_10 rfl (lv_at hl 0 rfl) ?_
      refine lv_iload_n hx hb dJ7_fill_53178_11 rfl (lv_at hl 2 rfl) ?_
      refine lv_iload_n hx hb dJ7_fill_53178_12 rfl (lv_at hl 1 rfl) ?_
      refine va_iast (D := g) hx hb hK hP hD hS 0 0 rfl rfl (vi_rg rfl r7a (by decide) (by decide)) dJ7_fill_53178_13 (fun H locs hP hD hS => ?_)
      obtain ⟨g13, e13⟩ : ∃ z, z = upd j5_r0_c j5_l2.toNatClampNeg p1 := ⟨_, rfl⟩
      have hP : va_P g vwCl [(r0, .inl (cI, 208, .inl (upd j5_r0_c j5_l2.toNatClampNeg p1)))] H := hP
      have hD : va_D A [(r0, .inl (cI, 208, .inl (upd j5_r0_c j5_l2.toNatClampNeg p1)))] := hD
      rw [← e13] at hP hD
      obtain ⟨y14, e14⟩ : ∃ y : Int32, y = j5_l2 + 1 := ⟨_, rfl⟩
      have q14 : y14.toInt = j5_l2.toInt + 1 := by rw [e14]; exact ad_z rfl rfl r7a (ir_c 1) (by decide) (by decide)
      have r14 : ir y14.toInt 1 208 := ad_r q14 r7a (ir_c 1) (by decide) (by decide)
      refine lv_iinc (v := y14) (lv' := [(2, .int y14), (0, .ref r0), (1, .int p1), (3, .int 208)]) hx hb dJ7_fill_53178_14 hl (k := 2) rfl e14.symm (by decide) rfl (fun ls hl => ?_)
      refine lv_goto (tgt := 5) hx hb dJ7_fill_53178_17 (by decide) ?_
      exact ih5 y14 g13 _ _ _ (by omega) (ir_w r14 (by decide) (by decide)) (hP.sub [0] rfl) (hD.sub [0] (by decide) rfl) hS (lv_sub hl [1, 2, 0, 3] rfl)
  exact J5 _ 0 r0_c _ _ _ (Nat.lt_succ_self _) (by decide) (hP.sub [0] rfl) (hD.sub [0] (by decide) rfl) hS (lv_sub hl [2, 3, 1, 0] rfl)
def v_J7_fillj32 : List Cond := .code yJ7_fill_d0a16 cJ7_fill_d0a16 5 none :: (([] : List Cond) ++ ([] : List Cond))
theorem good_v_J7_fillj32 : v_J7_fillj32.all goodWord = true := ga_c (by decide +kernel) (ga_a (by decide +kernel) rfl)
set_option maxHeartbeats 4000000 in
set_option maxRecDepth 100000 in
theorem q_J7_fillj32 (l : Launch) (g : va_G) (cI cJ cB cZ cL : ClassId) (p1 : Int64) (r0 : Nat) (r0_c : Nat → Int64) (sz : Nat)  : Met l yJ7_fill_d0a16 v_J7_fillj32 ({ frames := 0, cells := 0, slots := 0, locals := 0 }) (va_Pc [.ref r0, .long p1] (pRW g (tyT cI cJ cB cZ cL) [(r0, .inl (cJ, 32, .inr (.inl r0_c)))] sz)) (va_Qv (fun (u : (Nat → Int64)) => match u with | n_r0_c => True) (fun (u : (Nat → Int64)) (t : State) => bRW g (tyT cI cJ cB cZ cL) (va_A [(r0, .inl (cJ, 32, .inr (.inl r0_c)))] sz) (match u with | n_r0_c => [(r0, .inl (cJ, 32, .inr (.inl n_r0_c)))]) t) (va_A [(r0, .inl (cJ, 32, .inr (.inl r0_c)))] sz)) 0 0 (va_A [(r0, .inl (cJ, 32, .inr (.inl r0_c)))] sz) := by
  refine Met.ofW (cc := cJ7_fill_d0a16) (maxL := 5) (ret := none) (by decide) rfl ?_
  intro p e s m args below meth c s₁ B hml hv
  obtain ⟨rfl, hsz, hP, hK, hD0⟩ := hv
  have hx := B.exec
  have hb := B.bytes
  have hr := B.returns
  have hts := atoms_spec (ws := v_J7_fillj32) B.pre
  have hown : s.vm.findClass RJ7 = some m.cls := findClass_of_methodNamed B.named
  have hlocks := B.notSynchronized
  clear B
  subst hsz
  have hD := hD0.self (sz := s.heap.size)
  generalize hAe : (va_A [(r0, .inl (cJ, 32, .inr (.inl r0_c)))] s.heap.size) = A at hD ⊢
  have hA : ∀ q : Nat, s.heap.size ≤ q → A q := fun q h => by rw [← hAe]; exact Or.inr h
  have hS : va_S A s.heap s.heap [] := va_S.rf
  have hl := lv_entry ([.ref r0, .long p1]) (n := 5) (Nat.le_of_ble_eq_true rfl)
  rw [lg_entry_eq]
  generalize (lg_sl ([.ref r0, .long p1]) ++ List.replicate (5 - (lg_sl ([.ref r0, .long p1])).length) Slot.unset).toArray = ls at hl ⊢
  generalize ([.ref r0, .long p1] : List Value).toArray = av at hts ⊢
  generalize hQ : MQ below _ av s _ _ A = QQ
  have hl : lv_has ls 5 [(0, .ref r0), (1, .long p1)] := hl
  have hP : va_P g vwCl [(r0, .inl (cJ, 32, .inr (.inl r0_c)))] s.heap := hP
  refine lv_iconst (v := 0) hx hb dJ7_fill_d0a16_0 (by decide) ?_
  refine lv_istore_n (lv' := [(3, .int 0), (0, .ref r0), (1, .long p1)]) hx hb dJ7_fill_d0a16_1 rfl hl (by decide) rfl (fun ls hl => ?_)
  refine lv_aload_n hx hb dJ7_fill_d0a16_2 rfl (lv_at hl 1 rfl) ?_
  refine va_alen (D := g) hx hb hK hP 0 1 rfl rfl (v := 32) rfl dJ7_fill_d0a16_3 ?_
  refine lv_istore (lv' := [(4, .int 32), (3, .int 0), (0, .ref r0), (1, .long p1)]) hx hb dJ7_fill_d0a16_4 hl (by decide) rfl (fun ls hl => ?_)
  have J6 : ∀ (n6 : Nat) (j6_l3 : Int32) (j6_r0_c : Nat → Int64) (H : Heap) (locs : List Loc) (ls : Array Slot), (33 - j6_l3.toInt).toNat < n6 → (ir j6_l3.toInt 0 32) → va_P g vwCl [(r0, .inl (cJ, 32, .inr (.inl j6_r0_c)))] H → va_D A [(r0, .inl (cJ, 32, .inr (.inl j6_r0_c)))] → va_S A s.heap H locs → lv_has ls 5 [(0, .ref r0), (1, .long p1), (3, .int j6_l3), (4, .int 32)] → W p l e (headSpec v_J7_fillj32 ({ frames := 0, cells := 0, slots := 0, locals := 0 })).room s m av below meth c H locs 0 0 QQ (F0 m 6 ls []) := by
    intro n6
    induction n6 with
    | zero => exact fun j6_l3 j6_r0_c H locs ls hn => absurd hn (Nat.not_lt_zero _)
    | succ n6 ih6 =>
      intro j6_l3 j6_r0_c H locs ls hn6 hj6_l3 hP hD hS hl
      refine lv_iload_n hx hb dJ7_fill_d0a16_6 rfl (lv_at hl 2 rfl) ?_
      refine lv_iload hx hb dJ7_fill_d0a16_7 (lv_at hl 3 rfl) ?_
      refine lv_icmp_ge (tgt := 22) hx hb dJ7_fill_d0a16_9 (by decide) (fun c9 => ?_) (fun c9 => ?_)
      · have f9 := (show 32 ≤ j6_l3.toInt from z_le rfl rfl c9)
        have r9a : ir j6_l3.toInt 32 32 := ir_leb f9 (ir_c 32) hj6_l3 (by decide)
        subst hQ
        have hP9 := hP.sub (ws' := [(r0, .inl (cJ, 32, .inr (.inl j6_r0_c)))]) [0] rfl
        have hD9 := hD.sub (ws' := [(r0, .inl (cJ, 32, .inr (.inl j6_r0_c)))]) [0] (by decide) rfl
        exact W.vret hx hb hr (fun t ht hW => ⟨⟨j6_r0_c, rfl, trivial, ⟨by rw [ht]; exact hP9, va_K.moved hW.alike hK, hD9⟩⟩, hS.F ht⟩) hS.2.2 dJ7_fill_d0a16_22
      have f9 := (show j6_l3.toInt < 32 from z_nle rfl rfl c9)
      have r9a : ir j6_l3.toInt 0 31 := ir_lta f9 hj6_l3 (ir_c 32) (by decide)
      refine lv_aload_n hx hb dJ7_fill_d0a16_12 rfl (lv_at hl 0 rfl) ?_
      refine lv_iload_n hx hb dJ7_fill_d0a16_13 rfl (lv_at hl 2 rfl) ?_
      refine lv_lload_n hx hb dJ7_fill_d0a16_14 rfl (lv_at hl 1 rfl) ?_
      refine va_last (D := g) hx hb hK hP hD hS 0 1 rfl rfl (vi_rg rfl r9a (by decide) (by decide)) dJ7_fill_d0a16_15 (fun H locs hP hD hS => ?_)
      obtain ⟨g15, e15⟩ : ∃ z, z = vp_updL j6_r0_c j6_l3.toNatClampNeg p1 := ⟨_, rfl⟩
      have hP : va_P g vwCl [(r0, .inl (cJ, 32, .inr (.inl (vp_updL j6_r0_c j6_l3.toNatClampNeg p1))))] H := hP
      have hD : va_D A [(r0, .inl (cJ, 32, .inr (.inl (vp_updL j6_r0_c j6_l3.toNatClampNeg p1))))] := hD
      rw [← e15] at hP hD
      obtain ⟨y16, e16⟩ : ∃ y : Int32, y = j6_l3 + 1 := ⟨_, rfl⟩
      have q16 : y16.toInt = j6_l3.toInt + 1 := by rw [e16]; exact ad_z rfl rfl r9a (ir_c 1) (by decide) (by decide)
      have r16 : ir y16.toInt 1 32 := ad_r q16 r9a (ir_c 1) (by decide) (by decide)
      refine lv_iinc (v := y16) (lv' := [(3, .int y16), (0, .ref r0), (1, .long p1), (4, .int 32)]) hx hb dJ7_fill_d0a16_16 hl (k := 2) rfl e16.symm (by decide) rfl (fun ls hl => ?_)
      refine lv_goto (tgt := 6) hx hb dJ7_fill_d0a16_19 (by decide) ?_
      exact ih6 y16 g15 _ _ _ (by omega) (ir_w r16 (by decide) (by decide)) (hP.sub [0] rfl) (hD.sub [0] (by decide) rfl) hS (lv_sub hl [1, 2, 0, 3] rfl)
  exact J6 _ 0 r0_c _ _ _ (Nat.lt_succ_self _) (by decide) (hP.sub [0] rfl) (hD.sub [0] (by decide) rfl) hS (lv_sub hl [2, 3, 1, 0] rfl)
def v_J7_fillj16 : List Cond := .code yJ7_fill_d0a16 cJ7_fill_d0a16 5 none :: (([] : List Cond) ++ ([] : List Cond))
theorem good_v_J7_fillj16 : v_J7_fillj16.all goodWord = true := ga_c (by decide +kernel) (ga_a (by decide +kernel) rfl)
set_option maxHeartbeats 4000000 in
set_option maxRecDepth 100000 in
theorem q_J7_fillj16 (l : Launch) (g : va_G) (cI cJ cB cZ cL : ClassId) (p1 : Int64) (r0 : Nat) (r0_c : Nat → Int64) (sz : Nat)  : Met l yJ7_fill_d0a16 v_J7_fillj16 ({ frames := 0, cells := 0, slots := 0, locals := 0 }) (va_Pc [.ref r0, .long p1] (pRW g (tyT cI cJ cB cZ cL) [(r0, .inl (cJ, 16, .inr (.inl r0_c)))] sz)) (va_Qv (fun (u : (Nat → Int64)) => match u with | n_r0_c => True) (fun (u : (Nat → Int64)) (t : State) => bRW g (tyT cI cJ cB cZ cL) (va_A [(r0, .inl (cJ, 16, .inr (.inl r0_c)))] sz) (match u with | n_r0_c => [(r0, .inl (cJ, 16, .inr (.inl n_r0_c)))]) t) (va_A [(r0, .inl (cJ, 16, .inr (.inl r0_c)))] sz)) 0 0 (va_A [(r0, .inl (cJ, 16, .inr (.inl r0_c)))] sz) := by
  refine Met.ofW (cc := cJ7_fill_d0a16) (maxL := 5) (ret := none) (by decide) rfl ?_
  intro p e s m args below meth c s₁ B hml hv
  obtain ⟨rfl, hsz, hP, hK, hD0⟩ := hv
  have hx := B.exec
  have hb := B.bytes
  have hr := B.returns
  have hts := atoms_spec (ws := v_J7_fillj16) B.pre
  have hown : s.vm.findClass RJ7 = some m.cls := findClass_of_methodNamed B.named
  have hlocks := B.notSynchronized
  clear B
  subst hsz
  have hD := hD0.self (sz := s.heap.size)
  generalize hAe : (va_A [(r0, .inl (cJ, 16, .inr (.inl r0_c)))] s.heap.size) = A at hD ⊢
  have hA : ∀ q : Nat, s.heap.size ≤ q → A q := fun q h => by rw [← hAe]; exact Or.inr h
  have hS : va_S A s.heap s.heap [] := va_S.rf
  have hl := lv_entry ([.ref r0, .long p1]) (n := 5) (Nat.le_of_ble_eq_true rfl)
  rw [lg_entry_eq]
  generalize (lg_sl ([.ref r0, .long p1]) ++ List.replicate (5 - (lg_sl ([.ref r0, .long p1])).length) Slot.unset).toArray = ls at hl ⊢
  generalize ([.ref r0, .long p1] : List Value).toArray = av at hts ⊢
  generalize hQ : MQ below _ av s _ _ A = QQ
  have hl : lv_has ls 5 [(0, .ref r0), (1, .long p1)] := hl
  have hP : va_P g vwCl [(r0, .inl (cJ, 16, .inr (.inl r0_c)))] s.heap := hP
  refine lv_iconst (v := 0) hx hb dJ7_fill_d0a16_0 (by decide) ?_
  refine lv_istore_n (lv' := [(3, .int 0), (0, .ref r0), (1, .long p1)]) hx hb dJ7_fill_d0a16_1 rfl hl (by decide) rfl (fun ls hl => ?_)
  refine lv_aload_n hx hb dJ7_fill_d0a16_2 rfl (lv_at hl 1 rfl) ?_
  refine va_alen (D := g) hx hb hK hP 0 1 rfl rfl (v := 16) rfl dJ7_fill_d0a16_3 ?_
  refine lv_istore (lv' := [(4, .int 16), (3, .int 0), (0, .ref r0), (1, .long p1)]) hx hb dJ7_fill_d0a16_4 hl (by decide) rfl (fun ls hl => ?_)
  have J6 : ∀ (n6 : Nat) (j6_l3 : Int32) (j6_r0_c : Nat → Int64) (H : Heap) (locs : List Loc) (ls : Array Slot), (17 - j6_l3.toInt).toNat < n6 → (ir j6_l3.toInt 0 16) → va_P g vwCl [(r0, .inl (cJ, 16, .inr (.inl j6_r0_c)))] H → va_D A [(r0, .inl (cJ, 16, .inr (.inl j6_r0_c)))] → va_S A s.heap H locs → lv_has ls 5 [(0, .ref r0), (1, .long p1), (3, .int j6_l3), (4, .int 16)] → W p l e (headSpec v_J7_fillj16 ({ frames := 0, cells := 0, slots := 0, locals := 0 })).room s m av below meth c H locs 0 0 QQ (F0 m 6 ls []) := by
    intro n6
    induction n6 with
    | zero => exact fun j6_l3 j6_r0_c H locs ls hn => absurd hn (Nat.not_lt_zero _)
    | succ n6 ih6 =>
      intro j6_l3 j6_r0_c H locs ls hn6 hj6_l3 hP hD hS hl
      refine lv_iload_n hx hb dJ7_fill_d0a16_6 rfl (lv_at hl 2 rfl) ?_
      refine lv_iload hx hb dJ7_fill_d0a16_7 (lv_at hl 3 rfl) ?_
      refine lv_icmp_ge (tgt := 22) hx hb dJ7_fill_d0a16_9 (by decide) (fun c9 => ?_) (fun c9 => ?_)
      · have f9 := (show 16 ≤ j6_l3.toInt from z_le rfl rfl c9)
        have r9a : ir j6_l3.toInt 16 16 := ir_leb f9 (ir_c 16) hj6_l3 (by decide)
        subst hQ
        have hP9 := hP.sub (ws' := [(r0, .inl (cJ, 16, .inr (.inl j6_r0_c)))]) [0] rfl
        have hD9 := hD.sub (ws' := [(r0, .inl (cJ, 16, .inr (.inl j6_r0_c)))]) [0] (by decide) rfl
        exact W.vret hx hb hr (fun t ht hW => ⟨⟨j6_r0_c, rfl, trivial, ⟨by rw [ht]; exact hP9, va_K.moved hW.alike hK, hD9⟩⟩, hS.F ht⟩) hS.2.2 dJ7_fill_d0a16_22
      have f9 := (show j6_l3.toInt < 16 from z_nle rfl rfl c9)
      have r9a : ir j6_l3.toInt 0 15 := ir_lta f9 hj6_l3 (ir_c 16) (by decide)
      refine lv_aload_n hx hb dJ7_fill_d0a16_12 rfl (lv_at hl 0 rfl) ?_
      refine lv_iload_n hx hb dJ7_fill_d0a16_13 rfl (lv_at hl 2 rfl) ?_
      refine lv_lload_n hx hb dJ7_fill_d0a16_14 rfl (lv_at hl 1 rfl) ?_
      refine va_last (D := g) hx hb hK hP hD hS 0 1 rfl rfl (vi_rg rfl r9a (by decide) (by decide)) dJ7_fill_d0a16_15 (fun H locs hP hD hS => ?_)
      obtain ⟨g15, e15⟩ : ∃ z, z = vp_updL j6_r0_c j6_l3.toNatClampNeg p1 := ⟨_, rfl⟩
      have hP : va_P g vwCl [(r0, .inl (cJ, 16, .inr (.inl (vp_updL j6_r0_c j6_l3.toNatClampNeg p1))))] H := hP
      have hD : va_D A [(r0, .inl (cJ, 16, .inr (.inl (vp_updL j6_r0_c j6_l3.toNatClampNeg p1))))] := hD
      rw [← e15] at hP hD
      obtain ⟨y16, e16⟩ : ∃ y : Int32, y = j6_l3 + 1 := ⟨_, rfl⟩
      have q16 : y16.toInt = j6_l3.toInt + 1 := by rw [e16]; exact ad_z rfl rfl r9a (ir_c 1) (by decide) (by decide)
      have r16 : ir y16.toInt 1 16 := ad_r q16 r9a (ir_c 1) (by decide) (by decide)
      refine lv_iinc (v := y16) (lv' := [(3, .int y16), (0, .ref r0), (1, .long p1), (4, .int 16)]) hx hb dJ7_fill_d0a16_16 hl (k := 2) rfl e16.symm (by decide) rfl (fun ls hl => ?_)
      refine lv_goto (tgt := 6) hx hb dJ7_fill_d0a16_19 (by decide) ?_
      exact ih6 y16 g15 _ _ _ (by omega) (ir_w r16 (by decide) (by decide)) (hP.sub [0] rfl) (hD.sub [0] (by decide) rfl) hS (lv_sub hl [1, 2, 0, 3] rfl)
  exact J6 _ 0 r0_c _ _ _ (Nat.lt_succ_self _) (by decide) (hP.sub [0] rfl) (hD.sub [0] (by decide) rfl) hS (lv_sub hl [2, 3, 1, 0] rfl)
def v_X11_isBelow : List Cond := .code yX11_isBelow cX11_isBelow 2 (some .boolean) :: (([] : List Cond) ++ ([] : List Cond))
theorem good_v_X11_isBelow : v_X11_isBelow.all goodWord = true := ga_c (by decide +kernel) (ga_a (by decide +kernel) rfl)
set_option maxHeartbeats 4000000 in
set_option maxRecDepth 100000 in
theorem q_X11_isBelow (l : Launch) (g : va_G) (cI cJ cB cZ cL : ClassId) (p0 : Int32) (p1 : Int32) (sz : Nat)  : Met l yX11_isBelow v_X11_isBelow ({ frames := 0, cells := 0, slots := 0, locals := 0 }) (va_Pc [.int p0, .int p1] (pRO g (tyT cI cJ cB cZ cL) [] sz)) (va_Qi (fun (r : Int32) (u : Unit) => ((r = 1 ∧ 0 ≤ p0.toInt ∧ p0.toInt < p1.toInt) ∨ (r = 0))) (fun (_ : Unit) (_ : State) => True) (va_A [] sz)) 0 0 (va_A [] sz) := by
  refine Met.ofW (cc := cX11_isBelow) (maxL := 2) (ret := (some .boolean)) (by decide) rfl ?_
  intro p e s m args below meth c s₁ B hml hv
  obtain ⟨rfl, hsz, hP, hK⟩ := hv
  have hx := B.exec
  have hb := B.bytes
  have hr := B.returns
  have hts := atoms_spec (ws := v_X11_isBelow) B.pre
  have hown : s.vm.findClass RX11 = some m.cls := findClass_of_methodNamed B.named
  have hlocks := B.notSynchronized
  clear B
  subst hsz
  generalize hAe : (va_A [] s.heap.size) = A
  have hA : ∀ q : Nat, s.heap.size ≤ q → A q := fun q h => by rw [← hAe]; exact Or.inr h
  have hS : va_S A s.heap s.heap [] := va_S.rf
  have hl := lv_entry ([.int p0, .int p1]) (n := 2) (Nat.le_of_ble_eq_true rfl)
  rw [lg_entry_eq]
  generalize (lg_sl ([.int p0, .int p1]) ++ List.replicate (2 - (lg_sl ([.int p0, .int p1])).length) Slot.unset).toArray = ls at hl ⊢
  generalize ([.int p0, .int p1] : List Value).toArray = av at hts ⊢
  generalize hQ : MQ below _ av s _ _ A = QQ
  have hl : lv_has ls 2 [(0, .int p0), (1, .int p1)] := hl
  have hP : va_P g vwCl [] s.heap := hP
  refine lv_iload_n hx hb dX11_isBelow_0 rfl (lv_at hl 0 rfl) ?_
  refine lv_if_lt (tgt := 13) hx hb dX11_isBelow_1 (by decide) (fun c1 => ?_) (fun c1 => ?_)
  · have f1 := (show p0.toInt < 0 from z_lt rfl rfl c1)
    have r1a : ir p0.toInt (-2147483648) (-1) := ir_lta f1 (rg_all p0) (ir_c 0) (by decide)
    refine lv_iconst (v := 0) hx hb dX11_isBelow_13 (by decide) ?_
    subst hQ
    exact W.zret (v := 0) hx hb hr rfl (fun t ht hW => ⟨⟨0, (), rfl, (Or.inr rfl), trivial⟩, hS.F ht⟩) hS.2.2 dX11_isBelow_14
  have f1 := (show 0 ≤ p0.toInt from z_nlt rfl rfl c1)
  have r1a : ir p0.toInt 0 2147483647 := ir_leb f1 (ir_c 0) (rg_all p0) (by decide)
  refine lv_iload_n hx hb dX11_isBelow_4 rfl (lv_at hl 0 rfl) ?_
  refine lv_iload_n hx hb dX11_isBelow_5 rfl (lv_at hl 1 rfl) ?_
  refine lv_icmp_ge (tgt := 13) hx hb dX11_isBelow_6 (by decide) (fun c6 => ?_) (fun c6 => ?_)
  · have f6 := (show p1.toInt ≤ p0.toInt from z_le rfl rfl c6)
    refine lv_iconst (v := 0) hx hb dX11_isBelow_13 (by decide) ?_
    subst hQ
    exact W.zret (v := 0) hx hb hr rfl (fun t ht hW => ⟨⟨0, (), rfl, (Or.inr rfl), trivial⟩, hS.F ht⟩) hS.2.2 dX11_isBelow_14
  have f6 := (show p0.toInt < p1.toInt from z_nle rfl rfl c6)
  have r6a : ir p0.toInt 0 2147483646 := ir_lta f6 r1a (rg_all p1) (by decide)
  have r6b : ir p1.toInt 1 2147483647 := ir_ltb f6 r1a (rg_all p1) (by decide)
  refine lv_iconst (v := 1) hx hb dX11_isBelow_9 (by decide) ?_
  refine lv_goto (tgt := 14) hx hb dX11_isBelow_10 (by decide) ?_
  subst hQ
  exact W.zret (v := 1) hx hb hr rfl (fun t ht hW => ⟨⟨1, (), rfl, (Or.inl ⟨rfl, (by first | omega | decide), (by first | omega | decide)⟩), trivial⟩, hS.F ht⟩) hS.2.2 dX11_isBelow_14
def v_X11_isBit : List Cond := .code yX11_isBit cX11_isBit 1 (some .boolean) :: (([] : List Cond) ++ ([] : List Cond))
theorem good_v_X11_isBit : v_X11_isBit.all goodWord = true := ga_c (by decide +kernel) (ga_a (by decide +kernel) rfl)
set_option maxHeartbeats 4000000 in
set_option maxRecDepth 100000 in
theorem q_X11_isBit (l : Launch) (g : va_G) (cI cJ cB cZ cL : ClassId) (p0 : Int32) (sz : Nat)  : Met l yX11_isBit v_X11_isBit ({ frames := 0, cells := 0, slots := 0, locals := 0 }) (va_Pc [.int p0] (pRO g (tyT cI cJ cB cZ cL) [] sz)) (va_Qi (fun (r : Int32) (u : Unit) => ((r = 1 ∧ 0 ≤ p0.toInt ∧ p0.toInt ≤ 1) ∨ (r = 0))) (fun (_ : Unit) (_ : State) => True) (va_A [] sz)) 0 0 (va_A [] sz) := by
  refine Met.ofW (cc := cX11_isBit) (maxL := 1) (ret := (some .boolean)) (by decide) rfl ?_
  intro p e s m args below meth c s₁ B hml hv
  obtain ⟨rfl, hsz, hP, hK⟩ := hv
  have hx := B.exec
  have hb := B.bytes
  have hr := B.returns
  have hts := atoms_spec (ws := v_X11_isBit) B.pre
  have hown : s.vm.findClass RX11 = some m.cls := findClass_of_methodNamed B.named
  have hlocks := B.notSynchronized
  clear B
  subst hsz
  generalize hAe : (va_A [] s.heap.size) = A
  have hA : ∀ q : Nat, s.heap.size ≤ q → A q := fun q h => by rw [← hAe]; exact Or.inr h
  have hS : va_S A s.heap s.heap [] := va_S.rf
  have hl := lv_entry ([.int p0]) (n := 1) (Nat.le_of_ble_eq_true rfl)
  rw [lg_entry_eq]
  generalize (lg_sl ([.int p0]) ++ List.replicate (1 - (lg_sl ([.int p0])).length) Slot.unset).toArray = ls at hl ⊢
  generalize ([.int p0] : List Value).toArray = av at hts ⊢
  generalize hQ : MQ below _ av s _ _ A = QQ
  have hl : lv_has ls 1 [(0, .int p0)] := hl
  have hP : va_P g vwCl [] s.heap := hP
  refine lv_iload_n hx hb dX11_isBit_0 rfl (lv_at hl 0 rfl) ?_
  refine lv_if_eq (tgt := 9) hx hb dX11_isBit_1 (by decide) (fun c1 => ?_) (fun c1 => ?_)
  · have f1 := (show p0.toInt = 0 from z_eq rfl rfl c1)
    have r1a : ir p0.toInt 0 0 := ir_eqa f1 (rg_all p0) (ir_c 0) (by decide) (by decide)
    refine lv_iconst (v := 1) hx hb dX11_isBit_9 (by decide) ?_
    refine lv_goto (tgt := 14) hx hb dX11_isBit_10 (by decide) ?_
    subst hQ
    exact W.zret (v := 1) hx hb hr rfl (fun t ht hW => ⟨⟨1, (), rfl, (Or.inl ⟨rfl, (by first | omega | decide), (by first | omega | decide)⟩), trivial⟩, hS.F ht⟩) hS.2.2 dX11_isBit_14
  have f1 := (show p0.toInt ≠ 0 from z_ne rfl rfl c1)
  refine lv_iload_n hx hb dX11_isBit_4 rfl (lv_at hl 0 rfl) ?_
  refine lv_iconst (v := 1) hx hb dX11_isBit_5 (by decide) ?_
  refine lv_icmp_ne (tgt := 13) hx hb dX11_isBit_6 (by decide) (fun c6 => ?_) (fun c6 => ?_)
  · have f6 := (show p0.toInt ≠ 1 from z_ne rfl rfl c6)
    refine lv_iconst (v := 0) hx hb dX11_isBit_13 (by decide) ?_
    subst hQ
    exact W.zret (v := 0) hx hb hr rfl (fun t ht hW => ⟨⟨0, (), rfl, (Or.inr rfl), trivial⟩, hS.F ht⟩) hS.2.2 dX11_isBit_14
  have f6 := (show p0.toInt = 1 from z_eq rfl rfl c6)
  have r6a : ir p0.toInt 1 1 := ir_eqa f6 (rg_all p0) (ir_c 1) (by decide) (by decide)
  refine lv_iconst (v := 1) hx hb dX11_isBit_9 (by decide) ?_
  refine lv_goto (tgt := 14) hx hb dX11_isBit_10 (by decide) ?_
  subst hQ
  exact W.zret (v := 1) hx hb hr rfl (fun t ht hW => ⟨⟨1, (), rfl, (Or.inl ⟨rfl, (by first | omega | decide), (by first | omega | decide)⟩), trivial⟩, hS.F ht⟩) hS.2.2 dX11_isBit_14
def v_X11_isSeed : List Cond := .code yX11_isSeed cX11_isSeed 1 (some .boolean) :: (([.constant RX11 411 (2000000000)] : List Cond) ++ ([] : List Cond))
theorem good_v_X11_isSeed : v_X11_isSeed.all goodWord = true := ga_c (by decide +kernel) (ga_a (by decide +kernel) rfl)
set_option maxHeartbeats 4000000 in
set_option maxRecDepth 100000 in
theorem q_X11_isSeed (l : Launch) (g : va_G) (cI cJ cB cZ cL : ClassId) (p0 : Int32) (sz : Nat)  : Met l yX11_isSeed v_X11_isSeed ({ frames := 0, cells := 0, slots := 0, locals := 0 }) (va_Pc [.int p0] (pRO g (tyT cI cJ cB cZ cL) [] sz)) (va_Qi (fun (r : Int32) (u : Unit) => ((r = 1 ∧ 0 ≤ p0.toInt ∧ p0.toInt ≤ 2000000000) ∨ (r = 0))) (fun (_ : Unit) (_ : State) => True) (va_A [] sz)) 0 0 (va_A [] sz) := by
  refine Met.ofW (cc := cX11_isSeed) (maxL := 1) (ret := (some .boolean)) (by decide) rfl ?_
  intro p e s m args below meth c s₁ B hml hv
  obtain ⟨rfl, hsz, hP, hK⟩ := hv
  have hx := B.exec
  have hb := B.bytes
  have hr := B.returns
  have hts := atoms_spec (ws := v_X11_isSeed) B.pre
  have hown : s.vm.findClass RX11 = some m.cls := findClass_of_methodNamed B.named
  have hlocks := B.notSynchronized
  clear B
  subst hsz
  generalize hAe : (va_A [] s.heap.size) = A
  have hA : ∀ q : Nat, s.heap.size ≤ q → A q := fun q h => by rw [← hAe]; exact Or.inr h
  have hS : va_S A s.heap s.heap [] := va_S.rf
  have hl := lv_entry ([.int p0]) (n := 1) (Nat.le_of_ble_eq_true rfl)
  rw [lg_entry_eq]
  generalize (lg_sl ([.int p0]) ++ List.replicate (1 - (lg_sl ([.int p0])).length) Slot.unset).toArray = ls at hl ⊢
  generalize ([.int p0] : List Value).toArray = av at hts ⊢
  generalize hQ : MQ below _ av s _ _ A = QQ
  have hl : lv_has ls 1 [(0, .int p0)] := hl
  have hP : va_P g vwCl [] s.heap := hP
  refine lv_iload_n hx hb dX11_isSeed_0 rfl (lv_at hl 0 rfl) ?_
  refine lv_if_lt (tgt := 15) hx hb dX11_isSeed_1 (by decide) (fun c1 => ?_) (fun c1 => ?_)
  · have f1 := (show p0.toInt < 0 from z_lt rfl rfl c1)
    have r1a : ir p0.toInt (-2147483648) (-1) := ir_lta f1 (rg_all p0) (ir_c 0) (by decide)
    refine lv_iconst (v := 0) hx hb dX11_isSeed_15 (by decide) ?_
    subst hQ
    exact W.zret (v := 0) hx hb hr rfl (fun t ht hW => ⟨⟨0, (), rfl, (Or.inr rfl), trivial⟩, hS.F ht⟩) hS.2.2 dX11_isSeed_16
  have f1 := (show 0 ≤ p0.toInt from z_nlt rfl rfl c1)
  have r1a : ir p0.toInt 0 2147483647 := ir_leb f1 (ir_c 0) (rg_all p0) (by decide)
  refine lv_iload_n hx hb dX11_isSeed_4 rfl (lv_at hl 0 rfl) ?_
  refine lv_ldcw (v := 2000000000) hx hb hown (hts (.constant RX11 411 (2000000000)) (List.mem_cons_of_mem _ (List.mem_append_left _ (List.mem_of_getElem? (i := 0) rfl)))) dX11_isSeed_5 ?_
  refine lv_icmp_gt (tgt := 15) hx hb dX11_isSeed_8 (by decide) (fun c8 => ?_) (fun c8 => ?_)
  · have f8 := (show 2000000000 < p0.toInt from z_lt rfl rfl c8)
    have r8a : ir p0.toInt 2000000001 2147483647 := ir_ltb f8 (ir_c 2000000000) r1a (by decide)
    refine lv_iconst (v := 0) hx hb dX11_isSeed_15 (by decide) ?_
    subst hQ
    exact W.zret (v := 0) hx hb hr rfl (fun t ht hW => ⟨⟨0, (), rfl, (Or.inr rfl), trivial⟩, hS.F ht⟩) hS.2.2 dX11_isSeed_16
  have f8 := (show p0.toInt ≤ 2000000000 from z_nlt rfl rfl c8)
  have r8a : ir p0.toInt 0 2000000000 := ir_lea f8 r1a (ir_c 2000000000) (by decide)
  refine lv_iconst (v := 1) hx hb dX11_isSeed_11 (by decide) ?_
  refine lv_goto (tgt := 16) hx hb dX11_isSeed_12 (by decide) ?_
  subst hQ
  exact W.zret (v := 1) hx hb hr rfl (fun t ht hW => ⟨⟨1, (), rfl, (Or.inl ⟨rfl, (by first | omega | decide), (by first | omega | decide)⟩), trivial⟩, hS.F ht⟩) hS.2.2 dX11_isSeed_16
def v_X11_areRules : List Cond := .code yX11_areRules cX11_areRules 2 (some .boolean) :: (([.methodLink RX11 148 yX11_isBelow, .static yX11_isBelow, .initialized RX11] : List Cond) ++ (v_X11_isBelow ++ ([] : List Cond)))
theorem good_v_X11_areRules : v_X11_areRules.all goodWord = true := ga_c (by decide +kernel) (ga_a (by decide +kernel) (ga_a good_v_X11_isBelow rfl))
set_option maxHeartbeats 4000000 in
set_option maxRecDepth 100000 in
theorem q_X11_areRules (l : Launch) (g : va_G) (cI cJ cB cZ cL : ClassId) (p0 : Int32) (p1 : Int32) (sz : Nat)  : Met l yX11_areRules v_X11_areRules ({ frames := 1, cells := 0, slots := 0, locals := 21 }) (va_Pc [.int p0, .int p1] (pRO g (tyT cI cJ cB cZ cL) [] sz)) (va_Qi (fun (r : Int32) (u : Unit) => ((r = 1 ∧ 0 ≤ p0.toInt ∧ p0.toInt ≤ 31 ∧ 0 ≤ p1.toInt ∧ p1.toInt ≤ 31) ∨ (r = 0))) (fun (_ : Unit) (_ : State) => True) (va_A [] sz)) 0 0 (va_A [] sz) := by
  refine Met.ofW (cc := cX11_areRules) (maxL := 2) (ret := (some .boolean)) (by decide) rfl ?_
  intro p e s m args below meth c s₁ B hml hv
  obtain ⟨rfl, hsz, hP, hK⟩ := hv
  have hx := B.exec
  have hb := B.bytes
  have hr := B.returns
  have hts := atoms_spec (ws := v_X11_areRules) B.pre
  have hown : s.vm.findClass RX11 = some m.cls := findClass_of_methodNamed B.named
  have hlocks := B.notSynchronized
  clear B
  subst hsz
  generalize hAe : (va_A [] s.heap.size) = A
  have hA : ∀ q : Nat, s.heap.size ≤ q → A q := fun q h => by rw [← hAe]; exact Or.inr h
  have hS : va_S A s.heap s.heap [] := va_S.rf
  have hl := lv_entry ([.int p0, .int p1]) (n := 2) (Nat.le_of_ble_eq_true rfl)
  rw [lg_entry_eq]
  generalize (lg_sl ([.int p0, .int p1]) ++ List.replicate (2 - (lg_sl ([.int p0, .int p1])).length) Slot.unset).toArray = ls at hl ⊢
  generalize ([.int p0, .int p1] : List Value).toArray = av at hts ⊢
  generalize hQ : MQ below _ av s _ _ A = QQ
  have hl : lv_has ls 2 [(0, .int p0), (1, .int p1)] := hl
  have hP : va_P g vwCl [] s.heap := hP
  refine lv_iload_n hx hb dX11_areRules_0 rfl (lv_at hl 0 rfl) ?_
  refine lv_bipush (v := 32) hx hb dX11_areRules_1 (by decide) ?_
  refine ro_i (va_runS (As := [.int p0, .int 32]) (rest := []) ⟨hx, hb, hml, hown, hts⟩ (q_X11_isBelow l g cI cJ cB cZ cL p0 32 s.heap.size ) (va_cwS 2 hts (goodIn_app (g_3 (List.mem_cons_of_mem _ (List.mem_append_left _ (List.mem_of_getElem? (i := 0) rfl))) (List.mem_cons_of_mem _ (List.mem_append_left _ (List.mem_of_getElem? (i := 1) rfl))) (List.mem_cons_of_mem _ (List.mem_append_left _ (List.mem_of_getElem? (i := 2) rfl))) (by decide +kernel)) (goodIn_sub (fun _ h => List.mem_cons_of_mem _ (List.mem_append_right _ (List.mem_append_left _ h))) good_v_X11_isBelow)) rfl rfl rfl (by decide +kernel) ⟨Nat.le_of_ble_eq_true rfl, Nat.le_of_ble_eq_true rfl⟩) (ps_RO (wc := []) hK hP [] rfl) rfl rfl hl.1 rfl (lv_room (Nat.le_of_ble_eq_true rfl)) dX11_areRules_3 ⟨Nat.le_of_ble_eq_true rfl, Nat.le_of_ble_eq_true rfl⟩) hS hA hP (fun r3 u3 H locs hw3 hP hS => ?_)
  have hw3_0 := hw3
  rcases hw3_0 with ⟨er3, fc3_0, fc3_1⟩ | er3
  rotate_left 1
  · subst er3
    refine lv_if_eq (tgt := 22) hx hb dX11_areRules_6 (by decide) (fun _ => ?_) (fun c => absurd c (by decide))
    refine lv_iconst (v := 0) hx hb dX11_areRules_22 (by decide) ?_
    subst hQ
    exact W.zret (v := 0) hx hb hr rfl (fun t ht hW => ⟨⟨0, (), rfl, (Or.inr rfl), trivial⟩, hS.F ht⟩) hS.2.2 dX11_areRules_23
  subst er3
  have fc3_0 : 0 ≤ p0.toInt := fc3_0
  have r3_0b : ir p0.toInt 0 2147483647 := ir_leb fc3_0 (ir_c 0) (rg_all p0) (by decide)
  have fc3_1 : p0.toInt < 32 := fc3_1
  have r3_1a : ir p0.toInt 0 31 := ir_lta fc3_1 r3_0b (ir_c 32) (by decide)
  refine lv_if_eq (tgt := 22) hx hb dX11_areRules_6 (by decide) (fun c => absurd c (by decide)) (fun _ => ?_)
  refine lv_iload_n hx hb dX11_areRules_9 rfl (lv_at hl 1 rfl) ?_
  refine lv_bipush (v := 32) hx hb dX11_areRules_10 (by decide) ?_
  refine ro_i (va_runS (As := [.int p1, .int 32]) (rest := []) ⟨hx, hb, hml, hown, hts⟩ (q_X11_isBelow l g cI cJ cB cZ cL p1 32 H.size ) (va_cwS 2 hts (goodIn_app (g_3 (List.mem_cons_of_mem _ (List.mem_append_left _ (List.mem_of_getElem? (i := 0) rfl))) (List.mem_cons_of_mem _ (List.mem_append_left _ (List.mem_of_getElem? (i := 1) rfl))) (List.mem_cons_of_mem _ (List.mem_append_left _ (List.mem_of_getElem? (i := 2) rfl))) (by decide +kernel)) (goodIn_sub (fun _ h => List.mem_cons_of_mem _ (List.mem_append_right _ (List.mem_append_left _ h))) good_v_X11_isBelow)) rfl rfl rfl (by decide +kernel) ⟨Nat.le_of_ble_eq_true rfl, Nat.le_of_ble_eq_true rfl⟩) (ps_RO (wc := []) hK hP [] rfl) rfl rfl hl.1 rfl (lv_room (Nat.le_of_ble_eq_true rfl)) dX11_areRules_12 ⟨Nat.le_of_ble_eq_true rfl, Nat.le_of_ble_eq_true rfl⟩) hS hA hP (fun r12 u12 H locs hw12 hP hS => ?_)
  have hw12_0 := hw12
  rcases hw12_0 with ⟨er12, fc12_0, fc12_1⟩ | er12
  rotate_left 1
  · subst er12
    refine lv_if_eq (tgt := 22) hx hb dX11_areRules_15 (by decide) (fun _ => ?_) (fun c => absurd c (by decide))
    refine lv_iconst (v := 0) hx hb dX11_areRules_22 (by decide) ?_
    subst hQ
    exact W.zret (v := 0) hx hb hr rfl (fun t ht hW => ⟨⟨0, (), rfl, (Or.inr rfl), trivial⟩, hS.F ht⟩) hS.2.2 dX11_areRules_23
  subst er12
  have fc12_0 : 0 ≤ p1.toInt := fc12_0
  have r12_0b : ir p1.toInt 0 2147483647 := ir_leb fc12_0 (ir_c 0) (rg_all p1) (by decide)
  have fc12_1 : p1.toInt < 32 := fc12_1
  have r12_1a : ir p1.toInt 0 31 := ir_lta fc12_1 r12_0b (ir_c 32) (by decide)
  refine lv_if_eq (tgt := 22) hx hb dX11_areRules_15 (by decide) (fun c => absurd c (by decide)) (fun _ => ?_)
  refine lv_iconst (v := 1) hx hb dX11_areRules_18 (by decide) ?_
  refine lv_goto (tgt := 23) hx hb dX11_areRules_19 (by decide) ?_
  subst hQ
  exact W.zret (v := 1) hx hb hr rfl (fun t ht hW => ⟨⟨1, (), rfl, (Or.inl ⟨rfl, (by first | omega | decide), (by first | omega | decide), (by first | omega | decide), (by first | omega | decide)⟩), trivial⟩, hS.F ht⟩) hS.2.2 dX11_areRules_23
def v_X11_isAt : List Cond := .code yX11_isAt cX11_isAt 3 (some .boolean) :: (([] : List Cond) ++ ([] : List Cond))
theorem good_v_X11_isAt : v_X11_isAt.all goodWord = true := ga_c (by decide +kernel) (ga_a (by decide +kernel) rfl)
set_option maxHeartbeats 4000000 in
set_option maxRecDepth 100000 in
theorem q_X11_isAt (l : Launch) (g : va_G) (cI cJ cB cZ cL : ClassId) (p0 : Int64) (p1 : Int32) (sz : Nat)  : Met l yX11_isAt v_X11_isAt ({ frames := 0, cells := 0, slots := 0, locals := 0 }) (va_Pc [.long p0, .int p1] (pRO g (tyT cI cJ cB cZ cL) [] sz)) (va_Qi (fun (r : Int32) (u : Unit) => (ir r.toInt 0 1)) (fun (_ : Unit) (_ : State) => True) (va_A [] sz)) 0 0 (va_A [] sz) := by
  refine Met.ofW (cc := cX11_isAt) (maxL := 3) (ret := (some .boolean)) (by decide) rfl ?_
  intro p e s m args below meth c s₁ B hml hv
  obtain ⟨rfl, hsz, hP, hK⟩ := hv
  have hx := B.exec
  have hb := B.bytes
  have hr := B.returns
  have hts := atoms_spec (ws := v_X11_isAt) B.pre
  have hown : s.vm.findClass RX11 = some m.cls := findClass_of_methodNamed B.named
  have hlocks := B.notSynchronized
  clear B
  subst hsz
  generalize hAe : (va_A [] s.heap.size) = A
  have hA : ∀ q : Nat, s.heap.size ≤ q → A q := fun q h => by rw [← hAe]; exact Or.inr h
  have hS : va_S A s.heap s.heap [] := va_S.rf
  have hl := lv_entry ([.long p0, .int p1]) (n := 3) (Nat.le_of_ble_eq_true rfl)
  rw [lg_entry_eq]
  generalize (lg_sl ([.long p0, .int p1]) ++ List.replicate (3 - (lg_sl ([.long p0, .int p1])).length) Slot.unset).toArray = ls at hl ⊢
  generalize ([.long p0, .int p1] : List Value).toArray = av at hts ⊢
  generalize hQ : MQ below _ av s _ _ A = QQ
  have hl : lv_has ls 3 [(0, .long p0), (2, .int p1)] := hl
  have hP : va_P g vwCl [] s.heap := hP
  refine lv_lload_n hx hb dX11_isAt_0 rfl (lv_at hl 0 rfl) ?_
  refine lv_iload_n hx hb dX11_isAt_1 rfl (lv_at hl 1 rfl) ?_
  refine lv_lshr (v := (p0 >>> (p1.toInt64 &&& 63))) hx hb dX11_isAt_2 rfl ?_
  refine lv_topl (fun y2 e2 => ?_)
  refine lv_lconst (v := 1) hx hb dX11_isAt_3 (by decide) ?_
  refine lv_land hx hb dX11_isAt_4 ?_
  refine lv_topl (fun y4 e4 => ?_)
  have r4 : ir y4.toInt 0 1 := by rw [e4]; exact lan_y (by decide)
  refine lv_lconst (v := 0) hx hb dX11_isAt_5 (by decide) ?_
  refine W.lcmp hx hb dX11_isAt_6 ?_
  refine lv_if_eq (tgt := 14) hx hb dX11_isAt_7 (by decide) (fun c7 => ?_) (fun c7 => ?_)
  · have f7 := (show y4.toInt = 0 from y_eq rfl rfl c7)
    have r7a : ir y4.toInt 0 0 := ir_eqa f7 r4 (ir_c 0) (by decide) (by decide)
    refine lv_iconst (v := 0) hx hb dX11_isAt_14 (by decide) ?_
    subst hQ
    exact W.zret (v := 0) hx hb hr rfl (fun t ht hW => ⟨⟨0, (), rfl, (show ir (0 : Int32).toInt 0 1 by decide), trivial⟩, hS.F ht⟩) hS.2.2 dX11_isAt_15
  have f7 := (show y4.toInt ≠ 0 from y_ne rfl rfl c7)
  have r7a : ir y4.toInt 1 1 := ir_nel f7 r4 (by decide) (by decide)
  refine lv_iconst (v := 1) hx hb dX11_isAt_10 (by decide) ?_
  refine lv_goto (tgt := 15) hx hb dX11_isAt_11 (by decide) ?_
  subst hQ
  exact W.zret (v := 1) hx hb hr rfl (fun t ht hW => ⟨⟨1, (), rfl, (show ir (1 : Int32).toInt 0 1 by decide), trivial⟩, hS.F ht⟩) hS.2.2 dX11_isAt_15
def v_X11_withBit : List Cond := .code yX11_withBit cX11_withBit 4 (some .long) :: (([.constantLong RX11 210 (-1)] : List Cond) ++ ([] : List Cond))
theorem good_v_X11_withBit : v_X11_withBit.all goodWord = true := ga_c (by decide +kernel) (ga_a (by decide +kernel) rfl)
set_option maxHeartbeats 4000000 in
set_option maxRecDepth 100000 in
theorem q_X11_withBit (l : Launch) (g : va_G) (cI cJ cB cZ cL : ClassId) (p0 : Int64) (p1 : Int32) (p2 : Int32) (sz : Nat)  : Met l yX11_withBit v_X11_withBit ({ frames := 0, cells := 0, slots := 0, locals := 0 }) (va_Pc [.long p0, .int p1, .int p2] (pRO g (tyT cI cJ cB cZ cL) [] sz)) (va_Ql (fun (r : Int64) (u : Unit) => True) (fun (_ : Unit) (_ : State) => True) (va_A [] sz)) 0 0 (va_A [] sz) := by
  refine Met.ofW (cc := cX11_withBit) (maxL := 4) (ret := (some .long)) (by decide) rfl ?_
  intro p e s m args below meth c s₁ B hml hv
  obtain ⟨rfl, hsz, hP, hK⟩ := hv
  have hx := B.exec
  have hb := B.bytes
  have hr := B.returns
  have hts := atoms_spec (ws := v_X11_withBit) B.pre
  have hown : s.vm.findClass RX11 = some m.cls := findClass_of_methodNamed B.named
  have hlocks := B.notSynchronized
  clear B
  subst hsz
  generalize hAe : (va_A [] s.heap.size) = A
  have hA : ∀ q : Nat, s.heap.size ≤ q → A q := fun q h => by rw [← hAe]; exact Or.inr h
  have hS : va_S A s.heap s.heap [] := va_S.rf
  have hl := lv_entry ([.long p0, .int p1, .int p2]) (n := 4) (Nat.le_of_ble_eq_true rfl)
  rw [lg_entry_eq]
  generalize (lg_sl ([.long p0, .int p1, .int p2]) ++ List.replicate (4 - (lg_sl ([.long p0, .int p1, .int p2])).length) Slot.unset).toArray = ls at hl ⊢
  generalize ([.long p0, .int p1, .int p2] : List Value).toArray = av at hts ⊢
  generalize hQ : MQ below _ av s _ _ A = QQ
  have hl : lv_has ls 4 [(0, .long p0), (2, .int p1), (3, .int p2)] := hl
  have hP : va_P g vwCl [] s.heap := hP
  refine lv_iload_n hx hb dX11_withBit_0 rfl (lv_at hl 2 rfl) ?_
  refine lv_iconst (v := 1) hx hb dX11_withBit_1 (by decide) ?_
  refine lv_icmp_ne (tgt := 13) hx hb dX11_withBit_2 (by decide) (fun c2 => ?_) (fun c2 => ?_)
  rotate_left 1
  · have f2 := (show p2.toInt = 1 from z_eq rfl rfl c2)
    have r2a : ir p2.toInt 1 1 := ir_eqa f2 (rg_all p2) (ir_c 1) (by decide) (by decide)
    refine lv_lload_n hx hb dX11_withBit_5 rfl (lv_at hl 0 rfl) ?_
    refine lv_lconst (v := 1) hx hb dX11_withBit_6 (by decide) ?_
    refine lv_iload_n hx hb dX11_withBit_7 rfl (lv_at hl 1 rfl) ?_
    refine lv_lshl (v := (1 <<< (p1.toInt64 &&& 63))) hx hb dX11_withBit_8 rfl ?_
    refine lv_topl (fun y8 e8 => ?_)
    refine lv_lor hx hb dX11_withBit_9 ?_
    refine lv_topl (fun y9 e9 => ?_)
    refine lv_goto (tgt := 22) hx hb dX11_withBit_10 (by decide) ?_
    subst hQ
    exact W.lret (v := y9) hx hb hr (fun t ht hW => ⟨⟨y9, (), rfl, trivial, trivial⟩, hS.F ht⟩) hS.2.2 dX11_withBit_22
  have f2 := (show p2.toInt ≠ 1 from z_ne rfl rfl c2)
  refine lv_lload_n hx hb dX11_withBit_13 rfl (lv_at hl 0 rfl) ?_
  refine lv_lconst (v := 1) hx hb dX11_withBit_14 (by decide) ?_
  refine lv_iload_n hx hb dX11_withBit_15 rfl (lv_at hl 1 rfl) ?_
  refine lv_lshl (v := (1 <<< (p1.toInt64 &&& 63))) hx hb dX11_withBit_16 rfl ?_
  refine lv_topl (fun y16 e16 => ?_)
  refine lv_ldc2 (v := (-1)) hx hb hown (hts (.constantLong RX11 210 (-1)) (List.mem_cons_of_mem _ (List.mem_append_left _ (List.mem_of_getElem? (i := 0) rfl)))) dX11_withBit_17 ?_
  refine lv_lxor hx hb dX11_withBit_20 ?_
  refine lv_topl (fun y20 e20 => ?_)
  refine lv_land hx hb dX11_withBit_21 ?_
  refine lv_topl (fun y21 e21 => ?_)
  subst hQ
  exact W.lret (v := y21) hx hb hr (fun t ht hW => ⟨⟨y21, (), rfl, trivial, trivial⟩, hS.F ht⟩) hS.2.2 dX11_withBit_22
def v_X11_highest : List Cond := .code yX11_highest cX11_highest 2 (some .int) :: (([.methodLink RX11 412 yJ13_numberOfLeadingZeros_95d88, .static yJ13_numberOfLeadingZeros_95d88, .initialized RJ13] : List Cond) ++ (v_J13_numberOfLeadingZeros_95d88 ++ ([] : List Cond)))
theorem good_v_X11_highest : v_X11_highest.all goodWord = true := ga_c (by decide +kernel) (ga_a (by decide +kernel) (ga_a good_v_J13_numberOfLeadingZeros_95d88 rfl))
set_option maxHeartbeats 4000000 in
set_option maxRecDepth 100000 in
theorem q_X11_highest (l : Launch) (g : va_G) (cI cJ cB cZ cL : ClassId) (p0 : Int64) (sz : Nat)  : Met l yX11_highest v_X11_highest ({ frames := 2, cells := 0, slots := 0, locals := 43 }) (va_Pc [.long p0] (pRO g (tyT cI cJ cB cZ cL) [] sz)) (va_Qi (fun (r : Int32) (u : Unit) => True) (fun (_ : Unit) (_ : State) => True) (va_A [] sz)) 0 0 (va_A [] sz) := by
  refine Met.ofW (cc := cX11_highest) (maxL := 2) (ret := (some .int)) (by decide) rfl ?_
  intro p e s m args below meth c s₁ B hml hv
  obtain ⟨rfl, hsz, hP, hK⟩ := hv
  have hx := B.exec
  have hb := B.bytes
  have hr := B.returns
  have hts := atoms_spec (ws := v_X11_highest) B.pre
  have hown : s.vm.findClass RX11 = some m.cls := findClass_of_methodNamed B.named
  have hlocks := B.notSynchronized
  clear B
  subst hsz
  generalize hAe : (va_A [] s.heap.size) = A
  have hA : ∀ q : Nat, s.heap.size ≤ q → A q := fun q h => by rw [← hAe]; exact Or.inr h
  have hS : va_S A s.heap s.heap [] := va_S.rf
  have hl := lv_entry ([.long p0]) (n := 2) (Nat.le_of_ble_eq_true rfl)
  rw [lg_entry_eq]
  generalize (lg_sl ([.long p0]) ++ List.replicate (2 - (lg_sl ([.long p0])).length) Slot.unset).toArray = ls at hl ⊢
  generalize ([.long p0] : List Value).toArray = av at hts ⊢
  generalize hQ : MQ below _ av s _ _ A = QQ
  have hl : lv_has ls 2 [(0, .long p0)] := hl
  have hP : va_P g vwCl [] s.heap := hP
  refine lv_lload_n hx hb dX11_highest_0 rfl (lv_at hl 0 rfl) ?_
  refine lv_lconst (v := 0) hx hb dX11_highest_1 (by decide) ?_
  refine W.lcmp hx hb dX11_highest_2 ?_
  refine lv_if_ne (tgt := 10) hx hb dX11_highest_3 (by decide) (fun c3 => ?_) (fun c3 => ?_)
  rotate_left 1
  · have f3 := (show p0.toInt = 0 from y_eq rfl rfl c3)
    have r3a : ir p0.toInt 0 0 := ir_eqa f3 (rl_all p0) (ir_c 0) (by decide) (by decide)
    refine lv_iconst (v := (-1)) hx hb dX11_highest_6 (by decide) ?_
    refine lv_goto (tgt := 17) hx hb dX11_highest_7 (by decide) ?_
    subst hQ
    exact W.iret (v := (-1)) hx hb hr (fun t ht hW => ⟨⟨(-1), (), rfl, trivial, trivial⟩, hS.F ht⟩) hS.2.2 dX11_highest_17
  have f3 := (show p0.toInt ≠ 0 from y_ne rfl rfl c3)
  refine lv_bipush (v := 63) hx hb dX11_highest_10 (by decide) ?_
  refine lv_lload_n hx hb dX11_highest_12 rfl (lv_at hl 0 rfl) ?_
  refine ro_i (va_runS (As := [.long p0]) (rest := [.int 63]) ⟨hx, hb, hml, hown, hts⟩ (q_J13_numberOfLeadingZeros_95d88 l g cI cJ cB cZ cL p0 s.heap.size ) (va_cwS 1 hts (goodIn_app (g_3 (List.mem_cons_of_mem _ (List.mem_append_left _ (List.mem_of_getElem? (i := 0) rfl))) (List.mem_cons_of_mem _ (List.mem_append_left _ (List.mem_of_getElem? (i := 1) rfl))) (List.mem_cons_of_mem _ (List.mem_append_left _ (List.mem_of_getElem? (i := 2) rfl))) (by decide +kernel)) (goodIn_sub (fun _ h => List.mem_cons_of_mem _ (List.mem_append_right _ (List.mem_append_left _ h))) good_v_J13_numberOfLeadingZeros_95d88)) rfl rfl rfl (by decide +kernel) ⟨Nat.le_of_ble_eq_true rfl, Nat.le_of_ble_eq_true rfl⟩) (ps_RO (wc := []) hK hP [] rfl) rfl rfl hl.1 rfl (lv_room (Nat.le_of_ble_eq_true rfl)) dX11_highest_13 ⟨Nat.le_of_ble_eq_true rfl, Nat.le_of_ble_eq_true rfl⟩) hS hA hP (fun r13 u13 H locs hw13 hP hS => ?_)
  refine lv_isub hx hb dX11_highest_16 ?_
  refine lv_topi (fun y16 e16 => ?_)
  subst hQ
  exact W.iret (v := y16) hx hb hr (fun t ht hW => ⟨⟨y16, (), rfl, trivial, trivial⟩, hS.F ht⟩) hS.2.2 dX11_highest_17
def v_X4_isThere : List Cond := .code yX4_isThere cX4_isThere 1 (some .boolean) :: (([.fieldLink RX4 37 "CardsAtYule$Land" "lines" "I"] : List Cond) ++ (wsX40 ++ ([] : List Cond)))
theorem good_v_X4_isThere : v_X4_isThere.all goodWord = true := ga_c (by decide +kernel) (ga_a (by decide +kernel) (ga_a good_wsX40 rfl))
set_option maxHeartbeats 4000000 in
set_option maxRecDepth 100000 in
theorem q_X4_isThere (l : Launch) (g : va_G) (cI cJ cB cZ cL : ClassId) (ld : Nat) (ld_lines : Int32) (ld_years : Int32) (ld_card : Int32) (ld_hurt : Int32) (ld_people : Int32) (ld_pairs : Int32) (ld_strikes : Int64) (ld_rule : Nat) (ld_returns : Nat) (ld_forgets : Nat) (ld_death : Nat) (ld_move : Nat) (ld_begun : Nat) (ld_who : Nat) (ld_lost : Nat) (sz : Nat) (hv_ld_years : ir ld_years.toInt 0 40) (hv_ld_people : ir ld_people.toInt 0 10) (hv_ld_pairs : ir ld_pairs.toInt 0 16) : Met l yX4_isThere v_X4_isThere ({ frames := 0, cells := 0, slots := 0, locals := 0 }) (va_Pc [.ref ld] (pRO g (tyT cI cJ cB cZ cL) [(ld, .inr (4, [.int ld_lines, .int ld_years, .int ld_card, .int ld_hurt, .int ld_people, .int ld_pairs, .long ld_strikes, .ref ld_rule, .ref ld_returns, .ref ld_forgets, .ref ld_death, .ref ld_move, .ref ld_begun, .ref ld_who, .ref ld_lost]))] sz)) (va_Qi (fun (r : Int32) (u : Unit) => (ir r.toInt 0 1)) (fun (_ : Unit) (_ : State) => True) (va_A [] sz)) 0 0 (va_A [] sz) := by
  refine Met.ofW (cc := cX4_isThere) (maxL := 1) (ret := (some .boolean)) (by decide) rfl ?_
  intro p e s m args below meth c s₁ B hml hv
  obtain ⟨rfl, hsz, hP, hK⟩ := hv
  have hx := B.exec
  have hb := B.bytes
  have hr := B.returns
  have hts := atoms_spec (ws := v_X4_isThere) B.pre
  have hown : s.vm.findClass RX4 = some m.cls := findClass_of_methodNamed B.named
  have hlocks := B.notSynchronized
  clear B
  subst hsz
  have iX4 : ∀ w ∈ wsX40, w ∈ v_X4_isThere := (fun _ h => List.mem_cons_of_mem _ (List.mem_append_right _ (List.mem_append_left _ h)))
  generalize hAe : (va_A [] s.heap.size) = A
  have hA : ∀ q : Nat, s.heap.size ≤ q → A q := fun q h => by rw [← hAe]; exact Or.inr h
  have hS : va_S A s.heap s.heap [] := va_S.rf
  have hl := lv_entry ([.ref ld]) (n := 1) (Nat.le_of_ble_eq_true rfl)
  rw [lg_entry_eq]
  generalize (lg_sl ([.ref ld]) ++ List.replicate (1 - (lg_sl ([.ref ld])).length) Slot.unset).toArray = ls at hl ⊢
  generalize ([.ref ld] : List Value).toArray = av at hts ⊢
  generalize hQ : MQ below _ av s _ _ A = QQ
  have hl : lv_has ls 1 [(0, .ref ld)] := hl
  have hP : va_P g vwCl [(ld, .inr (4, [.int ld_lines, .int ld_years, .int ld_card, .int ld_hurt, .int ld_people, .int ld_pairs, .long ld_strikes, .ref ld_rule, .ref ld_returns, .ref ld_forgets, .ref ld_death, .ref ld_move, .ref ld_begun, .ref ld_who, .ref ld_lost]))] s.heap := hP
  refine lv_aload_n hx hb dX4_isThere_0 rfl (lv_at hl 0 rfl) ?_
  refine va_get (D := g) (ci := 4) (v := .int ld_lines) (C := RX4) (T := TX4) (N := 15) hx hb hts iX4 hown hK hP 0 rfl rfl 0 (by decide) (hts (.fieldLink RX4 37 "CardsAtYule$Land" "lines" "I") (List.mem_cons_of_mem _ (List.mem_append_left _ (List.mem_of_getElem? (i := 0) rfl)))) (fun _ h9 => h9) rfl dX4_isThere_1 ?_
  refine lv_if_le (tgt := 11) hx hb dX4_isThere_4 (by decide) (fun c4 => ?_) (fun c4 => ?_)
  · have f4 := (show ld_lines.toInt ≤ 0 from z_le rfl rfl c4)
    have r4a : ir ld_lines.toInt (-2147483648) 0 := ir_lea f4 (rg_all ld_lines) (ir_c 0) (by decide)
    refine lv_iconst (v := 0) hx hb dX4_isThere_11 (by decide) ?_
    subst hQ
    exact W.zret (v := 0) hx hb hr rfl (fun t ht hW => ⟨⟨0, (), rfl, (show ir (0 : Int32).toInt 0 1 by decide), trivial⟩, hS.F ht⟩) hS.2.2 dX4_isThere_12
  have f4 := (show 0 < ld_lines.toInt from z_nle rfl rfl c4)
  have r4a : ir ld_lines.toInt 1 2147483647 := ir_ltb f4 (ir_c 0) (rg_all ld_lines) (by decide)
  refine lv_iconst (v := 1) hx hb dX4_isThere_7 (by decide) ?_
  refine lv_goto (tgt := 12) hx hb dX4_isThere_8 (by decide) ?_
  subst hQ
  exact W.zret (v := 1) hx hb hr rfl (fun t ht hW => ⟨⟨1, (), rfl, (show ir (1 : Int32).toInt 0 1 by decide), trivial⟩, hS.F ht⟩) hS.2.2 dX4_isThere_12
def v_X4_hasPerson : List Cond := .code yX4_hasPerson cX4_hasPerson 2 (some .boolean) :: (([.fieldLink RX4 50 "CardsAtYule$Land" "people" "I"] : List Cond) ++ (wsX40 ++ ([] : List Cond)))
theorem good_v_X4_hasPerson : v_X4_hasPerson.all goodWord = true := ga_c (by decide +kernel) (ga_a (by decide +kernel) (ga_a good_wsX40 rfl))
set_option maxHeartbeats 4000000 in
set_option maxRecDepth 100000 in
theorem q_X4_hasPerson (l : Launch) (g : va_G) (cI cJ cB cZ cL : ClassId) (p0 : Int32) (ld : Nat) (ld_lines : Int32) (ld_years : Int32) (ld_card : Int32) (ld_hurt : Int32) (ld_people : Int32) (ld_pairs : Int32) (ld_strikes : Int64) (ld_rule : Nat) (ld_returns : Nat) (ld_forgets : Nat) (ld_death : Nat) (ld_move : Nat) (ld_begun : Nat) (ld_who : Nat) (ld_lost : Nat) (sz : Nat) (hv_ld_years : ir ld_years.toInt 0 40) (hv_ld_people : ir ld_people.toInt 0 10) (hv_ld_pairs : ir ld_pairs.toInt 0 16) : Met l yX4_hasPerson v_X4_hasPerson ({ frames := 0, cells := 0, slots := 0, locals := 0 }) (va_Pc [.ref ld, .int p0] (pRO g (tyT cI cJ cB cZ cL) [(ld, .inr (4, [.int ld_lines, .int ld_years, .int ld_card, .int ld_hurt, .int ld_people, .int ld_pairs, .long ld_strikes, .ref ld_rule, .ref ld_returns, .ref ld_forgets, .ref ld_death, .ref ld_move, .ref ld_begun, .ref ld_who, .ref ld_lost]))] sz)) (va_Qi (fun (r : Int32) (u : Unit) => ((r = 1 ∧ 0 ≤ p0.toInt ∧ p0.toInt < ld_people.toInt) ∨ (r = 0))) (fun (_ : Unit) (_ : State) => True) (va_A [] sz)) 0 0 (va_A [] sz) := by
  refine Met.ofW (cc := cX4_hasPerson) (maxL := 2) (ret := (some .boolean)) (by decide) rfl ?_
  intro p e s m args below meth c s₁ B hml hv
  obtain ⟨rfl, hsz, hP, hK⟩ := hv
  have hx := B.exec
  have hb := B.bytes
  have hr := B.returns
  have hts := atoms_spec (ws := v_X4_hasPerson) B.pre
  have hown : s.vm.findClass RX4 = some m.cls := findClass_of_methodNamed B.named
  have hlocks := B.notSynchronized
  clear B
  subst hsz
  have iX4 : ∀ w ∈ wsX40, w ∈ v_X4_hasPerson := (fun _ h => List.mem_cons_of_mem _ (List.mem_append_right _ (List.mem_append_left _ h)))
  generalize hAe : (va_A [] s.heap.size) = A
  have hA : ∀ q : Nat, s.heap.size ≤ q → A q := fun q h => by rw [← hAe]; exact Or.inr h
  have hS : va_S A s.heap s.heap [] := va_S.rf
  have hl := lv_entry ([.ref ld, .int p0]) (n := 2) (Nat.le_of_ble_eq_true rfl)
  rw [lg_entry_eq]
  generalize (lg_sl ([.ref ld, .int p0]) ++ List.replicate (2 - (lg_sl ([.ref ld, .int p0])).length) Slot.unset).toArray = ls at hl ⊢
  generalize ([.ref ld, .int p0] : List Value).toArray = av at hts ⊢
  generalize hQ : MQ below _ av s _ _ A = QQ
  have hl : lv_has ls 2 [(0, .ref ld), (1, .int p0)] := hl
  have hP : va_P g vwCl [(ld, .inr (4, [.int ld_lines, .int ld_years, .int ld_card, .int ld_hurt, .int ld_people, .int ld_pairs, .long ld_strikes, .ref ld_rule, .ref ld_returns, .ref ld_forgets, .ref ld_death, .ref ld_move, .ref ld_begun, .ref ld_who, .ref ld_lost]))] s.heap := hP
  refine lv_iload_n hx hb dX4_hasPerson_0 rfl (lv_at hl 1 rfl) ?_
  refine lv_if_lt (tgt := 16) hx hb dX4_hasPerson_1 (by decide) (fun c1 => ?_) (fun c1 => ?_)
  · have f1 := (show p0.toInt < 0 from z_lt rfl rfl c1)
    have r1a : ir p0.toInt (-2147483648) (-1) := ir_lta f1 (rg_all p0) (ir_c 0) (by decide)
    refine lv_iconst (v := 0) hx hb dX4_hasPerson_16 (by decide) ?_
    subst hQ
    exact W.zret (v := 0) hx hb hr rfl (fun t ht hW => ⟨⟨0, (), rfl, (Or.inr rfl), trivial⟩, hS.F ht⟩) hS.2.2 dX4_hasPerson_17
  have f1 := (show 0 ≤ p0.toInt from z_nlt rfl rfl c1)
  have r1a : ir p0.toInt 0 2147483647 := ir_leb f1 (ir_c 0) (rg_all p0) (by decide)
  refine lv_iload_n hx hb dX4_hasPerson_4 rfl (lv_at hl 1 rfl) ?_
  refine lv_aload_n hx hb dX4_hasPerson_5 rfl (lv_at hl 0 rfl) ?_
  refine va_get (D := g) (ci := 4) (v := .int ld_people) (C := RX4) (T := TX4) (N := 15) hx hb hts iX4 hown hK hP 0 rfl rfl 4 (by decide) (hts (.fieldLink RX4 50 "CardsAtYule$Land" "people" "I") (List.mem_cons_of_mem _ (List.mem_append_left _ (List.mem_of_getElem? (i := 0) rfl)))) (fun _ h9 => h9) rfl dX4_hasPerson_6 ?_
  refine lv_icmp_ge (tgt := 16) hx hb dX4_hasPerson_9 (by decide) (fun c9 => ?_) (fun c9 => ?_)
  · have f9 := (show ld_people.toInt ≤ p0.toInt from z_le rfl rfl c9)
    refine lv_iconst (v := 0) hx hb dX4_hasPerson_16 (by decide) ?_
    subst hQ
    exact W.zret (v := 0) hx hb hr rfl (fun t ht hW => ⟨⟨0, (), rfl, (Or.inr rfl), trivial⟩, hS.F ht⟩) hS.2.2 dX4_hasPerson_17
  have f9 := (show p0.toInt < ld_people.toInt from z_nle rfl rfl c9)
  have r9a : ir p0.toInt 0 9 := ir_lta f9 r1a hv_ld_people (by decide)
  have r9b : ir ld_people.toInt 1 10 := ir_ltb f9 r1a hv_ld_people (by decide)
  refine lv_iconst (v := 1) hx hb dX4_hasPerson_12 (by decide) ?_
  refine lv_goto (tgt := 17) hx hb dX4_hasPerson_13 (by decide) ?_
  subst hQ
  exact W.zret (v := 1) hx hb hr rfl (fun t ht hW => ⟨⟨1, (), rfl, (Or.inl ⟨rfl, (by first | omega | decide), (by first | omega | decide)⟩), trivial⟩, hS.F ht⟩) hS.2.2 dX4_hasPerson_17
def v_X4_hasPair : List Cond := .code yX4_hasPair cX4_hasPair 2 (some .boolean) :: (([.fieldLink RX4 53 "CardsAtYule$Land" "pairs" "I"] : List Cond) ++ (wsX40 ++ ([] : List Cond)))
theorem good_v_X4_hasPair : v_X4_hasPair.all goodWord = true := ga_c (by decide +kernel) (ga_a (by decide +kernel) (ga_a good_wsX40 rfl))
set_option maxHeartbeats 4000000 in
set_option maxRecDepth 100000 in
theorem q_X4_hasPair (l : Launch) (g : va_G) (cI cJ cB cZ cL : ClassId) (p0 : Int32) (ld : Nat) (ld_lines : Int32) (ld_years : Int32) (ld_card : Int32) (ld_hurt : Int32) (ld_people : Int32) (ld_pairs : Int32) (ld_strikes : Int64) (ld_rule : Nat) (ld_returns : Nat) (ld_forgets : Nat) (ld_death : Nat) (ld_move : Nat) (ld_begun : Nat) (ld_who : Nat) (ld_lost : Nat) (sz : Nat) (hv_ld_years : ir ld_years.toInt 0 40) (hv_ld_people : ir ld_people.toInt 0 10) (hv_ld_pairs : ir ld_pairs.toInt 0 16) : Met l yX4_hasPair v_X4_hasPair ({ frames := 0, cells := 0, slots := 0, locals := 0 }) (va_Pc [.ref ld, .int p0] (pRO g (tyT cI cJ cB cZ cL) [(ld, .inr (4, [.int ld_lines, .int ld_years, .int ld_card, .int ld_hurt, .int ld_people, .int ld_pairs, .long ld_strikes, .ref ld_rule, .ref ld_returns, .ref ld_forgets, .ref ld_death, .ref ld_move, .ref ld_begun, .ref ld_who, .ref ld_lost]))] sz)) (va_Qi (fun (r : Int32) (u : Unit) => ((r = 1 ∧ 0 ≤ p0.toInt ∧ p0.toInt < ld_pairs.toInt) ∨ (r = 0))) (fun (_ : Unit) (_ : State) => True) (va_A [] sz)) 0 0 (va_A [] sz) := by
  refine Met.ofW (cc := cX4_hasPair) (maxL := 2) (ret := (some .boolean)) (by decide) rfl ?_
  intro p e s m args below meth c s₁ B hml hv
  obtain ⟨rfl, hsz, hP, hK⟩ := hv
  have hx := B.exec
  have hb := B.bytes
  have hr := B.returns
  have hts := atoms_spec (ws := v_X4_hasPair) B.pre
  have hown : s.vm.findClass RX4 = some m.cls := findClass_of_methodNamed B.named
  have hlocks := B.notSynchronized
  clear B
  subst hsz
  have iX4 : ∀ w ∈ wsX40, w ∈ v_X4_hasPair := (fun _ h => List.mem_cons_of_mem _ (List.mem_append_right _ (List.mem_append_left _ h)))
  generalize hAe : (va_A [] s.heap.size) = A
  have hA : ∀ q : Nat, s.heap.size ≤ q → A q := fun q h => by rw [← hAe]; exact Or.inr h
  have hS : va_S A s.heap s.heap [] := va_S.rf
  have hl := lv_entry ([.ref ld, .int p0]) (n := 2) (Nat.le_of_ble_eq_true rfl)
  rw [lg_entry_eq]
  generalize (lg_sl ([.ref ld, .int p0]) ++ List.replicate (2 - (lg_sl ([.ref ld, .int p0])).length) Slot.unset).toArray = ls at hl ⊢
  generalize ([.ref ld, .int p0] : List Value).toArray = av at hts ⊢
  generalize hQ : MQ below _ av s _ _ A = QQ
  have hl : lv_has ls 2 [(0, .ref ld), (1, .int p0)] := hl
  have hP : va_P g vwCl [(ld, .inr (4, [.int ld_lines, .int ld_years, .int ld_card, .int ld_hurt, .int ld_people, .int ld_pairs, .long ld_strikes, .ref ld_rule, .ref ld_returns, .ref ld_forgets, .ref ld_death, .ref ld_move, .ref ld_begun, .ref ld_who, .ref ld_lost]))] s.heap := hP
  refine lv_iload_n hx hb dX4_hasPair_0 rfl (lv_at hl 1 rfl) ?_
  refine lv_if_lt (tgt := 16) hx hb dX4_hasPair_1 (by decide) (fun c1 => ?_) (fun c1 => ?_)
  · have f1 := (show p0.toInt < 0 from z_lt rfl rfl c1)
    have r1a : ir p0.toInt (-2147483648) (-1) := ir_lta f1 (rg_all p0) (ir_c 0) (by decide)
    refine lv_iconst (v := 0) hx hb dX4_hasPair_16 (by decide) ?_
    subst hQ
    exact W.zret (v := 0) hx hb hr rfl (fun t ht hW => ⟨⟨0, (), rfl, (Or.inr rfl), trivial⟩, hS.F ht⟩) hS.2.2 dX4_hasPair_17
  have f1 := (show 0 ≤ p0.toInt from z_nlt rfl rfl c1)
  have r1a : ir p0.toInt 0 2147483647 := ir_leb f1 (ir_c 0) (rg_all p0) (by decide)
  refine lv_iload_n hx hb dX4_hasPair_4 rfl (lv_at hl 1 rfl) ?_
  refine lv_aload_n hx hb dX4_hasPair_5 rfl (lv_at hl 0 rfl) ?_
  refine va_get (D := g) (ci := 4) (v := .int ld_pairs) (C := RX4) (T := TX4) (N := 15) hx hb hts iX4 hown hK hP 0 rfl rfl 5 (by decide) (hts (.fieldLink RX4 53 "CardsAtYule$Land" "pairs" "I") (List.mem_cons_of_mem _ (List.mem_append_left _ (List.mem_of_getElem? (i := 0) rfl)))) (fun _ h9 => h9) rfl dX4_hasPair_6 ?_
  refine lv_icmp_ge (tgt := 16) hx hb dX4_hasPair_9 (by decide) (fun c9 => ?_) (fun c9 => ?_)
  · have f9 := (show ld_pairs.toInt ≤ p0.toInt from z_le rfl rfl c9)
    refine lv_iconst (v := 0) hx hb dX4_hasPair_16 (by decide) ?_
    subst hQ
    exact W.zret (v := 0) hx hb hr rfl (fun t ht hW => ⟨⟨0, (), rfl, (Or.inr rfl), trivial⟩, hS.F ht⟩) hS.2.2 dX4_hasPair_17
  have f9 := (show p0.toInt < ld_pairs.toInt from z_nle rfl rfl c9)
  have r9a : ir p0.toInt 0 15 := ir_lta f9 r1a hv_ld_pairs (by decide)
  have r9b : ir ld_pairs.toInt 1 16 := ir_ltb f9 r1a hv_ld_pairs (by decide)
  refine lv_iconst (v := 1) hx hb dX4_hasPair_12 (by decide) ?_
  refine lv_goto (tgt := 17) hx hb dX4_hasPair_13 (by decide) ?_
  subst hQ
  exact W.zret (v := 1) hx hb hr rfl (fun t ht hW => ⟨⟨1, (), rfl, (Or.inl ⟨rfl, (by first | omega | decide), (by first | omega | decide)⟩), trivial⟩, hS.F ht⟩) hS.2.2 dX4_hasPair_17
def v_X4_hasYear : List Cond := .code yX4_hasYear cX4_hasYear 2 (some .boolean) :: (([.fieldLink RX4 41 "CardsAtYule$Land" "years" "I"] : List Cond) ++ (wsX40 ++ ([] : List Cond)))
theorem good_v_X4_hasYear : v_X4_hasYear.all goodWord = true := ga_c (by decide +kernel) (ga_a (by decide +kernel) (ga_a good_wsX40 rfl))
set_option maxHeartbeats 4000000 in
set_option maxRecDepth 100000 in
theorem q_X4_hasYear (l : Launch) (g : va_G) (cI cJ cB cZ cL : ClassId) (p0 : Int32) (ld : Nat) (ld_lines : Int32) (ld_years : Int32) (ld_card : Int32) (ld_hurt : Int32) (ld_people : Int32) (ld_pairs : Int32) (ld_strikes : Int64) (ld_rule : Nat) (ld_returns : Nat) (ld_forgets : Nat) (ld_death : Nat) (ld_move : Nat) (ld_begun : Nat) (ld_who : Nat) (ld_lost : Nat) (sz : Nat) (hv_ld_years : ir ld_years.toInt 0 40) (hv_ld_people : ir ld_people.toInt 0 10) (hv_ld_pairs : ir ld_pairs.toInt 0 16) : Met l yX4_hasYear v_X4_hasYear ({ frames := 0, cells := 0, slots := 0, locals := 0 }) (va_Pc [.ref ld, .int p0] (pRO g (tyT cI cJ cB cZ cL) [(ld, .inr (4, [.int ld_lines, .int ld_years, .int ld_card, .int ld_hurt, .int ld_people, .int ld_pairs, .long ld_strikes, .ref ld_rule, .ref ld_returns, .ref ld_forgets, .ref ld_death, .ref ld_move, .ref ld_begun, .ref ld_who, .ref ld_lost]))] sz)) (va_Qi (fun (r : Int32) (u : Unit) => ((r = 1 ∧ 0 ≤ p0.toInt ∧ p0.toInt < ld_years.toInt) ∨ (r = 0))) (fun (_ : Unit) (_ : State) => True) (va_A [] sz)) 0 0 (va_A [] sz) := by
  refine Met.ofW (cc := cX4_hasYear) (maxL := 2) (ret := (some .boolean)) (by decide) rfl ?_
  intro p e s m args below meth c s₁ B hml hv
  obtain ⟨rfl, hsz, hP, hK⟩ := hv
  have hx := B.exec
  have hb := B.bytes
  have hr := B.returns
  have hts := atoms_spec (ws := v_X4_hasYear) B.pre
  have hown : s.vm.findClass RX4 = some m.cls := findClass_of_methodNamed B.named
  have hlocks := B.notSynchronized
  clear B
  subst hsz
  have iX4 : ∀ w ∈ wsX40, w ∈ v_X4_hasYear := (fun _ h => List.mem_cons_of_mem _ (List.mem_append_right _ (List.mem_append_left _ h)))
  generalize hAe : (va_A [] s.heap.size) = A
  have hA : ∀ q : Nat, s.heap.size ≤ q → A q := fun q h => by rw [← hAe]; exact Or.inr h
  have hS : va_S A s.heap s.heap [] := va_S.rf
  have hl := lv_entry ([.ref ld, .int p0]) (n := 2) (Nat.le_of_ble_eq_true rfl)
  rw [lg_entry_eq]
  generalize (lg_sl ([.ref ld, .int p0]) ++ List.replicate (2 - (lg_sl ([.ref ld, .int p0])).length) Slot.unset).toArray = ls at hl ⊢
  generalize ([.ref ld, .int p0] : List Value).toArray = av at hts ⊢
  generalize hQ : MQ below _ av s _ _ A = QQ
  have hl : lv_has ls 2 [(0, .ref ld), (1, .int p0)] := hl
  have hP : va_P g vwCl [(ld, .inr (4, [.int ld_lines, .int ld_years, .int ld_card, .int ld_hurt, .int ld_people, .int ld_pairs, .long ld_strikes, .ref ld_rule, .ref ld_returns, .ref ld_forgets, .ref ld_death, .ref ld_move, .ref ld_begun, .ref ld_who, .ref ld_lost]))] s.heap := hP
  refine lv_iload_n hx hb dX4_hasYear_0 rfl (lv_at hl 1 rfl) ?_
  refine lv_if_lt (tgt := 16) hx hb dX4_hasYear_1 (by decide) (fun c1 => ?_) (fun c1 => ?_)
  · have f1 := (show p0.toInt < 0 from z_lt rfl rfl c1)
    have r1a : ir p0.toInt (-2147483648) (-1) := ir_lta f1 (rg_all p0) (ir_c 0) (by decide)
    refine lv_iconst (v := 0) hx hb dX4_hasYear_16 (by decide) ?_
    subst hQ
    exact W.zret (v := 0) hx hb hr rfl (fun t ht hW => ⟨⟨0, (), rfl, (Or.inr rfl), trivial⟩, hS.F ht⟩) hS.2.2 dX4_hasYear_17
  have f1 := (show 0 ≤ p0.toInt from z_nlt rfl rfl c1)
  have r1a : ir p0.toInt 0 2147483647 := ir_leb f1 (ir_c 0) (rg_all p0) (by decide)
  refine lv_iload_n hx hb dX4_hasYear_4 rfl (lv_at hl 1 rfl) ?_
  refine lv_aload_n hx hb dX4_hasYear_5 rfl (lv_at hl 0 rfl) ?_
  refine va_get (D := g) (ci := 4) (v := .int ld_years) (C := RX4) (T := TX4) (N := 15) hx hb hts iX4 hown hK hP 0 rfl rfl 1 (by decide) (hts (.fieldLink RX4 41 "CardsAtYule$Land" "years" "I") (List.mem_cons_of_mem _ (List.mem_append_left _ (List.mem_of_getElem? (i := 0) rfl)))) (fun _ h9 => h9) rfl dX4_hasYear_6 ?_
  refine lv_icmp_ge (tgt := 16) hx hb dX4_hasYear_9 (by decide) (fun c9 => ?_) (fun c9 => ?_)
  · have f9 := (show ld_years.toInt ≤ p0.toInt from z_le rfl rfl c9)
    refine lv_iconst (v := 0) hx hb dX4_hasYear_16 (by decide) ?_
    subst hQ
    exact W.zret (v := 0) hx hb hr rfl (fun t ht hW => ⟨⟨0, (), rfl, (Or.inr rfl), trivial⟩, hS.F ht⟩) hS.2.2 dX4_hasYear_17
  have f9 := (show p0.toInt < ld_years.toInt from z_nle rfl rfl c9)
  have r9a : ir p0.toInt 0 39 := ir_lta f9 r1a hv_ld_years (by decide)
  have r9b : ir ld_years.toInt 1 40 := ir_ltb f9 r1a hv_ld_years (by decide)
  refine lv_iconst (v := 1) hx hb dX4_hasYear_12 (by decide) ?_
  refine lv_goto (tgt := 17) hx hb dX4_hasYear_13 (by decide) ?_
  subst hQ
  exact W.zret (v := 1) hx hb hr rfl (fun t ht hW => ⟨⟨1, (), rfl, (Or.inl ⟨rfl, (by first | omega | decide), (by first | omega | decide)⟩), trivial⟩, hS.F ht⟩) hS.2.2 dX4_hasYear_17
def v_X4_hasSet : List Cond := .code yX4_hasSet cX4_hasSet 2 (some .boolean) :: (([.fieldLink RX4 50 "CardsAtYule$Land" "people" "I"] : List Cond) ++ (wsX40 ++ ([] : List Cond)))
theorem good_v_X4_hasSet : v_X4_hasSet.all goodWord = true := ga_c (by decide +kernel) (ga_a (by decide +kernel) (ga_a good_wsX40 rfl))
set_option maxHeartbeats 4000000 in
set_option maxRecDepth 100000 in
theorem q_X4_hasSet (l : Launch) (g : va_G) (cI cJ cB cZ cL : ClassId) (p0 : Int32) (ld : Nat) (ld_lines : Int32) (ld_years : Int32) (ld_card : Int32) (ld_hurt : Int32) (ld_people : Int32) (ld_pairs : Int32) (ld_strikes : Int64) (ld_rule : Nat) (ld_returns : Nat) (ld_forgets : Nat) (ld_death : Nat) (ld_move : Nat) (ld_begun : Nat) (ld_who : Nat) (ld_lost : Nat) (sz : Nat) (hv_ld_years : ir ld_years.toInt 0 40) (hv_ld_people : ir ld_people.toInt 0 10) (hv_ld_pairs : ir ld_pairs.toInt 0 16) : Met l yX4_hasSet v_X4_hasSet ({ frames := 0, cells := 0, slots := 0, locals := 0 }) (va_Pc [.ref ld, .int p0] (pRO g (tyT cI cJ cB cZ cL) [(ld, .inr (4, [.int ld_lines, .int ld_years, .int ld_card, .int ld_hurt, .int ld_people, .int ld_pairs, .long ld_strikes, .ref ld_rule, .ref ld_returns, .ref ld_forgets, .ref ld_death, .ref ld_move, .ref ld_begun, .ref ld_who, .ref ld_lost]))] sz)) (va_Qi (fun (r : Int32) (u : Unit) => (ir r.toInt 0 1)) (fun (_ : Unit) (_ : State) => True) (va_A [] sz)) 0 0 (va_A [] sz) := by
  refine Met.ofW (cc := cX4_hasSet) (maxL := 2) (ret := (some .boolean)) (by decide) rfl ?_
  intro p e s m args below meth c s₁ B hml hv
  obtain ⟨rfl, hsz, hP, hK⟩ := hv
  have hx := B.exec
  have hb := B.bytes
  have hr := B.returns
  have hts := atoms_spec (ws := v_X4_hasSet) B.pre
  have hown : s.vm.findClass RX4 = some m.cls := findClass_of_methodNamed B.named
  have hlocks := B.notSynchronized
  clear B
  subst hsz
  have iX4 : ∀ w ∈ wsX40, w ∈ v_X4_hasSet := (fun _ h => List.mem_cons_of_mem _ (List.mem_append_right _ (List.mem_append_left _ h)))
  generalize hAe : (va_A [] s.heap.size) = A
  have hA : ∀ q : Nat, s.heap.size ≤ q → A q := fun q h => by rw [← hAe]; exact Or.inr h
  have hS : va_S A s.heap s.heap [] := va_S.rf
  have hl := lv_entry ([.ref ld, .int p0]) (n := 2) (Nat.le_of_ble_eq_true rfl)
  rw [lg_entry_eq]
  generalize (lg_sl ([.ref ld, .int p0]) ++ List.replicate (2 - (lg_sl ([.ref ld, .int p0])).length) Slot.unset).toArray = ls at hl ⊢
  generalize ([.ref ld, .int p0] : List Value).toArray = av at hts ⊢
  generalize hQ : MQ below _ av s _ _ A = QQ
  have hl : lv_has ls 2 [(0, .ref ld), (1, .int p0)] := hl
  have hP : va_P g vwCl [(ld, .inr (4, [.int ld_lines, .int ld_years, .int ld_card, .int ld_hurt, .int ld_people, .int ld_pairs, .long ld_strikes, .ref ld_rule, .ref ld_returns, .ref ld_forgets, .ref ld_death, .ref ld_move, .ref ld_begun, .ref ld_who, .ref ld_lost]))] s.heap := hP
  refine lv_iload_n hx hb dX4_hasSet_0 rfl (lv_at hl 1 rfl) ?_
  refine lv_if_le (tgt := 18) hx hb dX4_hasSet_1 (by decide) (fun c1 => ?_) (fun c1 => ?_)
  · have f1 := (show p0.toInt ≤ 0 from z_le rfl rfl c1)
    have r1a : ir p0.toInt (-2147483648) 0 := ir_lea f1 (rg_all p0) (ir_c 0) (by decide)
    refine lv_iconst (v := 0) hx hb dX4_hasSet_18 (by decide) ?_
    subst hQ
    exact W.zret (v := 0) hx hb hr rfl (fun t ht hW => ⟨⟨0, (), rfl, (show ir (0 : Int32).toInt 0 1 by decide), trivial⟩, hS.F ht⟩) hS.2.2 dX4_hasSet_19
  have f1 := (show 0 < p0.toInt from z_nle rfl rfl c1)
  have r1a : ir p0.toInt 1 2147483647 := ir_ltb f1 (ir_c 0) (rg_all p0) (by decide)
  refine lv_iload_n hx hb dX4_hasSet_4 rfl (lv_at hl 1 rfl) ?_
  refine lv_iconst (v := 1) hx hb dX4_hasSet_5 (by decide) ?_
  refine lv_aload_n hx hb dX4_hasSet_6 rfl (lv_at hl 0 rfl) ?_
  refine va_get (D := g) (ci := 4) (v := .int ld_people) (C := RX4) (T := TX4) (N := 15) hx hb hts iX4 hown hK hP 0 rfl rfl 4 (by decide) (hts (.fieldLink RX4 50 "CardsAtYule$Land" "people" "I") (List.mem_cons_of_mem _ (List.mem_append_left _ (List.mem_of_getElem? (i := 0) rfl)))) (fun _ h9 => h9) rfl dX4_hasSet_7 ?_
  refine lv_ishl hx hb dX4_hasSet_10 ?_
  refine lv_topi (fun y10 e10 => ?_)
  have r10 : ir y10.toInt 1 1024 := by rw [e10]; exact s1_r 10 rfl hv_ld_people (by decide) (by decide)
  refine lv_icmp_ge (tgt := 18) hx hb dX4_hasSet_11 (by decide) (fun c11 => ?_) (fun c11 => ?_)
  · have f11 := (show y10.toInt ≤ p0.toInt from z_le rfl rfl c11)
    refine lv_iconst (v := 0) hx hb dX4_hasSet_18 (by decide) ?_
    subst hQ
    exact W.zret (v := 0) hx hb hr rfl (fun t ht hW => ⟨⟨0, (), rfl, (show ir (0 : Int32).toInt 0 1 by decide), trivial⟩, hS.F ht⟩) hS.2.2 dX4_hasSet_19
  have f11 := (show p0.toInt < y10.toInt from z_nle rfl rfl c11)
  have r11a : ir p0.toInt 1 1023 := ir_lta f11 r1a r10 (by decide)
  have r11b : ir y10.toInt 2 1024 := ir_ltb f11 r1a r10 (by decide)
  refine lv_iconst (v := 1) hx hb dX4_hasSet_14 (by decide) ?_
  refine lv_goto (tgt := 19) hx hb dX4_hasSet_15 (by decide) ?_
  subst hQ
  exact W.zret (v := 1) hx hb hr rfl (fun t ht hW => ⟨⟨1, (), rfl, (show ir (1 : Int32).toInt 0 1 by decide), trivial⟩, hS.F ht⟩) hS.2.2 dX4_hasSet_19
def v_X4_clear : List Cond := .code yX4_clear cX4_clear 1 none :: (([.fieldLink RX4 37 "CardsAtYule$Land" "lines" "I", .fieldLink RX4 41 "CardsAtYule$Land" "years" "I", .fieldLink RX4 44 "CardsAtYule$Land" "card" "I", .fieldLink RX4 47 "CardsAtYule$Land" "hurt" "I", .fieldLink RX4 50 "CardsAtYule$Land" "people" "I", .fieldLink RX4 53 "CardsAtYule$Land" "pairs" "I", .fieldLink RX4 56 "CardsAtYule$Land" "strikes" "J", .fieldLink RX4 33 "CardsAtYule$Land" "lost" "[J", .methodLink RX4 60 yJ7_fill_d0a16, .static yJ7_fill_d0a16, .initialized RJ7] : List Cond) ++ (v_J7_fillj32 ++ (wsX40 ++ ([] : List Cond))))
theorem good_v_X4_clear : v_X4_clear.all goodWord = true := ga_c (by decide +kernel) (ga_a (by decide +kernel) (ga_a good_v_J7_fillj32 (ga_a good_wsX40 rfl)))
set_option maxHeartbeats 4000000 in
set_option maxRecDepth 100000 in
theorem q_X4_clear (l : Launch) (g : va_G) (cI cJ cB cZ cL : ClassId) (ld : Nat) (ld_lines : Int32) (ld_years : Int32) (ld_card : Int32) (ld_hurt : Int32) (ld_people : Int32) (ld_pairs : Int32) (ld_strikes : Int64) (ld_rule : Nat) (ld_returns : Nat) (ld_forgets : Nat) (ld_death : Nat) (ld_move : Nat) (ld_begun : Nat) (ld_who : Nat) (ld_lost : Nat) (ld_lost_c : Nat → Int64) (sz : Nat) (hv_ld_years : ir ld_years.toInt 0 40) (hv_ld_people : ir ld_people.toInt 0 10) (hv_ld_pairs : ir ld_pairs.toInt 0 16) : Met l yX4_clear v_X4_clear ({ frames := 1, cells := 0, slots := 0, locals := 24 }) (va_Pc [.ref ld] (pRW g (tyT cI cJ cB cZ cL) [(ld, .inr (4, [.int ld_lines, .int ld_years, .int ld_card, .int ld_hurt, .int ld_people, .int ld_pairs, .long ld_strikes, .ref ld_rule, .ref ld_returns, .ref ld_forgets, .ref ld_death, .ref ld_move, .ref ld_begun, .ref ld_who, .ref ld_lost])), (ld_lost, .inl (cJ, 32, .inr (.inl ld_lost_c)))] sz)) (va_Qv (fun (u : Int32 × Int32 × Int32 × Int32 × Int32 × Int32 × Int64 × (Nat → Int64)) => match u with | (n_ld_lines, n_ld_years, n_ld_card, n_ld_hurt, n_ld_people, n_ld_pairs, n_ld_strikes, n_ld_lost_c) => (ir n_ld_lines.toInt 0 0) ∧ (ir n_ld_years.toInt 0 0) ∧ (ir n_ld_card.toInt 0 0) ∧ (ir n_ld_hurt.toInt 0 0) ∧ (ir n_ld_people.toInt 0 0) ∧ (ir n_ld_pairs.toInt 0 0)) (fun (u : Int32 × Int32 × Int32 × Int32 × Int32 × Int32 × Int64 × (Nat → Int64)) (t : State) => bRW g (tyT cI cJ cB cZ cL) (va_A [(ld, .inr (4, [.int ld_lines, .int ld_years, .int ld_card, .int ld_hurt, .int ld_people, .int ld_pairs, .long ld_strikes, .ref ld_rule, .ref ld_returns, .ref ld_forgets, .ref ld_death, .ref ld_move, .ref ld_begun, .ref ld_who, .ref ld_lost])), (ld_lost, .inl (cJ, 32, .inr (.inl ld_lost_c)))] sz) (match u with | (n_ld_lines, n_ld_years, n_ld_card, n_ld_hurt, n_ld_people, n_ld_pairs, n_ld_strikes, n_ld_lost_c) => [(ld, .inr (4, [.int n_ld_lines, .int n_ld_years, .int n_ld_card, .int n_ld_hurt, .int n_ld_people, .int n_ld_pairs, .long n_ld_strikes, .ref ld_rule, .ref ld_returns, .ref ld_forgets, .ref ld_death, .ref ld_move, .ref ld_begun, .ref ld_who, .ref ld_lost])), (ld_lost, .inl (cJ, 32, .inr (.inl n_ld_lost_c)))]) t) (va_A [(ld, .inr (4, [.int ld_lines, .int ld_years, .int ld_card, .int ld_hurt, .int ld_people, .int ld_pairs, .long ld_strikes, .ref ld_rule, .ref ld_returns, .ref ld_forgets, .ref ld_death, .ref ld_move, .ref ld_begun, .ref ld_who, .ref ld_lost])), (ld_lost, .inl (cJ, 32, .inr (.inl ld_lost_c)))] sz)) 0 0 (va_A [(ld, .inr (4, [.int ld_lines, .int ld_years, .int ld_card, .int ld_hurt, .int ld_people, .int ld_pairs, .long ld_strikes, .ref ld_rule, .ref ld_returns, .ref ld_forgets, .ref ld_death, .ref ld_move, .ref ld_begun, .ref ld_who, .ref ld_lost])), (ld_lost, .inl (cJ, 32, .inr (.inl ld_lost_c)))] sz) := by
  refine Met.ofW (cc := cX4_clear) (maxL := 1) (ret := none) (by decide) rfl ?_
  intro p e s m args below meth c s₁ B hml hv
  obtain ⟨rfl, hsz, hP, hK, hD0⟩ := hv
  have hx := B.exec
  have hb := B.bytes
  have hr := B.returns
  have hts := atoms_spec (ws := v_X4_clear) B.pre
  have hown : s.vm.findClass RX4 = some m.cls := findClass_of_methodNamed B.named
  have hlocks := B.notSynchronized
  clear B
  subst hsz
  have iX4 : ∀ w ∈ wsX40, w ∈ v_X4_clear := (fun _ h => List.mem_cons_of_mem _ (List.mem_append_right _ (List.mem_append_right _ (List.mem_append_left _ h))))
  have hD := hD0.self (sz := s.heap.size)
  generalize hAe : (va_A [(ld, .inr (4, [.int ld_lines, .int ld_years, .int ld_card, .int ld_hurt, .int ld_people, .int ld_pairs, .long ld_strikes, .ref ld_rule, .ref ld_returns, .ref ld_forgets, .ref ld_death, .ref ld_move, .ref ld_begun, .ref ld_who, .ref ld_lost])), (ld_lost, .inl (cJ, 32, .inr (.inl ld_lost_c)))] s.heap.size) = A at hD ⊢
  have hA : ∀ q : Nat, s.heap.size ≤ q → A q := fun q h => by rw [← hAe]; exact Or.inr h
  have hS : va_S A s.heap s.heap [] := va_S.rf
  have hl := lv_entry ([.ref ld]) (n := 1) (Nat.le_of_ble_eq_true rfl)
  rw [lg_entry_eq]
  generalize (lg_sl ([.ref ld]) ++ List.replicate (1 - (lg_sl ([.ref ld])).length) Slot.unset).toArray = ls at hl ⊢
  generalize ([.ref ld] : List Value).toArray = av at hts ⊢
  generalize hQ : MQ below _ av s _ _ A = QQ
  have hl : lv_has ls 1 [(0, .ref ld)] := hl
  have hP : va_P g vwCl [(ld, .inr (4, [.int ld_lines, .int ld_years, .int ld_card, .int ld_hurt, .int ld_people, .int ld_pairs, .long ld_strikes, .ref ld_rule, .ref ld_returns, .ref ld_forgets, .ref ld_death, .ref ld_move, .ref ld_begun, .ref ld_who, .ref ld_lost])), (ld_lost, .inl (cJ, 32, .inr (.inl ld_lost_c)))] s.heap := hP
  refine lv_aload_n hx hb dX4_clear_0 rfl (lv_at hl 0 rfl) ?_
  refine lv_iconst (v := 0) hx hb dX4_clear_1 (by decide) ?_
  refine va_put (D := g) (ci := 4) (v := .int 0) (ty := .int) (C := RX4) (T := TX4) (N := 15) hx hb hts iX4 tyX4 tyX4_ok nmX4 hown hK hP hD hS 0 rfl rfl 0 (by decide) (hts (.fieldLink RX4 37 "CardsAtYule$Land" "lines" "I") (List.mem_cons_of_mem _ (List.mem_append_left _ (List.mem_of_getElem? (i := 0) rfl)))) (fun _ h9 => h9) rfl (by decide +kernel) rfl rfl (Nat.le_of_ble_eq_true rfl) dX4_clear_2 (fun H locs hP hD hS => ?_)
  have hP : va_P g vwCl [(ld, .inr (4, [.int 0, .int ld_years, .int ld_card, .int ld_hurt, .int ld_people, .int ld_pairs, .long ld_strikes, .ref ld_rule, .ref ld_returns, .ref ld_forgets, .ref ld_death, .ref ld_move, .ref ld_begun, .ref ld_who, .ref ld_lost])), (ld_lost, .inl (cJ, 32, .inr (.inl ld_lost_c)))] H := hP
  have hD : va_D A [(ld, .inr (4, [.int 0, .int ld_years, .int ld_card, .int ld_hurt, .int ld_people, .int ld_pairs, .long ld_strikes, .ref ld_rule, .ref ld_returns, .ref ld_forgets, .ref ld_death, .ref ld_move, .ref ld_begun, .ref ld_who, .ref ld_lost])), (ld_lost, .inl (cJ, 32, .inr (.inl ld_lost_c)))] := hD
  refine lv_aload_n hx hb dX4_clear_5 rfl (lv_at hl 0 rfl) ?_
  refine lv_iconst (v := 0) hx hb dX4_clear_6 (by decide) ?_
  refine va_put (D := g) (ci := 4) (v := .int 0) (ty := .int) (C := RX4) (T := TX4) (N := 15) hx hb hts iX4 tyX4 tyX4_ok nmX4 hown hK hP hD hS 0 rfl rfl 1 (by decide) (hts (.fieldLink RX4 41 "CardsAtYule$Land" "years" "I") (List.mem_cons_of_mem _ (List.mem_append_left _ (List.mem_of_getElem? (i := 1) rfl)))) (fun _ h9 => h9) rfl (by decide +kernel) rfl rfl (Nat.le_of_ble_eq_true rfl) dX4_clear_7 (fun H locs hP hD hS => ?_)
  have hP : va_P g vwCl [(ld, .inr (4, [.int 0, .int 0, .int ld_card, .int ld_hurt, .int ld_people, .int ld_pairs, .long ld_strikes, .ref ld_rule, .ref ld_returns, .ref ld_forgets, .ref ld_death, .ref ld_move, .ref ld_begun, .ref ld_who, .ref ld_lost])), (ld_lost, .inl (cJ, 32, .inr (.inl ld_lost_c)))] H := hP
  have hD : va_D A [(ld, .inr (4, [.int 0, .int 0, .int ld_card, .int ld_hurt, .int ld_people, .int ld_pairs, .long ld_strikes, .ref ld_rule, .ref ld_returns, .ref ld_forgets, .ref ld_death, .ref ld_move, .ref ld_begun, .ref ld_who, .ref ld_lost])), (ld_lost, .inl (cJ, 32, .inr (.inl ld_lost_c)))] := hD
  refine lv_aload_n hx hb dX4_clear_10 rfl (lv_at hl 0 rfl) ?_
  refine lv_iconst (v := 0) hx hb dX4_clear_11 (by decide) ?_
  refine va_put (D := g) (ci := 4) (v := .int 0) (ty := .int) (C := RX4) (T := TX4) (N := 15) hx hb hts iX4 tyX4 tyX4_ok nmX4 hown hK hP hD hS 0 rfl rfl 2 (by decide) (hts (.fieldLink RX4 44 "CardsAtYule$Land" "card" "I") (List.mem_cons_of_mem _ (List.mem_append_left _ (List.mem_of_getElem? (i := 2) rfl)))) (fun _ h9 => h9) rfl (by decide +kernel) rfl rfl (Nat.le_of_ble_eq_true rfl) dX4_clear_12 (fun H locs hP hD hS => ?_)
  have hP : va_P g vwCl [(ld, .inr (4, [.int 0, .int 0, .int 0, .int ld_hurt, .int ld_people, .int ld_pairs, .long ld_strikes, .ref ld_rule, .ref ld_returns, .ref ld_forgets, .ref ld_death, .ref ld_move, .ref ld_begun, .ref ld_who, .ref ld_lost])), (ld_lost, .inl (cJ, 32, .inr (.inl ld_lost_c)))] H := hP
  have hD : va_D A [(ld, .inr (4, [.int 0, .int 0, .int 0, .int ld_hurt, .int ld_people, .int ld_pairs, .long ld_strikes, .ref ld_rule, .ref ld_returns, .ref ld_forgets, .ref ld_death, .ref ld_move, .ref ld_begun, .ref ld_who, .ref ld_lost])), (ld_lost, .inl (cJ, 32, .inr (.inl ld_lost_c)))] := hD
  refine lv_aload_n hx hb dX4_clear_15 rfl (lv_at hl 0 rfl) ?_
  refine lv_iconst (v := 0) hx hb dX4_clear_16 (by decide) ?_
  refine va_put (D := g) (ci := 4) (v := .int 0) (ty := .int) (C := RX4) (T := TX4) (N := 15) hx hb hts iX4 tyX4 tyX4_ok nmX4 hown hK hP hD hS 0 rfl rfl 3 (by decide) (hts (.fieldLink RX4 47 "CardsAtYule$Land" "hurt" "I") (List.mem_cons_of_mem _ (List.mem_append_left _ (List.mem_of_getElem? (i := 3) rfl)))) (fun _ h9 => h9) rfl (by decide +kernel) rfl rfl (Nat.le_of_ble_eq_true rfl) dX4_clear_17 (fun H locs hP hD hS => ?_)
  have hP : va_P g vwCl [(ld, .inr (4, [.int 0, .int 0, .int 0, .int 0, .int ld_people, .int ld_pairs, .long ld_strikes, .ref ld_rule, .ref ld_returns, .ref ld_forgets, .ref ld_death, .ref ld_move, .ref ld_begun, .ref ld_who, .ref ld_lost])), (ld_lost, .inl (cJ, 32, .inr (.inl ld_lost_c)))] H := hP
  have hD : va_D A [(ld, .inr (4, [.int 0, .int 0, .int 0, .int 0, .int ld_people, .int ld_pairs, .long ld_strikes, .ref ld_rule, .ref ld_returns, .ref ld_forgets, .ref ld_death, .ref ld_move, .ref ld_begun, .ref ld_who, .ref ld_lost])), (ld_lost, .inl (cJ, 32, .inr (.inl ld_lost_c)))] := hD
  refine lv_aload_n hx hb dX4_clear_20 rfl (lv_at hl 0 rfl) ?_
  refine lv_iconst (v := 0) hx hb dX4_clear_21 (by decide) ?_
  refine va_put (D := g) (ci := 4) (v := .int 0) (ty := .int) (C := RX4) (T := TX4) (N := 15) hx hb hts iX4 tyX4 tyX4_ok nmX4 hown hK hP hD hS 0 rfl rfl 4 (by decide) (hts (.fieldLink RX4 50 "CardsAtYule$Land" "people" "I") (List.mem_cons_of_mem _ (List.mem_append_left _ (List.mem_of_getElem? (i := 4) rfl)))) (fun _ h9 => h9) rfl (by decide +kernel) rfl rfl (Nat.le_of_ble_eq_true rfl) dX4_clear_22 (fun H locs hP hD hS => ?_)
  have hP : va_P g vwCl [(ld, .inr (4, [.int 0, .int 0, .int 0, .int 0, .int 0, .int ld_pairs, .long ld_strikes, .ref ld_rule, .ref ld_returns, .ref ld_forgets, .ref ld_death, .ref ld_move, .ref ld_begun, .ref ld_who, .ref ld_lost])), (ld_lost, .inl (cJ, 32, .inr (.inl ld_lost_c)))] H := hP
  have hD : va_D A [(ld, .inr (4, [.int 0, .int 0, .int 0, .int 0, .int 0, .int ld_pairs, .long ld_strikes, .ref ld_rule, .ref ld_returns, .ref ld_forgets, .ref ld_death, .ref ld_move, .ref ld_begun, .ref ld_who, .ref ld_lost])), (ld_lost, .inl (cJ, 32, .inr (.inl ld_lost_c)))] := hD
  refine lv_aload_n hx hb dX4_clear_25 rfl (lv_at hl 0 rfl) ?_
  refine lv_iconst (v := 0) hx hb dX4_clear_26 (by decide) ?_
  refine va_put (D := g) (ci := 4) (v := .int 0) (ty := .int) (C := RX4) (T := TX4) (N := 15) hx hb hts iX4 tyX4 tyX4_ok nmX4 hown hK hP hD hS 0 rfl rfl 5 (by decide) (hts (.fieldLink RX4 53 "CardsAtYule$Land" "pairs" "I") (List.mem_cons_of_mem _ (List.mem_append_left _ (List.mem_of_getElem? (i := 5) rfl)))) (fun _ h9 => h9) rfl (by decide +kernel) rfl rfl (Nat.le_of_ble_eq_true rfl) dX4_clear_27 (fun H locs hP hD hS => ?_)
  have hP : va_P g vwCl [(ld, .inr (4, [.int 0, .int 0, .int 0, .int 0, .int 0, .int 0, .long ld_strikes, .ref ld_rule, .ref ld_returns, .ref ld_forgets, .ref ld_death, .ref ld_move, .ref ld_begun, .ref ld_who, .ref ld_lost])), (ld_lost, .inl (cJ, 32, .inr (.inl ld_lost_c)))] H := hP
  have hD : va_D A [(ld, .inr (4, [.int 0, .int 0, .int 0, .int 0, .int 0, .int 0, .long ld_strikes, .ref ld_rule, .ref ld_returns, .ref ld_forgets, .ref ld_death, .ref ld_move, .ref ld_begun, .ref ld_who, .ref ld_lost])), (ld_lost, .inl (cJ, 32, .inr (.inl ld_lost_c)))] := hD
  refine lv_aload_n hx hb dX4_clear_30 rfl (lv_at hl 0 rfl) ?_
  refine lv_lconst (v := 0) hx hb dX4_clear_31 (by decide) ?_
  refine va_put (D := g) (ci := 4) (v := .long 0) (ty := .long) (C := RX4) (T := TX4) (N := 15) hx hb hts iX4 tyX4 tyX4_ok nmX4 hown hK hP hD hS 0 rfl rfl 6 (by decide) (hts (.fieldLink RX4 56 "CardsAtYule$Land" "strikes" "J") (List.mem_cons_of_mem _ (List.mem_append_left _ (List.mem_of_getElem? (i := 6) rfl)))) (fun _ h9 => h9) rfl (by decide +kernel) rfl rfl (Nat.le_of_ble_eq_true rfl) dX4_clear_32 (fun H locs hP hD hS => ?_)
  have hP : va_P g vwCl [(ld, .inr (4, [.int 0, .int 0, .int 0, .int 0, .int 0, .int 0, .long 0, .ref ld_rule, .ref ld_returns, .ref ld_forgets, .ref ld_death, .ref ld_move, .ref ld_begun, .ref ld_who, .ref ld_lost])), (ld_lost, .inl (cJ, 32, .inr (.inl ld_lost_c)))] H := hP
  have hD : va_D A [(ld, .inr (4, [.int 0, .int 0, .int 0, .int 0, .int 0, .int 0, .long 0, .ref ld_rule, .ref ld_returns, .ref ld_forgets, .ref ld_death, .ref ld_move, .ref ld_begun, .ref ld_who, .ref ld_lost])), (ld_lost, .inl (cJ, 32, .inr (.inl ld_lost_c)))] := hD
  refine lv_aload_n hx hb dX4_clear_35 rfl (lv_at hl 0 rfl) ?_
  refine va_get (D := g) (ci := 4) (v := .ref ld_lost) (C := RX4) (T := TX4) (N := 15) hx hb hts iX4 hown hK hP 0 rfl rfl 14 (by decide) (hts (.fieldLink RX4 33 "CardsAtYule$Land" "lost" "[J") (List.mem_cons_of_mem _ (List.mem_append_left _ (List.mem_of_getElem? (i := 7) rfl)))) (fun _ h9 => h9) rfl dX4_clear_36 ?_
  refine lv_lconst (v := 0) hx hb dX4_clear_39 (by decide) ?_
  refine rw_v (wr := [(ld, .inr (4, [.int 0, .int 0, .int 0, .int 0, .int 0, .int 0, .long 0, .ref ld_rule, .ref ld_returns, .ref ld_forgets, .ref ld_death, .ref ld_move, .ref ld_begun, .ref ld_who, .ref ld_lost]))]) (va_runS (As := [.ref ld_lost, .long 0]) (rest := []) ⟨hx, hb, hml, hown, hts⟩ (q_J7_fillj32 l g cI cJ cB cZ cL 0 ld_lost ld_lost_c H.size ) (va_cwS 2 hts (goodIn_app (g_3 (List.mem_cons_of_mem _ (List.mem_append_left _ (List.mem_of_getElem? (i := 8) rfl))) (List.mem_cons_of_mem _ (List.mem_append_left _ (List.mem_of_getElem? (i := 9) rfl))) (List.mem_cons_of_mem _ (List.mem_append_left _ (List.mem_of_getElem? (i := 10) rfl))) (by decide +kernel)) (goodIn_sub (fun _ h => List.mem_cons_of_mem _ (List.mem_append_right _ (List.mem_append_left _ h))) good_v_J7_fillj32)) rfl rfl rfl (by decide +kernel) ⟨Nat.le_of_ble_eq_true rfl, Nat.le_of_ble_eq_true rfl⟩) (ps_RW (wc := [(ld_lost, .inl (cJ, 32, .inr (.inl ld_lost_c)))]) hK hP hD [1] (by decide) rfl) rfl rfl hl.1 rfl (lv_room (Nat.le_of_ble_eq_true rfl)) dX4_clear_40 ⟨Nat.le_of_ble_eq_true rfl, Nat.le_of_ble_eq_true rfl⟩) hS hA hP hD [1] [0] rfl rfl (by decide) (by decide) (fun u40 H locs hw40 hP hD hS => ?_)
  generalize u40 = n_r0_c_40 at hw40 hP hD
  have hP : va_P g vwCl [(ld, .inr (4, [.int 0, .int 0, .int 0, .int 0, .int 0, .int 0, .long 0, .ref ld_rule, .ref ld_returns, .ref ld_forgets, .ref ld_death, .ref ld_move, .ref ld_begun, .ref ld_who, .ref ld_lost])), (ld_lost, .inl (cJ, 32, .inr (.inl n_r0_c_40)))] H := hP
  have hD : va_D A [(ld, .inr (4, [.int 0, .int 0, .int 0, .int 0, .int 0, .int 0, .long 0, .ref ld_rule, .ref ld_returns, .ref ld_forgets, .ref ld_death, .ref ld_move, .ref ld_begun, .ref ld_who, .ref ld_lost])), (ld_lost, .inl (cJ, 32, .inr (.inl n_r0_c_40)))] := hD
  subst hQ
  have hP9 := hP.sub (ws' := [(ld, .inr (4, [.int 0, .int 0, .int 0, .int 0, .int 0, .int 0, .long 0, .ref ld_rule, .ref ld_returns, .ref ld_forgets, .ref ld_death, .ref ld_move, .ref ld_begun, .ref ld_who, .ref ld_lost])), (ld_lost, .inl (cJ, 32, .inr (.inl n_r0_c_40)))]) [0, 1] rfl
  have hD9 := hD.sub (ws' := [(ld, .inr (4, [.int 0, .int 0, .int 0, .int 0, .int 0, .int 0, .long 0, .ref ld_rule, .ref ld_returns, .ref ld_forgets, .ref ld_death, .ref ld_move, .ref ld_begun, .ref ld_who, .ref ld_lost])), (ld_lost, .inl (cJ, 32, .inr (.inl n_r0_c_40)))]) [0, 1] (by decide) rfl
  exact W.vret hx hb hr (fun t ht hW => ⟨⟨(0, 0, 0, 0, 0, 0, 0, n_r0_c_40), rfl, ⟨(show ir (0 : Int32).toInt 0 0 by decide), (show ir (0 : Int32).toInt 0 0 by decide), (show ir (0 : Int32).toInt 0 0 by decide), (show ir (0 : Int32).toInt 0 0 by decide), (show ir (0 : Int32).toInt 0 0 by decide), (show ir (0 : Int32).toInt 0 0 by decide)⟩, ⟨by rw [ht]; exact hP9, va_K.moved hW.alike hK, hD9⟩⟩, hS.F ht⟩) hS.2.2 dX4_clear_43
def v_X4_copyFrom : List Cond := .code yX4_copyFrom cX4_copyFrom 2 none :: (([.fieldLink RX4 37 "CardsAtYule$Land" "lines" "I", .fieldLink RX4 41 "CardsAtYule$Land" "years" "I", .fieldLink RX4 44 "CardsAtYule$Land" "card" "I", .fieldLink RX4 47 "CardsAtYule$Land" "hurt" "I", .fieldLink RX4 50 "CardsAtYule$Land" "people" "I", .fieldLink RX4 53 "CardsAtYule$Land" "pairs" "I", .fieldLink RX4 56 "CardsAtYule$Land" "strikes" "J", .fieldLink RX4 9 "CardsAtYule$Land" "rule" "[I", .methodLink RX4 66 arraycopyName, .native arraycopyName, .static arraycopyName, .initialized "java/lang/System", .fieldLink RX4 15 "CardsAtYule$Land" "returns" "[I", .fieldLink RX4 18 "CardsAtYule$Land" "forgets" "[I", .fieldLink RX4 21 "CardsAtYule$Land" "death" "[I", .fieldLink RX4 24 "CardsAtYule$Land" "move" "[I", .fieldLink RX4 27 "CardsAtYule$Land" "begun" "[I", .fieldLink RX4 30 "CardsAtYule$Land" "who" "[I", .fieldLink RX4 33 "CardsAtYule$Land" "lost" "[J"] : List Cond) ++ (wsX40 ++ ([] : List Cond)))
theorem good_v_X4_copyFrom : v_X4_copyFrom.all goodWord = true := ga_c (by decide +kernel) (ga_a (by decide +kernel) (ga_a good_wsX40 rfl))
set_option maxHeartbeats 4000000 in
set_option maxRecDepth 100000 in
theorem q_X4_copyFrom (l : Launch) (g : va_G) (cI cJ cB cZ cL : ClassId) (ld : Nat) (ld2 : Nat) (ld2_lines : Int32) (ld2_years : Int32) (ld2_card : Int32) (ld2_hurt : Int32) (ld2_people : Int32) (ld2_pairs : Int32) (ld2_strikes : Int64) (ld2_rule : Nat) (ld2_returns : Nat) (ld2_forgets : Nat) (ld2_death : Nat) (ld2_move : Nat) (ld2_begun : Nat) (ld2_who : Nat) (ld2_lost : Nat) (ld_lines : Int32) (ld_years : Int32) (ld_card : Int32) (ld_hurt : Int32) (ld_people : Int32) (ld_pairs : Int32) (ld_strikes : Int64) (ld_rule : Nat) (ld_returns : Nat) (ld_forgets : Nat) (ld_death : Nat) (ld_move : Nat) (ld_begun : Nat) (ld_who : Nat) (ld_lost : Nat) (ld2_rule_c : Nat → Int32) (ld_rule_c : Nat → Int32) (ld2_returns_c : Nat → Int32) (ld_returns_c : Nat → Int32) (ld2_forgets_c : Nat → Int32) (ld_forgets_c : Nat → Int32) (ld2_death_c : Nat → Int32) (ld_death_c : Nat → Int32) (ld2_move_c : Nat → Int32) (ld_move_c : Nat → Int32) (ld2_begun_c : Nat → Int32) (ld_begun_c : Nat → Int32) (ld2_who_c : Nat → Int32) (ld_who_c : Nat → Int32) (ld2_lost_c : Nat → Int64) (ld_lost_c : Nat → Int64) (sz : Nat) (hv_ld2_years : ir ld2_years.toInt 0 40) (hv_ld2_people : ir ld2_people.toInt 0 10) (hv_ld2_pairs : ir ld2_pairs.toInt 0 16) (hv_ld_years : ir ld_years.toInt 0 40) (hv_ld_people : ir ld_people.toInt 0 10) (hv_ld_pairs : ir ld_pairs.toInt 0 16) (ha_ld2_begun_c : ar ld2_begun_c 16 0 15) (ha_ld_begun_c : ar ld_begun_c 16 0 15) (ha_ld2_who_c : ar ld2_who_c 32 0 9) (ha_ld_who_c : ar ld_who_c 32 0 9) : Met l yX4_copyFrom v_X4_copyFrom ({ frames := 1, cells := 0, slots := 0, locals := 24 }) (va_Pc [.ref ld, .ref ld2] (pRW g (tyT cI cJ cB cZ cL) [(ld2, .inr (4, [.int ld2_lines, .int ld2_years, .int ld2_card, .int ld2_hurt, .int ld2_people, .int ld2_pairs, .long ld2_strikes, .ref ld2_rule, .ref ld2_returns, .ref ld2_forgets, .ref ld2_death, .ref ld2_move, .ref ld2_begun, .ref ld2_who, .ref ld2_lost])), (ld, .inr (4, [.int ld_lines, .int ld_years, .int ld_card, .int ld_hurt, .int ld_people, .int ld_pairs, .long ld_strikes, .ref ld_rule, .ref ld_returns, .ref ld_forgets, .ref ld_death, .ref ld_move, .ref ld_begun, .ref ld_who, .ref ld_lost])), (ld2_rule, .inl (cI, 10, .inl ld2_rule_c)), (ld_rule, .inl (cI, 10, .inl ld_rule_c)), (ld2_returns, .inl (cI, 10, .inl ld2_returns_c)), (ld_returns, .inl (cI, 10, .inl ld_returns_c)), (ld2_forgets, .inl (cI, 10, .inl ld2_forgets_c)), (ld_forgets, .inl (cI, 10, .inl ld_forgets_c)), (ld2_death, .inl (cI, 10, .inl ld2_death_c)), (ld_death, .inl (cI, 10, .inl ld_death_c)), (ld2_move, .inl (cI, 10, .inl ld2_move_c)), (ld_move, .inl (cI, 10, .inl ld_move_c)), (ld2_begun, .inl (cI, 16, .inl ld2_begun_c)), (ld_begun, .inl (cI, 16, .inl ld_begun_c)), (ld2_who, .inl (cI, 32, .inl ld2_who_c)), (ld_who, .inl (cI, 32, .inl ld_who_c)), (ld2_lost, .inl (cJ, 32, .inr (.inl ld2_lost_c))), (ld_lost, .inl (cJ, 32, .inr (.inl ld_lost_c)))] sz)) (va_Qv (fun (u : Int32 × Int32 × Int32 × Int32 × Int32 × Int32 × Int64 × (Nat → Int32) × (Nat → Int32) × (Nat → Int32) × (Nat → Int32) × (Nat → Int32) × (Nat → Int32) × (Nat → Int32) × (Nat → Int64)) => match u with | (n_ld_lines, n_ld_years, n_ld_card, n_ld_hurt, n_ld_people, n_ld_pairs, n_ld_strikes, n_ld_rule_c, n_ld_returns_c, n_ld_forgets_c, n_ld_death_c, n_ld_move_c, n_ld_begun_c, n_ld_who_c, n_ld_lost_c) => (ir n_ld_years.toInt 0 40) ∧ (ir n_ld_people.toInt 0 10) ∧ (ir n_ld_pairs.toInt 0 16) ∧ (ar n_ld_begun_c 16 0 15) ∧ (ar n_ld_who_c 32 0 9)) (fun (u : Int32 × Int32 × Int32 × Int32 × Int32 × Int32 × Int64 × (Nat → Int32) × (Nat → Int32) × (Nat → Int32) × (Nat → Int32) × (Nat → Int32) × (Nat → Int32) × (Nat → Int32) × (Nat → Int64)) (t : State) => bRW g (tyT cI cJ cB cZ cL) (va_A [(ld2, .inr (4, [.int ld2_lines, .int ld2_years, .int ld2_card, .int ld2_hurt, .int ld2_people, .int ld2_pairs, .long ld2_strikes, .ref ld2_rule, .ref ld2_returns, .ref ld2_forgets, .ref ld2_death, .ref ld2_move, .ref ld2_begun, .ref ld2_who, .ref ld2_lost])), (ld, .inr (4, [.int ld_lines, .int ld_years, .int ld_card, .int ld_hurt, .int ld_people, .int ld_pairs, .long ld_strikes, .ref ld_rule, .ref ld_returns, .ref ld_forgets, .ref ld_death, .ref ld_move, .ref ld_begun, .ref ld_who, .ref ld_lost])), (ld2_rule, .inl (cI, 10, .inl ld2_rule_c)), (ld_rule, .inl (cI, 10, .inl ld_rule_c)), (ld2_returns, .inl (cI, 10, .inl ld2_returns_c)), (ld_returns, .inl (cI, 10, .inl ld_returns_c)), (ld2_forgets, .inl (cI, 10, .inl ld2_forgets_c)), (ld_forgets, .inl (cI, 10, .inl ld_forgets_c)), (ld2_death, .inl (cI, 10, .inl ld2_death_c)), (ld_death, .inl (cI, 10, .inl ld_death_c)), (ld2_move, .inl (cI, 10, .inl ld2_move_c)), (ld_move, .inl (cI, 10, .inl ld_move_c)), (ld2_begun, .inl (cI, 16, .inl ld2_begun_c)), (ld_begun, .inl (cI, 16, .inl ld_begun_c)), (ld2_who, .inl (cI, 32, .inl ld2_who_c)), (ld_who, .inl (cI, 32, .inl ld_who_c)), (ld2_lost, .inl (cJ, 32, .inr (.inl ld2_lost_c))), (ld_lost, .inl (cJ, 32, .inr (.inl ld_lost_c)))] sz) (match u with | (n_ld_lines, n_ld_years, n_ld_card, n_ld_hurt, n_ld_people, n_ld_pairs, n_ld_strikes, n_ld_rule_c, n_ld_returns_c, n_ld_forgets_c, n_ld_death_c, n_ld_move_c, n_ld_begun_c, n_ld_who_c, n_ld_lost_c) => [(ld2, .inr (4, [.int ld2_lines, .int ld2_years, .int ld2_card, .int ld2_hurt, .int ld2_people, .int ld2_pairs, .long ld2_strikes, .ref ld2_rule, .ref ld2_returns, .ref ld2_forgets, .ref ld2_death, .ref ld2_move, .ref ld2_begun, .ref ld2_who, .ref ld2_lost])), (ld, .inr (4, [.int n_ld_lines, .int n_ld_years, .int n_ld_card, .int n_ld_hurt, .int n_ld_people, .int n_ld_pairs, .long n_ld_strikes, .ref ld_rule, .ref ld_returns, .ref ld_forgets, .ref ld_death, .ref ld_move, .ref ld_begun, .ref ld_who, .ref ld_lost])), (ld2_rule, .inl (cI, 10, .inl ld2_rule_c)), (ld_rule, .inl (cI, 10, .inl n_ld_rule_c)), (ld2_returns, .inl (cI, 10, .inl ld2_returns_c)), (ld_returns, .inl (cI, 10, .inl n_ld_returns_c)), (ld2_forgets, .inl (cI, 10, .inl ld2_forgets_c)), (ld_forgets, .inl (cI, 10, .inl n_ld_forgets_c)), (ld2_death, .inl (cI, 10, .inl ld2_death_c)), (ld_death, .inl (cI, 10, .inl n_ld_death_c)), (ld2_move, .inl (cI, 10, .inl ld2_move_c)), (ld_move, .inl (cI, 10, .inl n_ld_move_c)), (ld2_begun, .inl (cI, 16, .inl ld2_begun_c)), (ld_begun, .inl (cI, 16, .inl n_ld_begun_c)), (ld2_who, .inl (cI, 32, .inl ld2_who_c)), (ld_who, .inl (cI, 32, .inl n_ld_who_c)), (ld2_lost, .inl (cJ, 32, .inr (.inl ld2_lost_c))), (ld_lost, .inl (cJ, 32, .inr (.inl n_ld_lost_c)))]) t) (va_A [(ld2, .inr (4, [.int ld2_lines, .int ld2_years, .int ld2_card, .int ld2_hurt, .int ld2_people, .int ld2_pairs, .long ld2_strikes, .ref ld2_rule, .ref ld2_returns, .ref ld2_forgets, .ref ld2_death, .ref ld2_move, .ref ld2_begun, .ref ld2_who, .ref ld2_lost])), (ld, .inr (4, [.int ld_lines, .int ld_years, .int ld_card, .int ld_hurt, .int ld_people, .int ld_pairs, .long ld_strikes, .ref ld_rule, .ref ld_returns, .ref ld_forgets, .ref ld_death, .ref ld_move, .ref ld_begun, .ref ld_who, .ref ld_lost])), (ld2_rule, .inl (cI, 10, .inl ld2_rule_c)), (ld_rule, .inl (cI, 10, .inl ld_rule_c)), (ld2_returns, .inl (cI, 10, .inl ld2_returns_c)), (ld_returns, .inl (cI, 10, .inl ld_returns_c)), (ld2_forgets, .inl (cI, 10, .inl ld2_forgets_c)), (ld_forgets, .inl (cI, 10, .inl ld_forgets_c)), (ld2_death, .inl (cI, 10, .inl ld2_death_c)), (ld_death, .inl (cI, 10, .inl ld_death_c)), (ld2_move, .inl (cI, 10, .inl ld2_move_c)), (ld_move, .inl (cI, 10, .inl ld_move_c)), (ld2_begun, .inl (cI, 16, .inl ld2_begun_c)), (ld_begun, .inl (cI, 16, .inl ld_begun_c)), (ld2_who, .inl (cI, 32, .inl ld2_who_c)), (ld_who, .inl (cI, 32, .inl ld_who_c)), (ld2_lost, .inl (cJ, 32, .inr (.inl ld2_lost_c))), (ld_lost, .inl (cJ, 32, .inr (.inl ld_lost_c)))] sz)) 0 0 (va_A [(ld2, .inr (4, [.int ld2_lines, .int ld2_years, .int ld2_card, .int ld2_hurt, .int ld2_people, .int ld2_pairs, .long ld2_strikes, .ref ld2_rule, .ref ld2_returns, .ref ld2_forgets, .ref ld2_death, .ref ld2_move, .ref ld2_begun, .ref ld2_who, .ref ld2_lost])), (ld, .inr (4, [.int ld_lines, .int ld_years, .int ld_card, .int ld_hurt, .int ld_people, .int ld_pairs, .long ld_strikes, .ref ld_rule, .ref ld_returns, .ref ld_forgets, .ref ld_death, .ref ld_move, .ref ld_begun, .ref ld_who, .ref ld_lost])), (ld2_rule, .inl (cI, 10, .inl ld2_rule_c)), (ld_rule, .inl (cI, 10, .inl ld_rule_c)), (ld2_returns, .inl (cI, 10, .inl ld2_returns_c)), (ld_returns, .inl (cI, 10, .inl ld_returns_c)), (ld2_forgets, .inl (cI, 10, .inl ld2_forgets_c)), (ld_forgets, .inl (cI, 10, .inl ld_forgets_c)), (ld2_death, .inl (cI, 10, .inl ld2_death_c)), (ld_death, .inl (cI, 10, .inl ld_death_c)), (ld2_move, .inl (cI, 10, .inl ld2_move_c)), (ld_move, .inl (cI, 10, .inl ld_move_c)), (ld2_begun, .inl (cI, 16, .inl ld2_begun_c)), (ld_begun, .inl (cI, 16, .inl ld_begun_c)), (ld2_who, .inl (cI, 32, .inl ld2_who_c)), (ld_who, .inl (cI, 32, .inl ld_who_c)), (ld2_lost, .inl (cJ, 32, .inr (.inl ld2_lost_c))), (ld_lost, .inl (cJ, 32, .inr (.inl ld_lost_c)))] sz) := by
  refine Met.ofW (cc := cX4_copyFrom) (maxL := 2) (ret := none) (by decide) rfl ?_
  intro p e s m args below meth c s₁ B hml hv
  obtain ⟨rfl, hsz, hP, hK, hD0⟩ := hv
  have hx := B.exec
  have hb := B.bytes
  have hr := B.returns
  have hts := atoms_spec (ws := v_X4_copyFrom) B.pre
  have hown : s.vm.findClass RX4 = some m.cls := findClass_of_methodNamed B.named
  have hlocks := B.notSynchronized
  clear B
  subst hsz
  have iX4 : ∀ w ∈ wsX40, w ∈ v_X4_copyFrom := (fun _ h => List.mem_cons_of_mem _ (List.mem_append_right _ (List.mem_append_left _ h)))
  have hD := hD0.self (sz := s.heap.size)
  generalize hAe : (va_A [(ld2, .inr (4, [.int ld2_lines, .int ld2_years, .int ld2_card, .int ld2_hurt, .int ld2_people, .int ld2_pairs, .long ld2_strikes, .ref ld2_rule, .ref ld2_returns, .ref ld2_forgets, .ref ld2_death, .ref ld2_move, .ref ld2_begun, .ref ld2_who, .ref ld2_lost])), (ld, .inr (4, [.int ld_lines, .int ld_years, .int ld_card, .int ld_hurt, .int ld_people, .int ld_pairs, .long ld_strikes, .ref ld_rule, .ref ld_returns, .ref ld_forgets, .ref ld_death, .ref ld_move, .ref ld_begun, .ref ld_who, .ref ld_lost])), (ld2_rule, .inl (cI, 10, .inl ld2_rule_c)), (ld_rule, .inl (cI, 10, .inl ld_rule_c)), (ld2_returns, .inl (cI, 10, .inl ld2_returns_c)), (ld_returns, .inl (cI, 10, .inl ld_returns_c)), (ld2_forgets, .inl (cI, 10, .inl ld2_forgets_c)), (ld_forgets, .inl (cI, 10, .inl ld_forgets_c)), (ld2_death, .inl (cI, 10, .inl ld2_death_c)), (ld_death, .inl (cI, 10, .inl ld_death_c)), (ld2_move, .inl (cI, 10, .inl ld2_move_c)), (ld_move, .inl (cI, 10, .inl ld_move_c)), (ld2_begun, .inl (cI, 16, .inl ld2_begun_c)), (ld_begun, .inl (cI, 16, .inl ld_begun_c)), (ld2_who, .inl (cI, 32, .inl ld2_who_c)), (ld_who, .inl (cI, 32, .inl ld_who_c)), (ld2_lost, .inl (cJ, 32, .inr (.inl ld2_lost_c))), (ld_lost, .inl (cJ, 32, .inr (.inl ld_lost_c)))] s.heap.size) = A at hD ⊢
  have hA : ∀ q : Nat, s.heap.size ≤ q → A q := fun q h => by rw [← hAe]; exact Or.inr h
  have hS : va_S A s.heap s.heap [] := va_S.rf
  have hl := lv_entry ([.ref ld, .ref ld2]) (n := 2) (Nat.le_of_ble_eq_true rfl)
  rw [lg_entry_eq]
  generalize (lg_sl ([.ref ld, .ref ld2]) ++ List.replicate (2 - (lg_sl ([.ref ld, .ref ld2])).length) Slot.unset).toArray = ls at hl ⊢
  generalize ([.ref ld, .ref ld2] : List Value).toArray = av at hts ⊢
  generalize hQ : MQ below _ av s _ _ A = QQ
  have hl : lv_has ls 2 [(0, .ref ld), (1, .ref ld2)] := hl
  have hP : va_P g vwCl [(ld2, .inr (4, [.int ld2_lines, .int ld2_years, .int ld2_card, .int ld2_hurt, .int ld2_people, .int ld2_pairs, .long ld2_strikes, .ref ld2_rule, .ref ld2_returns, .ref ld2_forgets, .ref ld2_death, .ref ld2_move, .ref ld2_begun, .ref ld2_who, .ref ld2_lost])), (ld, .inr (4, [.int ld_lines, .int ld_years, .int ld_card, .int ld_hurt, .int ld_people, .int ld_pairs, .long ld_strikes, .ref ld_rule, .ref ld_returns, .ref ld_forgets, .ref ld_death, .ref ld_move, .ref ld_begun, .ref ld_who, .ref ld_lost])), (ld2_rule, .inl (cI, 10, .inl ld2_rule_c)), (ld_rule, .inl (cI, 10, .inl ld_rule_c)), (ld2_returns, .inl (cI, 10, .inl ld2_returns_c)), (ld_returns, .inl (cI, 10, .inl ld_returns_c)), (ld2_forgets, .inl (cI, 10, .inl ld2_forgets_c)), (ld_forgets, .inl (cI, 10, .inl ld_forgets_c)), (ld2_death, .inl (cI, 10, .inl ld2_death_c)), (ld_death, .inl (cI, 10, .inl ld_death_c)), (ld2_move, .inl (cI, 10, .inl ld2_move_c)), (ld_move, .inl (cI, 10, .inl ld_move_c)), (ld2_begun, .inl (cI, 16, .inl ld2_begun_c)), (ld_begun, .inl (cI, 16, .inl ld_begun_c)), (ld2_who, .inl (cI, 32, .inl ld2_who_c)), (ld_who, .inl (cI, 32, .inl ld_who_c)), (ld2_lost, .inl (cJ, 32, .inr (.inl ld2_lost_c))), (ld_lost, .inl (cJ, 32, .inr (.inl ld_lost_c)))] s.heap := hP
  refine lv_aload_n hx hb dX4_copyFrom_0 rfl (lv_at hl 0 rfl) ?_
  refine lv_aload_n hx hb dX4_copyFrom_1 rfl (lv_at hl 1 rfl) ?_
  refine va_get (D := g) (ci := 4) (v := .int ld2_lines) (C := RX4) (T := TX4) (N := 15) hx hb hts iX4 hown hK hP 0 rfl rfl 0 (by decide) (hts (.fieldLink RX4 37 "CardsAtYule$Land" "lines" "I") (List.mem_cons_of_mem _ (List.mem_append_left _ (List.mem_of_getElem? (i := 0) rfl)))) (fun _ h9 => h9) rfl dX4_copyFrom_2 ?_
  refine va_put (D := g) (ci := 4) (v := .int ld2_lines) (ty := .int) (C := RX4) (T := TX4) (N := 15) hx hb hts iX4 tyX4 tyX4_ok nmX4 hown hK hP hD hS 1 rfl rfl 0 (by decide) (hts (.fieldLink RX4 37 "CardsAtYule$Land" "lines" "I") (List.mem_cons_of_mem _ (List.mem_append_left _ (List.mem_of_getElem? (i := 0) rfl)))) (fun _ h9 => h9) rfl (by decide +kernel) rfl rfl (Nat.le_of_ble_eq_true rfl) dX4_copyFrom_5 (fun H locs hP hD hS => ?_)
  have hP : va_P g vwCl [(ld2, .inr (4, [.int ld2_lines, .int ld2_years, .int ld2_card, .int ld2_hurt, .int ld2_people, .int ld2_pairs, .long ld2_strikes, .ref ld2_rule, .ref ld2_returns, .ref ld2_forgets, .ref ld2_death, .ref ld2_move, .ref ld2_begun, .ref ld2_who, .ref ld2_lost])), (ld, .inr (4, [.int ld2_lines, .int ld_years, .int ld_card, .int ld_hurt, .int ld_people, .int ld_pairs, .long ld_strikes, .ref ld_rule, .ref ld_returns, .ref ld_forgets, .ref ld_death, .ref ld_move, .ref ld_begun, .ref ld_who, .ref ld_lost])), (ld2_rule, .inl (cI, 10, .inl ld2_rule_c)), (ld_rule, .inl (cI, 10, .inl ld_rule_c)), (ld2_returns, .inl (cI, 10, .inl ld2_returns_c)), (ld_returns, .inl (cI, 10, .inl ld_returns_c)), (ld2_forgets, .inl (cI, 10, .inl ld2_forgets_c)), (ld_forgets, .inl (cI, 10, .inl ld_forgets_c)), (ld2_death, .inl (cI, 10, .inl ld2_death_c)), (ld_death, .inl (cI, 10, .inl ld_death_c)), (ld2_move, .inl (cI, 10, .inl ld2_move_c)), (ld_move, .inl (cI, 10, .inl ld_move_c)), (ld2_begun, .inl (cI, 16, .inl ld2_begun_c)), (ld_begun, .inl (cI, 16, .inl ld_begun_c)), (ld2_who, .inl (cI, 32, .inl ld2_who_c)), (ld_who, .inl (cI, 32, .inl ld_who_c)), (ld2_lost, .inl (cJ, 32, .inr (.inl ld2_lost_c))), (ld_lost, .inl (cJ, 32, .inr (.inl ld_lost_c)))] H := hP
  have hD : va_D A [(ld2, .inr (4, [.int ld2_lines, .int ld2_years, .int ld2_card, .int ld2_hurt, .int ld2_people, .int ld2_pairs, .long ld2_strikes, .ref ld2_rule, .ref ld2_returns, .ref ld2_forgets, .ref ld2_death, .ref ld2_move, .ref ld2_begun, .ref ld2_who, .ref ld2_lost])), (ld, .inr (4, [.int ld2_lines, .int ld_years, .int ld_card, .int ld_hurt, .int ld_people, .int ld_pairs, .long ld_strikes, .ref ld_rule, .ref ld_returns, .ref ld_forgets, .ref ld_death, .ref ld_move, .ref ld_begun, .ref ld_who, .ref ld_lost])), (ld2_rule, .inl (cI, 10, .inl ld2_rule_c)), (ld_rule, .inl (cI, 10, .inl ld_rule_c)), (ld2_returns, .inl (cI, 10, .inl ld2_returns_c)), (ld_returns, .inl (cI, 10, .inl ld_returns_c)), (ld2_forgets, .inl (cI, 10, .inl ld2_forgets_c)), (ld_forgets, .inl (cI, 10, .inl ld_forgets_c)), (ld2_death, .inl (cI, 10, .inl ld2_death_c)), (ld_death, .inl (cI, 10, .inl ld_death_c)), (ld2_move, .inl (cI, 10, .inl ld2_move_c)), (ld_move, .inl (cI, 10, .inl ld_move_c)), (ld2_begun, .inl (cI, 16, .inl ld2_begun_c)), (ld_begun, .inl (cI, 16, .inl ld_begun_c)), (ld2_who, .inl (cI, 32, .inl ld2_who_c)), (ld_who, .inl (cI, 32, .inl ld_who_c)), (ld2_lost, .inl (cJ, 32, .inr (.inl ld2_lost_c))), (ld_lost, .inl (cJ, 32, .inr (.inl ld_lost_c)))] := hD
  refine lv_aload_n hx hb dX4_copyFrom_8 rfl (lv_at hl 0 rfl) ?_
  refine lv_aload_n hx hb dX4_copyFrom_9 rfl (lv_at hl 1 rfl) ?_
  refine va_get (D := g) (ci := 4) (v := .int ld2_years) (C := RX4) (T := TX4) (N := 15) hx hb hts iX4 hown hK hP 0 rfl rfl 1 (by decide) (hts (.fieldLink RX4 41 "CardsAtYule$Land" "years" "I") (List.mem_cons_of_mem _ (List.mem_append_left _ (List.mem_of_getElem? (i := 1) rfl)))) (fun _ h9 => h9) rfl dX4_copyFrom_10 ?_
  refine va_put (D := g) (ci := 4) (v := .int ld2_years) (ty := .int) (C := RX4) (T := TX4) (N := 15) hx hb hts iX4 tyX4 tyX4_ok nmX4 hown hK hP hD hS 1 rfl rfl 1 (by decide) (hts (.fieldLink RX4 41 "CardsAtYule$Land" "years" "I") (List.mem_cons_of_mem _ (List.mem_append_left _ (List.mem_of_getElem? (i := 1) rfl)))) (fun _ h9 => h9) rfl (by decide +kernel) rfl rfl (Nat.le_of_ble_eq_true rfl) dX4_copyFrom_13 (fun H locs hP hD hS => ?_)
  have hP : va_P g vwCl [(ld2, .inr (4, [.int ld2_lines, .int ld2_years, .int ld2_card, .int ld2_hurt, .int ld2_people, .int ld2_pairs, .long ld2_strikes, .ref ld2_rule, .ref ld2_returns, .ref ld2_forgets, .ref ld2_death, .ref ld2_move, .ref ld2_begun, .ref ld2_who, .ref ld2_lost])), (ld, .inr (4, [.int ld2_lines, .int ld2_years, .int ld_card, .int ld_hurt, .int ld_people, .int ld_pairs, .long ld_strikes, .ref ld_rule, .ref ld_returns, .ref ld_forgets, .ref ld_death, .ref ld_move, .ref ld_begun, .ref ld_who, .ref ld_lost])), (ld2_rule, .inl (cI, 10, .inl ld2_rule_c)), (ld_rule, .inl (cI, 10, .inl ld_rule_c)), (ld2_returns, .inl (cI, 10, .inl ld2_returns_c)), (ld_returns, .inl (cI, 10, .inl ld_returns_c)), (ld2_forgets, .inl (cI, 10, .inl ld2_forgets_c)), (ld_forgets, .inl (cI, 10, .inl ld_forgets_c)), (ld2_death, .inl (cI, 10, .inl ld2_death_c)), (ld_death, .inl (cI, 10, .inl ld_death_c)), (ld2_move, .inl (cI, 10, .inl ld2_move_c)), (ld_move, .inl (cI, 10, .inl ld_move_c)), (ld2_begun, .inl (cI, 16, .inl ld2_begun_c)), (ld_begun, .inl (cI, 16, .inl ld_begun_c)), (ld2_who, .inl (cI, 32, .inl ld2_who_c)), (ld_who, .inl (cI, 32, .inl ld_who_c)), (ld2_lost, .inl (cJ, 32, .inr (.inl ld2_lost_c))), (ld_lost, .inl (cJ, 32, .inr (.inl ld_lost_c)))] H := hP
  have hD : va_D A [(ld2, .inr (4, [.int ld2_lines, .int ld2_years, .int ld2_card, .int ld2_hurt, .int ld2_people, .int ld2_pairs, .long ld2_strikes, .ref ld2_rule, .ref ld2_returns, .ref ld2_forgets, .ref ld2_death, .ref ld2_move, .ref ld2_begun, .ref ld2_who, .ref ld2_lost])), (ld, .inr (4, [.int ld2_lines, .int ld2_years, .int ld_card, .int ld_hurt, .int ld_people, .int ld_pairs, .long ld_strikes, .ref ld_rule, .ref ld_returns, .ref ld_forgets, .ref ld_death, .ref ld_move, .ref ld_begun, .ref ld_who, .ref ld_lost])), (ld2_rule, .inl (cI, 10, .inl ld2_rule_c)), (ld_rule, .inl (cI, 10, .inl ld_rule_c)), (ld2_returns, .inl (cI, 10, .inl ld2_returns_c)), (ld_returns, .inl (cI, 10, .inl ld_returns_c)), (ld2_forgets, .inl (cI, 10, .inl ld2_forgets_c)), (ld_forgets, .inl (cI, 10, .inl ld_forgets_c)), (ld2_death, .inl (cI, 10, .inl ld2_death_c)), (ld_death, .inl (cI, 10, .inl ld_death_c)), (ld2_move, .inl (cI, 10, .inl ld2_move_c)), (ld_move, .inl (cI, 10, .inl ld_move_c)), (ld2_begun, .inl (cI, 16, .inl ld2_begun_c)), (ld_begun, .inl (cI, 16, .inl ld_begun_c)), (ld2_who, .inl (cI, 32, .inl ld2_who_c)), (ld_who, .inl (cI, 32, .inl ld_who_c)), (ld2_lost, .inl (cJ, 32, .inr (.inl ld2_lost_c))), (ld_lost, .inl (cJ, 32, .inr (.inl ld_lost_c)))] := hD
  refine lv_aload_n hx hb dX4_copyFrom_16 rfl (lv_at hl 0 rfl) ?_
  refine lv_aload_n hx hb dX4_copyFrom_17 rfl (lv_at hl 1 rfl) ?_
  refine va_get (D := g) (ci := 4) (v := .int ld2_card) (C := RX4) (T := TX4) (N := 15) hx hb hts iX4 hown hK hP 0 rfl rfl 2 (by decide) (hts (.fieldLink RX4 44 "CardsAtYule$Land" "card" "I") (List.mem_cons_of_mem _ (List.mem_append_left _ (List.mem_of_getElem? (i := 2) rfl)))) (fun _ h9 => h9) rfl dX4_copyFrom_18 ?_
  refine va_put (D := g) (ci := 4) (v := .int ld2_card) (ty := .int) (C := RX4) (T := TX4) (N := 15) hx hb hts iX4 tyX4 tyX4_ok nmX4 hown hK hP hD hS 1 rfl rfl 2 (by decide) (hts (.fieldLink RX4 44 "CardsAtYule$Land" "card" "I") (List.mem_cons_of_mem _ (List.mem_append_left _ (List.mem_of_getElem? (i := 2) rfl)))) (fun _ h9 => h9) rfl (by decide +kernel) rfl rfl (Nat.le_of_ble_eq_true rfl) dX4_copyFrom_21 (fun H locs hP hD hS => ?_)
  have hP : va_P g vwCl [(ld2, .inr (4, [.int ld2_lines, .int ld2_years, .int ld2_card, .int ld2_hurt, .int ld2_people, .int ld2_pairs, .long ld2_strikes, .ref ld2_rule, .ref ld2_returns, .ref ld2_forgets, .ref ld2_death, .ref ld2_move, .ref ld2_begun, .ref ld2_who, .ref ld2_lost])), (ld, .inr (4, [.int ld2_lines, .int ld2_years, .int ld2_card, .int ld_hurt, .int ld_people, .int ld_pairs, .long ld_strikes, .ref ld_rule, .ref ld_returns, .ref ld_forgets, .ref ld_death, .ref ld_move, .ref ld_begun, .ref ld_who, .ref ld_lost])), (ld2_rule, .inl (cI, 10, .inl ld2_rule_c)), (ld_rule, .inl (cI, 10, .inl ld_rule_c)), (ld2_returns, .inl (cI, 10, .inl ld2_returns_c)), (ld_returns, .inl (cI, 10, .inl ld_returns_c)), (ld2_forgets, .inl (cI, 10, .inl ld2_forgets_c)), (ld_forgets, .inl (cI, 10, .inl ld_forgets_c)), (ld2_death, .inl (cI, 10, .inl ld2_death_c)), (ld_death, .inl (cI, 10, .inl ld_death_c)), (ld2_move, .inl (cI, 10, .inl ld2_move_c)), (ld_move, .inl (cI, 10, .inl ld_move_c)), (ld2_begun, .inl (cI, 16, .inl ld2_begun_c)), (ld_begun, .inl (cI, 16, .inl ld_begun_c)), (ld2_who, .inl (cI, 32, .inl ld2_who_c)), (ld_who, .inl (cI, 32, .inl ld_who_c)), (ld2_lost, .inl (cJ, 32, .inr (.inl ld2_lost_c))), (ld_lost, .inl (cJ, 32, .inr (.inl ld_lost_c)))] H := hP
  have hD : va_D A [(ld2, .inr (4, [.int ld2_lines, .int ld2_years, .int ld2_card, .int ld2_hurt, .int ld2_people, .int ld2_pairs, .long ld2_strikes, .ref ld2_rule, .ref ld2_returns, .ref ld2_forgets, .ref ld2_death, .ref ld2_move, .ref ld2_begun, .ref ld2_who, .ref ld2_lost])), (ld, .inr (4, [.int ld2_lines, .int ld2_years, .int ld2_card, .int ld_hurt, .int ld_people, .int ld_pairs, .long ld_strikes, .ref ld_rule, .ref ld_returns, .ref ld_forgets, .ref ld_death, .ref ld_move, .ref ld_begun, .ref ld_who, .ref ld_lost])), (ld2_rule, .inl (cI, 10, .inl ld2_rule_c)), (ld_rule, .inl (cI, 10, .inl ld_rule_c)), (ld2_returns, .inl (cI, 10, .inl ld2_returns_c)), (ld_returns, .inl (cI, 10, .inl ld_returns_c)), (ld2_forgets, .inl (cI, 10, .inl ld2_forgets_c)), (ld_forgets, .inl (cI, 10, .inl ld_forgets_c)), (ld2_death, .inl (cI, 10, .inl ld2_death_c)), (ld_death, .inl (cI, 10, .inl ld_death_c)), (ld2_move, .inl (cI, 10, .inl ld2_move_c)), (ld_move, .inl (cI, 10, .inl ld_move_c)), (ld2_begun, .inl (cI, 16, .inl ld2_begun_c)), (ld_begun, .inl (cI, 16, .inl ld_begun_c)), (ld2_who, .inl (cI, 32, .inl ld2_who_c)), (ld_who, .inl (cI, 32, .inl ld_who_c)), (ld2_lost, .inl (cJ, 32, .inr (.inl ld2_lost_c))), (ld_lost, .inl (cJ, 32, .inr (.inl ld_lost_c)))] := hD
  refine lv_aload_n hx hb dX4_copyFrom_24 rfl (lv_at hl 0 rfl) ?_
  refine lv_aload_n hx hb dX4_copyFrom_25 rfl (lv_at hl 1 rfl) ?_
  refine va_get (D := g) (ci := 4) (v := .int ld2_hurt) (C := RX4) (T := TX4) (N := 15) hx hb hts iX4 hown hK hP 0 rfl rfl 3 (by decide) (hts (.fieldLink RX4 47 "CardsAtYule$Land" "hurt" "I") (List.mem_cons_of_mem _ (List.mem_append_left _ (List.mem_of_getElem? (i := 3) rfl)))) (fun _ h9 => h9) rfl dX4_copyFrom_26 ?_
  refine va_put (D := g) (ci := 4) (v := .int ld2_hurt) (ty := .int) (C := RX4) (T := TX4) (N := 15) hx hb hts iX4 tyX4 tyX4_ok nmX4 hown hK hP hD hS 1 rfl rfl 3 (by decide) (hts (.fieldLink RX4 47 "CardsAtYule$Land" "hurt" "I") (List.mem_cons_of_mem _ (List.mem_append_left _ (List.mem_of_getElem? (i := 3) rfl)))) (fun _ h9 => h9) rfl (by decide +kernel) rfl rfl (Nat.le_of_ble_eq_true rfl) dX4_copyFrom_29 (fun H locs hP hD hS => ?_)
  have hP : va_P g vwCl [(ld2, .inr (4, [.int ld2_lines, .int ld2_years, .int ld2_card, .int ld2_hurt, .int ld2_people, .int ld2_pairs, .long ld2_strikes, .ref ld2_rule, .ref ld2_returns, .ref ld2_forgets, .ref ld2_death, .ref ld2_move, .ref ld2_begun, .ref ld2_who, .ref ld2_lost])), (ld, .inr (4, [.int ld2_lines, .int ld2_years, .int ld2_card, .int ld2_hurt, .int ld_people, .int ld_pairs, .long ld_strikes, .ref ld_rule, .ref ld_returns, .ref ld_forgets, .ref ld_death, .ref ld_move, .ref ld_begun, .ref ld_who, .ref ld_lost])), (ld2_rule, .inl (cI, 10, .inl ld2_rule_c)), (ld_rule, .inl (cI, 10, .inl ld_rule_c)), (ld2_returns, .inl (cI, 10, .inl ld2_returns_c)), (ld_returns, .inl (cI, 10, .inl ld_returns_c)), (ld2_forgets, .inl (cI, 10, .inl ld2_forgets_c)), (ld_forgets, .inl (cI, 10, .inl ld_forgets_c)), (ld2_death, .inl (cI, 10, .inl ld2_death_c)), (ld_death, .inl (cI, 10, .inl ld_death_c)), (ld2_move, .inl (cI, 10, .inl ld2_move_c)), (ld_move, .inl (cI, 10, .inl ld_move_c)), (ld2_begun, .inl (cI, 16, .inl ld2_begun_c)), (ld_begun, .inl (cI, 16, .inl ld_begun_c)), (ld2_who, .inl (cI, 32, .inl ld2_who_c)), (ld_who, .inl (cI, 32, .inl ld_who_c)), (ld2_lost, .inl (cJ, 32, .inr (.inl ld2_lost_c))), (ld_lost, .inl (cJ, 32, .inr (.inl ld_lost_c)))] H := hP
  have hD : va_D A [(ld2, .inr (4, [.int ld2_lines, .int ld2_years, .int ld2_card, .int ld2_hurt, .int ld2_people, .int ld2_pairs, .long ld2_strikes, .ref ld2_rule, .ref ld2_returns, .ref ld2_forgets, .ref ld2_death, .ref ld2_move, .ref ld2_begun, .ref ld2_who, .ref ld2_lost])), (ld, .inr (4, [.int ld2_lines, .int ld2_years, .int ld2_card, .int ld2_hurt, .int ld_people, .int ld_pairs, .long ld_strikes, .ref ld_rule, .ref ld_returns, .ref ld_forgets, .ref ld_death, .ref ld_move, .ref ld_begun, .ref ld_who, .ref ld_lost])), (ld2_rule, .inl (cI, 10, .inl ld2_rule_c)), (ld_rule, .inl (cI, 10, .inl ld_rule_c)), (ld2_returns, .inl (cI, 10, .inl ld2_returns_c)), (ld_returns, .inl (cI, 10, .inl ld_returns_c)), (ld2_forgets, .inl (cI, 10, .inl ld2_forgets_c)), (ld_forgets, .inl (cI, 10, .inl ld_forgets_c)), (ld2_death, .inl (cI, 10, .inl ld2_death_c)), (ld_death, .inl (cI, 10, .inl ld_death_c)), (ld2_move, .inl (cI, 10, .inl ld2_move_c)), (ld_move, .inl (cI, 10, .inl ld_move_c)), (ld2_begun, .inl (cI, 16, .inl ld2_begun_c)), (ld_begun, .inl (cI, 16, .inl ld_begun_c)), (ld2_who, .inl (cI, 32, .inl ld2_who_c)), (ld_who, .inl (cI, 32, .inl ld_who_c)), (ld2_lost, .inl (cJ, 32, .inr (.inl ld2_lost_c))), (ld_lost, .inl (cJ, 32, .inr (.inl ld_lost_c)))] := hD
  refine lv_aload_n hx hb dX4_copyFrom_32 rfl (lv_at hl 0 rfl) ?_
  refine lv_aload_n hx hb dX4_copyFrom_33 rfl (lv_at hl 1 rfl) ?_
  refine va_get (D := g) (ci := 4) (v := .int ld2_people) (C := RX4) (T := TX4) (N := 15) hx hb hts iX4 hown hK hP 0 rfl rfl 4 (by decide) (hts (.fieldLink RX4 50 "CardsAtYule$Land" "people" "I") (List.mem_cons_of_mem _ (List.mem_append_left _ (List.mem_of_getElem? (i := 4) rfl)))) (fun _ h9 => h9) rfl dX4_copyFrom_34 ?_
  refine va_put (D := g) (ci := 4) (v := .int ld2_people) (ty := .int) (C := RX4) (T := TX4) (N := 15) hx hb hts iX4 tyX4 tyX4_ok nmX4 hown hK hP hD hS 1 rfl rfl 4 (by decide) (hts (.fieldLink RX4 50 "CardsAtYule$Land" "people" "I") (List.mem_cons_of_mem _ (List.mem_append_left _ (List.mem_of_getElem? (i := 4) rfl)))) (fun _ h9 => h9) rfl (by decide +kernel) rfl rfl (Nat.le_of_ble_eq_true rfl) dX4_copyFrom_37 (fun H locs hP hD hS => ?_)
  have hP : va_P g vwCl [(ld2, .inr (4, [.int ld2_lines, .int ld2_years, .int ld2_card, .int ld2_hurt, .int ld2_people, .int ld2_pairs, .long ld2_strikes, .ref ld2_rule, .ref ld2_returns, .ref ld2_forgets, .ref ld2_death, .ref ld2_move, .ref ld2_begun, .ref ld2_who, .ref ld2_lost])), (ld, .inr (4, [.int ld2_lines, .int ld2_years, .int ld2_card, .int ld2_hurt, .int ld2_people, .int ld_pairs, .long ld_strikes, .ref ld_rule, .ref ld_returns, .ref ld_forgets, .ref ld_death, .ref ld_move, .ref ld_begun, .ref ld_who, .ref ld_lost])), (ld2_rule, .inl (cI, 10, .inl ld2_rule_c)), (ld_rule, .inl (cI, 10, .inl ld_rule_c)), (ld2_returns, .inl (cI, 10, .inl ld2_returns_c)), (ld_returns, .inl (cI, 10, .inl ld_returns_c)), (ld2_forgets, .inl (cI, 10, .inl ld2_forgets_c)), (ld_forgets, .inl (cI, 10, .inl ld_forgets_c)), (ld2_death, .inl (cI, 10, .inl ld2_death_c)), (ld_death, .inl (cI, 10, .inl ld_death_c)), (ld2_move, .inl (cI, 10, .inl ld2_move_c)), (ld_move, .inl (cI, 10, .inl ld_move_c)), (ld2_begun, .inl (cI, 16, .inl ld2_begun_c)), (ld_begun, .inl (cI, 16, .inl ld_begun_c)), (ld2_who, .inl (cI, 32, .inl ld2_who_c)), (ld_who, .inl (cI, 32, .inl ld_who_c)), (ld2_lost, .inl (cJ, 32, .inr (.inl ld2_lost_c))), (ld_lost, .inl (cJ, 32, .inr (.inl ld_lost_c)))] H := hP
  have hD : va_D A [(ld2, .inr (4, [.int ld2_lines, .int ld2_years, .int ld2_card, .int ld2_hurt, .int ld2_people, .int ld2_pairs, .long ld2_strikes, .ref ld2_rule, .ref ld2_returns, .ref ld2_forgets, .ref ld2_death, .ref ld2_move, .ref ld2_begun, .ref ld2_who, .ref ld2_lost])), (ld, .inr (4, [.int ld2_lines, .int ld2_years, .int ld2_card, .int ld2_hurt, .int ld2_people, .int ld_pairs, .long ld_strikes, .ref ld_rule, .ref ld_returns, .ref ld_forgets, .ref ld_death, .ref ld_move, .ref ld_begun, .ref ld_who, .ref ld_lost])), (ld2_rule, .inl (cI, 10, .inl ld2_rule_c)), (ld_rule, .inl (cI, 10, .inl ld_rule_c)), (ld2_returns, .inl (cI, 10, .inl ld2_returns_c)), (ld_returns, .inl (cI, 10, .inl ld_returns_c)), (ld2_forgets, .inl (cI, 10, .inl ld2_forgets_c)), (ld_forgets, .inl (cI, 10, .inl ld_forgets_c)), (ld2_death, .inl (cI, 10, .inl ld2_death_c)), (ld_death, .inl (cI, 10, .inl ld_death_c)), (ld2_move, .inl (cI, 10, .inl ld2_move_c)), (ld_move, .inl (cI, 10, .inl ld_move_c)), (ld2_begun, .inl (cI, 16, .inl ld2_begun_c)), (ld_begun, .inl (cI, 16, .inl ld_begun_c)), (ld2_who, .inl (cI, 32, .inl ld2_who_c)), (ld_who, .inl (cI, 32, .inl ld_who_c)), (ld2_lost, .inl (cJ, 32, .inr (.inl ld2_lost_c))), (ld_lost, .inl (cJ, 32, .inr (.inl ld_lost_c)))] := hD
  refine lv_aload_n hx hb dX4_copyFrom_40 rfl (lv_at hl 0 rfl) ?_
  refine lv_aload_n hx hb dX4_copyFrom_41 rfl (lv_at hl 1 rfl) ?_
  refine va_get (D := g) (ci := 4) (v := .int ld2_pairs) (C := RX4) (T := TX4) (N := 15) hx hb hts iX4 hown hK hP 0 rfl rfl 5 (by decide) (hts (.fieldLink RX4 53 "CardsAtYule$Land" "pairs" "I") (List.mem_cons_of_mem _ (List.mem_append_left _ (List.mem_of_getElem? (i := 5) rfl)))) (fun _ h9 => h9) rfl dX4_copyFrom_42 ?_
  refine va_put (D := g) (ci := 4) (v := .int ld2_pairs) (ty := .int) (C := RX4) (T := TX4) (N := 15) hx hb hts iX4 tyX4 tyX4_ok nmX4 hown hK hP hD hS 1 rfl rfl 5 (by decide) (hts (.fieldLink RX4 53 "CardsAtYule$Land" "pairs" "I") (List.mem_cons_of_mem _ (List.mem_append_left _ (List.mem_of_getElem? (i := 5) rfl)))) (fun _ h9 => h9) rfl (by decide +kernel) rfl rfl (Nat.le_of_ble_eq_true rfl) dX4_copyFrom_45 (fun H locs hP hD hS => ?_)
  have hP : va_P g vwCl [(ld2, .inr (4, [.int ld2_lines, .int ld2_years, .int ld2_card, .int ld2_hurt, .int ld2_people, .int ld2_pairs, .long ld2_strikes, .ref ld2_rule, .ref ld2_returns, .ref ld2_forgets, .ref ld2_death, .ref ld2_move, .ref ld2_begun, .ref ld2_who, .ref ld2_lost])), (ld, .inr (4, [.int ld2_lines, .int ld2_years, .int ld2_card, .int ld2_hurt, .int ld2_people, .int ld2_pairs, .long ld_strikes, .ref ld_rule, .ref ld_returns, .ref ld_forgets, .ref ld_death, .ref ld_move, .ref ld_begun, .ref ld_who, .ref ld_lost])), (ld2_rule, .inl (cI, 10, .inl ld2_rule_c)), (ld_rule, .inl (cI, 10, .inl ld_rule_c)), (ld2_returns, .inl (cI, 10, .inl ld2_returns_c)), (ld_returns, .inl (cI, 10, .inl ld_returns_c)), (ld2_forgets, .inl (cI, 10, .inl ld2_forgets_c)), (ld_forgets, .inl (cI, 10, .inl ld_forgets_c)), (ld2_death, .inl (cI, 10, .inl ld2_death_c)), (ld_death, .inl (cI, 10, .inl ld_death_c)), (ld2_move, .inl (cI, 10, .inl ld2_move_c)), (ld_move, .inl (cI, 10, .inl ld_move_c)), (ld2_begun, .inl (cI, 16, .inl ld2_begun_c)), (ld_begun, .inl (cI, 16, .inl ld_begun_c)), (ld2_who, .inl (cI, 32, .inl ld2_who_c)), (ld_who, .inl (cI, 32, .inl ld_who_c)), (ld2_lost, .inl (cJ, 32, .inr (.inl ld2_lost_c))), (ld_lost, .inl (cJ, 32, .inr (.inl ld_lost_c)))] H := hP
  have hD : va_D A [(ld2, .inr (4, [.int ld2_lines, .int ld2_years, .int ld2_card, .int ld2_hurt, .int ld2_people, .int ld2_pairs, .long ld2_strikes, .ref ld2_rule, .ref ld2_returns, .ref ld2_forgets, .ref ld2_death, .ref ld2_move, .ref ld2_begun, .ref ld2_who, .ref ld2_lost])), (ld, .inr (4, [.int ld2_lines, .int ld2_years, .int ld2_card, .int ld2_hurt, .int ld2_people, .int ld2_pairs, .long ld_strikes, .ref ld_rule, .ref ld_returns, .ref ld_forgets, .ref ld_death, .ref ld_move, .ref ld_begun, .ref ld_who, .ref ld_lost])), (ld2_rule, .inl (cI, 10, .inl ld2_rule_c)), (ld_rule, .inl (cI, 10, .inl ld_rule_c)), (ld2_returns, .inl (cI, 10, .inl ld2_returns_c)), (ld_returns, .inl (cI, 10, .inl ld_returns_c)), (ld2_forgets, .inl (cI, 10, .inl ld2_forgets_c)), (ld_forgets, .inl (cI, 10, .inl ld_forgets_c)), (ld2_death, .inl (cI, 10, .inl ld2_death_c)), (ld_death, .inl (cI, 10, .inl ld_death_c)), (ld2_move, .inl (cI, 10, .inl ld2_move_c)), (ld_move, .inl (cI, 10, .inl ld_move_c)), (ld2_begun, .inl (cI, 16, .inl ld2_begun_c)), (ld_begun, .inl (cI, 16, .inl ld_begun_c)), (ld2_who, .inl (cI, 32, .inl ld2_who_c)), (ld_who, .inl (cI, 32, .inl ld_who_c)), (ld2_lost, .inl (cJ, 32, .inr (.inl ld2_lost_c))), (ld_lost, .inl (cJ, 32, .inr (.inl ld_lost_c)))] := hD
  refine lv_aload_n hx hb dX4_copyFrom_48 rfl (lv_at hl 0 rfl) ?_
  refine lv_aload_n hx hb dX4_copyFrom_49 rfl (lv_at hl 1 rfl) ?_
  refine va_get (D := g) (ci := 4) (v := .long ld2_strikes) (C := RX4) (T := TX4) (N := 15) hx hb hts iX4 hown hK hP 0 rfl rfl 6 (by decide) (hts (.fieldLink RX4 56 "CardsAtYule$Land" "strikes" "J") (List.mem_cons_of_mem _ (List.mem_append_left _ (List.mem_of_getElem? (i := 6) rfl)))) (fun _ h9 => h9) rfl dX4_copyFrom_50 ?_
  refine va_put (D := g) (ci := 4) (v := .long ld2_strikes) (ty := .long) (C := RX4) (T := TX4) (N := 15) hx hb hts iX4 tyX4 tyX4_ok nmX4 hown hK hP hD hS 1 rfl rfl 6 (by decide) (hts (.fieldLink RX4 56 "CardsAtYule$Land" "strikes" "J") (List.mem_cons_of_mem _ (List.mem_append_left _ (List.mem_of_getElem? (i := 6) rfl)))) (fun _ h9 => h9) rfl (by decide +kernel) rfl rfl (Nat.le_of_ble_eq_true rfl) dX4_copyFrom_53 (fun H locs hP hD hS => ?_)
  have hP : va_P g vwCl [(ld2, .inr (4, [.int ld2_lines, .int ld2_years, .int ld2_card, .int ld2_hurt, .int ld2_people, .int ld2_pairs, .long ld2_strikes, .ref ld2_rule, .ref ld2_returns, .ref ld2_forgets, .ref ld2_death, .ref ld2_move, .ref ld2_begun, .ref ld2_who, .ref ld2_lost])), (ld, .inr (4, [.int ld2_lines, .int ld2_years, .int ld2_card, .int ld2_hurt, .int ld2_people, .int ld2_pairs, .long ld2_strikes, .ref ld_rule, .ref ld_returns, .ref ld_forgets, .ref ld_death, .ref ld_move, .ref ld_begun, .ref ld_who, .ref ld_lost])), (ld2_rule, .inl (cI, 10, .inl ld2_rule_c)), (ld_rule, .inl (cI, 10, .inl ld_rule_c)), (ld2_returns, .inl (cI, 10, .inl ld2_returns_c)), (ld_returns, .inl (cI, 10, .inl ld_returns_c)), (ld2_forgets, .inl (cI, 10, .inl ld2_forgets_c)), (ld_forgets, .inl (cI, 10, .inl ld_forgets_c)), (ld2_death, .inl (cI, 10, .inl ld2_death_c)), (ld_death, .inl (cI, 10, .inl ld_death_c)), (ld2_move, .inl (cI, 10, .inl ld2_move_c)), (ld_move, .inl (cI, 10, .inl ld_move_c)), (ld2_begun, .inl (cI, 16, .inl ld2_begun_c)), (ld_begun, .inl (cI, 16, .inl ld_begun_c)), (ld2_who, .inl (cI, 32, .inl ld2_who_c)), (ld_who, .inl (cI, 32, .inl ld_who_c)), (ld2_lost, .inl (cJ, 32, .inr (.inl ld2_lost_c))), (ld_lost, .inl (cJ, 32, .inr (.inl ld_lost_c)))] H := hP
  have hD : va_D A [(ld2, .inr (4, [.int ld2_lines, .int ld2_years, .int ld2_card, .int ld2_hurt, .int ld2_people, .int ld2_pairs, .long ld2_strikes, .ref ld2_rule, .ref ld2_returns, .ref ld2_forgets, .ref ld2_death, .ref ld2_move, .ref ld2_begun, .ref ld2_who, .ref ld2_lost])), (ld, .inr (4, [.int ld2_lines, .int ld2_years, .int ld2_card, .int ld2_hurt, .int ld2_people, .int ld2_pairs, .long ld2_strikes, .ref ld_rule, .ref ld_returns, .ref ld_forgets, .ref ld_death, .ref ld_move, .ref ld_begun, .ref ld_who, .ref ld_lost])), (ld2_rule, .inl (cI, 10, .inl ld2_rule_c)), (ld_rule, .inl (cI, 10, .inl ld_rule_c)), (ld2_returns, .inl (cI, 10, .inl ld2_returns_c)), (ld_returns, .inl (cI, 10, .inl ld_returns_c)), (ld2_forgets, .inl (cI, 10, .inl ld2_forgets_c)), (ld_forgets, .inl (cI, 10, .inl ld_forgets_c)), (ld2_death, .inl (cI, 10, .inl ld2_death_c)), (ld_death, .inl (cI, 10, .inl ld_death_c)), (ld2_move, .inl (cI, 10, .inl ld2_move_c)), (ld_move, .inl (cI, 10, .inl ld_move_c)), (ld2_begun, .inl (cI, 16, .inl ld2_begun_c)), (ld_begun, .inl (cI, 16, .inl ld_begun_c)), (ld2_who, .inl (cI, 32, .inl ld2_who_c)), (ld_who, .inl (cI, 32, .inl ld_who_c)), (ld2_lost, .inl (cJ, 32, .inr (.inl ld2_lost_c))), (ld_lost, .inl (cJ, 32, .inr (.inl ld_lost_c)))] := hD
  refine lv_aload_n hx hb dX4_copyFrom_56 rfl (lv_at hl 1 rfl) ?_
  refine va_get (D := g) (ci := 4) (v := .ref ld2_rule) (C := RX4) (T := TX4) (N := 15) hx hb hts iX4 hown hK hP 0 rfl rfl 7 (by decide) (hts (.fieldLink RX4 9 "CardsAtYule$Land" "rule" "[I") (List.mem_cons_of_mem _ (List.mem_append_left _ (List.mem_of_getElem? (i := 7) rfl)))) (fun _ h9 => h9) rfl dX4_copyFrom_57 ?_
  refine lv_iconst (v := 0) hx hb dX4_copyFrom_60 (by decide) ?_
  refine lv_aload_n hx hb dX4_copyFrom_61 rfl (lv_at hl 0 rfl) ?_
  refine va_get (D := g) (ci := 4) (v := .ref ld_rule) (C := RX4) (T := TX4) (N := 15) hx hb hts iX4 hown hK hP 1 rfl rfl 7 (by decide) (hts (.fieldLink RX4 9 "CardsAtYule$Land" "rule" "[I") (List.mem_cons_of_mem _ (List.mem_append_left _ (List.mem_of_getElem? (i := 7) rfl)))) (fun _ h9 => h9) rfl dX4_copyFrom_62 ?_
  refine lv_iconst (v := 0) hx hb dX4_copyFrom_65 (by decide) ?_
  refine lv_bipush (v := 10) hx hb dX4_copyFrom_66 (by decide) ?_
  refine va_copyi (D := g) hx hb (hml.trans hl.1.symm) hown (hts (.methodLink RX4 66 arraycopyName) (List.mem_cons_of_mem _ (List.mem_append_left _ (List.mem_of_getElem? (i := 8) rfl)))) (hts (.native arraycopyName) (List.mem_cons_of_mem _ (List.mem_append_left _ (List.mem_of_getElem? (i := 9) rfl)))) (hts (.static arraycopyName) (List.mem_cons_of_mem _ (List.mem_append_left _ (List.mem_of_getElem? (i := 10) rfl)))) (hts (.initialized "java/lang/System") (List.mem_cons_of_mem _ (List.mem_append_left _ (List.mem_of_getElem? (i := 11) rfl)))) hK hP hD hS 2 3 0 0 rfl rfl rfl rfl rfl (by decide) (by decide) (by decide) (by decide) (by decide) (fun _ _ => rfl) (Nat.le_of_ble_eq_true rfl) (Nat.le_of_ble_eq_true rfl) dX4_copyFrom_68 (fun H locs hP hD hS => ?_)
  obtain ⟨g68, e68⟩ : ∃ z, z = va_cpy ld2_rule_c ld_rule_c 0 0 10 := ⟨_, rfl⟩
  have hP : va_P g vwCl [(ld2, .inr (4, [.int ld2_lines, .int ld2_years, .int ld2_card, .int ld2_hurt, .int ld2_people, .int ld2_pairs, .long ld2_strikes, .ref ld2_rule, .ref ld2_returns, .ref ld2_forgets, .ref ld2_death, .ref ld2_move, .ref ld2_begun, .ref ld2_who, .ref ld2_lost])), (ld, .inr (4, [.int ld2_lines, .int ld2_years, .int ld2_card, .int ld2_hurt, .int ld2_people, .int ld2_pairs, .long ld2_strikes, .ref ld_rule, .ref ld_returns, .ref ld_forgets, .ref ld_death, .ref ld_move, .ref ld_begun, .ref ld_who, .ref ld_lost])), (ld2_rule, .inl (cI, 10, .inl ld2_rule_c)), (ld_rule, .inl (cI, 10, .inl (va_cpy ld2_rule_c ld_rule_c 0 0 10))), (ld2_returns, .inl (cI, 10, .inl ld2_returns_c)), (ld_returns, .inl (cI, 10, .inl ld_returns_c)), (ld2_forgets, .inl (cI, 10, .inl ld2_forgets_c)), (ld_forgets, .inl (cI, 10, .inl ld_forgets_c)), (ld2_death, .inl (cI, 10, .inl ld2_death_c)), (ld_death, .inl (cI, 10, .inl ld_death_c)), (ld2_move, .inl (cI, 10, .inl ld2_move_c)), (ld_move, .inl (cI, 10, .inl ld_move_c)), (ld2_begun, .inl (cI, 16, .inl ld2_begun_c)), (ld_begun, .inl (cI, 16, .inl ld_begun_c)), (ld2_who, .inl (cI, 32, .inl ld2_who_c)), (ld_who, .inl (cI, 32, .inl ld_who_c)), (ld2_lost, .inl (cJ, 32, .inr (.inl ld2_lost_c))), (ld_lost, .inl (cJ, 32, .inr (.inl ld_lost_c)))] H := hP
  have hD : va_D A [(ld2, .inr (4, [.int ld2_lines, .int ld2_years, .int ld2_card, .int ld2_hurt, .int ld2_people, .int ld2_pairs, .long ld2_strikes, .ref ld2_rule, .ref ld2_returns, .ref ld2_forgets, .ref ld2_death, .ref ld2_move, .ref ld2_begun, .ref ld2_who, .ref ld2_lost])), (ld, .inr (4, [.int ld2_lines, .int ld2_years, .int ld2_card, .int ld2_hurt, .int ld2_people, .int ld2_pairs, .long ld2_strikes, .ref ld_rule, .ref ld_returns, .ref ld_forgets, .ref ld_death, .ref ld_move, .ref ld_begun, .ref ld_who, .ref ld_lost])), (ld2_rule, .inl (cI, 10, .inl ld2_rule_c)), (ld_rule, .inl (cI, 10, .inl (va_cpy ld2_rule_c ld_rule_c 0 0 10))), (ld2_returns, .inl (cI, 10, .inl ld2_returns_c)), (ld_returns, .inl (cI, 10, .inl ld_returns_c)), (ld2_forgets, .inl (cI, 10, .inl ld2_forgets_c)), (ld_forgets, .inl (cI, 10, .inl ld_forgets_c)), (ld2_death, .inl (cI, 10, .inl ld2_death_c)), (ld_death, .inl (cI, 10, .inl ld_death_c)), (ld2_move, .inl (cI, 10, .inl ld2_move_c)), (ld_move, .inl (cI, 10, .inl ld_move_c)), (ld2_begun, .inl (cI, 16, .inl ld2_begun_c)), (ld_begun, .inl (cI, 16, .inl ld_begun_c)), (ld2_who, .inl (cI, 32, .inl ld2_who_c)), (ld_who, .inl (cI, 32, .inl ld_who_c)), (ld2_lost, .inl (cJ, 32, .inr (.inl ld2_lost_c))), (ld_lost, .inl (cJ, 32, .inr (.inl ld_lost_c)))] := hD
  rw [← e68] at hP hD
  refine lv_aload_n hx hb dX4_copyFrom_71 rfl (lv_at hl 1 rfl) ?_
  refine va_get (D := g) (ci := 4) (v := .ref ld2_returns) (C := RX4) (T := TX4) (N := 15) hx hb hts iX4 hown hK hP 0 rfl rfl 8 (by decide) (hts (.fieldLink RX4 15 "CardsAtYule$Land" "returns" "[I") (List.mem_cons_of_mem _ (List.mem_append_left _ (List.mem_of_getElem? (i := 12) rfl)))) (fun _ h9 => h9) rfl dX4_copyFrom_72 ?_
  refine lv_iconst (v := 0) hx hb dX4_copyFrom_75 (by decide) ?_
  refine lv_aload_n hx hb dX4_copyFrom_76 rfl (lv_at hl 0 rfl) ?_
  refine va_get (D := g) (ci := 4) (v := .ref ld_returns) (C := RX4) (T := TX4) (N := 15) hx hb hts iX4 hown hK hP 1 rfl rfl 8 (by decide) (hts (.fieldLink RX4 15 "CardsAtYule$Land" "returns" "[I") (List.mem_cons_of_mem _ (List.mem_append_left _ (List.mem_of_getElem? (i := 12) rfl)))) (fun _ h9 => h9) rfl dX4_copyFrom_77 ?_
  refine lv_iconst (v := 0) hx hb dX4_copyFrom_80 (by decide) ?_
  refine lv_bipush (v := 10) hx hb dX4_copyFrom_81 (by decide) ?_
  refine va_copyi (D := g) hx hb (hml.trans hl.1.symm) hown (hts (.methodLink RX4 66 arraycopyName) (List.mem_cons_of_mem _ (List.mem_append_left _ (List.mem_of_getElem? (i := 8) rfl)))) (hts (.native arraycopyName) (List.mem_cons_of_mem _ (List.mem_append_left _ (List.mem_of_getElem? (i := 9) rfl)))) (hts (.static arraycopyName) (List.mem_cons_of_mem _ (List.mem_append_left _ (List.mem_of_getElem? (i := 10) rfl)))) (hts (.initialized "java/lang/System") (List.mem_cons_of_mem _ (List.mem_append_left _ (List.mem_of_getElem? (i := 11) rfl)))) hK hP hD hS 4 5 0 0 rfl rfl rfl rfl rfl (by decide) (by decide) (by decide) (by decide) (by decide) (fun _ _ => rfl) (Nat.le_of_ble_eq_true rfl) (Nat.le_of_ble_eq_true rfl) dX4_copyFrom_83 (fun H locs hP hD hS => ?_)
  obtain ⟨g83, e83⟩ : ∃ z, z = va_cpy ld2_returns_c ld_returns_c 0 0 10 := ⟨_, rfl⟩
  have hP : va_P g vwCl [(ld2, .inr (4, [.int ld2_lines, .int ld2_years, .int ld2_card, .int ld2_hurt, .int ld2_people, .int ld2_pairs, .long ld2_strikes, .ref ld2_rule, .ref ld2_returns, .ref ld2_forgets, .ref ld2_death, .ref ld2_move, .ref ld2_begun, .ref ld2_who, .ref ld2_lost])), (ld, .inr (4, [.int ld2_lines, .int ld2_years, .int ld2_card, .int ld2_hurt, .int ld2_people, .int ld2_pairs, .long ld2_strikes, .ref ld_rule, .ref ld_returns, .ref ld_forgets, .ref ld_death, .ref ld_move, .ref ld_begun, .ref ld_who, .ref ld_lost])), (ld2_rule, .inl (cI, 10, .inl ld2_rule_c)), (ld_rule, .inl (cI, 10, .inl g68)), (ld2_returns, .inl (cI, 10, .inl ld2_returns_c)), (ld_returns, .inl (cI, 10, .inl (va_cpy ld2_returns_c ld_returns_c 0 0 10))), (ld2_forgets, .inl (cI, 10, .inl ld2_forgets_c)), (ld_forgets, .inl (cI, 10, .inl ld_forgets_c)), (ld2_death, .inl (cI, 10, .inl ld2_death_c)), (ld_death, .inl (cI, 10, .inl ld_death_c)), (ld2_move, .inl (cI, 10, .inl ld2_move_c)), (ld_move, .inl (cI, 10, .inl ld_move_c)), (ld2_begun, .inl (cI, 16, .inl ld2_begun_c)), (ld_begun, .inl (cI, 16, .inl ld_begun_c)), (ld2_who, .inl (cI, 32, .inl ld2_who_c)), (ld_who, .inl (cI, 32, .inl ld_who_c)), (ld2_lost, .inl (cJ, 32, .inr (.inl ld2_lost_c))), (ld_lost, .inl (cJ, 32, .inr (.inl ld_lost_c)))] H := hP
  have hD : va_D A [(ld2, .inr (4, [.int ld2_lines, .int ld2_years, .int ld2_card, .int ld2_hurt, .int ld2_people, .int ld2_pairs, .long ld2_strikes, .ref ld2_rule, .ref ld2_returns, .ref ld2_forgets, .ref ld2_death, .ref ld2_move, .ref ld2_begun, .ref ld2_who, .ref ld2_lost])), (ld, .inr (4, [.int ld2_lines, .int ld2_years, .int ld2_card, .int ld2_hurt, .int ld2_people, .int ld2_pairs, .long ld2_strikes, .ref ld_rule, .ref ld_returns, .ref ld_forgets, .ref ld_death, .ref ld_move, .ref ld_begun, .ref ld_who, .ref ld_lost])), (ld2_rule, .inl (cI, 10, .inl ld2_rule_c)), (ld_rule, .inl (cI, 10, .inl g68)), (ld2_returns, .inl (cI, 10, .inl ld2_returns_c)), (ld_returns, .inl (cI, 10, .inl (va_cpy ld2_returns_c ld_returns_c 0 0 10))), (ld2_forgets, .inl (cI, 10, .inl ld2_forgets_c)), (ld_forgets, .inl (cI, 10, .inl ld_forgets_c)), (ld2_death, .inl (cI, 10, .inl ld2_death_c)), (ld_death, .inl (cI, 10, .inl ld_death_c)), (ld2_move, .inl (cI, 10, .inl ld2_move_c)), (ld_move, .inl (cI, 10, .inl ld_move_c)), (ld2_begun, .inl (cI, 16, .inl ld2_begun_c)), (ld_begun, .inl (cI, 16, .inl ld_begun_c)), (ld2_who, .inl (cI, 32, .inl ld2_who_c)), (ld_who, .inl (cI, 32, .inl ld_who_c)), (ld2_lost, .inl (cJ, 32, .inr (.inl ld2_lost_c))), (ld_lost, .inl (cJ, 32, .inr (.inl ld_lost_c)))] := hD
  rw [← e83] at hP hD
  refine lv_aload_n hx hb dX4_copyFrom_86 rfl (lv_at hl 1 rfl) ?_
  refine va_get (D := g) (ci := 4) (v := .ref ld2_forgets) (C := RX4) (T := TX4) (N := 15) hx hb hts iX4 hown hK hP 0 rfl rfl 9 (by decide) (hts (.fieldLink RX4 18 "CardsAtYule$Land" "forgets" "[I") (List.mem_cons_of_mem _ (List.mem_append_left _ (List.mem_of_getElem? (i := 13) rfl)))) (fun _ h9 => h9) rfl dX4_copyFrom_87 ?_
  refine lv_iconst (v := 0) hx hb dX4_copyFrom_90 (by decide) ?_
  refine lv_aload_n hx hb dX4_copyFrom_91 rfl (lv_at hl 0 rfl) ?_
  refine va_get (D := g) (ci := 4) (v := .ref ld_forgets) (C := RX4) (T := TX4) (N := 15) hx hb hts iX4 hown hK hP 1 rfl rfl 9 (by decide) (hts (.fieldLink RX4 18 "CardsAtYule$Land" "forgets" "[I") (List.mem_cons_of_mem _ (List.mem_append_left _ (List.mem_of_getElem? (i := 13) rfl)))) (fun _ h9 => h9) rfl dX4_copyFrom_92 ?_
  refine lv_iconst (v := 0) hx hb dX4_copyFrom_95 (by decide) ?_
  refine lv_bipush (v := 10) hx hb dX4_copyFrom_96 (by decide) ?_
  refine va_copyi (D := g) hx hb (hml.trans hl.1.symm) hown (hts (.methodLink RX4 66 arraycopyName) (List.mem_cons_of_mem _ (List.mem_append_left _ (List.mem_of_getElem? (i := 8) rfl)))) (hts (.native arraycopyName) (List.mem_cons_of_mem _ (List.mem_append_left _ (List.mem_of_getElem? (i := 9) rfl)))) (hts (.static arraycopyName) (List.mem_cons_of_mem _ (List.mem_append_left _ (List.mem_of_getElem? (i := 10) rfl)))) (hts (.initialized "java/lang/System") (List.mem_cons_of_mem _ (List.mem_append_left _ (List.mem_of_getElem? (i := 11) rfl)))) hK hP hD hS 6 7 0 0 rfl rfl rfl rfl rfl (by decide) (by decide) (by decide) (by decide) (by decide) (fun _ _ => rfl) (Nat.le_of_ble_eq_true rfl) (Nat.le_of_ble_eq_true rfl) dX4_copyFrom_98 (fun H locs hP hD hS => ?_)
  obtain ⟨g98, e98⟩ : ∃ z, z = va_cpy ld2_forgets_c ld_forgets_c 0 0 10 := ⟨_, rfl⟩
  have hP : va_P g vwCl [(ld2, .inr (4, [.int ld2_lines, .int ld2_years, .int ld2_card, .int ld2_hurt, .int ld2_people, .int ld2_pairs, .long ld2_strikes, .ref ld2_rule, .ref ld2_returns, .ref ld2_forgets, .ref ld2_death, .ref ld2_move, .ref ld2_begun, .ref ld2_who, .ref ld2_lost])), (ld, .inr (4, [.int ld2_lines, .int ld2_years, .int ld2_card, .int ld2_hurt, .int ld2_people, .int ld2_pairs, .long ld2_strikes, .ref ld_rule, .ref ld_returns, .ref ld_forgets, .ref ld_death, .ref ld_move, .ref ld_begun, .ref ld_who, .ref ld_lost])), (ld2_rule, .inl (cI, 10, .inl ld2_rule_c)), (ld_rule, .inl (cI, 10, .inl g68)), (ld2_returns, .inl (cI, 10, .inl ld2_returns_c)), (ld_returns, .inl (cI, 10, .inl g83)), (ld2_forgets, .inl (cI, 10, .inl ld2_forgets_c)), (ld_forgets, .inl (cI, 10, .inl (va_cpy ld2_forgets_c ld_forgets_c 0 0 10))), (ld2_death, .inl (cI, 10, .inl ld2_death_c)), (ld_death, .inl (cI, 10, .inl ld_death_c)), (ld2_move, .inl (cI, 10, .inl ld2_move_c)), (ld_move, .inl (cI, 10, .inl ld_move_c)), (ld2_begun, .inl (cI, 16, .inl ld2_begun_c)), (ld_begun, .inl (cI, 16, .inl ld_begun_c)), (ld2_who, .inl (cI, 32, .inl ld2_who_c)), (ld_who, .inl (cI, 32, .inl ld_who_c)), (ld2_lost, .inl (cJ, 32, .inr (.inl ld2_lost_c))), (ld_lost, .inl (cJ, 32, .inr (.inl ld_lost_c)))] H := hP
  have hD : va_D A [(ld2, .inr (4, [.int ld2_lines, .int ld2_years, .int ld2_card, .int ld2_hurt, .int ld2_people, .int ld2_pairs, .long ld2_strikes, .ref ld2_rule, .ref ld2_returns, .ref ld2_forgets, .ref ld2_death, .ref ld2_move, .ref ld2_begun, .ref ld2_who, .ref ld2_lost])), (ld, .inr (4, [.int ld2_lines, .int ld2_years, .int ld2_card, .int ld2_hurt, .int ld2_people, .int ld2_pairs, .long ld2_strikes, .ref ld_rule, .ref ld_returns, .ref ld_forgets, .ref ld_death, .ref ld_move, .ref ld_begun, .ref ld_who, .ref ld_lost])), (ld2_rule, .inl (cI, 10, .inl ld2_rule_c)), (ld_rule, .inl (cI, 10, .inl g68)), (ld2_returns, .inl (cI, 10, .inl ld2_returns_c)), (ld_returns, .inl (cI, 10, .inl g83)), (ld2_forgets, .inl (cI, 10, .inl ld2_forgets_c)), (ld_forgets, .inl (cI, 10, .inl (va_cpy ld2_forgets_c ld_forgets_c 0 0 10))), (ld2_death, .inl (cI, 10, .inl ld2_death_c)), (ld_death, .inl (cI, 10, .inl ld_death_c)), (ld2_move, .inl (cI, 10, .inl ld2_move_c)), (ld_move, .inl (cI, 10, .inl ld_move_c)), (ld2_begun, .inl (cI, 16, .inl ld2_begun_c)), (ld_begun, .inl (cI, 16, .inl ld_begun_c)), (ld2_who, .inl (cI, 32, .inl ld2_who_c)), (ld_who, .inl (cI, 32, .inl ld_who_c)), (ld2_lost, .inl (cJ, 32, .inr (.inl ld2_lost_c))), (ld_lost, .inl (cJ, 32, .inr (.inl ld_lost_c)))] := hD
  rw [← e98] at hP hD
  refine lv_aload_n hx hb dX4_copyFrom_101 rfl (lv_at hl 1 rfl) ?_
  refine va_get (D := g) (ci := 4) (v := .ref ld2_death) (C := RX4) (T := TX4) (N := 15) hx hb hts iX4 hown hK hP 0 rfl rfl 10 (by decide) (hts (.fieldLink RX4 21 "CardsAtYule$Land" "death" "[I") (List.mem_cons_of_mem _ (List.mem_append_left _ (List.mem_of_getElem? (i := 14) rfl)))) (fun _ h9 => h9) rfl dX4_copyFrom_102 ?_
  refine lv_iconst (v := 0) hx hb dX4_copyFrom_105 (by decide) ?_
  refine lv_aload_n hx hb dX4_copyFrom_106 rfl (lv_at hl 0 rfl) ?_
  refine va_get (D := g) (ci := 4) (v := .ref ld_death) (C := RX4) (T := TX4) (N := 15) hx hb hts iX4 hown hK hP 1 rfl rfl 10 (by decide) (hts (.fieldLink RX4 21 "CardsAtYule$Land" "death" "[I") (List.mem_cons_of_mem _ (List.mem_append_left _ (List.mem_of_getElem? (i := 14) rfl)))) (fun _ h9 => h9) rfl dX4_copyFrom_107 ?_
  refine lv_iconst (v := 0) hx hb dX4_copyFrom_110 (by decide) ?_
  refine lv_bipush (v := 10) hx hb dX4_copyFrom_111 (by decide) ?_
  refine va_copyi (D := g) hx hb (hml.trans hl.1.symm) hown (hts (.methodLink RX4 66 arraycopyName) (List.mem_cons_of_mem _ (List.mem_append_left _ (List.mem_of_getElem? (i := 8) rfl)))) (hts (.native arraycopyName) (List.mem_cons_of_mem _ (List.mem_append_left _ (List.mem_of_getElem? (i := 9) rfl)))) (hts (.static arraycopyName) (List.mem_cons_of_mem _ (List.mem_append_left _ (List.mem_of_getElem? (i := 10) rfl)))) (hts (.initialized "java/lang/System") (List.mem_cons_of_mem _ (List.mem_append_left _ (List.mem_of_getElem? (i := 11) rfl)))) hK hP hD hS 8 9 0 0 rfl rfl rfl rfl rfl (by decide) (by decide) (by decide) (by decide) (by decide) (fun _ _ => rfl) (Nat.le_of_ble_eq_true rfl) (Nat.le_of_ble_eq_true rfl) dX4_copyFrom_113 (fun H locs hP hD hS => ?_)
  obtain ⟨g113, e113⟩ : ∃ z, z = va_cpy ld2_death_c ld_death_c 0 0 10 := ⟨_, rfl⟩
  have hP : va_P g vwCl [(ld2, .inr (4, [.int ld2_lines, .int ld2_years, .int ld2_card, .int ld2_hurt, .int ld2_people, .int ld2_pairs, .long ld2_strikes, .ref ld2_rule, .ref ld2_returns, .ref ld2_forgets, .ref ld2_death, .ref ld2_move, .ref ld2_begun, .ref ld2_who, .ref ld2_lost])), (ld, .inr (4, [.int ld2_lines, .int ld2_years, .int ld2_card, .int ld2_hurt, .int ld2_people, .int ld2_pairs, .long ld2_strikes, .ref ld_rule, .ref ld_returns, .ref ld_forgets, .ref ld_death, .ref ld_move, .ref ld_begun, .ref ld_who, .ref ld_lost])), (ld2_rule, .inl (cI, 10, .inl ld2_rule_c)), (ld_rule, .inl (cI, 10, .inl g68)), (ld2_returns, .inl (cI, 10, .inl ld2_returns_c)), (ld_returns, .inl (cI, 10, .inl g83)), (ld2_forgets, .inl (cI, 10, .inl ld2_forgets_c)), (ld_forgets, .inl (cI, 10, .inl g98)), (ld2_death, .inl (cI, 10, .inl ld2_death_c)), (ld_death, .inl (cI, 10, .inl (va_cpy ld2_death_c ld_death_c 0 0 10))), (ld2_move, .inl (cI, 10, .inl ld2_move_c)), (ld_move, .inl (cI, 10, .inl ld_move_c)), (ld2_begun, .inl (cI, 16, .inl ld2_begun_c)), (ld_begun, .inl (cI, 16, .inl ld_begun_c)), (ld2_who, .inl (cI, 32, .inl ld2_who_c)), (ld_who, .inl (cI, 32, .inl ld_who_c)), (ld2_lost, .inl (cJ, 32, .inr (.inl ld2_lost_c))), (ld_lost, .inl (cJ, 32, .inr (.inl ld_lost_c)))] H := hP
  have hD : va_D A [(ld2, .inr (4, [.int ld2_lines, .int ld2_years, .int ld2_card, .int ld2_hurt, .int ld2_people, .int ld2_pairs, .long ld2_strikes, .ref ld2_rule, .ref ld2_returns, .ref ld2_forgets, .ref ld2_death, .ref ld2_move, .ref ld2_begun, .ref ld2_who, .ref ld2_lost])), (ld, .inr (4, [.int ld2_lines, .int ld2_years, .int ld2_card, .int ld2_hurt, .int ld2_people, .int ld2_pairs, .long ld2_strikes, .ref ld_rule, .ref ld_returns, .ref ld_forgets, .ref ld_death, .ref ld_move, .ref ld_begun, .ref ld_who, .ref ld_lost])), (ld2_rule, .inl (cI, 10, .inl ld2_rule_c)), (ld_rule, .inl (cI, 10, .inl g68)), (ld2_returns, .inl (cI, 10, .inl ld2_returns_c)), (ld_returns, .inl (cI, 10, .inl g83)), (ld2_forgets, .inl (cI, 10, .inl ld2_forgets_c)), (ld_forgets, .inl (cI, 10, .inl g98)), (ld2_death, .inl (cI, 10, .inl ld2_death_c)), (ld_death, .inl (cI, 10, .inl (va_cpy ld2_death_c ld_death_c 0 0 10))), (ld2_move, .inl (cI, 10, .inl ld2_move_c)), (ld_move, .inl (cI, 10, .inl ld_move_c)), (ld2_begun, .inl (cI, 16, .inl ld2_begun_c)), (ld_begun, .inl (cI, 16, .inl ld_begun_c)), (ld2_who, .inl (cI, 32, .inl ld2_who_c)), (ld_who, .inl (cI, 32, .inl ld_who_c)), (ld2_lost, .inl (cJ, 32, .inr (.inl ld2_lost_c))), (ld_lost, .inl (cJ, 32, .inr (.inl ld_lost_c)))] := hD
  rw [← e113] at hP hD
  refine lv_aload_n hx hb dX4_copyFrom_116 rfl (lv_at hl 1 rfl) ?_
  refine va_get (D := g) (ci := 4) (v := .ref ld2_move) (C := RX4) (T := TX4) (N := 15) hx hb hts iX4 hown hK hP 0 rfl rfl 11 (by decide) (hts (.fieldLink RX4 24 "CardsAtYule$Land" "move" "[I") (List.mem_cons_of_mem _ (List.mem_append_left _ (List.mem_of_getElem? (i := 15) rfl)))) (fun _ h9 => h9) rfl dX4_copyFrom_117 ?_
  refine lv_iconst (v := 0) hx hb dX4_copyFrom_120 (by decide) ?_
  refine lv_aload_n hx hb dX4_copyFrom_121 rfl (lv_at hl 0 rfl) ?_
  refine va_get (D := g) (ci := 4) (v := .ref ld_move) (C := RX4) (T := TX4) (N := 15) hx hb hts iX4 hown hK hP 1 rfl rfl 11 (by decide) (hts (.fieldLink RX4 24 "CardsAtYule$Land" "move" "[I") (List.mem_cons_of_mem _ (List.mem_append_left _ (List.mem_of_getElem? (i := 15) rfl)))) (fun _ h9 => h9) rfl dX4_copyFrom_122 ?_
  refine lv_iconst (v := 0) hx hb dX4_copyFrom_125 (by decide) ?_
  refine lv_bipush (v := 10) hx hb dX4_copyFrom_126 (by decide) ?_
  refine va_copyi (D := g) hx hb (hml.trans hl.1.symm) hown (hts (.methodLink RX4 66 arraycopyName) (List.mem_cons_of_mem _ (List.mem_append_left _ (List.mem_of_getElem? (i := 8) rfl)))) (hts (.native arraycopyName) (List.mem_cons_of_mem _ (List.mem_append_left _ (List.mem_of_getElem? (i := 9) rfl)))) (hts (.static arraycopyName) (List.mem_cons_of_mem _ (List.mem_append_left _ (List.mem_of_getElem? (i := 10) rfl)))) (hts (.initialized "java/lang/System") (List.mem_cons_of_mem _ (List.mem_append_left _ (List.mem_of_getElem? (i := 11) rfl)))) hK hP hD hS 10 11 0 0 rfl rfl rfl rfl rfl (by decide) (by decide) (by decide) (by decide) (by decide) (fun _ _ => rfl) (Nat.le_of_ble_eq_true rfl) (Nat.le_of_ble_eq_true rfl) dX4_copyFrom_128 (fun H locs hP hD hS => ?_)
  obtain ⟨g128, e128⟩ : ∃ z, z = va_cpy ld2_move_c ld_move_c 0 0 10 := ⟨_, rfl⟩
  have hP : va_P g vwCl [(ld2, .inr (4, [.int ld2_lines, .int ld2_years, .int ld2_card, .int ld2_hurt, .int ld2_people, .int ld2_pairs, .long ld2_strikes, .ref ld2_rule, .ref ld2_returns, .ref ld2_forgets, .ref ld2_death, .ref ld2_move, .ref ld2_begun, .ref ld2_who, .ref ld2_lost])), (ld, .inr (4, [.int ld2_lines, .int ld2_years, .int ld2_card, .int ld2_hurt, .int ld2_people, .int ld2_pairs, .long ld2_strikes, .ref ld_rule, .ref ld_returns, .ref ld_forgets, .ref ld_death, .ref ld_move, .ref ld_begun, .ref ld_who, .ref ld_lost])), (ld2_rule, .inl (cI, 10, .inl ld2_rule_c)), (ld_rule, .inl (cI, 10, .inl g68)), (ld2_returns, .inl (cI, 10, .inl ld2_returns_c)), (ld_returns, .inl (cI, 10, .inl g83)), (ld2_forgets, .inl (cI, 10, .inl ld2_forgets_c)), (ld_forgets, .inl (cI, 10, .inl g98)), (ld2_death, .inl (cI, 10, .inl ld2_death_c)), (ld_death, .inl (cI, 10, .inl g113)), (ld2_move, .inl (cI, 10, .inl ld2_move_c)), (ld_move, .inl (cI, 10, .inl (va_cpy ld2_move_c ld_move_c 0 0 10))), (ld2_begun, .inl (cI, 16, .inl ld2_begun_c)), (ld_begun, .inl (cI, 16, .inl ld_begun_c)), (ld2_who, .inl (cI, 32, .inl ld2_who_c)), (ld_who, .inl (cI, 32, .inl ld_who_c)), (ld2_lost, .inl (cJ, 32, .inr (.inl ld2_lost_c))), (ld_lost, .inl (cJ, 32, .inr (.inl ld_lost_c)))] H := hP
  have hD : va_D A [(ld2, .inr (4, [.int ld2_lines, .int ld2_years, .int ld2_card, .int ld2_hurt, .int ld2_people, .int ld2_pairs, .long ld2_strikes, .ref ld2_rule, .ref ld2_returns, .ref ld2_forgets, .ref ld2_death, .ref ld2_move, .ref ld2_begun, .ref ld2_who, .ref ld2_lost])), (ld, .inr (4, [.int ld2_lines, .int ld2_years, .int ld2_card, .int ld2_hurt, .int ld2_people, .int ld2_pairs, .long ld2_strikes, .ref ld_rule, .ref ld_returns, .ref ld_forgets, .ref ld_death, .ref ld_move, .ref ld_begun, .ref ld_who, .ref ld_lost])), (ld2_rule, .inl (cI, 10, .inl ld2_rule_c)), (ld_rule, .inl (cI, 10, .inl g68)), (ld2_returns, .inl (cI, 10, .inl ld2_returns_c)), (ld_returns, .inl (cI, 10, .inl g83)), (ld2_forgets, .inl (cI, 10, .inl ld2_forgets_c)), (ld_forgets, .inl (cI, 10, .inl g98)), (ld2_death, .inl (cI, 10, .inl ld2_death_c)), (ld_death, .inl (cI, 10, .inl g113)), (ld2_move, .inl (cI, 10, .inl ld2_move_c)), (ld_move, .inl (cI, 10, .inl (va_cpy ld2_move_c ld_move_c 0 0 10))), (ld2_begun, .inl (cI, 16, .inl ld2_begun_c)), (ld_begun, .inl (cI, 16, .inl ld_begun_c)), (ld2_who, .inl (cI, 32, .inl ld2_who_c)), (ld_who, .inl (cI, 32, .inl ld_who_c)), (ld2_lost, .inl (cJ, 32, .inr (.inl ld2_lost_c))), (ld_lost, .inl (cJ, 32, .inr (.inl ld_lost_c)))] := hD
  rw [← e128] at hP hD
  refine lv_aload_n hx hb dX4_copyFrom_131 rfl (lv_at hl 1 rfl) ?_
  refine va_get (D := g) (ci := 4) (v := .ref ld2_begun) (C := RX4) (T := TX4) (N := 15) hx hb hts iX4 hown hK hP 0 rfl rfl 12 (by decide) (hts (.fieldLink RX4 27 "CardsAtYule$Land" "begun" "[I") (List.mem_cons_of_mem _ (List.mem_append_left _ (List.mem_of_getElem? (i := 16) rfl)))) (fun _ h9 => h9) rfl dX4_copyFrom_132 ?_
  refine lv_iconst (v := 0) hx hb dX4_copyFrom_135 (by decide) ?_
  refine lv_aload_n hx hb dX4_copyFrom_136 rfl (lv_at hl 0 rfl) ?_
  refine va_get (D := g) (ci := 4) (v := .ref ld_begun) (C := RX4) (T := TX4) (N := 15) hx hb hts iX4 hown hK hP 1 rfl rfl 12 (by decide) (hts (.fieldLink RX4 27 "CardsAtYule$Land" "begun" "[I") (List.mem_cons_of_mem _ (List.mem_append_left _ (List.mem_of_getElem? (i := 16) rfl)))) (fun _ h9 => h9) rfl dX4_copyFrom_137 ?_
  refine lv_iconst (v := 0) hx hb dX4_copyFrom_140 (by decide) ?_
  refine lv_bipush (v := 16) hx hb dX4_copyFrom_141 (by decide) ?_
  refine va_copyi (D := g) hx hb (hml.trans hl.1.symm) hown (hts (.methodLink RX4 66 arraycopyName) (List.mem_cons_of_mem _ (List.mem_append_left _ (List.mem_of_getElem? (i := 8) rfl)))) (hts (.native arraycopyName) (List.mem_cons_of_mem _ (List.mem_append_left _ (List.mem_of_getElem? (i := 9) rfl)))) (hts (.static arraycopyName) (List.mem_cons_of_mem _ (List.mem_append_left _ (List.mem_of_getElem? (i := 10) rfl)))) (hts (.initialized "java/lang/System") (List.mem_cons_of_mem _ (List.mem_append_left _ (List.mem_of_getElem? (i := 11) rfl)))) hK hP hD hS 12 13 0 0 rfl rfl rfl rfl rfl (by decide) (by decide) (by decide) (by decide) (by decide) (fun _ _ => rfl) (Nat.le_of_ble_eq_true rfl) (Nat.le_of_ble_eq_true rfl) dX4_copyFrom_143 (fun H locs hP hD hS => ?_)
  obtain ⟨g143, e143⟩ : ∃ z, z = va_cpy ld2_begun_c ld_begun_c 0 0 16 := ⟨_, rfl⟩
  have hP : va_P g vwCl [(ld2, .inr (4, [.int ld2_lines, .int ld2_years, .int ld2_card, .int ld2_hurt, .int ld2_people, .int ld2_pairs, .long ld2_strikes, .ref ld2_rule, .ref ld2_returns, .ref ld2_forgets, .ref ld2_death, .ref ld2_move, .ref ld2_begun, .ref ld2_who, .ref ld2_lost])), (ld, .inr (4, [.int ld2_lines, .int ld2_years, .int ld2_card, .int ld2_hurt, .int ld2_people, .int ld2_pairs, .long ld2_strikes, .ref ld_rule, .ref ld_returns, .ref ld_forgets, .ref ld_death, .ref ld_move, .ref ld_begun, .ref ld_who, .ref ld_lost])), (ld2_rule, .inl (cI, 10, .inl ld2_rule_c)), (ld_rule, .inl (cI, 10, .inl g68)), (ld2_returns, .inl (cI, 10, .inl ld2_returns_c)), (ld_returns, .inl (cI, 10, .inl g83)), (ld2_forgets, .inl (cI, 10, .inl ld2_forgets_c)), (ld_forgets, .inl (cI, 10, .inl g98)), (ld2_death, .inl (cI, 10, .inl ld2_death_c)), (ld_death, .inl (cI, 10, .inl g113)), (ld2_move, .inl (cI, 10, .inl ld2_move_c)), (ld_move, .inl (cI, 10, .inl g128)), (ld2_begun, .inl (cI, 16, .inl ld2_begun_c)), (ld_begun, .inl (cI, 16, .inl (va_cpy ld2_begun_c ld_begun_c 0 0 16))), (ld2_who, .inl (cI, 32, .inl ld2_who_c)), (ld_who, .inl (cI, 32, .inl ld_who_c)), (ld2_lost, .inl (cJ, 32, .inr (.inl ld2_lost_c))), (ld_lost, .inl (cJ, 32, .inr (.inl ld_lost_c)))] H := hP
  have hD : va_D A [(ld2, .inr (4, [.int ld2_lines, .int ld2_years, .int ld2_card, .int ld2_hurt, .int ld2_people, .int ld2_pairs, .long ld2_strikes, .ref ld2_rule, .ref ld2_returns, .ref ld2_forgets, .ref ld2_death, .ref ld2_move, .ref ld2_begun, .ref ld2_who, .ref ld2_lost])), (ld, .inr (4, [.int ld2_lines, .int ld2_years, .int ld2_card, .int ld2_hurt, .int ld2_people, .int ld2_pairs, .long ld2_strikes, .ref ld_rule, .ref ld_returns, .ref ld_forgets, .ref ld_death, .ref ld_move, .ref ld_begun, .ref ld_who, .ref ld_lost])), (ld2_rule, .inl (cI, 10, .inl ld2_rule_c)), (ld_rule, .inl (cI, 10, .inl g68)), (ld2_returns, .inl (cI, 10, .inl ld2_returns_c)), (ld_returns, .inl (cI, 10, .inl g83)), (ld2_forgets, .inl (cI, 10, .inl ld2_forgets_c)), (ld_forgets, .inl (cI, 10, .inl g98)), (ld2_death, .inl (cI, 10, .inl ld2_death_c)), (ld_death, .inl (cI, 10, .inl g113)), (ld2_move, .inl (cI, 10, .inl ld2_move_c)), (ld_move, .inl (cI, 10, .inl g128)), (ld2_begun, .inl (cI, 16, .inl ld2_begun_c)), (ld_begun, .inl (cI, 16, .inl (va_cpy ld2_begun_c ld_begun_c 0 0 16))), (ld2_who, .inl (cI, 32, .inl ld2_who_c)), (ld_who, .inl (cI, 32, .inl ld_who_c)), (ld2_lost, .inl (cJ, 32, .inr (.inl ld2_lost_c))), (ld_lost, .inl (cJ, 32, .inr (.inl ld_lost_c)))] := hD
  rw [← e143] at hP hD
  have a143 : ar g143 16 0 15 := by rw [e143]; exact ar_cp ha_ld2_begun_c
  refine lv_aload_n hx hb dX4_copyFrom_146 rfl (lv_at hl 1 rfl) ?_
  refine va_get (D := g) (ci := 4) (v := .ref ld2_who) (C := RX4) (T := TX4) (N := 15) hx hb hts iX4 hown hK hP 0 rfl rfl 13 (by decide) (hts (.fieldLink RX4 30 "CardsAtYule$Land" "who" "[I") (List.mem_cons_of_mem _ (List.mem_append_left _ (List.mem_of_getElem? (i := 17) rfl)))) (fun _ h9 => h9) rfl dX4_copyFrom_147 ?_
  refine lv_iconst (v := 0) hx hb dX4_copyFrom_150 (by decide) ?_
  refine lv_aload_n hx hb dX4_copyFrom_151 rfl (lv_at hl 0 rfl) ?_
  refine va_get (D := g) (ci := 4) (v := .ref ld_who) (C := RX4) (T := TX4) (N := 15) hx hb hts iX4 hown hK hP 1 rfl rfl 13 (by decide) (hts (.fieldLink RX4 30 "CardsAtYule$Land" "who" "[I") (List.mem_cons_of_mem _ (List.mem_append_left _ (List.mem_of_getElem? (i := 17) rfl)))) (fun _ h9 => h9) rfl dX4_copyFrom_152 ?_
  refine lv_iconst (v := 0) hx hb dX4_copyFrom_155 (by decide) ?_
  refine lv_bipush (v := 32) hx hb dX4_copyFrom_156 (by decide) ?_
  refine va_copyi (D := g) hx hb (hml.trans hl.1.symm) hown (hts (.methodLink RX4 66 arraycopyName) (List.mem_cons_of_mem _ (List.mem_append_left _ (List.mem_of_getElem? (i := 8) rfl)))) (hts (.native arraycopyName) (List.mem_cons_of_mem _ (List.mem_append_left _ (List.mem_of_getElem? (i := 9) rfl)))) (hts (.static arraycopyName) (List.mem_cons_of_mem _ (List.mem_append_left _ (List.mem_of_getElem? (i := 10) rfl)))) (hts (.initialized "java/lang/System") (List.mem_cons_of_mem _ (List.mem_append_left _ (List.mem_of_getElem? (i := 11) rfl)))) hK hP hD hS 14 15 0 0 rfl rfl rfl rfl rfl (by decide) (by decide) (by decide) (by decide) (by decide) (fun _ _ => rfl) (Nat.le_of_ble_eq_true rfl) (Nat.le_of_ble_eq_true rfl) dX4_copyFrom_158 (fun H locs hP hD hS => ?_)
  obtain ⟨g158, e158⟩ : ∃ z, z = va_cpy ld2_who_c ld_who_c 0 0 32 := ⟨_, rfl⟩
  have hP : va_P g vwCl [(ld2, .inr (4, [.int ld2_lines, .int ld2_years, .int ld2_card, .int ld2_hurt, .int ld2_people, .int ld2_pairs, .long ld2_strikes, .ref ld2_rule, .ref ld2_returns, .ref ld2_forgets, .ref ld2_death, .ref ld2_move, .ref ld2_begun, .ref ld2_who, .ref ld2_lost])), (ld, .inr (4, [.int ld2_lines, .int ld2_years, .int ld2_card, .int ld2_hurt, .int ld2_people, .int ld2_pairs, .long ld2_strikes, .ref ld_rule, .ref ld_returns, .ref ld_forgets, .ref ld_death, .ref ld_move, .ref ld_begun, .ref ld_who, .ref ld_lost])), (ld2_rule, .inl (cI, 10, .inl ld2_rule_c)), (ld_rule, .inl (cI, 10, .inl g68)), (ld2_returns, .inl (cI, 10, .inl ld2_returns_c)), (ld_returns, .inl (cI, 10, .inl g83)), (ld2_forgets, .inl (cI, 10, .inl ld2_forgets_c)), (ld_forgets, .inl (cI, 10, .inl g98)), (ld2_death, .inl (cI, 10, .inl ld2_death_c)), (ld_death, .inl (cI, 10, .inl g113)), (ld2_move, .inl (cI, 10, .inl ld2_move_c)), (ld_move, .inl (cI, 10, .inl g128)), (ld2_begun, .inl (cI, 16, .inl ld2_begun_c)), (ld_begun, .inl (cI, 16, .inl g143)), (ld2_who, .inl (cI, 32, .inl ld2_who_c)), (ld_who, .inl (cI, 32, .inl (va_cpy ld2_who_c ld_who_c 0 0 32))), (ld2_lost, .inl (cJ, 32, .inr (.inl ld2_lost_c))), (ld_lost, .inl (cJ, 32, .inr (.inl ld_lost_c)))] H := hP
  have hD : va_D A [(ld2, .inr (4, [.int ld2_lines, .int ld2_years, .int ld2_card, .int ld2_hurt, .int ld2_people, .int ld2_pairs, .long ld2_strikes, .ref ld2_rule, .ref ld2_returns, .ref ld2_forgets, .ref ld2_death, .ref ld2_move, .ref ld2_begun, .ref ld2_who, .ref ld2_lost])), (ld, .inr (4, [.int ld2_lines, .int ld2_years, .int ld2_card, .int ld2_hurt, .int ld2_people, .int ld2_pairs, .long ld2_strikes, .ref ld_rule, .ref ld_returns, .ref ld_forgets, .ref ld_death, .ref ld_move, .ref ld_begun, .ref ld_who, .ref ld_lost])), (ld2_rule, .inl (cI, 10, .inl ld2_rule_c)), (ld_rule, .inl (cI, 10, .inl g68)), (ld2_returns, .inl (cI, 10, .inl ld2_returns_c)), (ld_returns, .inl (cI, 10, .inl g83)), (ld2_forgets, .inl (cI, 10, .inl ld2_forgets_c)), (ld_forgets, .inl (cI, 10, .inl g98)), (ld2_death, .inl (cI, 10, .inl ld2_death_c)), (ld_death, .inl (cI, 10, .inl g113)), (ld2_move, .inl (cI, 10, .inl ld2_move_c)), (ld_move, .inl (cI, 10, .inl g128)), (ld2_begun, .inl (cI, 16, .inl ld2_begun_c)), (ld_begun, .inl (cI, 16, .inl g143)), (ld2_who, .inl (cI, 32, .inl ld2_who_c)), (ld_who, .inl (cI, 32, .inl (va_cpy ld2_who_c ld_who_c 0 0 32))), (ld2_lost, .inl (cJ, 32, .inr (.inl ld2_lost_c))), (ld_lost, .inl (cJ, 32, .inr (.inl ld_lost_c)))] := hD
  rw [← e158] at hP hD
  have a158 : ar g158 32 0 9 := by rw [e158]; exact ar_cp ha_ld2_who_c
  refine lv_aload_n hx hb dX4_copyFrom_161 rfl (lv_at hl 1 rfl) ?_
  refine va_get (D := g) (ci := 4) (v := .ref ld2_lost) (C := RX4) (T := TX4) (N := 15) hx hb hts iX4 hown hK hP 0 rfl rfl 14 (by decide) (hts (.fieldLink RX4 33 "CardsAtYule$Land" "lost" "[J") (List.mem_cons_of_mem _ (List.mem_append_left _ (List.mem_of_getElem? (i := 18) rfl)))) (fun _ h9 => h9) rfl dX4_copyFrom_162 ?_
  refine lv_iconst (v := 0) hx hb dX4_copyFrom_165 (by decide) ?_
  refine lv_aload_n hx hb dX4_copyFrom_166 rfl (lv_at hl 0 rfl) ?_
  refine va_get (D := g) (ci := 4) (v := .ref ld_lost) (C := RX4) (T := TX4) (N := 15) hx hb hts iX4 hown hK hP 1 rfl rfl 14 (by decide) (hts (.fieldLink RX4 33 "CardsAtYule$Land" "lost" "[J") (List.mem_cons_of_mem _ (List.mem_append_left _ (List.mem_of_getElem? (i := 18) rfl)))) (fun _ h9 => h9) rfl dX4_copyFrom_167 ?_
  refine lv_iconst (v := 0) hx hb dX4_copyFrom_170 (by decide) ?_
  refine lv_bipush (v := 32) hx hb dX4_copyFrom_171 (by decide) ?_
  refine va_copyl (D := g) hx hb (hml.trans hl.1.symm) hown (hts (.methodLink RX4 66 arraycopyName) (List.mem_cons_of_mem _ (List.mem_append_left _ (List.mem_of_getElem? (i := 8) rfl)))) (hts (.native arraycopyName) (List.mem_cons_of_mem _ (List.mem_append_left _ (List.mem_of_getElem? (i := 9) rfl)))) (hts (.static arraycopyName) (List.mem_cons_of_mem _ (List.mem_append_left _ (List.mem_of_getElem? (i := 10) rfl)))) (hts (.initialized "java/lang/System") (List.mem_cons_of_mem _ (List.mem_append_left _ (List.mem_of_getElem? (i := 11) rfl)))) hK hP hD hS 16 17 1 1 rfl rfl rfl rfl rfl (by decide) (by decide) (by decide) (by decide) (by decide) (fun _ _ => rfl) (Nat.le_of_ble_eq_true rfl) (Nat.le_of_ble_eq_true rfl) dX4_copyFrom_173 (fun H locs hP hD hS => ?_)
  obtain ⟨g173, e173⟩ : ∃ z, z = va_cpy ld2_lost_c ld_lost_c 0 0 32 := ⟨_, rfl⟩
  have hP : va_P g vwCl [(ld2, .inr (4, [.int ld2_lines, .int ld2_years, .int ld2_card, .int ld2_hurt, .int ld2_people, .int ld2_pairs, .long ld2_strikes, .ref ld2_rule, .ref ld2_returns, .ref ld2_forgets, .ref ld2_death, .ref ld2_move, .ref ld2_begun, .ref ld2_who, .ref ld2_lost])), (ld, .inr (4, [.int ld2_lines, .int ld2_years, .int ld2_card, .int ld2_hurt, .int ld2_people, .int ld2_pairs, .long ld2_strikes, .ref ld_rule, .ref ld_returns, .ref ld_forgets, .ref ld_death, .ref ld_move, .ref ld_begun, .ref ld_who, .ref ld_lost])), (ld2_rule, .inl (cI, 10, .inl ld2_rule_c)), (ld_rule, .inl (cI, 10, .inl g68)), (ld2_returns, .inl (cI, 10, .inl ld2_returns_c)), (ld_returns, .inl (cI, 10, .inl g83)), (ld2_forgets, .inl (cI, 10, .inl ld2_forgets_c)), (ld_forgets, .inl (cI, 10, .inl g98)), (ld2_death, .inl (cI, 10, .inl ld2_death_c)), (ld_death, .inl (cI, 10, .inl g113)), (ld2_move, .inl (cI, 10, .inl ld2_move_c)), (ld_move, .inl (cI, 10, .inl g128)), (ld2_begun, .inl (cI, 16, .inl ld2_begun_c)), (ld_begun, .inl (cI, 16, .inl g143)), (ld2_who, .inl (cI, 32, .inl ld2_who_c)), (ld_who, .inl (cI, 32, .inl g158)), (ld2_lost, .inl (cJ, 32, .inr (.inl ld2_lost_c))), (ld_lost, .inl (cJ, 32, .inr (.inl (va_cpy ld2_lost_c ld_lost_c 0 0 32))))] H := hP
  have hD : va_D A [(ld2, .inr (4, [.int ld2_lines, .int ld2_years, .int ld2_card, .int ld2_hurt, .int ld2_people, .int ld2_pairs, .long ld2_strikes, .ref ld2_rule, .ref ld2_returns, .ref ld2_forgets, .ref ld2_death, .ref ld2_move, .ref ld2_begun, .ref ld2_who, .ref ld2_lost])), (ld, .inr (4, [.int ld2_lines, .int ld2_years, .int ld2_card, .int ld2_hurt, .int ld2_people, .int ld2_pairs, .long ld2_strikes, .ref ld_rule, .ref ld_returns, .ref ld_forgets, .ref ld_death, .ref ld_move, .ref ld_begun, .ref ld_who, .ref ld_lost])), (ld2_rule, .inl (cI, 10, .inl ld2_rule_c)), (ld_rule, .inl (cI, 10, .inl g68)), (ld2_returns, .inl (cI, 10, .inl ld2_returns_c)), (ld_returns, .inl (cI, 10, .inl g83)), (ld2_forgets, .inl (cI, 10, .inl ld2_forgets_c)), (ld_forgets, .inl (cI, 10, .inl g98)), (ld2_death, .inl (cI, 10, .inl ld2_death_c)), (ld_death, .inl (cI, 10, .inl g113)), (ld2_move, .inl (cI, 10, .inl ld2_move_c)), (ld_move, .inl (cI, 10, .inl g128)), (ld2_begun, .inl (cI, 16, .inl ld2_begun_c)), (ld_begun, .inl (cI, 16, .inl g143)), (ld2_who, .inl (cI, 32, .inl ld2_who_c)), (ld_who, .inl (cI, 32, .inl g158)), (ld2_lost, .inl (cJ, 32, .inr (.inl ld2_lost_c))), (ld_lost, .inl (cJ, 32, .inr (.inl (va_cpy ld2_lost_c ld_lost_c 0 0 32))))] := hD
  rw [← e173] at hP hD
  subst hQ
  have hP9 := hP.sub (ws' := [(ld2, .inr (4, [.int ld2_lines, .int ld2_years, .int ld2_card, .int ld2_hurt, .int ld2_people, .int ld2_pairs, .long ld2_strikes, .ref ld2_rule, .ref ld2_returns, .ref ld2_forgets, .ref ld2_death, .ref ld2_move, .ref ld2_begun, .ref ld2_who, .ref ld2_lost])), (ld, .inr (4, [.int ld2_lines, .int ld2_years, .int ld2_card, .int ld2_hurt, .int ld2_people, .int ld2_pairs, .long ld2_strikes, .ref ld_rule, .ref ld_returns, .ref ld_forgets, .ref ld_death, .ref ld_move, .ref ld_begun, .ref ld_who, .ref ld_lost])), (ld2_rule, .inl (cI, 10, .inl ld2_rule_c)), (ld_rule, .inl (cI, 10, .inl g68)), (ld2_returns, .inl (cI, 10, .inl ld2_returns_c)), (ld_returns, .inl (cI, 10, .inl g83)), (ld2_forgets, .inl (cI, 10, .inl ld2_forgets_c)), (ld_forgets, .inl (cI, 10, .inl g98)), (ld2_death, .inl (cI, 10, .inl ld2_death_c)), (ld_death, .inl (cI, 10, .inl g113)), (ld2_move, .inl (cI, 10, .inl ld2_move_c)), (ld_move, .inl (cI, 10, .inl g128)), (ld2_begun, .inl (cI, 16, .inl ld2_begun_c)), (ld_begun, .inl (cI, 16, .inl g143)), (ld2_who, .inl (cI, 32, .inl ld2_who_c)), (ld_who, .inl (cI, 32, .inl g158)), (ld2_lost, .inl (cJ, 32, .inr (.inl ld2_lost_c))), (ld_lost, .inl (cJ, 32, .inr (.inl g173)))]) [0, 1, 2, 3, 4, 5, 6, 7, 8, 9, 10, 11, 12, 13, 14, 15, 16, 17] rfl
  have hD9 := hD.sub (ws' := [(ld2, .inr (4, [.int ld2_lines, .int ld2_years, .int ld2_card, .int ld2_hurt, .int ld2_people, .int ld2_pairs, .long ld2_strikes, .ref ld2_rule, .ref ld2_returns, .ref ld2_forgets, .ref ld2_death, .ref ld2_move, .ref ld2_begun, .ref ld2_who, .ref ld2_lost])), (ld, .inr (4, [.int ld2_lines, .int ld2_years, .int ld2_card, .int ld2_hurt, .int ld2_people, .int ld2_pairs, .long ld2_strikes, .ref ld_rule, .ref ld_returns, .ref ld_forgets, .ref ld_death, .ref ld_move, .ref ld_begun, .ref ld_who, .ref ld_lost])), (ld2_rule, .inl (cI, 10, .inl ld2_rule_c)), (ld_rule, .inl (cI, 10, .inl g68)), (ld2_returns, .inl (cI, 10, .inl ld2_returns_c)), (ld_returns, .inl (cI, 10, .inl g83)), (ld2_forgets, .inl (cI, 10, .inl ld2_forgets_c)), (ld_forgets, .inl (cI, 10, .inl g98)), (ld2_death, .inl (cI, 10, .inl ld2_death_c)), (ld_death, .inl (cI, 10, .inl g113)), (ld2_move, .inl (cI, 10, .inl ld2_move_c)), (ld_move, .inl (cI, 10, .inl g128)), (ld2_begun, .inl (cI, 16, .inl ld2_begun_c)), (ld_begun, .inl (cI, 16, .inl g143)), (ld2_who, .inl (cI, 32, .inl ld2_who_c)), (ld_who, .inl (cI, 32, .inl g158)), (ld2_lost, .inl (cJ, 32, .inr (.inl ld2_lost_c))), (ld_lost, .inl (cJ, 32, .inr (.inl g173)))]) [0, 1, 2, 3, 4, 5, 6, 7, 8, 9, 10, 11, 12, 13, 14, 15, 16, 17] (by decide) rfl
  exact W.vret hx hb hr (fun t ht hW => ⟨⟨(ld2_lines, ld2_years, ld2_card, ld2_hurt, ld2_people, ld2_pairs, ld2_strikes, g68, g83, g98, g113, g128, g143, g158, g173), rfl, ⟨hv_ld2_years, hv_ld2_people, hv_ld2_pairs, a143, a158⟩, ⟨by rw [ht]; exact hP9, va_K.moved hW.alike hK, hD9⟩⟩, hS.F ht⟩) hS.2.2 dX4_copyFrom_176
def v_X4_addPerson : List Cond := .code yX4_addPerson cX4_addPerson 2 none :: (([.fieldLink RX4 9 "CardsAtYule$Land" "rule" "[I", .fieldLink RX4 50 "CardsAtYule$Land" "people" "I", .fieldLink RX4 15 "CardsAtYule$Land" "returns" "[I", .fieldLink RX4 18 "CardsAtYule$Land" "forgets" "[I", .fieldLink RX4 21 "CardsAtYule$Land" "death" "[I", .fieldLink RX4 24 "CardsAtYule$Land" "move" "[I"] : List Cond) ++ (wsX40 ++ ([] : List Cond)))
theorem good_v_X4_addPerson : v_X4_addPerson.all goodWord = true := ga_c (by decide +kernel) (ga_a (by decide +kernel) (ga_a good_wsX40 rfl))
set_option maxHeartbeats 4000000 in
set_option maxRecDepth 100000 in
theorem q_X4_addPerson (l : Launch) (g : va_G) (cI cJ cB cZ cL : ClassId) (p0 : Int32) (ld : Nat) (ld_lines : Int32) (ld_years : Int32) (ld_card : Int32) (ld_hurt : Int32) (ld_people : Int32) (ld_pairs : Int32) (ld_strikes : Int64) (ld_rule : Nat) (ld_returns : Nat) (ld_forgets : Nat) (ld_death : Nat) (ld_move : Nat) (ld_begun : Nat) (ld_who : Nat) (ld_lost : Nat) (ld_rule_c : Nat → Int32) (ld_returns_c : Nat → Int32) (ld_forgets_c : Nat → Int32) (ld_death_c : Nat → Int32) (ld_move_c : Nat → Int32) (sz : Nat) (hv_p0 : ir p0.toInt 0 15) (hv_ld_years : ir ld_years.toInt 0 40) (hv_ld_people : ir ld_people.toInt 0 9) (hv_ld_pairs : ir ld_pairs.toInt 0 16) : Met l yX4_addPerson v_X4_addPerson ({ frames := 0, cells := 0, slots := 0, locals := 0 }) (va_Pc [.ref ld, .int p0] (pRW g (tyT cI cJ cB cZ cL) [(ld, .inr (4, [.int ld_lines, .int ld_years, .int ld_card, .int ld_hurt, .int ld_people, .int ld_pairs, .long ld_strikes, .ref ld_rule, .ref ld_returns, .ref ld_forgets, .ref ld_death, .ref ld_move, .ref ld_begun, .ref ld_who, .ref ld_lost])), (ld_rule, .inl (cI, 10, .inl ld_rule_c)), (ld_returns, .inl (cI, 10, .inl ld_returns_c)), (ld_forgets, .inl (cI, 10, .inl ld_forgets_c)), (ld_death, .inl (cI, 10, .inl ld_death_c)), (ld_move, .inl (cI, 10, .inl ld_move_c))] sz)) (va_Qv (fun (u : Int32 × (Nat → Int32) × (Nat → Int32) × (Nat → Int32) × (Nat → Int32) × (Nat → Int32)) => match u with | (n_ld_people, n_ld_rule_c, n_ld_returns_c, n_ld_forgets_c, n_ld_death_c, n_ld_move_c) => (ir n_ld_people.toInt 1 10)) (fun (u : Int32 × (Nat → Int32) × (Nat → Int32) × (Nat → Int32) × (Nat → Int32) × (Nat → Int32)) (t : State) => bRW g (tyT cI cJ cB cZ cL) (va_A [(ld, .inr (4, [.int ld_lines, .int ld_years, .int ld_card, .int ld_hurt, .int ld_people, .int ld_pairs, .long ld_strikes, .ref ld_rule, .ref ld_returns, .ref ld_forgets, .ref ld_death, .ref ld_move, .ref ld_begun, .ref ld_who, .ref ld_lost])), (ld_rule, .inl (cI, 10, .inl ld_rule_c)), (ld_returns, .inl (cI, 10, .inl ld_returns_c)), (ld_forgets, .inl (cI, 10, .inl ld_forgets_c)), (ld_death, .inl (cI, 10, .inl ld_death_c)), (ld_move, .inl (cI, 10, .inl ld_move_c))] sz) (match u with | (n_ld_people, n_ld_rule_c, n_ld_returns_c, n_ld_forgets_c, n_ld_death_c, n_ld_move_c) => [(ld, .inr (4, [.int ld_lines, .int ld_years, .int ld_card, .int ld_hurt, .int n_ld_people, .int ld_pairs, .long ld_strikes, .ref ld_rule, .ref ld_returns, .ref ld_forgets, .ref ld_death, .ref ld_move, .ref ld_begun, .ref ld_who, .ref ld_lost])), (ld_rule, .inl (cI, 10, .inl n_ld_rule_c)), (ld_returns, .inl (cI, 10, .inl n_ld_returns_c)), (ld_forgets, .inl (cI, 10, .inl n_ld_forgets_c)), (ld_death, .inl (cI, 10, .inl n_ld_death_c)), (ld_move, .inl (cI, 10, .inl n_ld_move_c))]) t) (va_A [(ld, .inr (4, [.int ld_lines, .int ld_years, .int ld_card, .int ld_hurt, .int ld_people, .int ld_pairs, .long ld_strikes, .ref ld_rule, .ref ld_returns, .ref ld_forgets, .ref ld_death, .ref ld_move, .ref ld_begun, .ref ld_who, .ref ld_lost])), (ld_rule, .inl (cI, 10, .inl ld_rule_c)), (ld_returns, .inl (cI, 10, .inl ld_returns_c)), (ld_forgets, .inl (cI, 10, .inl ld_forgets_c)), (ld_death, .inl (cI, 10, .inl ld_death_c)), (ld_move, .inl (cI, 10, .inl ld_move_c))] sz)) 0 0 (va_A [(ld, .inr (4, [.int ld_lines, .int ld_years, .int ld_card, .int ld_hurt, .int ld_people, .int ld_pairs, .long ld_strikes, .ref ld_rule, .ref ld_returns, .ref ld_forgets, .ref ld_death, .ref ld_move, .ref ld_begun, .ref ld_who, .ref ld_lost])), (ld_rule, .inl (cI, 10, .inl ld_rule_c)), (ld_returns, .inl (cI, 10, .inl ld_returns_c)), (ld_forgets, .inl (cI, 10, .inl ld_forgets_c)), (ld_death, .inl (cI, 10, .inl ld_death_c)), (ld_move, .inl (cI, 10, .inl ld_move_c))] sz) := by
  refine Met.ofW (cc := cX4_addPerson) (maxL := 2) (ret := none) (by decide) rfl ?_
  intro p e s m args below meth c s₁ B hml hv
  obtain ⟨rfl, hsz, hP, hK, hD0⟩ := hv
  have hx := B.exec
  have hb := B.bytes
  have hr := B.returns
  have hts := atoms_spec (ws := v_X4_addPerson) B.pre
  have hown : s.vm.findClass RX4 = some m.cls := findClass_of_methodNamed B.named
  have hlocks := B.notSynchronized
  clear B
  subst hsz
  have iX4 : ∀ w ∈ wsX40, w ∈ v_X4_addPerson := (fun _ h => List.mem_cons_of_mem _ (List.mem_append_right _ (List.mem_append_left _ h)))
  have hD := hD0.self (sz := s.heap.size)
  generalize hAe : (va_A [(ld, .inr (4, [.int ld_lines, .int ld_years, .int ld_card, .int ld_hurt, .int ld_people, .int ld_pairs, .long ld_strikes, .ref ld_rule, .ref ld_returns, .ref ld_forgets, .ref ld_death, .ref ld_move, .ref ld_begun, .ref ld_who, .ref ld_lost])), (ld_rule, .inl (cI, 10, .inl ld_rule_c)), (ld_returns, .inl (cI, 10, .inl ld_returns_c)), (ld_forgets, .inl (cI, 10, .inl ld_forgets_c)), (ld_death, .inl (cI, 10, .inl ld_death_c)), (ld_move, .inl (cI, 10, .inl ld_move_c))] s.heap.size) = A at hD ⊢
  have hA : ∀ q : Nat, s.heap.size ≤ q → A q := fun q h => by rw [← hAe]; exact Or.inr h
  have hS : va_S A s.heap s.heap [] := va_S.rf
  have hl := lv_entry ([.ref ld, .int p0]) (n := 2) (Nat.le_of_ble_eq_true rfl)
  rw [lg_entry_eq]
  generalize (lg_sl ([.ref ld, .int p0]) ++ List.replicate (2 - (lg_sl ([.ref ld, .int p0])).length) Slot.unset).toArray = ls at hl ⊢
  generalize ([.ref ld, .int p0] : List Value).toArray = av at hts ⊢
  generalize hQ : MQ below _ av s _ _ A = QQ
  have hl : lv_has ls 2 [(0, .ref ld), (1, .int p0)] := hl
  have hP : va_P g vwCl [(ld, .inr (4, [.int ld_lines, .int ld_years, .int ld_card, .int ld_hurt, .int ld_people, .int ld_pairs, .long ld_strikes, .ref ld_rule, .ref ld_returns, .ref ld_forgets, .ref ld_death, .ref ld_move, .ref ld_begun, .ref ld_who, .ref ld_lost])), (ld_rule, .inl (cI, 10, .inl ld_rule_c)), (ld_returns, .inl (cI, 10, .inl ld_returns_c)), (ld_forgets, .inl (cI, 10, .inl ld_forgets_c)), (ld_death, .inl (cI, 10, .inl ld_death_c)), (ld_move, .inl (cI, 10, .inl ld_move_c))] s.heap := hP
  refine lv_aload_n hx hb dX4_addPerson_0 rfl (lv_at hl 0 rfl) ?_
  refine va_get (D := g) (ci := 4) (v := .ref ld_rule) (C := RX4) (T := TX4) (N := 15) hx hb hts iX4 hown hK hP 0 rfl rfl 7 (by decide) (hts (.fieldLink RX4 9 "CardsAtYule$Land" "rule" "[I") (List.mem_cons_of_mem _ (List.mem_append_left _ (List.mem_of_getElem? (i := 0) rfl)))) (fun _ h9 => h9) rfl dX4_addPerson_1 ?_
  refine lv_aload_n hx hb dX4_addPerson_4 rfl (lv_at hl 0 rfl) ?_
  refine va_get (D := g) (ci := 4) (v := .int ld_people) (C := RX4) (T := TX4) (N := 15) hx hb hts iX4 hown hK hP 0 rfl rfl 4 (by decide) (hts (.fieldLink RX4 50 "CardsAtYule$Land" "people" "I") (List.mem_cons_of_mem _ (List.mem_append_left _ (List.mem_of_getElem? (i := 1) rfl)))) (fun _ h9 => h9) rfl dX4_addPerson_5 ?_
  refine lv_iload_n hx hb dX4_addPerson_8 rfl (lv_at hl 1 rfl) ?_
  refine va_iast (D := g) hx hb hK hP hD hS 1 0 rfl rfl (vi_rg rfl hv_ld_people (by decide) (by decide)) dX4_addPerson_9 (fun H locs hP hD hS => ?_)
  obtain ⟨g9, e9⟩ : ∃ z, z = upd ld_rule_c ld_people.toNatClampNeg p0 := ⟨_, rfl⟩
  have hP : va_P g vwCl [(ld, .inr (4, [.int ld_lines, .int ld_years, .int ld_card, .int ld_hurt, .int ld_people, .int ld_pairs, .long ld_strikes, .ref ld_rule, .ref ld_returns, .ref ld_forgets, .ref ld_death, .ref ld_move, .ref ld_begun, .ref ld_who, .ref ld_lost])), (ld_rule, .inl (cI, 10, .inl (upd ld_rule_c ld_people.toNatClampNeg p0))), (ld_returns, .inl (cI, 10, .inl ld_returns_c)), (ld_forgets, .inl (cI, 10, .inl ld_forgets_c)), (ld_death, .inl (cI, 10, .inl ld_death_c)), (ld_move, .inl (cI, 10, .inl ld_move_c))] H := hP
  have hD : va_D A [(ld, .inr (4, [.int ld_lines, .int ld_years, .int ld_card, .int ld_hurt, .int ld_people, .int ld_pairs, .long ld_strikes, .ref ld_rule, .ref ld_returns, .ref ld_forgets, .ref ld_death, .ref ld_move, .ref ld_begun, .ref ld_who, .ref ld_lost])), (ld_rule, .inl (cI, 10, .inl (upd ld_rule_c ld_people.toNatClampNeg p0))), (ld_returns, .inl (cI, 10, .inl ld_returns_c)), (ld_forgets, .inl (cI, 10, .inl ld_forgets_c)), (ld_death, .inl (cI, 10, .inl ld_death_c)), (ld_move, .inl (cI, 10, .inl ld_move_c))] := hD
  rw [← e9] at hP hD
  refine lv_aload_n hx hb dX4_addPerson_10 rfl (lv_at hl 0 rfl) ?_
  refine va_get (D := g) (ci := 4) (v := .ref ld_returns) (C := RX4) (T := TX4) (N := 15) hx hb hts iX4 hown hK hP 0 rfl rfl 8 (by decide) (hts (.fieldLink RX4 15 "CardsAtYule$Land" "returns" "[I") (List.mem_cons_of_mem _ (List.mem_append_left _ (List.mem_of_getElem? (i := 2) rfl)))) (fun _ h9 => h9) rfl dX4_addPerson_11 ?_
  refine lv_aload_n hx hb dX4_addPerson_14 rfl (lv_at hl 0 rfl) ?_
  refine va_get (D := g) (ci := 4) (v := .int ld_people) (C := RX4) (T := TX4) (N := 15) hx hb hts iX4 hown hK hP 0 rfl rfl 4 (by decide) (hts (.fieldLink RX4 50 "CardsAtYule$Land" "people" "I") (List.mem_cons_of_mem _ (List.mem_append_left _ (List.mem_of_getElem? (i := 1) rfl)))) (fun _ h9 => h9) rfl dX4_addPerson_15 ?_
  refine lv_iconst (v := 0) hx hb dX4_addPerson_18 (by decide) ?_
  refine va_iast (D := g) hx hb hK hP hD hS 2 0 rfl rfl (vi_rg rfl hv_ld_people (by decide) (by decide)) dX4_addPerson_19 (fun H locs hP hD hS => ?_)
  obtain ⟨g19, e19⟩ : ∃ z, z = upd ld_returns_c ld_people.toNatClampNeg (0 : Int32) := ⟨_, rfl⟩
  have hP : va_P g vwCl [(ld, .inr (4, [.int ld_lines, .int ld_years, .int ld_card, .int ld_hurt, .int ld_people, .int ld_pairs, .long ld_strikes, .ref ld_rule, .ref ld_returns, .ref ld_forgets, .ref ld_death, .ref ld_move, .ref ld_begun, .ref ld_who, .ref ld_lost])), (ld_rule, .inl (cI, 10, .inl g9)), (ld_returns, .inl (cI, 10, .inl (upd ld_returns_c ld_people.toNatClampNeg (0 : Int32)))), (ld_forgets, .inl (cI, 10, .inl ld_forgets_c)), (ld_death, .inl (cI, 10, .inl ld_death_c)), (ld_move, .inl (cI, 10, .inl ld_move_c))] H := hP
  have hD : va_D A [(ld, .inr (4, [.int ld_lines, .int ld_years, .int ld_card, .int ld_hurt, .int ld_people, .int ld_pairs, .long ld_strikes, .ref ld_rule, .ref ld_returns, .ref ld_forgets, .ref ld_death, .ref ld_move, .ref ld_begun, .ref ld_who, .ref ld_lost])), (ld_rule, .inl (cI, 10, .inl g9)), (ld_returns, .inl (cI, 10, .inl (upd ld_returns_c ld_people.toNatClampNeg (0 : Int32)))), (ld_forgets, .inl (cI, 10, .inl ld_forgets_c)), (ld_death, .inl (cI, 10, .inl ld_death_c)), (ld_move, .inl (cI, 10, .inl ld_move_c))] := hD
  rw [← e19] at hP hD
  refine lv_aload_n hx hb dX4_addPerson_20 rfl (lv_at hl 0 rfl) ?_
  refine va_get (D := g) (ci := 4) (v := .ref ld_forgets) (C := RX4) (T := TX4) (N := 15) hx hb hts iX4 hown hK hP 0 rfl rfl 9 (by decide) (hts (.fieldLink RX4 18 "CardsAtYule$Land" "forgets" "[I") (List.mem_cons_of_mem _ (List.mem_append_left _ (List.mem_of_getElem? (i := 3) rfl)))) (fun _ h9 => h9) rfl dX4_addPerson_21 ?_
  refine lv_aload_n hx hb dX4_addPerson_24 rfl (lv_at hl 0 rfl) ?_
  refine va_get (D := g) (ci := 4) (v := .int ld_people) (C := RX4) (T := TX4) (N := 15) hx hb hts iX4 hown hK hP 0 rfl rfl 4 (by decide) (hts (.fieldLink RX4 50 "CardsAtYule$Land" "people" "I") (List.mem_cons_of_mem _ (List.mem_append_left _ (List.mem_of_getElem? (i := 1) rfl)))) (fun _ h9 => h9) rfl dX4_addPerson_25 ?_
  refine lv_iconst (v := 0) hx hb dX4_addPerson_28 (by decide) ?_
  refine va_iast (D := g) hx hb hK hP hD hS 3 0 rfl rfl (vi_rg rfl hv_ld_people (by decide) (by decide)) dX4_addPerson_29 (fun H locs hP hD hS => ?_)
  obtain ⟨g29, e29⟩ : ∃ z, z = upd ld_forgets_c ld_people.toNatClampNeg (0 : Int32) := ⟨_, rfl⟩
  have hP : va_P g vwCl [(ld, .inr (4, [.int ld_lines, .int ld_years, .int ld_card, .int ld_hurt, .int ld_people, .int ld_pairs, .long ld_strikes, .ref ld_rule, .ref ld_returns, .ref ld_forgets, .ref ld_death, .ref ld_move, .ref ld_begun, .ref ld_who, .ref ld_lost])), (ld_rule, .inl (cI, 10, .inl g9)), (ld_returns, .inl (cI, 10, .inl g19)), (ld_forgets, .inl (cI, 10, .inl (upd ld_forgets_c ld_people.toNatClampNeg (0 : Int32)))), (ld_death, .inl (cI, 10, .inl ld_death_c)), (ld_move, .inl (cI, 10, .inl ld_move_c))] H := hP
  have hD : va_D A [(ld, .inr (4, [.int ld_lines, .int ld_years, .int ld_card, .int ld_hurt, .int ld_people, .int ld_pairs, .long ld_strikes, .ref ld_rule, .ref ld_returns, .ref ld_forgets, .ref ld_death, .ref ld_move, .ref ld_begun, .ref ld_who, .ref ld_lost])), (ld_rule, .inl (cI, 10, .inl g9)), (ld_returns, .inl (cI, 10, .inl g19)), (ld_forgets, .inl (cI, 10, .inl (upd ld_forgets_c ld_people.toNatClampNeg (0 : Int32)))), (ld_death, .inl (cI, 10, .inl ld_death_c)), (ld_move, .inl (cI, 10, .inl ld_move_c))] := hD
  rw [← e29] at hP hD
  refine lv_aload_n hx hb dX4_addPerson_30 rfl (lv_at hl 0 rfl) ?_
  refine va_get (D := g) (ci := 4) (v := .ref ld_death) (C := RX4) (T := TX4) (N := 15) hx hb hts iX4 hown hK hP 0 rfl rfl 10 (by decide) (hts (.fieldLink RX4 21 "CardsAtYule$Land" "death" "[I") (List.mem_cons_of_mem _ (List.mem_append_left _ (List.mem_of_getElem? (i := 4) rfl)))) (fun _ h9 => h9) rfl dX4_addPerson_31 ?_
  refine lv_aload_n hx hb dX4_addPerson_34 rfl (lv_at hl 0 rfl) ?_
  refine va_get (D := g) (ci := 4) (v := .int ld_people) (C := RX4) (T := TX4) (N := 15) hx hb hts iX4 hown hK hP 0 rfl rfl 4 (by decide) (hts (.fieldLink RX4 50 "CardsAtYule$Land" "people" "I") (List.mem_cons_of_mem _ (List.mem_append_left _ (List.mem_of_getElem? (i := 1) rfl)))) (fun _ h9 => h9) rfl dX4_addPerson_35 ?_
  refine lv_iconst (v := (-1)) hx hb dX4_addPerson_38 (by decide) ?_
  refine va_iast (D := g) hx hb hK hP hD hS 4 0 rfl rfl (vi_rg rfl hv_ld_people (by decide) (by decide)) dX4_addPerson_39 (fun H locs hP hD hS => ?_)
  obtain ⟨g39, e39⟩ : ∃ z, z = upd ld_death_c ld_people.toNatClampNeg ((-1) : Int32) := ⟨_, rfl⟩
  have hP : va_P g vwCl [(ld, .inr (4, [.int ld_lines, .int ld_years, .int ld_card, .int ld_hurt, .int ld_people, .int ld_pairs, .long ld_strikes, .ref ld_rule, .ref ld_returns, .ref ld_forgets, .ref ld_death, .ref ld_move, .ref ld_begun, .ref ld_who, .ref ld_lost])), (ld_rule, .inl (cI, 10, .inl g9)), (ld_returns, .inl (cI, 10, .inl g19)), (ld_forgets, .inl (cI, 10, .inl g29)), (ld_death, .inl (cI, 10, .inl (upd ld_death_c ld_people.toNatClampNeg ((-1) : Int32)))), (ld_move, .inl (cI, 10, .inl ld_move_c))] H := hP
  have hD : va_D A [(ld, .inr (4, [.int ld_lines, .int ld_years, .int ld_card, .int ld_hurt, .int ld_people, .int ld_pairs, .long ld_strikes, .ref ld_rule, .ref ld_returns, .ref ld_forgets, .ref ld_death, .ref ld_move, .ref ld_begun, .ref ld_who, .ref ld_lost])), (ld_rule, .inl (cI, 10, .inl g9)), (ld_returns, .inl (cI, 10, .inl g19)), (ld_forgets, .inl (cI, 10, .inl g29)), (ld_death, .inl (cI, 10, .inl (upd ld_death_c ld_people.toNatClampNeg ((-1) : Int32)))), (ld_move, .inl (cI, 10, .inl ld_move_c))] := hD
  rw [← e39] at hP hD
  refine lv_aload_n hx hb dX4_addPerson_40 rfl (lv_at hl 0 rfl) ?_
  refine va_get (D := g) (ci := 4) (v := .ref ld_move) (C := RX4) (T := TX4) (N := 15) hx hb hts iX4 hown hK hP 0 rfl rfl 11 (by decide) (hts (.fieldLink RX4 24 "CardsAtYule$Land" "move" "[I") (List.mem_cons_of_mem _ (List.mem_append_left _ (List.mem_of_getElem? (i := 5) rfl)))) (fun _ h9 => h9) rfl dX4_addPerson_41 ?_
  refine lv_aload_n hx hb dX4_addPerson_44 rfl (lv_at hl 0 rfl) ?_
  refine va_get (D := g) (ci := 4) (v := .int ld_people) (C := RX4) (T := TX4) (N := 15) hx hb hts iX4 hown hK hP 0 rfl rfl 4 (by decide) (hts (.fieldLink RX4 50 "CardsAtYule$Land" "people" "I") (List.mem_cons_of_mem _ (List.mem_append_left _ (List.mem_of_getElem? (i := 1) rfl)))) (fun _ h9 => h9) rfl dX4_addPerson_45 ?_
  refine lv_iconst (v := (-1)) hx hb dX4_addPerson_48 (by decide) ?_
  refine va_iast (D := g) hx hb hK hP hD hS 5 0 rfl rfl (vi_rg rfl hv_ld_people (by decide) (by decide)) dX4_addPerson_49 (fun H locs hP hD hS => ?_)
  obtain ⟨g49, e49⟩ : ∃ z, z = upd ld_move_c ld_people.toNatClampNeg ((-1) : Int32) := ⟨_, rfl⟩
  have hP : va_P g vwCl [(ld, .inr (4, [.int ld_lines, .int ld_years, .int ld_card, .int ld_hurt, .int ld_people, .int ld_pairs, .long ld_strikes, .ref ld_rule, .ref ld_returns, .ref ld_forgets, .ref ld_death, .ref ld_move, .ref ld_begun, .ref ld_who, .ref ld_lost])), (ld_rule, .inl (cI, 10, .inl g9)), (ld_returns, .inl (cI, 10, .inl g19)), (ld_forgets, .inl (cI, 10, .inl g29)), (ld_death, .inl (cI, 10, .inl g39)), (ld_move, .inl (cI, 10, .inl (upd ld_move_c ld_people.toNatClampNeg ((-1) : Int32))))] H := hP
  have hD : va_D A [(ld, .inr (4, [.int ld_lines, .int ld_years, .int ld_card, .int ld_hurt, .int ld_people, .int ld_pairs, .long ld_strikes, .ref ld_rule, .ref ld_returns, .ref ld_forgets, .ref ld_death, .ref ld_move, .ref ld_begun, .ref ld_who, .ref ld_lost])), (ld_rule, .inl (cI, 10, .inl g9)), (ld_returns, .inl (cI, 10, .inl g19)), (ld_forgets, .inl (cI, 10, .inl g29)), (ld_death, .inl (cI, 10, .inl g39)), (ld_move, .inl (cI, 10, .inl (upd ld_move_c ld_people.toNatClampNeg ((-1) : Int32))))] := hD
  rw [← e49] at hP hD
  refine lv_aload_n hx hb dX4_addPerson_50 rfl (lv_at hl 0 rfl) ?_
  refine lv_dup hx hb dX4_addPerson_51 rfl ?_
  refine va_get (D := g) (ci := 4) (v := .int ld_people) (C := RX4) (T := TX4) (N := 15) hx hb hts iX4 hown hK hP 0 rfl rfl 4 (by decide) (hts (.fieldLink RX4 50 "CardsAtYule$Land" "people" "I") (List.mem_cons_of_mem _ (List.mem_append_left _ (List.mem_of_getElem? (i := 1) rfl)))) (fun _ h9 => h9) rfl dX4_addPerson_52 ?_
  refine lv_iconst (v := 1) hx hb dX4_addPerson_55 (by decide) ?_
  refine lv_iadd hx hb dX4_addPerson_56 ?_
  refine lv_topi (fun y56 e56 => ?_)
  have q56 : y56.toInt = ld_people.toInt + 1 := by rw [e56]; exact ad_z rfl rfl hv_ld_people (ir_c 1) (by decide) (by decide)
  have r56 : ir y56.toInt 1 10 := ad_r q56 hv_ld_people (ir_c 1) (by decide) (by decide)
  refine va_put (D := g) (ci := 4) (v := .int y56) (ty := .int) (C := RX4) (T := TX4) (N := 15) hx hb hts iX4 tyX4 tyX4_ok nmX4 hown hK hP hD hS 0 rfl rfl 4 (by decide) (hts (.fieldLink RX4 50 "CardsAtYule$Land" "people" "I") (List.mem_cons_of_mem _ (List.mem_append_left _ (List.mem_of_getElem? (i := 1) rfl)))) (fun _ h9 => h9) rfl (by decide +kernel) rfl rfl (Nat.le_of_ble_eq_true rfl) dX4_addPerson_57 (fun H locs hP hD hS => ?_)
  have hP : va_P g vwCl [(ld, .inr (4, [.int ld_lines, .int ld_years, .int ld_card, .int ld_hurt, .int y56, .int ld_pairs, .long ld_strikes, .ref ld_rule, .ref ld_returns, .ref ld_forgets, .ref ld_death, .ref ld_move, .ref ld_begun, .ref ld_who, .ref ld_lost])), (ld_rule, .inl (cI, 10, .inl g9)), (ld_returns, .inl (cI, 10, .inl g19)), (ld_forgets, .inl (cI, 10, .inl g29)), (ld_death, .inl (cI, 10, .inl g39)), (ld_move, .inl (cI, 10, .inl g49))] H := hP
  have hD : va_D A [(ld, .inr (4, [.int ld_lines, .int ld_years, .int ld_card, .int ld_hurt, .int y56, .int ld_pairs, .long ld_strikes, .ref ld_rule, .ref ld_returns, .ref ld_forgets, .ref ld_death, .ref ld_move, .ref ld_begun, .ref ld_who, .ref ld_lost])), (ld_rule, .inl (cI, 10, .inl g9)), (ld_returns, .inl (cI, 10, .inl g19)), (ld_forgets, .inl (cI, 10, .inl g29)), (ld_death, .inl (cI, 10, .inl g39)), (ld_move, .inl (cI, 10, .inl g49))] := hD
  subst hQ
  have hP9 := hP.sub (ws' := [(ld, .inr (4, [.int ld_lines, .int ld_years, .int ld_card, .int ld_hurt, .int y56, .int ld_pairs, .long ld_strikes, .ref ld_rule, .ref ld_returns, .ref ld_forgets, .ref ld_death, .ref ld_move, .ref ld_begun, .ref ld_who, .ref ld_lost])), (ld_rule, .inl (cI, 10, .inl g9)), (ld_returns, .inl (cI, 10, .inl g19)), (ld_forgets, .inl (cI, 10, .inl g29)), (ld_death, .inl (cI, 10, .inl g39)), (ld_move, .inl (cI, 10, .inl g49))]) [0, 1, 2, 3, 4, 5] rfl
  have hD9 := hD.sub (ws' := [(ld, .inr (4, [.int ld_lines, .int ld_years, .int ld_card, .int ld_hurt, .int y56, .int ld_pairs, .long ld_strikes, .ref ld_rule, .ref ld_returns, .ref ld_forgets, .ref ld_death, .ref ld_move, .ref ld_begun, .ref ld_who, .ref ld_lost])), (ld_rule, .inl (cI, 10, .inl g9)), (ld_returns, .inl (cI, 10, .inl g19)), (ld_forgets, .inl (cI, 10, .inl g29)), (ld_death, .inl (cI, 10, .inl g39)), (ld_move, .inl (cI, 10, .inl g49))]) [0, 1, 2, 3, 4, 5] (by decide) rfl
  exact W.vret hx hb hr (fun t ht hW => ⟨⟨(y56, g9, g19, g29, g39, g49), rfl, r56, ⟨by rw [ht]; exact hP9, va_K.moved hW.alike hK, hD9⟩⟩, hS.F ht⟩) hS.2.2 dX4_addPerson_60
def v_X4_addPair : List Cond := .code yX4_addPair cX4_addPair 4 none :: (([.fieldLink RX4 30 "CardsAtYule$Land" "who" "[I", .fieldLink RX4 53 "CardsAtYule$Land" "pairs" "I", .fieldLink RX4 27 "CardsAtYule$Land" "begun" "[I"] : List Cond) ++ (wsX40 ++ ([] : List Cond)))
theorem good_v_X4_addPair : v_X4_addPair.all goodWord = true := ga_c (by decide +kernel) (ga_a (by decide +kernel) (ga_a good_wsX40 rfl))
set_option maxHeartbeats 4000000 in
set_option maxRecDepth 100000 in
theorem q_X4_addPair (l : Launch) (g : va_G) (cI cJ cB cZ cL : ClassId) (p0 : Int32) (p1 : Int32) (p2 : Int32) (ld : Nat) (ld_lines : Int32) (ld_years : Int32) (ld_card : Int32) (ld_hurt : Int32) (ld_people : Int32) (ld_pairs : Int32) (ld_strikes : Int64) (ld_rule : Nat) (ld_returns : Nat) (ld_forgets : Nat) (ld_death : Nat) (ld_move : Nat) (ld_begun : Nat) (ld_who : Nat) (ld_lost : Nat) (ld_who_c : Nat → Int32) (ld_begun_c : Nat → Int32) (sz : Nat) (hv_p0 : ir p0.toInt 0 9) (hv_p1 : ir p1.toInt 0 9) (hv_p2 : ir p2.toInt 0 15) (hv_ld_years : ir ld_years.toInt 0 40) (hv_ld_people : ir ld_people.toInt 0 10) (hv_ld_pairs : ir ld_pairs.toInt 0 15) (ha_ld_who_c : ar ld_who_c 32 0 9) (ha_ld_begun_c : ar ld_begun_c 16 0 15) : Met l yX4_addPair v_X4_addPair ({ frames := 0, cells := 0, slots := 0, locals := 0 }) (va_Pc [.ref ld, .int p0, .int p1, .int p2] (pRW g (tyT cI cJ cB cZ cL) [(ld, .inr (4, [.int ld_lines, .int ld_years, .int ld_card, .int ld_hurt, .int ld_people, .int ld_pairs, .long ld_strikes, .ref ld_rule, .ref ld_returns, .ref ld_forgets, .ref ld_death, .ref ld_move, .ref ld_begun, .ref ld_who, .ref ld_lost])), (ld_who, .inl (cI, 32, .inl ld_who_c)), (ld_begun, .inl (cI, 16, .inl ld_begun_c))] sz)) (va_Qv (fun (u : Int32 × (Nat → Int32) × (Nat → Int32)) => match u with | (n_ld_pairs, n_ld_who_c, n_ld_begun_c) => (ir n_ld_pairs.toInt 1 16) ∧ (ar n_ld_who_c 32 0 9) ∧ (ar n_ld_begun_c 16 0 15)) (fun (u : Int32 × (Nat → Int32) × (Nat → Int32)) (t : State) => bRW g (tyT cI cJ cB cZ cL) (va_A [(ld, .inr (4, [.int ld_lines, .int ld_years, .int ld_card, .int ld_hurt, .int ld_people, .int ld_pairs, .long ld_strikes, .ref ld_rule, .ref ld_returns, .ref ld_forgets, .ref ld_death, .ref ld_move, .ref ld_begun, .ref ld_who, .ref ld_lost])), (ld_who, .inl (cI, 32, .inl ld_who_c)), (ld_begun, .inl (cI, 16, .inl ld_begun_c))] sz) (match u with | (n_ld_pairs, n_ld_who_c, n_ld_begun_c) => [(ld, .inr (4, [.int ld_lines, .int ld_years, .int ld_card, .int ld_hurt, .int ld_people, .int n_ld_pairs, .long ld_strikes, .ref ld_rule, .ref ld_returns, .ref ld_forgets, .ref ld_death, .ref ld_move, .ref ld_begun, .ref ld_who, .ref ld_lost])), (ld_who, .inl (cI, 32, .inl n_ld_who_c)), (ld_begun, .inl (cI, 16, .inl n_ld_begun_c))]) t) (va_A [(ld, .inr (4, [.int ld_lines, .int ld_years, .int ld_card, .int ld_hurt, .int ld_people, .int ld_pairs, .long ld_strikes, .ref ld_rule, .ref ld_returns, .ref ld_forgets, .ref ld_death, .ref ld_move, .ref ld_begun, .ref ld_who, .ref ld_lost])), (ld_who, .inl (cI, 32, .inl ld_who_c)), (ld_begun, .inl (cI, 16, .inl ld_begun_c))] sz)) 0 0 (va_A [(ld, .inr (4, [.int ld_lines, .int ld_years, .int ld_card, .int ld_hurt, .int ld_people, .int ld_pairs, .long ld_strikes, .ref ld_rule, .ref ld_returns, .ref ld_forgets, .ref ld_death, .ref ld_move, .ref ld_begun, .ref ld_who, .ref ld_lost])), (ld_who, .inl (cI, 32, .inl ld_who_c)), (ld_begun, .inl (cI, 16, .inl ld_begun_c))] sz) := by
  refine Met.ofW (cc := cX4_addPair) (maxL := 4) (ret := none) (by decide) rfl ?_
  intro p e s m args below meth c s₁ B hml hv
  obtain ⟨rfl, hsz, hP, hK, hD0⟩ := hv
  have hx := B.exec
  have hb := B.bytes
  have hr := B.returns
  have hts := atoms_spec (ws := v_X4_addPair) B.pre
  have hown : s.vm.findClass RX4 = some m.cls := findClass_of_methodNamed B.named
  have hlocks := B.notSynchronized
  clear B
  subst hsz
  have iX4 : ∀ w ∈ wsX40, w ∈ v_X4_addPair := (fun _ h => List.mem_cons_of_mem _ (List.mem_append_right _ (List.mem_append_left _ h)))
  have hD := hD0.self (sz := s.heap.size)
  generalize hAe : (va_A [(ld, .inr (4, [.int ld_lines, .int ld_years, .int ld_card, .int ld_hurt, .int ld_people, .int ld_pairs, .long ld_strikes, .ref ld_rule, .ref ld_returns, .ref ld_forgets, .ref ld_death, .ref ld_move, .ref ld_begun, .ref ld_who, .ref ld_lost])), (ld_who, .inl (cI, 32, .inl ld_who_c)), (ld_begun, .inl (cI, 16, .inl ld_begun_c))] s.heap.size) = A at hD ⊢
  have hA : ∀ q : Nat, s.heap.size ≤ q → A q := fun q h => by rw [← hAe]; exact Or.inr h
  have hS : va_S A s.heap s.heap [] := va_S.rf
  have hl := lv_entry ([.ref ld, .int p0, .int p1, .int p2]) (n := 4) (Nat.le_of_ble_eq_true rfl)
  rw [lg_entry_eq]
  generalize (lg_sl ([.ref ld, .int p0, .int p1, .int p2]) ++ List.replicate (4 - (lg_sl ([.ref ld, .int p0, .int p1, .int p2])).length) Slot.unset).toArray = ls at hl ⊢
  generalize ([.ref ld, .int p0, .int p1, .int p2] : List Value).toArray = av at hts ⊢
  generalize hQ : MQ below _ av s _ _ A = QQ
  have hl : lv_has ls 4 [(0, .ref ld), (1, .int p0), (2, .int p1), (3, .int p2)] := hl
  have hP : va_P g vwCl [(ld, .inr (4, [.int ld_lines, .int ld_years, .int ld_card, .int ld_hurt, .int ld_people, .int ld_pairs, .long ld_strikes, .ref ld_rule, .ref ld_returns, .ref ld_forgets, .ref ld_death, .ref ld_move, .ref ld_begun, .ref ld_who, .ref ld_lost])), (ld_who, .inl (cI, 32, .inl ld_who_c)), (ld_begun, .inl (cI, 16, .inl ld_begun_c))] s.heap := hP
  refine lv_aload_n hx hb dX4_addPair_0 rfl (lv_at hl 0 rfl) ?_
  refine va_get (D := g) (ci := 4) (v := .ref ld_who) (C := RX4) (T := TX4) (N := 15) hx hb hts iX4 hown hK hP 0 rfl rfl 13 (by decide) (hts (.fieldLink RX4 30 "CardsAtYule$Land" "who" "[I") (List.mem_cons_of_mem _ (List.mem_append_left _ (List.mem_of_getElem? (i := 0) rfl)))) (fun _ h9 => h9) rfl dX4_addPair_1 ?_
  refine lv_iconst (v := 2) hx hb dX4_addPair_4 (by decide) ?_
  refine lv_aload_n hx hb dX4_addPair_5 rfl (lv_at hl 0 rfl) ?_
  refine va_get (D := g) (ci := 4) (v := .int ld_pairs) (C := RX4) (T := TX4) (N := 15) hx hb hts iX4 hown hK hP 0 rfl rfl 5 (by decide) (hts (.fieldLink RX4 53 "CardsAtYule$Land" "pairs" "I") (List.mem_cons_of_mem _ (List.mem_append_left _ (List.mem_of_getElem? (i := 1) rfl)))) (fun _ h9 => h9) rfl dX4_addPair_6 ?_
  refine lv_imul hx hb dX4_addPair_9 ?_
  refine lv_topi (fun y9 e9 => ?_)
  have q9 : y9.toInt = 2 * ld_pairs.toInt := by rw [e9]; exact mu_z rfl rfl (ir_c 2) hv_ld_pairs (by decide) (by decide) (by decide)
  have r9 : ir y9.toInt 0 30 := mu_r q9 (ir_c 2) hv_ld_pairs (by decide) (by decide) (by decide) (by decide)
  refine lv_iload_n hx hb dX4_addPair_10 rfl (lv_at hl 1 rfl) ?_
  refine va_iast (D := g) hx hb hK hP hD hS 1 0 rfl rfl (vi_rg rfl r9 (by decide) (by decide)) dX4_addPair_11 (fun H locs hP hD hS => ?_)
  obtain ⟨g11, e11⟩ : ∃ z, z = upd ld_who_c y9.toNatClampNeg p0 := ⟨_, rfl⟩
  have hP : va_P g vwCl [(ld, .inr (4, [.int ld_lines, .int ld_years, .int ld_card, .int ld_hurt, .int ld_people, .int ld_pairs, .long ld_strikes, .ref ld_rule, .ref ld_returns, .ref ld_forgets, .ref ld_death, .ref ld_move, .ref ld_begun, .ref ld_who, .ref ld_lost])), (ld_who, .inl (cI, 32, .inl (upd ld_who_c y9.toNatClampNeg p0))), (ld_begun, .inl (cI, 16, .inl ld_begun_c))] H := hP
  have hD : va_D A [(ld, .inr (4, [.int ld_lines, .int ld_years, .int ld_card, .int ld_hurt, .int ld_people, .int ld_pairs, .long ld_strikes, .ref ld_rule, .ref ld_returns, .ref ld_forgets, .ref ld_death, .ref ld_move, .ref ld_begun, .ref ld_who, .ref ld_lost])), (ld_who, .inl (cI, 32, .inl (upd ld_who_c y9.toNatClampNeg p0))), (ld_begun, .inl (cI, 16, .inl ld_begun_c))] := hD
  rw [← e11] at hP hD
  have a11 : ar g11 32 0 9 := by rw [e11]; exact ar_u ha_ld_who_c hv_p0
  refine lv_aload_n hx hb dX4_addPair_12 rfl (lv_at hl 0 rfl) ?_
  refine va_get (D := g) (ci := 4) (v := .ref ld_who) (C := RX4) (T := TX4) (N := 15) hx hb hts iX4 hown hK hP 0 rfl rfl 13 (by decide) (hts (.fieldLink RX4 30 "CardsAtYule$Land" "who" "[I") (List.mem_cons_of_mem _ (List.mem_append_left _ (List.mem_of_getElem? (i := 0) rfl)))) (fun _ h9 => h9) rfl dX4_addPair_13 ?_
  refine lv_iconst (v := 2) hx hb dX4_addPair_16 (by decide) ?_
  refine lv_aload_n hx hb dX4_addPair_17 rfl (lv_at hl 0 rfl) ?_
  refine va_get (D := g) (ci := 4) (v := .int ld_pairs) (C := RX4) (T := TX4) (N := 15) hx hb hts iX4 hown hK hP 0 rfl rfl 5 (by decide) (hts (.fieldLink RX4 53 "CardsAtYule$Land" "pairs" "I") (List.mem_cons_of_mem _ (List.mem_append_left _ (List.mem_of_getElem? (i := 1) rfl)))) (fun _ h9 => h9) rfl dX4_addPair_18 ?_
  refine lv_imul hx hb dX4_addPair_21 ?_
  refine lv_topi (fun y21 e21 => ?_)
  have q21 : y21.toInt = 2 * ld_pairs.toInt := by rw [e21]; exact mu_z rfl rfl (ir_c 2) hv_ld_pairs (by decide) (by decide) (by decide)
  have r21 : ir y21.toInt 0 30 := mu_r q21 (ir_c 2) hv_ld_pairs (by decide) (by decide) (by decide) (by decide)
  refine lv_iconst (v := 1) hx hb dX4_addPair_22 (by decide) ?_
  refine lv_iadd hx hb dX4_addPair_23 ?_
  refine lv_topi (fun y23 e23 => ?_)
  have q23 : y23.toInt = y21.toInt + 1 := by rw [e23]; exact ad_z rfl rfl r21 (ir_c 1) (by decide) (by decide)
  have r23 : ir y23.toInt 1 31 := ad_r q23 r21 (ir_c 1) (by decide) (by decide)
  refine lv_iload_n hx hb dX4_addPair_24 rfl (lv_at hl 2 rfl) ?_
  refine va_iast (D := g) hx hb hK hP hD hS 1 0 rfl rfl (vi_rg rfl r23 (by decide) (by decide)) dX4_addPair_25 (fun H locs hP hD hS => ?_)
  obtain ⟨g25, e25⟩ : ∃ z, z = upd g11 y23.toNatClampNeg p1 := ⟨_, rfl⟩
  have hP : va_P g vwCl [(ld, .inr (4, [.int ld_lines, .int ld_years, .int ld_card, .int ld_hurt, .int ld_people, .int ld_pairs, .long ld_strikes, .ref ld_rule, .ref ld_returns, .ref ld_forgets, .ref ld_death, .ref ld_move, .ref ld_begun, .ref ld_who, .ref ld_lost])), (ld_who, .inl (cI, 32, .inl (upd g11 y23.toNatClampNeg p1))), (ld_begun, .inl (cI, 16, .inl ld_begun_c))] H := hP
  have hD : va_D A [(ld, .inr (4, [.int ld_lines, .int ld_years, .int ld_card, .int ld_hurt, .int ld_people, .int ld_pairs, .long ld_strikes, .ref ld_rule, .ref ld_returns, .ref ld_forgets, .ref ld_death, .ref ld_move, .ref ld_begun, .ref ld_who, .ref ld_lost])), (ld_who, .inl (cI, 32, .inl (upd g11 y23.toNatClampNeg p1))), (ld_begun, .inl (cI, 16, .inl ld_begun_c))] := hD
  rw [← e25] at hP hD
  have a25 : ar g25 32 0 9 := by rw [e25]; exact ar_u a11 hv_p1
  refine lv_aload_n hx hb dX4_addPair_26 rfl (lv_at hl 0 rfl) ?_
  refine va_get (D := g) (ci := 4) (v := .ref ld_begun) (C := RX4) (T := TX4) (N := 15) hx hb hts iX4 hown hK hP 0 rfl rfl 12 (by decide) (hts (.fieldLink RX4 27 "CardsAtYule$Land" "begun" "[I") (List.mem_cons_of_mem _ (List.mem_append_left _ (List.mem_of_getElem? (i := 2) rfl)))) (fun _ h9 => h9) rfl dX4_addPair_27 ?_
  refine lv_aload_n hx hb dX4_addPair_30 rfl (lv_at hl 0 rfl) ?_
  refine va_get (D := g) (ci := 4) (v := .int ld_pairs) (C := RX4) (T := TX4) (N := 15) hx hb hts iX4 hown hK hP 0 rfl rfl 5 (by decide) (hts (.fieldLink RX4 53 "CardsAtYule$Land" "pairs" "I") (List.mem_cons_of_mem _ (List.mem_append_left _ (List.mem_of_getElem? (i := 1) rfl)))) (fun _ h9 => h9) rfl dX4_addPair_31 ?_
  refine lv_iload_n hx hb dX4_addPair_34 rfl (lv_at hl 3 rfl) ?_
  refine va_iast (D := g) hx hb hK hP hD hS 2 0 rfl rfl (vi_rg rfl hv_ld_pairs (by decide) (by decide)) dX4_addPair_35 (fun H locs hP hD hS => ?_)
  obtain ⟨g35, e35⟩ : ∃ z, z = upd ld_begun_c ld_pairs.toNatClampNeg p2 := ⟨_, rfl⟩
  have hP : va_P g vwCl [(ld, .inr (4, [.int ld_lines, .int ld_years, .int ld_card, .int ld_hurt, .int ld_people, .int ld_pairs, .long ld_strikes, .ref ld_rule, .ref ld_returns, .ref ld_forgets, .ref ld_death, .ref ld_move, .ref ld_begun, .ref ld_who, .ref ld_lost])), (ld_who, .inl (cI, 32, .inl g25)), (ld_begun, .inl (cI, 16, .inl (upd ld_begun_c ld_pairs.toNatClampNeg p2)))] H := hP
  have hD : va_D A [(ld, .inr (4, [.int ld_lines, .int ld_years, .int ld_card, .int ld_hurt, .int ld_people, .int ld_pairs, .long ld_strikes, .ref ld_rule, .ref ld_returns, .ref ld_forgets, .ref ld_death, .ref ld_move, .ref ld_begun, .ref ld_who, .ref ld_lost])), (ld_who, .inl (cI, 32, .inl g25)), (ld_begun, .inl (cI, 16, .inl (upd ld_begun_c ld_pairs.toNatClampNeg p2)))] := hD
  rw [← e35] at hP hD
  have a35 : ar g35 16 0 15 := by rw [e35]; exact ar_u ha_ld_begun_c hv_p2
  refine lv_aload_n hx hb dX4_addPair_36 rfl (lv_at hl 0 rfl) ?_
  refine lv_dup hx hb dX4_addPair_37 rfl ?_
  refine va_get (D := g) (ci := 4) (v := .int ld_pairs) (C := RX4) (T := TX4) (N := 15) hx hb hts iX4 hown hK hP 0 rfl rfl 5 (by decide) (hts (.fieldLink RX4 53 "CardsAtYule$Land" "pairs" "I") (List.mem_cons_of_mem _ (List.mem_append_left _ (List.mem_of_getElem? (i := 1) rfl)))) (fun _ h9 => h9) rfl dX4_addPair_38 ?_
  refine lv_iconst (v := 1) hx hb dX4_addPair_41 (by decide) ?_
  refine lv_iadd hx hb dX4_addPair_42 ?_
  refine lv_topi (fun y42 e42 => ?_)
  have q42 : y42.toInt = ld_pairs.toInt + 1 := by rw [e42]; exact ad_z rfl rfl hv_ld_pairs (ir_c 1) (by decide) (by decide)
  have r42 : ir y42.toInt 1 16 := ad_r q42 hv_ld_pairs (ir_c 1) (by decide) (by decide)
  refine va_put (D := g) (ci := 4) (v := .int y42) (ty := .int) (C := RX4) (T := TX4) (N := 15) hx hb hts iX4 tyX4 tyX4_ok nmX4 hown hK hP hD hS 0 rfl rfl 5 (by decide) (hts (.fieldLink RX4 53 "CardsAtYule$Land" "pairs" "I") (List.mem_cons_of_mem _ (List.mem_append_left _ (List.mem_of_getElem? (i := 1) rfl)))) (fun _ h9 => h9) rfl (by decide +kernel) rfl rfl (Nat.le_of_ble_eq_true rfl) dX4_addPair_43 (fun H locs hP hD hS => ?_)
  have hP : va_P g vwCl [(ld, .inr (4, [.int ld_lines, .int ld_years, .int ld_card, .int ld_hurt, .int ld_people, .int y42, .long ld_strikes, .ref ld_rule, .ref ld_returns, .ref ld_forgets, .ref ld_death, .ref ld_move, .ref ld_begun, .ref ld_who, .ref ld_lost])), (ld_who, .inl (cI, 32, .inl g25)), (ld_begun, .inl (cI, 16, .inl g35))] H := hP
  have hD : va_D A [(ld, .inr (4, [.int ld_lines, .int ld_years, .int ld_card, .int ld_hurt, .int ld_people, .int y42, .long ld_strikes, .ref ld_rule, .ref ld_returns, .ref ld_forgets, .ref ld_death, .ref ld_move, .ref ld_begun, .ref ld_who, .ref ld_lost])), (ld_who, .inl (cI, 32, .inl g25)), (ld_begun, .inl (cI, 16, .inl g35))] := hD
  subst hQ
  have hP9 := hP.sub (ws' := [(ld, .inr (4, [.int ld_lines, .int ld_years, .int ld_card, .int ld_hurt, .int ld_people, .int y42, .long ld_strikes, .ref ld_rule, .ref ld_returns, .ref ld_forgets, .ref ld_death, .ref ld_move, .ref ld_begun, .ref ld_who, .ref ld_lost])), (ld_who, .inl (cI, 32, .inl g25)), (ld_begun, .inl (cI, 16, .inl g35))]) [0, 1, 2] rfl
  have hD9 := hD.sub (ws' := [(ld, .inr (4, [.int ld_lines, .int ld_years, .int ld_card, .int ld_hurt, .int ld_people, .int y42, .long ld_strikes, .ref ld_rule, .ref ld_returns, .ref ld_forgets, .ref ld_death, .ref ld_move, .ref ld_begun, .ref ld_who, .ref ld_lost])), (ld_who, .inl (cI, 32, .inl g25)), (ld_begun, .inl (cI, 16, .inl g35))]) [0, 1, 2] (by decide) rfl
  exact W.vret hx hb hr (fun t ht hW => ⟨⟨(y42, g25, g35), rfl, ⟨r42, a25, a35⟩, ⟨by rw [ht]; exact hP9, va_K.moved hW.alike hK, hD9⟩⟩, hS.F ht⟩) hS.2.2 dX4_addPair_46
def v_X4_pairOf : List Cond := .code yX4_pairOf cX4_pairOf 6 (some .int) :: (([.fieldLink RX4 53 "CardsAtYule$Land" "pairs" "I", .fieldLink RX4 30 "CardsAtYule$Land" "who" "[I"] : List Cond) ++ (wsX40 ++ ([] : List Cond)))
theorem good_v_X4_pairOf : v_X4_pairOf.all goodWord = true := ga_c (by decide +kernel) (ga_a (by decide +kernel) (ga_a good_wsX40 rfl))
set_option maxHeartbeats 4000000 in
set_option maxRecDepth 100000 in
theorem q_X4_pairOf (l : Launch) (g : va_G) (cI cJ cB cZ cL : ClassId) (p0 : Int32) (p1 : Int32) (ld : Nat) (ld_lines : Int32) (ld_years : Int32) (ld_card : Int32) (ld_hurt : Int32) (ld_people : Int32) (ld_pairs : Int32) (ld_strikes : Int64) (ld_rule : Nat) (ld_returns : Nat) (ld_forgets : Nat) (ld_death : Nat) (ld_move : Nat) (ld_begun : Nat) (ld_who : Nat) (ld_lost : Nat) (ld_who_c : Nat → Int32) (sz : Nat) (hv_ld_years : ir ld_years.toInt 0 40) (hv_ld_people : ir ld_people.toInt 0 10) (hv_ld_pairs : ir ld_pairs.toInt 0 16) (ha_ld_who_c : ar ld_who_c 32 0 9) : Met l yX4_pairOf v_X4_pairOf ({ frames := 0, cells := 0, slots := 0, locals := 0 }) (va_Pc [.ref ld, .int p0, .int p1] (pRO g (tyT cI cJ cB cZ cL) [(ld, .inr (4, [.int ld_lines, .int ld_years, .int ld_card, .int ld_hurt, .int ld_people, .int ld_pairs, .long ld_strikes, .ref ld_rule, .ref ld_returns, .ref ld_forgets, .ref ld_death, .ref ld_move, .ref ld_begun, .ref ld_who, .ref ld_lost])), (ld_who, .inl (cI, 32, .inl ld_who_c))] sz)) (va_Qi (fun (r : Int32) (u : Unit) => (ir r.toInt (-1) 15)) (fun (_ : Unit) (_ : State) => True) (va_A [] sz)) 0 0 (va_A [] sz) := by
  refine Met.ofW (cc := cX4_pairOf) (maxL := 6) (ret := (some .int)) (by decide) rfl ?_
  intro p e s m args below meth c s₁ B hml hv
  obtain ⟨rfl, hsz, hP, hK⟩ := hv
  have hx := B.exec
  have hb := B.bytes
  have hr := B.returns
  have hts := atoms_spec (ws := v_X4_pairOf) B.pre
  have hown : s.vm.findClass RX4 = some m.cls := findClass_of_methodNamed B.named
  have hlocks := B.notSynchronized
  clear B
  subst hsz
  have iX4 : ∀ w ∈ wsX40, w ∈ v_X4_pairOf := (fun _ h => List.mem_cons_of_mem _ (List.mem_append_right _ (List.mem_append_left _ h)))
  generalize hAe : (va_A [] s.heap.size) = A
  have hA : ∀ q : Nat, s.heap.size ≤ q → A q := fun q h => by rw [← hAe]; exact Or.inr h
  have hS : va_S A s.heap s.heap [] := va_S.rf
  have hl := lv_entry ([.ref ld, .int p0, .int p1]) (n := 6) (Nat.le_of_ble_eq_true rfl)
  rw [lg_entry_eq]
  generalize (lg_sl ([.ref ld, .int p0, .int p1]) ++ List.replicate (6 - (lg_sl ([.ref ld, .int p0, .int p1])).length) Slot.unset).toArray = ls at hl ⊢
  generalize ([.ref ld, .int p0, .int p1] : List Value).toArray = av at hts ⊢
  generalize hQ : MQ below _ av s _ _ A = QQ
  have hl : lv_has ls 6 [(0, .ref ld), (1, .int p0), (2, .int p1)] := hl
  have hP : va_P g vwCl [(ld, .inr (4, [.int ld_lines, .int ld_years, .int ld_card, .int ld_hurt, .int ld_people, .int ld_pairs, .long ld_strikes, .ref ld_rule, .ref ld_returns, .ref ld_forgets, .ref ld_death, .ref ld_move, .ref ld_begun, .ref ld_who, .ref ld_lost])), (ld_who, .inl (cI, 32, .inl ld_who_c))] s.heap := hP
  refine lv_iconst (v := 0) hx hb dX4_pairOf_0 (by decide) ?_
  refine lv_istore_n (lv' := [(3, .int 0), (0, .ref ld), (1, .int p0), (2, .int p1)]) hx hb dX4_pairOf_1 rfl hl (by decide) rfl (fun ls hl => ?_)
  have J2 : ∀ (n2 : Nat) (j2_l3 : Int32) (H : Heap) (locs : List Loc) (ls : Array Slot), (17 - j2_l3.toInt).toNat < n2 → (ir j2_l3.toInt 0 16) → va_P g vwCl [(ld, .inr (4, [.int ld_lines, .int ld_years, .int ld_card, .int ld_hurt, .int ld_people, .int ld_pairs, .long ld_strikes, .ref ld_rule, .ref ld_returns, .ref ld_forgets, .ref ld_death, .ref ld_move, .ref ld_begun, .ref ld_who, .ref ld_lost])), (ld_who, .inl (cI, 32, .inl ld_who_c))] H → va_S A s.heap H locs → lv_has ls 6 [(0, .ref ld), (1, .int p0), (2, .int p1), (3, .int j2_l3)] → W p l e (headSpec v_X4_pairOf ({ frames := 0, cells := 0, slots := 0, locals := 0 })).room s m av below meth c H locs 0 0 QQ (F0 m 2 ls []) := by
    intro n2
    induction n2 with
    | zero => exact fun j2_l3 H locs ls hn => absurd hn (Nat.not_lt_zero _)
    | succ n2 ih2 =>
      intro j2_l3 H locs ls hn2 hj2_l3 hP hS hl
      refine lv_iload_n hx hb dX4_pairOf_2 rfl (lv_at hl 3 rfl) ?_
      refine lv_aload_n hx hb dX4_pairOf_3 rfl (lv_at hl 0 rfl) ?_
      refine va_get (D := g) (ci := 4) (v := .int ld_pairs) (C := RX4) (T := TX4) (N := 15) hx hb hts iX4 hown hK hP 0 rfl rfl 5 (by decide) (hts (.fieldLink RX4 53 "CardsAtYule$Land" "pairs" "I") (List.mem_cons_of_mem _ (List.mem_append_left _ (List.mem_of_getElem? (i := 0) rfl)))) (fun _ h9 => h9) rfl dX4_pairOf_4 ?_
      refine lv_icmp_ge (tgt := 64) hx hb dX4_pairOf_7 (by decide) (fun c7 => ?_) (fun c7 => ?_)
      · have f7 := (show ld_pairs.toInt ≤ j2_l3.toInt from z_le rfl rfl c7)
        refine lv_iconst (v := (-1)) hx hb dX4_pairOf_64 (by decide) ?_
        subst hQ
        exact W.iret (v := (-1)) hx hb hr (fun t ht hW => ⟨⟨(-1), (), rfl, (show ir ((-1) : Int32).toInt (-1) 15 by decide), trivial⟩, hS.F ht⟩) hS.2.2 dX4_pairOf_65
      have f7 := (show j2_l3.toInt < ld_pairs.toInt from z_nle rfl rfl c7)
      have r7a : ir j2_l3.toInt 0 15 := ir_lta f7 hj2_l3 hv_ld_pairs (by decide)
      have r7b : ir ld_pairs.toInt 1 16 := ir_ltb f7 hj2_l3 hv_ld_pairs (by decide)
      refine lv_aload_n hx hb dX4_pairOf_10 rfl (lv_at hl 0 rfl) ?_
      refine va_get (D := g) (ci := 4) (v := .ref ld_who) (C := RX4) (T := TX4) (N := 15) hx hb hts iX4 hown hK hP 0 rfl rfl 13 (by decide) (hts (.fieldLink RX4 30 "CardsAtYule$Land" "who" "[I") (List.mem_cons_of_mem _ (List.mem_append_left _ (List.mem_of_getElem? (i := 1) rfl)))) (fun _ h9 => h9) rfl dX4_pairOf_11 ?_
      refine lv_iconst (v := 2) hx hb dX4_pairOf_14 (by decide) ?_
      refine lv_iload_n hx hb dX4_pairOf_15 rfl (lv_at hl 3 rfl) ?_
      refine lv_imul hx hb dX4_pairOf_16 ?_
      refine lv_topi (fun y16 e16 => ?_)
      have q16 : y16.toInt = 2 * j2_l3.toInt := by rw [e16]; exact mu_z rfl rfl (ir_c 2) r7a (by decide) (by decide) (by decide)
      have r16 : ir y16.toInt 0 30 := mu_r q16 (ir_c 2) r7a (by decide) (by decide) (by decide) (by decide)
      refine va_iald (D := g) hx hb hK hP 1 0 rfl rfl (vi_rg rfl r16 (by decide) (by decide)) dX4_pairOf_17 ?_
      refine lv_topi (fun y17 e17 => ?_)
      have r17 : ir y17.toInt 0 9 := by rw [e17]; exact ha_ld_who_c _ (vi_cl (vi_rg rfl r16 (by decide) (by decide)))
      refine lv_istore (lv' := [(4, .int y17), (0, .ref ld), (1, .int p0), (2, .int p1), (3, .int j2_l3)]) hx hb dX4_pairOf_18 hl (by decide) rfl (fun ls hl => ?_)
      refine lv_aload_n hx hb dX4_pairOf_20 rfl (lv_at hl 1 rfl) ?_
      refine va_get (D := g) (ci := 4) (v := .ref ld_who) (C := RX4) (T := TX4) (N := 15) hx hb hts iX4 hown hK hP 0 rfl rfl 13 (by decide) (hts (.fieldLink RX4 30 "CardsAtYule$Land" "who" "[I") (List.mem_cons_of_mem _ (List.mem_append_left _ (List.mem_of_getElem? (i := 1) rfl)))) (fun _ h9 => h9) rfl dX4_pairOf_21 ?_
      refine lv_iconst (v := 2) hx hb dX4_pairOf_24 (by decide) ?_
      refine lv_iload_n hx hb dX4_pairOf_25 rfl (lv_at hl 4 rfl) ?_
      refine lv_imul hx hb dX4_pairOf_26 ?_
      refine lv_topi (fun y26 e26 => ?_)
      have q26 : y26.toInt = 2 * j2_l3.toInt := by rw [e26]; exact mu_z rfl rfl (ir_c 2) r7a (by decide) (by decide) (by decide)
      have r26 : ir y26.toInt 0 30 := mu_r q26 (ir_c 2) r7a (by decide) (by decide) (by decide) (by decide)
      refine lv_iconst (v := 1) hx hb dX4_pairOf_27 (by decide) ?_
      refine lv_iadd hx hb dX4_pairOf_28 ?_
      refine lv_topi (fun y28 e28 => ?_)
      have q28 : y28.toInt = y26.toInt + 1 := by rw [e28]; exact ad_z rfl rfl r26 (ir_c 1) (by decide) (by decide)
      have r28 : ir y28.toInt 1 31 := ad_r q28 r26 (ir_c 1) (by decide) (by decide)
      refine va_iald (D := g) hx hb hK hP 1 0 rfl rfl (vi_rg rfl r28 (by decide) (by decide)) dX4_pairOf_29 ?_
      refine lv_topi (fun y29 e29 => ?_)
      have r29 : ir y29.toInt 0 9 := by rw [e29]; exact ha_ld_who_c _ (vi_cl (vi_rg rfl r28 (by decide) (by decide)))
      refine lv_istore (lv' := [(5, .int y29), (4, .int y17), (0, .ref ld), (1, .int p0), (2, .int p1), (3, .int j2_l3)]) hx hb dX4_pairOf_30 hl (by decide) rfl (fun ls hl => ?_)
      refine lv_iload hx hb dX4_pairOf_32 (lv_at hl 1 rfl) ?_
      refine lv_iload_n hx hb dX4_pairOf_34 rfl (lv_at hl 3 rfl) ?_
      have J44 : ∀  (H : Heap) (locs : List Loc) (ls : Array Slot), va_P g vwCl [(ld, .inr (4, [.int ld_lines, .int ld_years, .int ld_card, .int ld_hurt, .int ld_people, .int ld_pairs, .long ld_strikes, .ref ld_rule, .ref ld_returns, .ref ld_forgets, .ref ld_death, .ref ld_move, .ref ld_begun, .ref ld_who, .ref ld_lost])), (ld_who, .inl (cI, 32, .inl ld_who_c))] H → va_S A s.heap H locs → lv_has ls 6 [(0, .ref ld), (1, .int p0), (2, .int p1), (3, .int j2_l3), (4, .int y17), (5, .int y29)] → W p l e (headSpec v_X4_pairOf ({ frames := 0, cells := 0, slots := 0, locals := 0 })).room s m av below meth c H locs 0 0 QQ (F0 m 44 ls []) := by
        intro  H locs ls  hP hS hl
        refine lv_iload hx hb dX4_pairOf_44 (lv_at hl 4 rfl) ?_
        refine lv_iload_n hx hb dX4_pairOf_46 rfl (lv_at hl 2 rfl) ?_
        have J58 : ∀  (H : Heap) (locs : List Loc) (ls : Array Slot), va_P g vwCl [(ld, .inr (4, [.int ld_lines, .int ld_years, .int ld_card, .int ld_hurt, .int ld_people, .int ld_pairs, .long ld_strikes, .ref ld_rule, .ref ld_returns, .ref ld_forgets, .ref ld_death, .ref ld_move, .ref ld_begun, .ref ld_who, .ref ld_lost])), (ld_who, .inl (cI, 32, .inl ld_who_c))] H → va_S A s.heap H locs → lv_has ls 6 [(0, .ref ld), (1, .int p0), (2, .int p1), (3, .int j2_l3)] → W p l e (headSpec v_X4_pairOf ({ frames := 0, cells := 0, slots := 0, locals := 0 })).room s m av below meth c H locs 0 0 QQ (F0 m 58 ls []) := by
          intro  H locs ls  hP hS hl
          obtain ⟨y58, e58⟩ : ∃ y : Int32, y = j2_l3 + 1 := ⟨_, rfl⟩
          have q58 : y58.toInt = j2_l3.toInt + 1 := by rw [e58]; exact ad_z rfl rfl r7a (ir_c 1) (by decide) (by decide)
          have r58 : ir y58.toInt 1 16 := ad_r q58 r7a (ir_c 1) (by decide) (by decide)
          refine lv_iinc (v := y58) (lv' := [(3, .int y58), (0, .ref ld), (1, .int p0), (2, .int p1)]) hx hb dX4_pairOf_58 hl (k := 3) rfl e58.symm (by decide) rfl (fun ls hl => ?_)
          refine lv_goto (tgt := 2) hx hb dX4_pairOf_61 (by decide) ?_
          exact ih2 y58 _ _ _ (by omega) (ir_w r58 (by decide) (by decide)) (hP.sub [0, 1] rfl) hS (lv_sub hl [1, 2, 3, 0] rfl)
        refine lv_icmp_ne (tgt := 58) hx hb dX4_pairOf_47 (by decide) (fun c47 => ?_) (fun c47 => ?_)
        · have f47 := (show y17.toInt ≠ p1.toInt from z_ne rfl rfl c47)
          exact J58  _ _ _  (hP.sub [0, 1] rfl) hS (lv_sub hl [0, 1, 2, 3] rfl)
        have f47 := (show y17.toInt = p1.toInt from z_eq rfl rfl c47)
        have r47b : ir p1.toInt 0 9 := ir_eqb f47 r17 (rg_all p1) (by decide) (by decide)
        refine lv_iload hx hb dX4_pairOf_50 (lv_at hl 5 rfl) ?_
        refine lv_iload_n hx hb dX4_pairOf_52 rfl (lv_at hl 1 rfl) ?_
        refine lv_icmp_ne (tgt := 58) hx hb dX4_pairOf_53 (by decide) (fun c53 => ?_) (fun c53 => ?_)
        · have f53 := (show y29.toInt ≠ p0.toInt from z_ne rfl rfl c53)
          exact J58  _ _ _  (hP.sub [0, 1] rfl) hS (lv_sub hl [0, 1, 2, 3] rfl)
        have f53 := (show y29.toInt = p0.toInt from z_eq rfl rfl c53)
        have r53b : ir p0.toInt 0 9 := ir_eqb f53 r29 (rg_all p0) (by decide) (by decide)
        refine lv_iload_n hx hb dX4_pairOf_56 rfl (lv_at hl 3 rfl) ?_
        subst hQ
        exact W.iret (v := j2_l3) hx hb hr (fun t ht hW => ⟨⟨j2_l3, (), rfl, (ir_w r7a (by decide) (by decide)), trivial⟩, hS.F ht⟩) hS.2.2 dX4_pairOf_57
      refine lv_icmp_ne (tgt := 44) hx hb dX4_pairOf_35 (by decide) (fun c35 => ?_) (fun c35 => ?_)
      · have f35 := (show y17.toInt ≠ p0.toInt from z_ne rfl rfl c35)
        exact J44  _ _ _  (hP.sub [0, 1] rfl) hS (lv_sub hl [2, 3, 4, 5, 1, 0] rfl)
      have f35 := (show y17.toInt = p0.toInt from z_eq rfl rfl c35)
      have r35b : ir p0.toInt 0 9 := ir_eqb f35 r17 (rg_all p0) (by decide) (by decide)
      refine lv_iload hx hb dX4_pairOf_38 (lv_at hl 0 rfl) ?_
      refine lv_iload_n hx hb dX4_pairOf_40 rfl (lv_at hl 4 rfl) ?_
      refine lv_icmp_eq (tgt := 56) hx hb dX4_pairOf_41 (by decide) (fun c41 => ?_) (fun c41 => ?_)
      rotate_left 1
      · have f41 := (show y29.toInt ≠ p1.toInt from z_ne rfl rfl c41)
        exact J44  _ _ _  (hP.sub [0, 1] rfl) hS (lv_sub hl [2, 3, 4, 5, 1, 0] rfl)
      have f41 := (show y29.toInt = p1.toInt from z_eq rfl rfl c41)
      have r41b : ir p1.toInt 0 9 := ir_eqb f41 r29 (rg_all p1) (by decide) (by decide)
      refine lv_iload_n hx hb dX4_pairOf_56 rfl (lv_at hl 5 rfl) ?_
      subst hQ
      exact W.iret (v := j2_l3) hx hb hr (fun t ht hW => ⟨⟨j2_l3, (), rfl, (ir_w r7a (by decide) (by decide)), trivial⟩, hS.F ht⟩) hS.2.2 dX4_pairOf_57
  exact J2 _ 0 _ _ _ (Nat.lt_succ_self _) (by decide) (hP.sub [0, 1] rfl) hS (lv_sub hl [1, 2, 3, 0] rfl)
def v_X4_ruleOfSide : List Cond := .code yX4_ruleOfSide cX4_ruleOfSide 4 (some .int) :: (([.fieldLink RX4 30 "CardsAtYule$Land" "who" "[I", .fieldLink RX4 9 "CardsAtYule$Land" "rule" "[I", .fieldLink RX4 15 "CardsAtYule$Land" "returns" "[I"] : List Cond) ++ (wsX40 ++ ([] : List Cond)))
theorem good_v_X4_ruleOfSide : v_X4_ruleOfSide.all goodWord = true := ga_c (by decide +kernel) (ga_a (by decide +kernel) (ga_a good_wsX40 rfl))
set_option maxHeartbeats 4000000 in
set_option maxRecDepth 100000 in
theorem q_X4_ruleOfSide (l : Launch) (g : va_G) (cI cJ cB cZ cL : ClassId) (p0 : Int32) (p1 : Int32) (ld : Nat) (ld_lines : Int32) (ld_years : Int32) (ld_card : Int32) (ld_hurt : Int32) (ld_people : Int32) (ld_pairs : Int32) (ld_strikes : Int64) (ld_rule : Nat) (ld_returns : Nat) (ld_forgets : Nat) (ld_death : Nat) (ld_move : Nat) (ld_begun : Nat) (ld_who : Nat) (ld_lost : Nat) (ld_who_c : Nat → Int32) (ld_rule_c : Nat → Int32) (ld_returns_c : Nat → Int32) (sz : Nat) (hv_p0 : ir p0.toInt 0 15) (hv_p1 : ir p1.toInt 0 1) (hv_ld_years : ir ld_years.toInt 0 40) (hv_ld_people : ir ld_people.toInt 0 10) (hv_ld_pairs : ir ld_pairs.toInt 0 16) (ha_ld_who_c : ar ld_who_c 32 0 9) : Met l yX4_ruleOfSide v_X4_ruleOfSide ({ frames := 0, cells := 0, slots := 0, locals := 0 }) (va_Pc [.ref ld, .int p0, .int p1] (pRO g (tyT cI cJ cB cZ cL) [(ld, .inr (4, [.int ld_lines, .int ld_years, .int ld_card, .int ld_hurt, .int ld_people, .int ld_pairs, .long ld_strikes, .ref ld_rule, .ref ld_returns, .ref ld_forgets, .ref ld_death, .ref ld_move, .ref ld_begun, .ref ld_who, .ref ld_lost])), (ld_who, .inl (cI, 32, .inl ld_who_c)), (ld_rule, .inl (cI, 10, .inl ld_rule_c)), (ld_returns, .inl (cI, 10, .inl ld_returns_c))] sz)) (va_Qi (fun (r : Int32) (u : Unit) => True) (fun (_ : Unit) (_ : State) => True) (va_A [] sz)) 0 0 (va_A [] sz) := by
  refine Met.ofW (cc := cX4_ruleOfSide) (maxL := 4) (ret := (some .int)) (by decide) rfl ?_
  intro p e s m args below meth c s₁ B hml hv
  obtain ⟨rfl, hsz, hP, hK⟩ := hv
  have hx := B.exec
  have hb := B.bytes
  have hr := B.returns
  have hts := atoms_spec (ws := v_X4_ruleOfSide) B.pre
  have hown : s.vm.findClass RX4 = some m.cls := findClass_of_methodNamed B.named
  have hlocks := B.notSynchronized
  clear B
  subst hsz
  have iX4 : ∀ w ∈ wsX40, w ∈ v_X4_ruleOfSide := (fun _ h => List.mem_cons_of_mem _ (List.mem_append_right _ (List.mem_append_left _ h)))
  generalize hAe : (va_A [] s.heap.size) = A
  have hA : ∀ q : Nat, s.heap.size ≤ q → A q := fun q h => by rw [← hAe]; exact Or.inr h
  have hS : va_S A s.heap s.heap [] := va_S.rf
  have hl := lv_entry ([.ref ld, .int p0, .int p1]) (n := 4) (Nat.le_of_ble_eq_true rfl)
  rw [lg_entry_eq]
  generalize (lg_sl ([.ref ld, .int p0, .int p1]) ++ List.replicate (4 - (lg_sl ([.ref ld, .int p0, .int p1])).length) Slot.unset).toArray = ls at hl ⊢
  generalize ([.ref ld, .int p0, .int p1] : List Value).toArray = av at hts ⊢
  generalize hQ : MQ below _ av s _ _ A = QQ
  have hl : lv_has ls 4 [(0, .ref ld), (1, .int p0), (2, .int p1)] := hl
  have hP : va_P g vwCl [(ld, .inr (4, [.int ld_lines, .int ld_years, .int ld_card, .int ld_hurt, .int ld_people, .int ld_pairs, .long ld_strikes, .ref ld_rule, .ref ld_returns, .ref ld_forgets, .ref ld_death, .ref ld_move, .ref ld_begun, .ref ld_who, .ref ld_lost])), (ld_who, .inl (cI, 32, .inl ld_who_c)), (ld_rule, .inl (cI, 10, .inl ld_rule_c)), (ld_returns, .inl (cI, 10, .inl ld_returns_c))] s.heap := hP
  refine lv_aload_n hx hb dX4_ruleOfSide_0 rfl (lv_at hl 0 rfl) ?_
  refine va_get (D := g) (ci := 4) (v := .ref ld_who) (C := RX4) (T := TX4) (N := 15) hx hb hts iX4 hown hK hP 0 rfl rfl 13 (by decide) (hts (.fieldLink RX4 30 "CardsAtYule$Land" "who" "[I") (List.mem_cons_of_mem _ (List.mem_append_left _ (List.mem_of_getElem? (i := 0) rfl)))) (fun _ h9 => h9) rfl dX4_ruleOfSide_1 ?_
  refine lv_iconst (v := 2) hx hb dX4_ruleOfSide_4 (by decide) ?_
  refine lv_iload_n hx hb dX4_ruleOfSide_5 rfl (lv_at hl 1 rfl) ?_
  refine lv_imul hx hb dX4_ruleOfSide_6 ?_
  refine lv_topi (fun y6 e6 => ?_)
  have q6 : y6.toInt = 2 * p0.toInt := by rw [e6]; exact mu_z rfl rfl (ir_c 2) hv_p0 (by decide) (by decide) (by decide)
  have r6 : ir y6.toInt 0 30 := mu_r q6 (ir_c 2) hv_p0 (by decide) (by decide) (by decide) (by decide)
  refine lv_iload_n hx hb dX4_ruleOfSide_7 rfl (lv_at hl 2 rfl) ?_
  refine lv_iadd hx hb dX4_ruleOfSide_8 ?_
  refine lv_topi (fun y8 e8 => ?_)
  have q8 : y8.toInt = y6.toInt + p1.toInt := by rw [e8]; exact ad_z rfl rfl r6 hv_p1 (by decide) (by decide)
  have r8 : ir y8.toInt 0 31 := ad_r q8 r6 hv_p1 (by decide) (by decide)
  refine va_iald (D := g) hx hb hK hP 1 0 rfl rfl (vi_rg rfl r8 (by decide) (by decide)) dX4_ruleOfSide_9 ?_
  refine lv_topi (fun y9 e9 => ?_)
  have r9 : ir y9.toInt 0 9 := by rw [e9]; exact ha_ld_who_c _ (vi_cl (vi_rg rfl r8 (by decide) (by decide)))
  refine lv_istore_n (lv' := [(3, .int y9), (0, .ref ld), (1, .int p0), (2, .int p1)]) hx hb dX4_ruleOfSide_10 rfl hl (by decide) rfl (fun ls hl => ?_)
  refine lv_aload_n hx hb dX4_ruleOfSide_11 rfl (lv_at hl 1 rfl) ?_
  refine va_get (D := g) (ci := 4) (v := .ref ld_rule) (C := RX4) (T := TX4) (N := 15) hx hb hts iX4 hown hK hP 0 rfl rfl 7 (by decide) (hts (.fieldLink RX4 9 "CardsAtYule$Land" "rule" "[I") (List.mem_cons_of_mem _ (List.mem_append_left _ (List.mem_of_getElem? (i := 1) rfl)))) (fun _ h9 => h9) rfl dX4_ruleOfSide_12 ?_
  refine lv_iload_n hx hb dX4_ruleOfSide_15 rfl (lv_at hl 0 rfl) ?_
  refine va_iald (D := g) hx hb hK hP 2 0 rfl rfl (vi_rg rfl r9 (by decide) (by decide)) dX4_ruleOfSide_16 ?_
  refine lv_topi (fun y16 e16 => ?_)
  refine lv_bipush (v := 16) hx hb dX4_ruleOfSide_17 (by decide) ?_
  refine lv_aload_n hx hb dX4_ruleOfSide_19 rfl (lv_at hl 1 rfl) ?_
  refine va_get (D := g) (ci := 4) (v := .ref ld_returns) (C := RX4) (T := TX4) (N := 15) hx hb hts iX4 hown hK hP 0 rfl rfl 8 (by decide) (hts (.fieldLink RX4 15 "CardsAtYule$Land" "returns" "[I") (List.mem_cons_of_mem _ (List.mem_append_left _ (List.mem_of_getElem? (i := 2) rfl)))) (fun _ h9 => h9) rfl dX4_ruleOfSide_20 ?_
  refine lv_iload_n hx hb dX4_ruleOfSide_23 rfl (lv_at hl 0 rfl) ?_
  refine va_iald (D := g) hx hb hK hP 3 0 rfl rfl (vi_rg rfl r9 (by decide) (by decide)) dX4_ruleOfSide_24 ?_
  refine lv_topi (fun y24 e24 => ?_)
  refine lv_imul hx hb dX4_ruleOfSide_25 ?_
  refine lv_topi (fun y25 e25 => ?_)
  refine lv_iadd hx hb dX4_ruleOfSide_26 ?_
  refine lv_topi (fun y26 e26 => ?_)
  subst hQ
  exact W.iret (v := y26) hx hb hr (fun t ht hW => ⟨⟨y26, (), rfl, trivial, trivial⟩, hS.F ht⟩) hS.2.2 dX4_ruleOfSide_27
def v_X4_lostCards : List Cond := .code yX4_lostCards cX4_lostCards 3 (some .int) :: (([.fieldLink RX4 53 "CardsAtYule$Land" "pairs" "I", .fieldLink RX4 33 "CardsAtYule$Land" "lost" "[J", .methodLink RX4 72 yJ13_bitCount_95d88, .static yJ13_bitCount_95d88, .initialized RJ13] : List Cond) ++ (v_J13_bitCount_95d88 ++ (wsX40 ++ ([] : List Cond))))
theorem good_v_X4_lostCards : v_X4_lostCards.all goodWord = true := ga_c (by decide +kernel) (ga_a (by decide +kernel) (ga_a good_v_J13_bitCount_95d88 (ga_a good_wsX40 rfl)))
set_option maxHeartbeats 4000000 in
set_option maxRecDepth 100000 in
theorem q_X4_lostCards (l : Launch) (g : va_G) (cI cJ cB cZ cL : ClassId) (ld : Nat) (ld_lines : Int32) (ld_years : Int32) (ld_card : Int32) (ld_hurt : Int32) (ld_people : Int32) (ld_pairs : Int32) (ld_strikes : Int64) (ld_rule : Nat) (ld_returns : Nat) (ld_forgets : Nat) (ld_death : Nat) (ld_move : Nat) (ld_begun : Nat) (ld_who : Nat) (ld_lost : Nat) (ld_lost_c : Nat → Int64) (sz : Nat) (hv_ld_years : ir ld_years.toInt 0 40) (hv_ld_people : ir ld_people.toInt 0 10) (hv_ld_pairs : ir ld_pairs.toInt 0 16) : Met l yX4_lostCards v_X4_lostCards ({ frames := 1, cells := 0, slots := 0, locals := 21 }) (va_Pc [.ref ld] (pRO g (tyT cI cJ cB cZ cL) [(ld, .inr (4, [.int ld_lines, .int ld_years, .int ld_card, .int ld_hurt, .int ld_people, .int ld_pairs, .long ld_strikes, .ref ld_rule, .ref ld_returns, .ref ld_forgets, .ref ld_death, .ref ld_move, .ref ld_begun, .ref ld_who, .ref ld_lost])), (ld_lost, .inl (cJ, 32, .inr (.inl ld_lost_c)))] sz)) (va_Qi (fun (r : Int32) (u : Unit) => True) (fun (_ : Unit) (_ : State) => True) (va_A [] sz)) 0 0 (va_A [] sz) := by
  refine Met.ofW (cc := cX4_lostCards) (maxL := 3) (ret := (some .int)) (by decide) rfl ?_
  intro p e s m args below meth c s₁ B hml hv
  obtain ⟨rfl, hsz, hP, hK⟩ := hv
  have hx := B.exec
  have hb := B.bytes
  have hr := B.returns
  have hts := atoms_spec (ws := v_X4_lostCards) B.pre
  have hown : s.vm.findClass RX4 = some m.cls := findClass_of_methodNamed B.named
  have hlocks := B.notSynchronized
  clear B
  subst hsz
  have iX4 : ∀ w ∈ wsX40, w ∈ v_X4_lostCards := (fun _ h => List.mem_cons_of_mem _ (List.mem_append_right _ (List.mem_append_right _ (List.mem_append_left _ h))))
  generalize hAe : (va_A [] s.heap.size) = A
  have hA : ∀ q : Nat, s.heap.size ≤ q → A q := fun q h => by rw [← hAe]; exact Or.inr h
  have hS : va_S A s.heap s.heap [] := va_S.rf
  have hl := lv_entry ([.ref ld]) (n := 3) (Nat.le_of_ble_eq_true rfl)
  rw [lg_entry_eq]
  generalize (lg_sl ([.ref ld]) ++ List.replicate (3 - (lg_sl ([.ref ld])).length) Slot.unset).toArray = ls at hl ⊢
  generalize ([.ref ld] : List Value).toArray = av at hts ⊢
  generalize hQ : MQ below _ av s _ _ A = QQ
  have hl : lv_has ls 3 [(0, .ref ld)] := hl
  have hP : va_P g vwCl [(ld, .inr (4, [.int ld_lines, .int ld_years, .int ld_card, .int ld_hurt, .int ld_people, .int ld_pairs, .long ld_strikes, .ref ld_rule, .ref ld_returns, .ref ld_forgets, .ref ld_death, .ref ld_move, .ref ld_begun, .ref ld_who, .ref ld_lost])), (ld_lost, .inl (cJ, 32, .inr (.inl ld_lost_c)))] s.heap := hP
  refine lv_iconst (v := 0) hx hb dX4_lostCards_0 (by decide) ?_
  refine lv_istore_n (lv' := [(1, .int 0), (0, .ref ld)]) hx hb dX4_lostCards_1 rfl hl (by decide) rfl (fun ls hl => ?_)
  refine lv_iconst (v := 0) hx hb dX4_lostCards_2 (by decide) ?_
  refine lv_istore_n (lv' := [(2, .int 0), (1, .int 0), (0, .ref ld)]) hx hb dX4_lostCards_3 rfl hl (by decide) rfl (fun ls hl => ?_)
  have J4 : ∀ (n4 : Nat) (j4_l1 : Int32) (j4_l2 : Int32) (H : Heap) (locs : List Loc) (ls : Array Slot), (33 - j4_l2.toInt).toNat < n4 → (ir j4_l2.toInt 0 32) → va_P g vwCl [(ld, .inr (4, [.int ld_lines, .int ld_years, .int ld_card, .int ld_hurt, .int ld_people, .int ld_pairs, .long ld_strikes, .ref ld_rule, .ref ld_returns, .ref ld_forgets, .ref ld_death, .ref ld_move, .ref ld_begun, .ref ld_who, .ref ld_lost])), (ld_lost, .inl (cJ, 32, .inr (.inl ld_lost_c)))] H → va_S A s.heap H locs → lv_has ls 3 [(0, .ref ld), (1, .int j4_l1), (2, .int j4_l2)] → W p l e (headSpec v_X4_lostCards ({ frames := 1, cells := 0, slots := 0, locals := 21 })).room s m av below meth c H locs 0 0 QQ (F0 m 4 ls []) := by
    intro n4
    induction n4 with
    | zero => exact fun j4_l1 j4_l2 H locs ls hn => absurd hn (Nat.not_lt_zero _)
    | succ n4 ih4 =>
      intro j4_l1 j4_l2 H locs ls hn4 hj4_l2 hP hS hl
      refine lv_iload_n hx hb dX4_lostCards_4 rfl (lv_at hl 2 rfl) ?_
      refine lv_iconst (v := 2) hx hb dX4_lostCards_5 (by decide) ?_
      refine lv_aload_n hx hb dX4_lostCards_6 rfl (lv_at hl 0 rfl) ?_
      refine va_get (D := g) (ci := 4) (v := .int ld_pairs) (C := RX4) (T := TX4) (N := 15) hx hb hts iX4 hown hK hP 0 rfl rfl 5 (by decide) (hts (.fieldLink RX4 53 "CardsAtYule$Land" "pairs" "I") (List.mem_cons_of_mem _ (List.mem_append_left _ (List.mem_of_getElem? (i := 0) rfl)))) (fun _ h9 => h9) rfl dX4_lostCards_7 ?_
      refine lv_imul hx hb dX4_lostCards_10 ?_
      refine lv_topi (fun y10 e10 => ?_)
      have q10 : y10.toInt = 2 * ld_pairs.toInt := by rw [e10]; exact mu_z rfl rfl (ir_c 2) hv_ld_pairs (by decide) (by decide) (by decide)
      have r10 : ir y10.toInt 0 32 := mu_r q10 (ir_c 2) hv_ld_pairs (by decide) (by decide) (by decide) (by decide)
      refine lv_icmp_ge (tgt := 32) hx hb dX4_lostCards_11 (by decide) (fun c11 => ?_) (fun c11 => ?_)
      · have f11 := (show y10.toInt ≤ j4_l2.toInt from z_le rfl rfl c11)
        refine lv_iload_n hx hb dX4_lostCards_32 rfl (lv_at hl 1 rfl) ?_
        subst hQ
        exact W.iret (v := j4_l1) hx hb hr (fun t ht hW => ⟨⟨j4_l1, (), rfl, trivial, trivial⟩, hS.F ht⟩) hS.2.2 dX4_lostCards_33
      have f11 := (show j4_l2.toInt < y10.toInt from z_nle rfl rfl c11)
      have r11a : ir j4_l2.toInt 0 31 := ir_lta f11 hj4_l2 r10 (by decide)
      have r11b : ir y10.toInt 1 32 := ir_ltb f11 hj4_l2 r10 (by decide)
      refine lv_iload_n hx hb dX4_lostCards_14 rfl (lv_at hl 1 rfl) ?_
      refine lv_aload_n hx hb dX4_lostCards_15 rfl (lv_at hl 0 rfl) ?_
      refine va_get (D := g) (ci := 4) (v := .ref ld_lost) (C := RX4) (T := TX4) (N := 15) hx hb hts iX4 hown hK hP 0 rfl rfl 14 (by decide) (hts (.fieldLink RX4 33 "CardsAtYule$Land" "lost" "[J") (List.mem_cons_of_mem _ (List.mem_append_left _ (List.mem_of_getElem? (i := 1) rfl)))) (fun _ h9 => h9) rfl dX4_lostCards_16 ?_
      refine lv_iload_n hx hb dX4_lostCards_19 rfl (lv_at hl 2 rfl) ?_
      refine va_lald (D := g) hx hb hK hP 1 1 rfl rfl (vi_rg rfl r11a (by decide) (by decide)) dX4_lostCards_20 ?_
      refine lv_topl (fun y20 e20 => ?_)
      refine ro_i (va_runS (As := [.long y20]) (rest := [.int j4_l1]) ⟨hx, hb, hml, hown, hts⟩ (q_J13_bitCount_95d88 l g cI cJ cB cZ cL y20 H.size ) (va_cwS 1 hts (goodIn_app (g_3 (List.mem_cons_of_mem _ (List.mem_append_left _ (List.mem_of_getElem? (i := 2) rfl))) (List.mem_cons_of_mem _ (List.mem_append_left _ (List.mem_of_getElem? (i := 3) rfl))) (List.mem_cons_of_mem _ (List.mem_append_left _ (List.mem_of_getElem? (i := 4) rfl))) (by decide +kernel)) (goodIn_sub (fun _ h => List.mem_cons_of_mem _ (List.mem_append_right _ (List.mem_append_left _ h))) good_v_J13_bitCount_95d88)) rfl rfl rfl (by decide +kernel) ⟨Nat.le_of_ble_eq_true rfl, Nat.le_of_ble_eq_true rfl⟩) (ps_RO (wc := []) hK hP [] rfl) rfl rfl hl.1 rfl (lv_room (Nat.le_of_ble_eq_true rfl)) dX4_lostCards_21 ⟨Nat.le_of_ble_eq_true rfl, Nat.le_of_ble_eq_true rfl⟩) hS hA hP (fun r21 u21 H locs hw21 hP hS => ?_)
      have hw21_0 := hw21
      refine lv_iadd hx hb dX4_lostCards_24 ?_
      refine lv_topi (fun y24 e24 => ?_)
      refine lv_istore_n (lv' := [(1, .int y24), (0, .ref ld), (2, .int j4_l2)]) hx hb dX4_lostCards_25 rfl hl (by decide) rfl (fun ls hl => ?_)
      obtain ⟨y26, e26⟩ : ∃ y : Int32, y = j4_l2 + 1 := ⟨_, rfl⟩
      have q26 : y26.toInt = j4_l2.toInt + 1 := by rw [e26]; exact ad_z rfl rfl r11a (ir_c 1) (by decide) (by decide)
      have r26 : ir y26.toInt 1 32 := ad_r q26 r11a (ir_c 1) (by decide) (by decide)
      refine lv_iinc (v := y26) (lv' := [(2, .int y26), (1, .int y24), (0, .ref ld)]) hx hb dX4_lostCards_26 hl (k := 2) rfl e26.symm (by decide) rfl (fun ls hl => ?_)
      refine lv_goto (tgt := 4) hx hb dX4_lostCards_29 (by decide) ?_
      exact ih4 y24 y26 _ _ _ (by omega) (ir_w r26 (by decide) (by decide)) (hP.sub [0, 1] rfl) hS (lv_sub hl [2, 1, 0] rfl)
  exact J4 _ 0 0 _ _ _ (Nat.lt_succ_self _) (by decide) (hP.sub [0, 1] rfl) hS (lv_sub hl [2, 1, 0] rfl)
def v_X4_livingYears : List Cond := .code yX4_livingYears cX4_livingYears 2 (some .long) :: (([.fieldLink RX4 21 "CardsAtYule$Land" "death" "[I", .fieldLink RX4 41 "CardsAtYule$Land" "years" "I"] : List Cond) ++ (wsX40 ++ ([] : List Cond)))
theorem good_v_X4_livingYears : v_X4_livingYears.all goodWord = true := ga_c (by decide +kernel) (ga_a (by decide +kernel) (ga_a good_wsX40 rfl))
set_option maxHeartbeats 4000000 in
set_option maxRecDepth 100000 in
theorem q_X4_livingYears (l : Launch) (g : va_G) (cI cJ cB cZ cL : ClassId) (p0 : Int32) (ld : Nat) (ld_lines : Int32) (ld_years : Int32) (ld_card : Int32) (ld_hurt : Int32) (ld_people : Int32) (ld_pairs : Int32) (ld_strikes : Int64) (ld_rule : Nat) (ld_returns : Nat) (ld_forgets : Nat) (ld_death : Nat) (ld_move : Nat) (ld_begun : Nat) (ld_who : Nat) (ld_lost : Nat) (ld_death_c : Nat → Int32) (sz : Nat) (hv_p0 : ir p0.toInt 0 9) (hv_ld_years : ir ld_years.toInt 0 40) (hv_ld_people : ir ld_people.toInt 0 10) (hv_ld_pairs : ir ld_pairs.toInt 0 16) : Met l yX4_livingYears v_X4_livingYears ({ frames := 0, cells := 0, slots := 0, locals := 0 }) (va_Pc [.ref ld, .int p0] (pRO g (tyT cI cJ cB cZ cL) [(ld, .inr (4, [.int ld_lines, .int ld_years, .int ld_card, .int ld_hurt, .int ld_people, .int ld_pairs, .long ld_strikes, .ref ld_rule, .ref ld_returns, .ref ld_forgets, .ref ld_death, .ref ld_move, .ref ld_begun, .ref ld_who, .ref ld_lost])), (ld_death, .inl (cI, 10, .inl ld_death_c))] sz)) (va_Ql (fun (r : Int64) (u : Unit) => True) (fun (_ : Unit) (_ : State) => True) (va_A [] sz)) 0 0 (va_A [] sz) := by
  refine Met.ofW (cc := cX4_livingYears) (maxL := 2) (ret := (some .long)) (by decide) rfl ?_
  intro p e s m args below meth c s₁ B hml hv
  obtain ⟨rfl, hsz, hP, hK⟩ := hv
  have hx := B.exec
  have hb := B.bytes
  have hr := B.returns
  have hts := atoms_spec (ws := v_X4_livingYears) B.pre
  have hown : s.vm.findClass RX4 = some m.cls := findClass_of_methodNamed B.named
  have hlocks := B.notSynchronized
  clear B
  subst hsz
  have iX4 : ∀ w ∈ wsX40, w ∈ v_X4_livingYears := (fun _ h => List.mem_cons_of_mem _ (List.mem_append_right _ (List.mem_append_left _ h)))
  generalize hAe : (va_A [] s.heap.size) = A
  have hA : ∀ q : Nat, s.heap.size ≤ q → A q := fun q h => by rw [← hAe]; exact Or.inr h
  have hS : va_S A s.heap s.heap [] := va_S.rf
  have hl := lv_entry ([.ref ld, .int p0]) (n := 2) (Nat.le_of_ble_eq_true rfl)
  rw [lg_entry_eq]
  generalize (lg_sl ([.ref ld, .int p0]) ++ List.replicate (2 - (lg_sl ([.ref ld, .int p0])).length) Slot.unset).toArray = ls at hl ⊢
  generalize ([.ref ld, .int p0] : List Value).toArray = av at hts ⊢
  generalize hQ : MQ below _ av s _ _ A = QQ
  have hl : lv_has ls 2 [(0, .ref ld), (1, .int p0)] := hl
  have hP : va_P g vwCl [(ld, .inr (4, [.int ld_lines, .int ld_years, .int ld_card, .int ld_hurt, .int ld_people, .int ld_pairs, .long ld_strikes, .ref ld_rule, .ref ld_returns, .ref ld_forgets, .ref ld_death, .ref ld_move, .ref ld_begun, .ref ld_who, .ref ld_lost])), (ld_death, .inl (cI, 10, .inl ld_death_c))] s.heap := hP
  refine lv_lconst (v := 1) hx hb dX4_livingYears_0 (by decide) ?_
  refine lv_aload_n hx hb dX4_livingYears_1 rfl (lv_at hl 0 rfl) ?_
  refine va_get (D := g) (ci := 4) (v := .ref ld_death) (C := RX4) (T := TX4) (N := 15) hx hb hts iX4 hown hK hP 0 rfl rfl 10 (by decide) (hts (.fieldLink RX4 21 "CardsAtYule$Land" "death" "[I") (List.mem_cons_of_mem _ (List.mem_append_left _ (List.mem_of_getElem? (i := 0) rfl)))) (fun _ h9 => h9) rfl dX4_livingYears_2 ?_
  refine lv_iload_n hx hb dX4_livingYears_5 rfl (lv_at hl 1 rfl) ?_
  refine va_iald (D := g) hx hb hK hP 1 0 rfl rfl (vi_rg rfl hv_p0 (by decide) (by decide)) dX4_livingYears_6 ?_
  refine lv_topi (fun y6 e6 => ?_)
  refine lv_iconst (v := (-1)) hx hb dX4_livingYears_7 (by decide) ?_
  refine lv_icmp_ne (tgt := 18) hx hb dX4_livingYears_8 (by decide) (fun c8 => ?_) (fun c8 => ?_)
  rotate_left 1
  · have f8 := (show y6.toInt = (-1) from z_eq rfl rfl c8)
    have r8a : ir y6.toInt (-1) (-1) := ir_eqa f8 (rg_all y6) (ir_c (-1)) (by decide) (by decide)
    refine lv_aload_n hx hb dX4_livingYears_11 rfl (lv_at hl 0 rfl) ?_
    refine va_get (D := g) (ci := 4) (v := .int ld_years) (C := RX4) (T := TX4) (N := 15) hx hb hts iX4 hown hK hP 0 rfl rfl 1 (by decide) (hts (.fieldLink RX4 41 "CardsAtYule$Land" "years" "I") (List.mem_cons_of_mem _ (List.mem_append_left _ (List.mem_of_getElem? (i := 1) rfl)))) (fun _ h9 => h9) rfl dX4_livingYears_12 ?_
    refine lv_goto (tgt := 24) hx hb dX4_livingYears_15 (by decide) ?_
    refine lv_lshl (v := (1 <<< (ld_years.toInt64 &&& 63))) hx hb dX4_livingYears_24 rfl ?_
    refine lv_topl (fun y24 e24 => ?_)
    refine lv_lconst (v := 1) hx hb dX4_livingYears_25 (by decide) ?_
    refine lv_lsub hx hb dX4_livingYears_26 ?_
    refine lv_topl (fun y26 e26 => ?_)
    subst hQ
    exact W.lret (v := y26) hx hb hr (fun t ht hW => ⟨⟨y26, (), rfl, trivial, trivial⟩, hS.F ht⟩) hS.2.2 dX4_livingYears_27
  have f8 := (show y6.toInt ≠ (-1) from z_ne rfl rfl c8)
  refine lv_aload_n hx hb dX4_livingYears_18 rfl (lv_at hl 0 rfl) ?_
  refine va_get (D := g) (ci := 4) (v := .ref ld_death) (C := RX4) (T := TX4) (N := 15) hx hb hts iX4 hown hK hP 0 rfl rfl 10 (by decide) (hts (.fieldLink RX4 21 "CardsAtYule$Land" "death" "[I") (List.mem_cons_of_mem _ (List.mem_append_left _ (List.mem_of_getElem? (i := 0) rfl)))) (fun _ h9 => h9) rfl dX4_livingYears_19 ?_
  refine lv_iload_n hx hb dX4_livingYears_22 rfl (lv_at hl 1 rfl) ?_
  refine va_iald (D := g) hx hb hK hP 1 0 rfl rfl (vi_rg rfl hv_p0 (by decide) (by decide)) dX4_livingYears_23 ?_
  refine lv_topi (fun y23 e23 => ?_)
  refine lv_lshl (v := (1 <<< (y23.toInt64 &&& 63))) hx hb dX4_livingYears_24 rfl ?_
  refine lv_topl (fun y24 e24 => ?_)
  refine lv_lconst (v := 1) hx hb dX4_livingYears_25 (by decide) ?_
  refine lv_lsub hx hb dX4_livingYears_26 ?_
  refine lv_topl (fun y26 e26 => ?_)
  subst hQ
  exact W.lret (v := y26) hx hb hr (fun t ht hW => ⟨⟨y26, (), rfl, trivial, trivial⟩, hS.F ht⟩) hS.2.2 dX4_livingYears_27
def v_X4_reachOf : List Cond := .code yX4_reachOf cX4_reachOf 6 (some .long) :: (([.fieldLink RX4 30 "CardsAtYule$Land" "who" "[I", .fieldLink RX4 24 "CardsAtYule$Land" "move" "[I", .methodLink RX4 78 yX4_livingYears, .instanceMethod yX4_livingYears, .selects RX4 yX4_livingYears yX4_livingYears, .initialized RX4, .constantLong RX4 82 (-1), .fieldLink RX4 56 "CardsAtYule$Land" "strikes" "J", .fieldLink RX4 33 "CardsAtYule$Land" "lost" "[J"] : List Cond) ++ (v_X4_livingYears ++ (wsX40 ++ ([] : List Cond))))
theorem good_v_X4_reachOf : v_X4_reachOf.all goodWord = true := ga_c (by decide +kernel) (ga_a (by decide +kernel) (ga_a good_v_X4_livingYears (ga_a good_wsX40 rfl)))
set_option maxHeartbeats 4000000 in
set_option maxRecDepth 100000 in
theorem q_X4_reachOf (l : Launch) (g : va_G) (cI cJ cB cZ cL : ClassId) (p0 : Int32) (p1 : Int32) (ld : Nat) (ld_lines : Int32) (ld_years : Int32) (ld_card : Int32) (ld_hurt : Int32) (ld_people : Int32) (ld_pairs : Int32) (ld_strikes : Int64) (ld_rule : Nat) (ld_returns : Nat) (ld_forgets : Nat) (ld_death : Nat) (ld_move : Nat) (ld_begun : Nat) (ld_who : Nat) (ld_lost : Nat) (ld_who_c : Nat → Int32) (ld_move_c : Nat → Int32) (ld_death_c : Nat → Int32) (ld_lost_c : Nat → Int64) (sz : Nat) (hv_p0 : ir p0.toInt 0 15) (hv_p1 : ir p1.toInt 0 1) (hv_ld_years : ir ld_years.toInt 0 40) (hv_ld_people : ir ld_people.toInt 0 10) (hv_ld_pairs : ir ld_pairs.toInt 0 16) (ha_ld_who_c : ar ld_who_c 32 0 9) : Met l yX4_reachOf v_X4_reachOf ({ frames := 1, cells := 0, slots := 0, locals := 21 }) (va_Pc [.ref ld, .int p0, .int p1] (pRO g (tyT cI cJ cB cZ cL) [(ld, .inr (4, [.int ld_lines, .int ld_years, .int ld_card, .int ld_hurt, .int ld_people, .int ld_pairs, .long ld_strikes, .ref ld_rule, .ref ld_returns, .ref ld_forgets, .ref ld_death, .ref ld_move, .ref ld_begun, .ref ld_who, .ref ld_lost])), (ld_who, .inl (cI, 32, .inl ld_who_c)), (ld_move, .inl (cI, 10, .inl ld_move_c)), (ld_death, .inl (cI, 10, .inl ld_death_c)), (ld_lost, .inl (cJ, 32, .inr (.inl ld_lost_c)))] sz)) (va_Ql (fun (r : Int64) (u : Unit) => True) (fun (_ : Unit) (_ : State) => True) (va_A [] sz)) 0 0 (va_A [] sz) := by
  refine Met.ofW (cc := cX4_reachOf) (maxL := 6) (ret := (some .long)) (by decide) rfl ?_
  intro p e s m args below meth c s₁ B hml hv
  obtain ⟨rfl, hsz, hP, hK⟩ := hv
  have hx := B.exec
  have hb := B.bytes
  have hr := B.returns
  have hts := atoms_spec (ws := v_X4_reachOf) B.pre
  have hown : s.vm.findClass RX4 = some m.cls := findClass_of_methodNamed B.named
  have hlocks := B.notSynchronized
  clear B
  subst hsz
  have iX4 : ∀ w ∈ wsX40, w ∈ v_X4_reachOf := (fun _ h => List.mem_cons_of_mem _ (List.mem_append_right _ (List.mem_append_right _ (List.mem_append_left _ h))))
  generalize hAe : (va_A [] s.heap.size) = A
  have hA : ∀ q : Nat, s.heap.size ≤ q → A q := fun q h => by rw [← hAe]; exact Or.inr h
  have hS : va_S A s.heap s.heap [] := va_S.rf
  have hl := lv_entry ([.ref ld, .int p0, .int p1]) (n := 6) (Nat.le_of_ble_eq_true rfl)
  rw [lg_entry_eq]
  generalize (lg_sl ([.ref ld, .int p0, .int p1]) ++ List.replicate (6 - (lg_sl ([.ref ld, .int p0, .int p1])).length) Slot.unset).toArray = ls at hl ⊢
  generalize ([.ref ld, .int p0, .int p1] : List Value).toArray = av at hts ⊢
  generalize hQ : MQ below _ av s _ _ A = QQ
  have hl : lv_has ls 6 [(0, .ref ld), (1, .int p0), (2, .int p1)] := hl
  have hP : va_P g vwCl [(ld, .inr (4, [.int ld_lines, .int ld_years, .int ld_card, .int ld_hurt, .int ld_people, .int ld_pairs, .long ld_strikes, .ref ld_rule, .ref ld_returns, .ref ld_forgets, .ref ld_death, .ref ld_move, .ref ld_begun, .ref ld_who, .ref ld_lost])), (ld_who, .inl (cI, 32, .inl ld_who_c)), (ld_move, .inl (cI, 10, .inl ld_move_c)), (ld_death, .inl (cI, 10, .inl ld_death_c)), (ld_lost, .inl (cJ, 32, .inr (.inl ld_lost_c)))] s.heap := hP
  refine lv_aload_n hx hb dX4_reachOf_0 rfl (lv_at hl 0 rfl) ?_
  refine va_get (D := g) (ci := 4) (v := .ref ld_who) (C := RX4) (T := TX4) (N := 15) hx hb hts iX4 hown hK hP 0 rfl rfl 13 (by decide) (hts (.fieldLink RX4 30 "CardsAtYule$Land" "who" "[I") (List.mem_cons_of_mem _ (List.mem_append_left _ (List.mem_of_getElem? (i := 0) rfl)))) (fun _ h9 => h9) rfl dX4_reachOf_1 ?_
  refine lv_iconst (v := 2) hx hb dX4_reachOf_4 (by decide) ?_
  refine lv_iload_n hx hb dX4_reachOf_5 rfl (lv_at hl 1 rfl) ?_
  refine lv_imul hx hb dX4_reachOf_6 ?_
  refine lv_topi (fun y6 e6 => ?_)
  have q6 : y6.toInt = 2 * p0.toInt := by rw [e6]; exact mu_z rfl rfl (ir_c 2) hv_p0 (by decide) (by decide) (by decide)
  have r6 : ir y6.toInt 0 30 := mu_r q6 (ir_c 2) hv_p0 (by decide) (by decide) (by decide) (by decide)
  refine lv_iconst (v := 1) hx hb dX4_reachOf_7 (by decide) ?_
  refine lv_iadd hx hb dX4_reachOf_8 ?_
  refine lv_topi (fun y8 e8 => ?_)
  have q8 : y8.toInt = y6.toInt + 1 := by rw [e8]; exact ad_z rfl rfl r6 (ir_c 1) (by decide) (by decide)
  have r8 : ir y8.toInt 1 31 := ad_r q8 r6 (ir_c 1) (by decide) (by decide)
  refine lv_iload_n hx hb dX4_reachOf_9 rfl (lv_at hl 2 rfl) ?_
  refine lv_isub hx hb dX4_reachOf_10 ?_
  refine lv_topi (fun y10 e10 => ?_)
  have q10 : y10.toInt = y8.toInt - p1.toInt := by rw [e10]; exact su_z rfl rfl r8 hv_p1 (by decide) (by decide)
  have r10 : ir y10.toInt 0 31 := su_r q10 r8 hv_p1 (by decide) (by decide)
  refine va_iald (D := g) hx hb hK hP 1 0 rfl rfl (vi_rg rfl r10 (by decide) (by decide)) dX4_reachOf_11 ?_
  refine lv_topi (fun y11 e11 => ?_)
  have r11 : ir y11.toInt 0 9 := by rw [e11]; exact ha_ld_who_c _ (vi_cl (vi_rg rfl r10 (by decide) (by decide)))
  refine lv_istore_n (lv' := [(3, .int y11), (0, .ref ld), (1, .int p0), (2, .int p1)]) hx hb dX4_reachOf_12 rfl hl (by decide) rfl (fun ls hl => ?_)
  refine lv_aload_n hx hb dX4_reachOf_13 rfl (lv_at hl 1 rfl) ?_
  refine va_get (D := g) (ci := 4) (v := .ref ld_move) (C := RX4) (T := TX4) (N := 15) hx hb hts iX4 hown hK hP 0 rfl rfl 11 (by decide) (hts (.fieldLink RX4 24 "CardsAtYule$Land" "move" "[I") (List.mem_cons_of_mem _ (List.mem_append_left _ (List.mem_of_getElem? (i := 1) rfl)))) (fun _ h9 => h9) rfl dX4_reachOf_14 ?_
  refine lv_iload_n hx hb dX4_reachOf_17 rfl (lv_at hl 0 rfl) ?_
  refine va_iald (D := g) hx hb hK hP 2 0 rfl rfl (vi_rg rfl r11 (by decide) (by decide)) dX4_reachOf_18 ?_
  refine lv_topi (fun y18 e18 => ?_)
  refine lv_iconst (v := (-1)) hx hb dX4_reachOf_19 (by decide) ?_
  have J35 : ∀ (j35_s0 : Int64) (H : Heap) (locs : List Loc) (ls : Array Slot), va_P g vwCl [(ld, .inr (4, [.int ld_lines, .int ld_years, .int ld_card, .int ld_hurt, .int ld_people, .int ld_pairs, .long ld_strikes, .ref ld_rule, .ref ld_returns, .ref ld_forgets, .ref ld_death, .ref ld_move, .ref ld_begun, .ref ld_who, .ref ld_lost])), (ld_who, .inl (cI, 32, .inl ld_who_c)), (ld_move, .inl (cI, 10, .inl ld_move_c)), (ld_death, .inl (cI, 10, .inl ld_death_c)), (ld_lost, .inl (cJ, 32, .inr (.inl ld_lost_c)))] H → va_S A s.heap H locs → lv_has ls 6 [(0, .ref ld), (1, .int p0), (2, .int p1), (3, .int y11)] → W p l e (headSpec v_X4_reachOf ({ frames := 1, cells := 0, slots := 0, locals := 21 })).room s m av below meth c H locs 0 0 QQ (F0 m 35 ls [.long j35_s0]) := by
    intro j35_s0 H locs ls  hP hS hl
    refine lv_lstore (lv' := [(4, .long j35_s0), (0, .ref ld), (1, .int p0), (2, .int p1), (3, .int y11)]) hx hb dX4_reachOf_35 hl (by decide) rfl (fun ls hl => ?_)
    refine lv_aload_n hx hb dX4_reachOf_37 rfl (lv_at hl 1 rfl) ?_
    refine lv_iload_n hx hb dX4_reachOf_38 rfl (lv_at hl 4 rfl) ?_
    refine ro_l (va_runV (As := [.int y11]) (rest := []) ⟨hx, hb, hml, hown, hts⟩ (q_X4_livingYears l g cI cJ cB cZ cL y11 ld ld_lines ld_years ld_card ld_hurt ld_people ld_pairs ld_strikes ld_rule ld_returns ld_forgets ld_death ld_move ld_begun ld_who ld_lost ld_death_c H.size r11 hv_ld_years hv_ld_people hv_ld_pairs) (cwV 1 hts (goodIn_app (g_4 (List.mem_cons_of_mem _ (List.mem_append_left _ (List.mem_of_getElem? (i := 2) rfl))) (List.mem_cons_of_mem _ (List.mem_append_left _ (List.mem_of_getElem? (i := 3) rfl))) (List.mem_cons_of_mem _ (List.mem_append_left _ (List.mem_of_getElem? (i := 4) rfl))) (List.mem_cons_of_mem _ (List.mem_append_left _ (List.mem_of_getElem? (i := 5) rfl))) (by decide +kernel)) (goodIn_sub (fun _ h => List.mem_cons_of_mem _ (List.mem_append_right _ (List.mem_append_left _ h))) good_v_X4_livingYears)) rfl rfl rfl (by decide +kernel) ⟨Nat.le_of_ble_eq_true rfl, Nat.le_of_ble_eq_true rfl⟩) (pv_RO (q := (RX4, TX4, 15)) (ci := 4) (q0 := 0) (wc := [(ld, .inr (4, [.int ld_lines, .int ld_years, .int ld_card, .int ld_hurt, .int ld_people, .int ld_pairs, .long ld_strikes, .ref ld_rule, .ref ld_returns, .ref ld_forgets, .ref ld_death, .ref ld_move, .ref ld_begun, .ref ld_who, .ref ld_lost])), (ld_death, .inl (cI, 10, .inl ld_death_c))]) hK hP [0, 3] rfl rfl rfl) rfl rfl hl.1 rfl (lv_room (Nat.le_of_ble_eq_true rfl)) dX4_reachOf_39 ⟨Nat.le_of_ble_eq_true rfl, Nat.le_of_ble_eq_true rfl⟩) hS hA hP (fun r39 u39 H locs hw39 hP hS => ?_)
    refine lv_lload hx hb dX4_reachOf_42 (lv_at hl 0 rfl) ?_
    refine lv_ldc2 (v := (-1)) hx hb hown (hts (.constantLong RX4 82 (-1)) (List.mem_cons_of_mem _ (List.mem_append_left _ (List.mem_of_getElem? (i := 6) rfl)))) dX4_reachOf_44 ?_
    refine lv_lxor hx hb dX4_reachOf_47 ?_
    refine lv_topl (fun y47 e47 => ?_)
    refine lv_land hx hb dX4_reachOf_48 ?_
    refine lv_topl (fun y48 e48 => ?_)
    refine lv_aload_n hx hb dX4_reachOf_49 rfl (lv_at hl 1 rfl) ?_
    refine va_get (D := g) (ci := 4) (v := .long ld_strikes) (C := RX4) (T := TX4) (N := 15) hx hb hts iX4 hown hK hP 0 rfl rfl 6 (by decide) (hts (.fieldLink RX4 56 "CardsAtYule$Land" "strikes" "J") (List.mem_cons_of_mem _ (List.mem_append_left _ (List.mem_of_getElem? (i := 7) rfl)))) (fun _ h9 => h9) rfl dX4_reachOf_50 ?_
    refine lv_ldc2 (v := (-1)) hx hb hown (hts (.constantLong RX4 82 (-1)) (List.mem_cons_of_mem _ (List.mem_append_left _ (List.mem_of_getElem? (i := 6) rfl)))) dX4_reachOf_53 ?_
    refine lv_lxor hx hb dX4_reachOf_56 ?_
    refine lv_topl (fun y56 e56 => ?_)
    refine lv_land hx hb dX4_reachOf_57 ?_
    refine lv_topl (fun y57 e57 => ?_)
    refine lv_aload_n hx hb dX4_reachOf_58 rfl (lv_at hl 1 rfl) ?_
    refine va_get (D := g) (ci := 4) (v := .ref ld_lost) (C := RX4) (T := TX4) (N := 15) hx hb hts iX4 hown hK hP 0 rfl rfl 14 (by decide) (hts (.fieldLink RX4 33 "CardsAtYule$Land" "lost" "[J") (List.mem_cons_of_mem _ (List.mem_append_left _ (List.mem_of_getElem? (i := 8) rfl)))) (fun _ h9 => h9) rfl dX4_reachOf_59 ?_
    refine lv_iconst (v := 2) hx hb dX4_reachOf_62 (by decide) ?_
    refine lv_iload_n hx hb dX4_reachOf_63 rfl (lv_at hl 2 rfl) ?_
    refine lv_imul hx hb dX4_reachOf_64 ?_
    refine lv_topi (fun y64 e64 => ?_)
    have q64 : y64.toInt = 2 * p0.toInt := by rw [e64]; exact mu_z rfl rfl (ir_c 2) hv_p0 (by decide) (by decide) (by decide)
    have r64 : ir y64.toInt 0 30 := mu_r q64 (ir_c 2) hv_p0 (by decide) (by decide) (by decide) (by decide)
    refine lv_iload_n hx hb dX4_reachOf_65 rfl (lv_at hl 3 rfl) ?_
    refine lv_iadd hx hb dX4_reachOf_66 ?_
    refine lv_topi (fun y66 e66 => ?_)
    have q66 : y66.toInt = y64.toInt + p1.toInt := by rw [e66]; exact ad_z rfl rfl r64 hv_p1 (by decide) (by decide)
    have r66 : ir y66.toInt 0 31 := ad_r q66 r64 hv_p1 (by decide) (by decide)
    refine va_lald (D := g) hx hb hK hP 4 1 rfl rfl (vi_rg rfl r66 (by decide) (by decide)) dX4_reachOf_67 ?_
    refine lv_topl (fun y67 e67 => ?_)
    refine lv_ldc2 (v := (-1)) hx hb hown (hts (.constantLong RX4 82 (-1)) (List.mem_cons_of_mem _ (List.mem_append_left _ (List.mem_of_getElem? (i := 6) rfl)))) dX4_reachOf_68 ?_
    refine lv_lxor hx hb dX4_reachOf_71 ?_
    refine lv_topl (fun y71 e71 => ?_)
    refine lv_land hx hb dX4_reachOf_72 ?_
    refine lv_topl (fun y72 e72 => ?_)
    subst hQ
    exact W.lret (v := y72) hx hb hr (fun t ht hW => ⟨⟨y72, (), rfl, trivial, trivial⟩, hS.F ht⟩) hS.2.2 dX4_reachOf_73
  refine lv_icmp_ne (tgt := 27) hx hb dX4_reachOf_20 (by decide) (fun c20 => ?_) (fun c20 => ?_)
  rotate_left 1
  · have f20 := (show y18.toInt = (-1) from z_eq rfl rfl c20)
    have r20a : ir y18.toInt (-1) (-1) := ir_eqa f20 (rg_all y18) (ir_c (-1)) (by decide) (by decide)
    refine lv_lconst (v := 0) hx hb dX4_reachOf_23 (by decide) ?_
    refine lv_goto (tgt := 35) hx hb dX4_reachOf_24 (by decide) ?_
    exact J35 0 _ _ _  (hP.sub [0, 1, 2, 3, 4] rfl) hS (lv_sub hl [1, 2, 3, 0] rfl)
  have f20 := (show y18.toInt ≠ (-1) from z_ne rfl rfl c20)
  refine lv_lconst (v := 1) hx hb dX4_reachOf_27 (by decide) ?_
  refine lv_aload_n hx hb dX4_reachOf_28 rfl (lv_at hl 1 rfl) ?_
  refine va_get (D := g) (ci := 4) (v := .ref ld_move) (C := RX4) (T := TX4) (N := 15) hx hb hts iX4 hown hK hP 0 rfl rfl 11 (by decide) (hts (.fieldLink RX4 24 "CardsAtYule$Land" "move" "[I") (List.mem_cons_of_mem _ (List.mem_append_left _ (List.mem_of_getElem? (i := 1) rfl)))) (fun _ h9 => h9) rfl dX4_reachOf_29 ?_
  refine lv_iload_n hx hb dX4_reachOf_32 rfl (lv_at hl 0 rfl) ?_
  refine va_iald (D := g) hx hb hK hP 2 0 rfl rfl (vi_rg rfl r11 (by decide) (by decide)) dX4_reachOf_33 ?_
  refine lv_topi (fun y33 e33 => ?_)
  refine lv_lshl (v := (1 <<< (y33.toInt64 &&& 63))) hx hb dX4_reachOf_34 rfl ?_
  refine lv_topl (fun y34 e34 => ?_)
  exact J35 y34 _ _ _  (hP.sub [0, 1, 2, 3, 4] rfl) hS (lv_sub hl [1, 2, 3, 0] rfl)
def v_X10_swapped : List Cond := .code yX10_swapped cX10_swapped 1 (some .int) :: (([] : List Cond) ++ ([] : List Cond))
theorem good_v_X10_swapped : v_X10_swapped.all goodWord = true := ga_c (by decide +kernel) (ga_a (by decide +kernel) rfl)
set_option maxHeartbeats 4000000 in
set_option maxRecDepth 100000 in
theorem q_X10_swapped (l : Launch) (g : va_G) (cI cJ cB cZ cL : ClassId) (p0 : Int32) (sz : Nat)  : Met l yX10_swapped v_X10_swapped ({ frames := 0, cells := 0, slots := 0, locals := 0 }) (va_Pc [.int p0] (pRO g (tyT cI cJ cB cZ cL) [] sz)) (va_Qi (fun (r : Int32) (u : Unit) => (ir r.toInt 0 3)) (fun (_ : Unit) (_ : State) => True) (va_A [] sz)) 0 0 (va_A [] sz) := by
  refine Met.ofW (cc := cX10_swapped) (maxL := 1) (ret := (some .int)) (by decide) rfl ?_
  intro p e s m args below meth c s₁ B hml hv
  obtain ⟨rfl, hsz, hP, hK⟩ := hv
  have hx := B.exec
  have hb := B.bytes
  have hr := B.returns
  have hts := atoms_spec (ws := v_X10_swapped) B.pre
  have hown : s.vm.findClass RX10 = some m.cls := findClass_of_methodNamed B.named
  have hlocks := B.notSynchronized
  clear B
  subst hsz
  generalize hAe : (va_A [] s.heap.size) = A
  have hA : ∀ q : Nat, s.heap.size ≤ q → A q := fun q h => by rw [← hAe]; exact Or.inr h
  have hS : va_S A s.heap s.heap [] := va_S.rf
  have hl := lv_entry ([.int p0]) (n := 1) (Nat.le_of_ble_eq_true rfl)
  rw [lg_entry_eq]
  generalize (lg_sl ([.int p0]) ++ List.replicate (1 - (lg_sl ([.int p0])).length) Slot.unset).toArray = ls at hl ⊢
  generalize ([.int p0] : List Value).toArray = av at hts ⊢
  generalize hQ : MQ below _ av s _ _ A = QQ
  have hl : lv_has ls 1 [(0, .int p0)] := hl
  have hP : va_P g vwCl [] s.heap := hP
  refine lv_iload_n hx hb dX10_swapped_0 rfl (lv_at hl 0 rfl) ?_
  refine lv_iconst (v := 1) hx hb dX10_swapped_1 (by decide) ?_
  refine lv_iand hx hb dX10_swapped_2 ?_
  refine lv_topi (fun y2 e2 => ?_)
  have r2 : ir y2.toInt 0 1 := by rw [e2]; exact an_y rfl (ir_c 1) (by decide)
  refine lv_iconst (v := 1) hx hb dX10_swapped_3 (by decide) ?_
  refine lv_ishl hx hb dX10_swapped_4 ?_
  refine lv_topi (fun y4 e4 => ?_)
  have r4 : ir y4.toInt 0 2 := by rw [e4]; exact sl_r 1 rfl r2 (by decide) (by decide) (by decide) (by decide) (by decide)
  refine lv_iload_n hx hb dX10_swapped_5 rfl (lv_at hl 0 rfl) ?_
  refine lv_iconst (v := 1) hx hb dX10_swapped_6 (by decide) ?_
  refine lv_ishr hx hb dX10_swapped_7 ?_
  refine lv_topi (fun y7 e7 => ?_)
  refine lv_iconst (v := 1) hx hb dX10_swapped_8 (by decide) ?_
  refine lv_iand hx hb dX10_swapped_9 ?_
  refine lv_topi (fun y9 e9 => ?_)
  have r9 : ir y9.toInt 0 1 := by rw [e9]; exact an_y rfl (ir_c 1) (by decide)
  refine lv_ior hx hb dX10_swapped_10 ?_
  refine lv_topi (fun y10 e10 => ?_)
  have r10 : ir y10.toInt 0 3 := by rw [e10]; exact or_r 2 rfl rfl r4 r9 (by decide) (by decide) (by decide) (by decide) (by decide)
  subst hQ
  exact W.iret (v := y10) hx hb hr (fun t ht hW => ⟨⟨y10, (), rfl, r10, trivial⟩, hS.F ht⟩) hS.2.2 dX10_swapped_11
def v_X10_firsts : List Cond := .code yX10_firsts cX10_firsts 3 (some .int) :: (([] : List Cond) ++ ([] : List Cond))
theorem good_v_X10_firsts : v_X10_firsts.all goodWord = true := ga_c (by decide +kernel) (ga_a (by decide +kernel) rfl)
set_option maxHeartbeats 4000000 in
set_option maxRecDepth 100000 in
theorem q_X10_firsts (l : Launch) (g : va_G) (cI cJ cB cZ cL : ClassId) (p0 : Int32) (p1 : Int32) (p2 : Int32) (sz : Nat)  : Met l yX10_firsts v_X10_firsts ({ frames := 0, cells := 0, slots := 0, locals := 0 }) (va_Pc [.int p0, .int p1, .int p2] (pRO g (tyT cI cJ cB cZ cL) [] sz)) (va_Qi (fun (r : Int32) (u : Unit) => (ir r.toInt 0 3)) (fun (_ : Unit) (_ : State) => True) (va_A [] sz)) 0 0 (va_A [] sz) := by
  refine Met.ofW (cc := cX10_firsts) (maxL := 3) (ret := (some .int)) (by decide) rfl ?_
  intro p e s m args below meth c s₁ B hml hv
  obtain ⟨rfl, hsz, hP, hK⟩ := hv
  have hx := B.exec
  have hb := B.bytes
  have hr := B.returns
  have hts := atoms_spec (ws := v_X10_firsts) B.pre
  have hown : s.vm.findClass RX10 = some m.cls := findClass_of_methodNamed B.named
  have hlocks := B.notSynchronized
  clear B
  subst hsz
  generalize hAe : (va_A [] s.heap.size) = A
  have hA : ∀ q : Nat, s.heap.size ≤ q → A q := fun q h => by rw [← hAe]; exact Or.inr h
  have hS : va_S A s.heap s.heap [] := va_S.rf
  have hl := lv_entry ([.int p0, .int p1, .int p2]) (n := 3) (Nat.le_of_ble_eq_true rfl)
  rw [lg_entry_eq]
  generalize (lg_sl ([.int p0, .int p1, .int p2]) ++ List.replicate (3 - (lg_sl ([.int p0, .int p1, .int p2])).length) Slot.unset).toArray = ls at hl ⊢
  generalize ([.int p0, .int p1, .int p2] : List Value).toArray = av at hts ⊢
  generalize hQ : MQ below _ av s _ _ A = QQ
  have hl : lv_has ls 3 [(0, .int p0), (1, .int p1), (2, .int p2)] := hl
  have hP : va_P g vwCl [] s.heap := hP
  refine lv_iload_n hx hb dX10_firsts_0 rfl (lv_at hl 0 rfl) ?_
  refine lv_iload_n hx hb dX10_firsts_1 rfl (lv_at hl 2 rfl) ?_
  refine lv_iconst (v := 3) hx hb dX10_firsts_2 (by decide) ?_
  refine lv_iand hx hb dX10_firsts_3 ?_
  refine lv_topi (fun y3 e3 => ?_)
  have r3 : ir y3.toInt 0 3 := by rw [e3]; exact an_y rfl (ir_c 3) (by decide)
  refine lv_ishr hx hb dX10_firsts_4 ?_
  refine lv_topi (fun y4 e4 => ?_)
  refine lv_iconst (v := 1) hx hb dX10_firsts_5 (by decide) ?_
  refine lv_iand hx hb dX10_firsts_6 ?_
  refine lv_topi (fun y6 e6 => ?_)
  have r6 : ir y6.toInt 0 1 := by rw [e6]; exact an_y rfl (ir_c 1) (by decide)
  refine lv_iload_n hx hb dX10_firsts_7 rfl (lv_at hl 1 rfl) ?_
  refine lv_iload_n hx hb dX10_firsts_8 rfl (lv_at hl 2 rfl) ?_
  refine lv_iconst (v := 2) hx hb dX10_firsts_9 (by decide) ?_
  refine lv_ishr hx hb dX10_firsts_10 ?_
  refine lv_topi (fun y10 e10 => ?_)
  refine lv_iconst (v := 3) hx hb dX10_firsts_11 (by decide) ?_
  refine lv_iand hx hb dX10_firsts_12 ?_
  refine lv_topi (fun y12 e12 => ?_)
  have r12 : ir y12.toInt 0 3 := by rw [e12]; exact an_y rfl (ir_c 3) (by decide)
  refine lv_ishr hx hb dX10_firsts_13 ?_
  refine lv_topi (fun y13 e13 => ?_)
  refine lv_iconst (v := 1) hx hb dX10_firsts_14 (by decide) ?_
  refine lv_iand hx hb dX10_firsts_15 ?_
  refine lv_topi (fun y15 e15 => ?_)
  have r15 : ir y15.toInt 0 1 := by rw [e15]; exact an_y rfl (ir_c 1) (by decide)
  refine lv_iconst (v := 1) hx hb dX10_firsts_16 (by decide) ?_
  refine lv_ishl hx hb dX10_firsts_17 ?_
  refine lv_topi (fun y17 e17 => ?_)
  have r17 : ir y17.toInt 0 2 := by rw [e17]; exact sl_r 1 rfl r15 (by decide) (by decide) (by decide) (by decide) (by decide)
  refine lv_ior hx hb dX10_firsts_18 ?_
  refine lv_topi (fun y18 e18 => ?_)
  have r18 : ir y18.toInt 0 3 := by rw [e18]; exact or_r 2 rfl rfl r6 r17 (by decide) (by decide) (by decide) (by decide) (by decide)
  subst hQ
  exact W.iret (v := y18) hx hb hr (fun t ht hW => ⟨⟨y18, (), rfl, r18, trivial⟩, hS.F ht⟩) hS.2.2 dX10_firsts_19
def v_X10_returning : List Cond := .code yX10_returning cX10_returning 2 (some .int) :: (([] : List Cond) ++ ([] : List Cond))
theorem good_v_X10_returning : v_X10_returning.all goodWord = true := ga_c (by decide +kernel) (ga_a (by decide +kernel) rfl)
set_option maxHeartbeats 4000000 in
set_option maxRecDepth 100000 in
theorem q_X10_returning (l : Launch) (g : va_G) (cI cJ cB cZ cL : ClassId) (p0 : Int32) (p1 : Int32) (sz : Nat)  : Met l yX10_returning v_X10_returning ({ frames := 0, cells := 0, slots := 0, locals := 0 }) (va_Pc [.int p0, .int p1] (pRO g (tyT cI cJ cB cZ cL) [] sz)) (va_Qi (fun (r : Int32) (u : Unit) => (ir r.toInt 0 3)) (fun (_ : Unit) (_ : State) => True) (va_A [] sz)) 0 0 (va_A [] sz) := by
  refine Met.ofW (cc := cX10_returning) (maxL := 2) (ret := (some .int)) (by decide) rfl ?_
  intro p e s m args below meth c s₁ B hml hv
  obtain ⟨rfl, hsz, hP, hK⟩ := hv
  have hx := B.exec
  have hb := B.bytes
  have hr := B.returns
  have hts := atoms_spec (ws := v_X10_returning) B.pre
  have hown : s.vm.findClass RX10 = some m.cls := findClass_of_methodNamed B.named
  have hlocks := B.notSynchronized
  clear B
  subst hsz
  generalize hAe : (va_A [] s.heap.size) = A
  have hA : ∀ q : Nat, s.heap.size ≤ q → A q := fun q h => by rw [← hAe]; exact Or.inr h
  have hS : va_S A s.heap s.heap [] := va_S.rf
  have hl := lv_entry ([.int p0, .int p1]) (n := 2) (Nat.le_of_ble_eq_true rfl)
  rw [lg_entry_eq]
  generalize (lg_sl ([.int p0, .int p1]) ++ List.replicate (2 - (lg_sl ([.int p0, .int p1])).length) Slot.unset).toArray = ls at hl ⊢
  generalize ([.int p0, .int p1] : List Value).toArray = av at hts ⊢
  generalize hQ : MQ below _ av s _ _ A = QQ
  have hl : lv_has ls 2 [(0, .int p0), (1, .int p1)] := hl
  have hP : va_P g vwCl [] s.heap := hP
  refine lv_iload_n hx hb dX10_returning_0 rfl (lv_at hl 0 rfl) ?_
  refine lv_iconst (v := 4) hx hb dX10_returning_1 (by decide) ?_
  refine lv_ishr hx hb dX10_returning_2 ?_
  refine lv_topi (fun y2 e2 => ?_)
  refine lv_iconst (v := 1) hx hb dX10_returning_3 (by decide) ?_
  refine lv_iand hx hb dX10_returning_4 ?_
  refine lv_topi (fun y4 e4 => ?_)
  have r4 : ir y4.toInt 0 1 := by rw [e4]; exact an_y rfl (ir_c 1) (by decide)
  refine lv_iload_n hx hb dX10_returning_5 rfl (lv_at hl 1 rfl) ?_
  refine lv_iconst (v := 4) hx hb dX10_returning_6 (by decide) ?_
  refine lv_ishr hx hb dX10_returning_7 ?_
  refine lv_topi (fun y7 e7 => ?_)
  refine lv_iconst (v := 1) hx hb dX10_returning_8 (by decide) ?_
  refine lv_iand hx hb dX10_returning_9 ?_
  refine lv_topi (fun y9 e9 => ?_)
  have r9 : ir y9.toInt 0 1 := by rw [e9]; exact an_y rfl (ir_c 1) (by decide)
  refine lv_iconst (v := 1) hx hb dX10_returning_10 (by decide) ?_
  refine lv_ishl hx hb dX10_returning_11 ?_
  refine lv_topi (fun y11 e11 => ?_)
  have r11 : ir y11.toInt 0 2 := by rw [e11]; exact sl_r 1 rfl r9 (by decide) (by decide) (by decide) (by decide) (by decide)
  refine lv_ior hx hb dX10_returning_12 ?_
  refine lv_topi (fun y12 e12 => ?_)
  have r12 : ir y12.toInt 0 3 := by rw [e12]; exact or_r 2 rfl rfl r4 r11 (by decide) (by decide) (by decide) (by decide) (by decide)
  subst hQ
  exact W.iret (v := y12) hx hb hr (fun t ht hW => ⟨⟨y12, (), rfl, r12, trivial⟩, hS.F ht⟩) hS.2.2 dX10_returning_13
def v_X10_backs : List Cond := .code yX10_backs cX10_backs 4 (some .int) :: (([] : List Cond) ++ ([] : List Cond))
theorem good_v_X10_backs : v_X10_backs.all goodWord = true := ga_c (by decide +kernel) (ga_a (by decide +kernel) rfl)
set_option maxHeartbeats 4000000 in
set_option maxRecDepth 100000 in
theorem q_X10_backs (l : Launch) (g : va_G) (cI cJ cB cZ cL : ClassId) (p0 : Int32) (p1 : Int32) (p2 : Int32) (sz : Nat) (hv_p1 : ir p1.toInt 0 3) : Met l yX10_backs v_X10_backs ({ frames := 0, cells := 0, slots := 0, locals := 0 }) (va_Pc [.int p0, .int p1, .int p2] (pRO g (tyT cI cJ cB cZ cL) [] sz)) (va_Qi (fun (r : Int32) (u : Unit) => (ir r.toInt 0 3)) (fun (_ : Unit) (_ : State) => True) (va_A [] sz)) 0 0 (va_A [] sz) := by
  refine Met.ofW (cc := cX10_backs) (maxL := 4) (ret := (some .int)) (by decide) rfl ?_
  intro p e s m args below meth c s₁ B hml hv
  obtain ⟨rfl, hsz, hP, hK⟩ := hv
  have hx := B.exec
  have hb := B.bytes
  have hr := B.returns
  have hts := atoms_spec (ws := v_X10_backs) B.pre
  have hown : s.vm.findClass RX10 = some m.cls := findClass_of_methodNamed B.named
  have hlocks := B.notSynchronized
  clear B
  subst hsz
  generalize hAe : (va_A [] s.heap.size) = A
  have hA : ∀ q : Nat, s.heap.size ≤ q → A q := fun q h => by rw [← hAe]; exact Or.inr h
  have hS : va_S A s.heap s.heap [] := va_S.rf
  have hl := lv_entry ([.int p0, .int p1, .int p2]) (n := 4) (Nat.le_of_ble_eq_true rfl)
  rw [lg_entry_eq]
  generalize (lg_sl ([.int p0, .int p1, .int p2]) ++ List.replicate (4 - (lg_sl ([.int p0, .int p1, .int p2])).length) Slot.unset).toArray = ls at hl ⊢
  generalize ([.int p0, .int p1, .int p2] : List Value).toArray = av at hts ⊢
  generalize hQ : MQ below _ av s _ _ A = QQ
  have hl : lv_has ls 4 [(0, .int p0), (1, .int p1), (2, .int p2)] := hl
  have hP : va_P g vwCl [] s.heap := hP
  refine lv_iload_n hx hb dX10_backs_0 rfl (lv_at hl 0 rfl) ?_
  refine lv_iload_n hx hb dX10_backs_1 rfl (lv_at hl 2 rfl) ?_
  refine lv_iand hx hb dX10_backs_2 ?_
  refine lv_topi (fun y2 e2 => ?_)
  refine lv_istore_n (lv' := [(3, .int y2), (0, .int p0), (1, .int p1), (2, .int p2)]) hx hb dX10_backs_3 rfl hl (by decide) rfl (fun ls hl => ?_)
  refine lv_iload_n hx hb dX10_backs_4 rfl (lv_at hl 1 rfl) ?_
  refine lv_iconst (v := (-1)) hx hb dX10_backs_5 (by decide) ?_
  refine lv_ixor hx hb dX10_backs_6 ?_
  refine lv_topi (fun y6 e6 => ?_)
  refine lv_iload_n hx hb dX10_backs_7 rfl (lv_at hl 2 rfl) ?_
  refine lv_iand hx hb dX10_backs_8 ?_
  refine lv_topi (fun y8 e8 => ?_)
  have r8 : ir y8.toInt 0 3 := by rw [e8]; exact an_y rfl hv_p1 (by decide)
  refine lv_iload_n hx hb dX10_backs_9 rfl (lv_at hl 0 rfl) ?_
  refine lv_iconst (v := 1) hx hb dX10_backs_10 (by decide) ?_
  refine lv_iand hx hb dX10_backs_11 ?_
  refine lv_topi (fun y11 e11 => ?_)
  have r11 : ir y11.toInt 0 1 := by rw [e11]; exact an_y rfl (ir_c 1) (by decide)
  refine lv_iconst (v := 1) hx hb dX10_backs_12 (by decide) ?_
  refine lv_ishl hx hb dX10_backs_13 ?_
  refine lv_topi (fun y13 e13 => ?_)
  have r13 : ir y13.toInt 0 2 := by rw [e13]; exact sl_r 1 rfl r11 (by decide) (by decide) (by decide) (by decide) (by decide)
  refine lv_iload_n hx hb dX10_backs_14 rfl (lv_at hl 0 rfl) ?_
  refine lv_iconst (v := 1) hx hb dX10_backs_15 (by decide) ?_
  refine lv_ishr hx hb dX10_backs_16 ?_
  refine lv_topi (fun y16 e16 => ?_)
  refine lv_ior hx hb dX10_backs_17 ?_
  refine lv_topi (fun y17 e17 => ?_)
  refine lv_iand hx hb dX10_backs_18 ?_
  refine lv_topi (fun y18 e18 => ?_)
  have r18 : ir y18.toInt 0 3 := by rw [e18]; exact an_x rfl r8 (by decide)
  subst hQ
  exact W.iret (v := y18) hx hb hr (fun t ht hW => ⟨⟨y18, (), rfl, r18, trivial⟩, hS.F ht⟩) hS.2.2 dX10_backs_19
def v_X10_after : List Cond := .code yX10_after cX10_after 2 (some .int) :: (([] : List Cond) ++ ([] : List Cond))
theorem good_v_X10_after : v_X10_after.all goodWord = true := ga_c (by decide +kernel) (ga_a (by decide +kernel) rfl)
set_option maxHeartbeats 4000000 in
set_option maxRecDepth 100000 in
theorem q_X10_after (l : Launch) (g : va_G) (cI cJ cB cZ cL : ClassId) (p0 : Int32) (p1 : Int32) (sz : Nat)  : Met l yX10_after v_X10_after ({ frames := 0, cells := 0, slots := 0, locals := 0 }) (va_Pc [.int p0, .int p1] (pRO g (tyT cI cJ cB cZ cL) [] sz)) (va_Qi (fun (r : Int32) (u : Unit) => (ir r.toInt 0 15)) (fun (_ : Unit) (_ : State) => True) (va_A [] sz)) 0 0 (va_A [] sz) := by
  refine Met.ofW (cc := cX10_after) (maxL := 2) (ret := (some .int)) (by decide) rfl ?_
  intro p e s m args below meth c s₁ B hml hv
  obtain ⟨rfl, hsz, hP, hK⟩ := hv
  have hx := B.exec
  have hb := B.bytes
  have hr := B.returns
  have hts := atoms_spec (ws := v_X10_after) B.pre
  have hown : s.vm.findClass RX10 = some m.cls := findClass_of_methodNamed B.named
  have hlocks := B.notSynchronized
  clear B
  subst hsz
  generalize hAe : (va_A [] s.heap.size) = A
  have hA : ∀ q : Nat, s.heap.size ≤ q → A q := fun q h => by rw [← hAe]; exact Or.inr h
  have hS : va_S A s.heap s.heap [] := va_S.rf
  have hl := lv_entry ([.int p0, .int p1]) (n := 2) (Nat.le_of_ble_eq_true rfl)
  rw [lg_entry_eq]
  generalize (lg_sl ([.int p0, .int p1]) ++ List.replicate (2 - (lg_sl ([.int p0, .int p1])).length) Slot.unset).toArray = ls at hl ⊢
  generalize ([.int p0, .int p1] : List Value).toArray = av at hts ⊢
  generalize hQ : MQ below _ av s _ _ A = QQ
  have hl : lv_has ls 2 [(0, .int p0), (1, .int p1)] := hl
  have hP : va_P g vwCl [] s.heap := hP
  refine lv_iload_n hx hb dX10_after_0 rfl (lv_at hl 0 rfl) ?_
  refine lv_iconst (v := 5) hx hb dX10_after_1 (by decide) ?_
  refine lv_iand hx hb dX10_after_2 ?_
  refine lv_topi (fun y2 e2 => ?_)
  have r2 : ir y2.toInt 0 5 := by rw [e2]; exact an_y rfl (ir_c 5) (by decide)
  refine lv_iconst (v := 1) hx hb dX10_after_3 (by decide) ?_
  refine lv_ishl hx hb dX10_after_4 ?_
  refine lv_topi (fun y4 e4 => ?_)
  have r4 : ir y4.toInt 0 10 := by rw [e4]; exact sl_r 1 rfl r2 (by decide) (by decide) (by decide) (by decide) (by decide)
  refine lv_iload_n hx hb dX10_after_5 rfl (lv_at hl 1 rfl) ?_
  refine lv_iconst (v := 1) hx hb dX10_after_6 (by decide) ?_
  refine lv_iand hx hb dX10_after_7 ?_
  refine lv_topi (fun y7 e7 => ?_)
  have r7 : ir y7.toInt 0 1 := by rw [e7]; exact an_y rfl (ir_c 1) (by decide)
  refine lv_ior hx hb dX10_after_8 ?_
  refine lv_topi (fun y8 e8 => ?_)
  have r8 : ir y8.toInt 0 15 := by rw [e8]; exact or_r 4 rfl rfl r4 r7 (by decide) (by decide) (by decide) (by decide) (by decide)
  refine lv_iload_n hx hb dX10_after_9 rfl (lv_at hl 1 rfl) ?_
  refine lv_iconst (v := 2) hx hb dX10_after_10 (by decide) ?_
  refine lv_iand hx hb dX10_after_11 ?_
  refine lv_topi (fun y11 e11 => ?_)
  have r11 : ir y11.toInt 0 2 := by rw [e11]; exact an_y rfl (ir_c 2) (by decide)
  refine lv_iconst (v := 1) hx hb dX10_after_12 (by decide) ?_
  refine lv_ishl hx hb dX10_after_13 ?_
  refine lv_topi (fun y13 e13 => ?_)
  have r13 : ir y13.toInt 0 4 := by rw [e13]; exact sl_r 1 rfl r11 (by decide) (by decide) (by decide) (by decide) (by decide)
  refine lv_ior hx hb dX10_after_14 ?_
  refine lv_topi (fun y14 e14 => ?_)
  have r14 : ir y14.toInt 0 15 := by rw [e14]; exact or_r 4 rfl rfl r8 r13 (by decide) (by decide) (by decide) (by decide) (by decide)
  subst hQ
  exact W.iret (v := y14) hx hb hr (fun t ht hW => ⟨⟨y14, (), rfl, r14, trivial⟩, hS.F ht⟩) hS.2.2 dX10_after_15
def v_X2_sidesOf : List Cond := .code yX2_sidesOf cX2_sidesOf 5 (some .int) :: (([] : List Cond) ++ ([] : List Cond))
theorem good_v_X2_sidesOf : v_X2_sidesOf.all goodWord = true := ga_c (by decide +kernel) (ga_a (by decide +kernel) rfl)
set_option maxHeartbeats 4000000 in
set_option maxRecDepth 100000 in
theorem q_X2_sidesOf (l : Launch) (g : va_G) (cI cJ cB cZ cL : ClassId) (p0 : Int64) (p1 : Int64) (p2 : Int32) (sz : Nat)  : Met l yX2_sidesOf v_X2_sidesOf ({ frames := 0, cells := 0, slots := 0, locals := 0 }) (va_Pc [.long p0, .long p1, .int p2] (pRO g (tyT cI cJ cB cZ cL) [] sz)) (va_Qi (fun (r : Int32) (u : Unit) => (ir r.toInt 0 3)) (fun (_ : Unit) (_ : State) => True) (va_A [] sz)) 0 0 (va_A [] sz) := by
  refine Met.ofW (cc := cX2_sidesOf) (maxL := 5) (ret := (some .int)) (by decide) rfl ?_
  intro p e s m args below meth c s₁ B hml hv
  obtain ⟨rfl, hsz, hP, hK⟩ := hv
  have hx := B.exec
  have hb := B.bytes
  have hr := B.returns
  have hts := atoms_spec (ws := v_X2_sidesOf) B.pre
  have hown : s.vm.findClass RX2 = some m.cls := findClass_of_methodNamed B.named
  have hlocks := B.notSynchronized
  clear B
  subst hsz
  generalize hAe : (va_A [] s.heap.size) = A
  have hA : ∀ q : Nat, s.heap.size ≤ q → A q := fun q h => by rw [← hAe]; exact Or.inr h
  have hS : va_S A s.heap s.heap [] := va_S.rf
  have hl := lv_entry ([.long p0, .long p1, .int p2]) (n := 5) (Nat.le_of_ble_eq_true rfl)
  rw [lg_entry_eq]
  generalize (lg_sl ([.long p0, .long p1, .int p2]) ++ List.replicate (5 - (lg_sl ([.long p0, .long p1, .int p2])).length) Slot.unset).toArray = ls at hl ⊢
  generalize ([.long p0, .long p1, .int p2] : List Value).toArray = av at hts ⊢
  generalize hQ : MQ below _ av s _ _ A = QQ
  have hl : lv_has ls 5 [(0, .long p0), (2, .long p1), (4, .int p2)] := hl
  have hP : va_P g vwCl [] s.heap := hP
  refine lv_lload_n hx hb dX2_sidesOf_0 rfl (lv_at hl 0 rfl) ?_
  refine lv_iload hx hb dX2_sidesOf_1 (lv_at hl 2 rfl) ?_
  refine lv_lshr (v := (p0 >>> (p2.toInt64 &&& 63))) hx hb dX2_sidesOf_3 rfl ?_
  refine lv_topl (fun y3 e3 => ?_)
  refine lv_lconst (v := 1) hx hb dX2_sidesOf_4 (by decide) ?_
  refine lv_land hx hb dX2_sidesOf_5 ?_
  refine lv_topl (fun y5 e5 => ?_)
  have r5 : ir y5.toInt 0 1 := by rw [e5]; exact lan_y (by decide)
  refine lv_l2i (v := y5.toInt32) hx hb dX2_sidesOf_6 rfl ?_
  refine lv_topi (fun y6 e6 => ?_)
  have q6 : y6.toInt = y5.toInt := by rw [e6]; exact li_z rfl r5 (by decide) (by decide)
  have r6 : ir y6.toInt 0 1 := q6 ▸ r5
  refine lv_lload_n hx hb dX2_sidesOf_7 rfl (lv_at hl 1 rfl) ?_
  refine lv_iload hx hb dX2_sidesOf_8 (lv_at hl 2 rfl) ?_
  refine lv_lshr (v := (p1 >>> (p2.toInt64 &&& 63))) hx hb dX2_sidesOf_10 rfl ?_
  refine lv_topl (fun y10 e10 => ?_)
  refine lv_lconst (v := 1) hx hb dX2_sidesOf_11 (by decide) ?_
  refine lv_land hx hb dX2_sidesOf_12 ?_
  refine lv_topl (fun y12 e12 => ?_)
  have r12 : ir y12.toInt 0 1 := by rw [e12]; exact lan_y (by decide)
  refine lv_l2i (v := y12.toInt32) hx hb dX2_sidesOf_13 rfl ?_
  refine lv_topi (fun y13 e13 => ?_)
  have q13 : y13.toInt = y12.toInt := by rw [e13]; exact li_z rfl r12 (by decide) (by decide)
  have r13 : ir y13.toInt 0 1 := q13 ▸ r12
  refine lv_iconst (v := 1) hx hb dX2_sidesOf_14 (by decide) ?_
  refine lv_ishl hx hb dX2_sidesOf_15 ?_
  refine lv_topi (fun y15 e15 => ?_)
  have r15 : ir y15.toInt 0 2 := by rw [e15]; exact sl_r 1 rfl r13 (by decide) (by decide) (by decide) (by decide) (by decide)
  refine lv_ior hx hb dX2_sidesOf_16 ?_
  refine lv_topi (fun y16 e16 => ?_)
  have r16 : ir y16.toInt 0 3 := by rw [e16]; exact or_r 2 rfl rfl r6 r15 (by decide) (by decide) (by decide) (by decide) (by decide)
  subst hQ
  exact W.iret (v := y16) hx hb hr (fun t ht hW => ⟨⟨y16, (), rfl, r16, trivial⟩, hS.F ht⟩) hS.2.2 dX2_sidesOf_17
def v_X2_note : List Cond := .code yX2_note cX2_note 3 none :: (([] : List Cond) ++ ([] : List Cond))
theorem good_v_X2_note : v_X2_note.all goodWord = true := ga_c (by decide +kernel) (ga_a (by decide +kernel) rfl)
set_option maxHeartbeats 4000000 in
set_option maxRecDepth 100000 in
theorem q_X2_note (l : Launch) (g : va_G) (cI cJ cB cZ cL : ClassId) (p1 : Int32) (p2 : Int32) (r0 : Nat) (r0_c : Nat → Int64) (sz : Nat)  : Met l yX2_note v_X2_note ({ frames := 0, cells := 0, slots := 0, locals := 0 }) (va_Pc [.ref r0, .int p1, .int p2] (pRW g (tyT cI cJ cB cZ cL) [(r0, .inl (cJ, 2, .inr (.inl r0_c)))] sz)) (va_Qv (fun (u : (Nat → Int64)) => match u with | n_r0_c => True) (fun (u : (Nat → Int64)) (t : State) => bRW g (tyT cI cJ cB cZ cL) (va_A [(r0, .inl (cJ, 2, .inr (.inl r0_c)))] sz) (match u with | n_r0_c => [(r0, .inl (cJ, 2, .inr (.inl n_r0_c)))]) t) (va_A [(r0, .inl (cJ, 2, .inr (.inl r0_c)))] sz)) 0 0 (va_A [(r0, .inl (cJ, 2, .inr (.inl r0_c)))] sz) := by
  refine Met.ofW (cc := cX2_note) (maxL := 3) (ret := none) (by decide) rfl ?_
  intro p e s m args below meth c s₁ B hml hv
  obtain ⟨rfl, hsz, hP, hK, hD0⟩ := hv
  have hx := B.exec
  have hb := B.bytes
  have hr := B.returns
  have hts := atoms_spec (ws := v_X2_note) B.pre
  have hown : s.vm.findClass RX2 = some m.cls := findClass_of_methodNamed B.named
  have hlocks := B.notSynchronized
  clear B
  subst hsz
  have hD := hD0.self (sz := s.heap.size)
  generalize hAe : (va_A [(r0, .inl (cJ, 2, .inr (.inl r0_c)))] s.heap.size) = A at hD ⊢
  have hA : ∀ q : Nat, s.heap.size ≤ q → A q := fun q h => by rw [← hAe]; exact Or.inr h
  have hS : va_S A s.heap s.heap [] := va_S.rf
  have hl := lv_entry ([.ref r0, .int p1, .int p2]) (n := 3) (Nat.le_of_ble_eq_true rfl)
  rw [lg_entry_eq]
  generalize (lg_sl ([.ref r0, .int p1, .int p2]) ++ List.replicate (3 - (lg_sl ([.ref r0, .int p1, .int p2])).length) Slot.unset).toArray = ls at hl ⊢
  generalize ([.ref r0, .int p1, .int p2] : List Value).toArray = av at hts ⊢
  generalize hQ : MQ below _ av s _ _ A = QQ
  have hl : lv_has ls 3 [(0, .ref r0), (1, .int p1), (2, .int p2)] := hl
  have hP : va_P g vwCl [(r0, .inl (cJ, 2, .inr (.inl r0_c)))] s.heap := hP
  refine lv_aload_n hx hb dX2_note_0 rfl (lv_at hl 0 rfl) ?_
  refine lv_iconst (v := 0) hx hb dX2_note_1 (by decide) ?_
  refine lv_dup2_11 hx hb dX2_note_2 rfl rfl ?_
  refine va_lald (D := g) hx hb hK hP 0 1 rfl rfl (vc_in (by decide)) dX2_note_3 ?_
  refine lv_topl (nm_r (e' := (r0_c 0)) rfl ?_)
  refine lv_iload_n hx hb dX2_note_4 rfl (lv_at hl 2 rfl) ?_
  refine lv_iconst (v := 1) hx hb dX2_note_5 (by decide) ?_
  refine lv_iand hx hb dX2_note_6 ?_
  refine lv_topi (fun y6 e6 => ?_)
  have r6 : ir y6.toInt 0 1 := by rw [e6]; exact an_y rfl (ir_c 1) (by decide)
  refine lv_i2l (v := y6.toInt64) hx hb dX2_note_7 rfl ?_
  refine lv_iload_n hx hb dX2_note_8 rfl (lv_at hl 1 rfl) ?_
  refine lv_lshl (v := (y6.toInt64 <<< (p1.toInt64 &&& 63))) hx hb dX2_note_9 rfl ?_
  refine lv_topl (fun y9 e9 => ?_)
  refine lv_lor hx hb dX2_note_10 ?_
  refine lv_topl (fun y10 e10 => ?_)
  refine va_last (D := g) hx hb hK hP hD hS 0 1 rfl rfl (vc_in (by decide)) dX2_note_11 (fun H locs hP hD hS => ?_)
  obtain ⟨g11, e11⟩ : ∃ z, z = vp_updL r0_c 0 y10 := ⟨_, rfl⟩
  have hP : va_P g vwCl [(r0, .inl (cJ, 2, .inr (.inl (vp_updL r0_c 0 y10))))] H := hP
  have hD : va_D A [(r0, .inl (cJ, 2, .inr (.inl (vp_updL r0_c 0 y10))))] := hD
  rw [← e11] at hP hD
  refine lv_aload_n hx hb dX2_note_12 rfl (lv_at hl 0 rfl) ?_
  refine lv_iconst (v := 1) hx hb dX2_note_13 (by decide) ?_
  refine lv_dup2_11 hx hb dX2_note_14 rfl rfl ?_
  refine va_lald (D := g) hx hb hK hP 0 1 rfl rfl (vc_in (by decide)) dX2_note_15 ?_
  refine lv_topl (nm_r (e' := (g11 1)) rfl ?_)
  refine lv_iload_n hx hb dX2_note_16 rfl (lv_at hl 2 rfl) ?_
  refine lv_iconst (v := 1) hx hb dX2_note_17 (by decide) ?_
  refine lv_ishr hx hb dX2_note_18 ?_
  refine lv_topi (fun y18 e18 => ?_)
  refine lv_i2l (v := y18.toInt64) hx hb dX2_note_19 rfl ?_
  refine lv_iload_n hx hb dX2_note_20 rfl (lv_at hl 1 rfl) ?_
  refine lv_lshl (v := (y18.toInt64 <<< (p1.toInt64 &&& 63))) hx hb dX2_note_21 rfl ?_
  refine lv_topl (fun y21 e21 => ?_)
  refine lv_lor hx hb dX2_note_22 ?_
  refine lv_topl (fun y22 e22 => ?_)
  refine va_last (D := g) hx hb hK hP hD hS 0 1 rfl rfl (vc_in (by decide)) dX2_note_23 (fun H locs hP hD hS => ?_)
  obtain ⟨g23, e23⟩ : ∃ z, z = vp_updL g11 1 y22 := ⟨_, rfl⟩
  have hP : va_P g vwCl [(r0, .inl (cJ, 2, .inr (.inl (vp_updL g11 1 y22))))] H := hP
  have hD : va_D A [(r0, .inl (cJ, 2, .inr (.inl (vp_updL g11 1 y22))))] := hD
  rw [← e23] at hP hD
  subst hQ
  have hP9 := hP.sub (ws' := [(r0, .inl (cJ, 2, .inr (.inl g23)))]) [0] rfl
  have hD9 := hD.sub (ws' := [(r0, .inl (cJ, 2, .inr (.inl g23)))]) [0] (by decide) rfl
  exact W.vret hx hb hr (fun t ht hW => ⟨⟨g23, rfl, trivial, ⟨by rw [ht]; exact hP9, va_K.moved hW.alike hK, hD9⟩⟩, hS.F ht⟩) hS.2.2 dX2_note_24
