def v_J7_fill_53178_16 : List Cond := .code yJ7_fill_53178 cJ7_fill_53178 4 none :: (([] : List Cond) ++ ([] : List Cond))
theorem good_v_J7_fill_53178_16 : v_J7_fill_53178_16.all goodWord = true := ga_c (by decide +kernel) (ga_a (by decide +kernel) rfl)
set_option maxHeartbeats 4000000 in
set_option maxRecDepth 100000 in
theorem k_J7_fill_53178_16 (l : Launch) (g : va_G) (cI cJ cB cZ cL : ClassId) (ar : Nat) (f0 : Nat → Int32) (v0 : Int32) (sz : Nat)  : Met l yJ7_fill_53178 v_J7_fill_53178_16 ({ frames := 0, cells := 0, slots := 0, locals := 0 }) (va_Pc [.ref ar, .int v0] (pRW g (tyT cI cJ cB cZ cL) [(ar, .inl (cI, 16, .inl f0))] sz)) (va_Qv (fun (u : Nat → Int32) => match u with | f1 => ∀ k, k < 16 → f1 k = v0) (fun (u : Nat → Int32) (t : State) => bRW g (tyT cI cJ cB cZ cL) (va_A [(ar, .inl (cI, 16, .inl f0))] sz) (match u with | f1 => [(ar, .inl (cI, 16, .inl f1))]) t) (va_A [(ar, .inl (cI, 16, .inl f0))] sz)) 0 0 (va_A [(ar, .inl (cI, 16, .inl f0))] sz) := by
  refine Met.ofW (cc := cJ7_fill_53178) (maxL := 4) (ret := none) (by decide) rfl ?_
  intro p e s m args below meth c s₁ B hml hv
  obtain ⟨rfl, hsz, hP, hK, hD0⟩ := hv
  have hx := B.exec
  have hb := B.bytes
  have hr := B.returns
  have hts := atoms_spec (ws := v_J7_fill_53178_16) B.pre
  have hown : s.vm.findClass RJ7 = some m.cls := findClass_of_methodNamed B.named
  have hlocks := B.notSynchronized
  subst hsz
  have hD := hD0.self (sz := s.heap.size)
  generalize hAe : (va_A [(ar, .inl (cI, 16, .inl f0))] s.heap.size) = A at hD ⊢
  have hA : ∀ q : Nat, s.heap.size ≤ q → A q := fun q h => by rw [← hAe]; exact Or.inr h
  have hS : va_S A s.heap s.heap [] := va_S.rf
  have hl := lv_entry ([.ref ar, .int v0]) (n := 4) (Nat.le_of_ble_eq_true rfl)
  rw [lg_entry_eq]
  generalize (lg_sl ([.ref ar, .int v0]) ++ List.replicate (4 - (lg_sl ([.ref ar, .int v0])).length) Slot.unset).toArray = ls at hl ⊢
  have hl : lv_has ls 4 [(0, .ref ar), (1, .int v0)] := hl
  have hP : va_P g vwCl [(ar, .inl (cI, 16, .inl f0))] s.heap := hP
  refine lv_iconst (v := 0) hx hb dJ7_fill_53178_0 (by decide) ?_
  refine lv_istore_n (lv' := [(2, .int 0), (0, .ref ar), (1, .int v0)]) hx hb dJ7_fill_53178_1 rfl hl (by decide) rfl (fun ls hl => ?_)
  refine lv_aload_n hx hb dJ7_fill_53178_2 rfl (lv_at hl 1 rfl) ?_
  refine va_alen (D := g) hx hb hK hP 0 0 rfl rfl (v := 16) rfl dJ7_fill_53178_3 ?_
  refine lv_istore_n (lv' := [(3, .int 16), (2, .int 0), (0, .ref ar), (1, .int v0)]) hx hb dJ7_fill_53178_4 rfl hl (by decide) rfl (fun ls hl => ?_)
  have lp3 : ∀ (n1 : Nat) (i : Nat) (f : Nat → Int32) (H : Heap) (locs : List Loc) (ls : Array Slot), 16 - i < n1 → (i ≤ 16) → (∀ k, k < i → f k = v0) → va_P g vwCl [(ar, .inl (cI, 16, .inl f))] H → va_D A [(ar, .inl (cI, 16, .inl f))] → va_S A s.heap H locs → lv_has ls 4 [(0, .ref ar), (1, .int v0), (2, .int (nI i)), (3, .int 16)] → W p l e (headSpec v_J7_fill_53178_16 ({ frames := 0, cells := 0, slots := 0, locals := 0 })).room s m ([.ref ar, .int v0] : List Value).toArray below meth c H locs 0 0 (MQ below (va_Qv (fun (u : Nat → Int32) => match u with | f1 => ∀ k, k < 16 → f1 k = v0) (fun (u : Nat → Int32) (t : State) => bRW g (tyT cI cJ cB cZ cL) A (match u with | f1 => [(ar, .inl (cI, 16, .inl f1))]) t) A) ([.ref ar, .int v0] : List Value).toArray s 0 0 A) (F0 m 5 ls []) := by
    intro n1
    induction n1 with
    | zero => exact fun i f H locs ls hn => absurd hn (Nat.not_lt_zero _)
    | succ n1 ih2 =>
      intro i f H locs ls hn hi hf hP hD hS hl
      refine lv_iload_n hx hb dJ7_fill_53178_5 rfl (lv_at hl 2 rfl) ?_
      refine lv_iload_n hx hb dJ7_fill_53178_6 rfl (lv_at hl 3 rfl) ?_
      refine lv_icmp_ge (tgt := 20) hx hb dJ7_fill_53178_7 (by decide) (fun c4 => ?_) (fun c4 => ?_)
      · have f5 := (show 16 ≤ (i : Int) from z_le rfl (nI_toInt (n := i) (by omega)) c4)
        have hP9 := hP.sub (ws' := [(ar, .inl (cI, 16, .inl f))]) [0] rfl
        have hD9 := hD.sub (ws' := [(ar, .inl (cI, 16, .inl f))]) [0] (by decide) rfl
        exact W.vret hx hb hr (fun t ht hW => ⟨⟨f, rfl, (fun k hk => hf k (by omega)), by rw [ht]; exact hP9, va_K.moved hW.alike hK, hD9⟩, hS.F ht⟩) hS.2.2 dJ7_fill_53178_20
      · have f5 := (show (i : Int) < 16 from z_nle rfl (nI_toInt (n := i) (by omega)) c4)
        refine lv_aload_n hx hb dJ7_fill_53178_10 rfl (lv_at hl 0 rfl) ?_
        refine lv_iload_n hx hb dJ7_fill_53178_11 rfl (lv_at hl 2 rfl) ?_
        refine lv_iload_n hx hb dJ7_fill_53178_12 rfl (lv_at hl 1 rfl) ?_
        refine va_iast (D := g) hx hb hK hP hD hS 0 0 rfl rfl (vp_in_nI (n := i) (by omega) (by decide)) dJ7_fill_53178_13 (fun H locs hP hD hS => ?_)
        rw [nI_clamp (n := i) (by omega)] at hP hD
        have hP : va_P g vwCl [(ar, .inl (cI, 16, .inl (upd f i v0)))] H := hP
        have hD : va_D A [(ar, .inl (cI, 16, .inl (upd f i v0)))] := hD
        refine lv_iinc (v := (nI (i + 1))) (lv' := [(2, .int (nI (i + 1))), (0, .ref ar), (1, .int v0), (3, .int 16)]) hx hb dJ7_fill_53178_14 hl (k := 2) rfl (nI_add i 1) (by decide) rfl (fun ls hl => ?_)
        refine lv_goto (tgt := 5) hx hb dJ7_fill_53178_17 (by decide) ?_
        exact ih2 (i + 1) (upd f i v0) _ _ _ (by omega) (by omega) (fill_s hf (fun k => rfl)) (hP.sub [0] rfl) (hD.sub [0] (by decide) rfl) hS (lv_sub hl [1, 2, 0, 3] rfl)
  exact lp3 _ 0 f0 _ _ _ (Nat.lt_succ_self _) (Nat.zero_le _) (fun k hk => absurd hk (Nat.not_lt_zero _)) (hP.sub [0] rfl) (hD.sub [0] (by decide) rfl) hS (lv_sub hl [2, 3, 1, 0] rfl)
def v_J7_fill_d0a16_32 : List Cond := .code yJ7_fill_d0a16 cJ7_fill_d0a16 5 none :: (([] : List Cond) ++ ([] : List Cond))
theorem good_v_J7_fill_d0a16_32 : v_J7_fill_d0a16_32.all goodWord = true := ga_c (by decide +kernel) (ga_a (by decide +kernel) rfl)
set_option maxHeartbeats 4000000 in
set_option maxRecDepth 100000 in
theorem k_J7_fill_d0a16_32 (l : Launch) (g : va_G) (cI cJ cB cZ cL : ClassId) (ar : Nat) (f0 : Nat → Int64) (v0 : Int64) (sz : Nat)  : Met l yJ7_fill_d0a16 v_J7_fill_d0a16_32 ({ frames := 0, cells := 0, slots := 0, locals := 0 }) (va_Pc [.ref ar, .long v0] (pRW g (tyT cI cJ cB cZ cL) [(ar, .inl (cJ, 32, .inr (.inl f0)))] sz)) (va_Qv (fun (u : Nat → Int64) => match u with | f1 => ∀ k, k < 32 → f1 k = v0) (fun (u : Nat → Int64) (t : State) => bRW g (tyT cI cJ cB cZ cL) (va_A [(ar, .inl (cJ, 32, .inr (.inl f0)))] sz) (match u with | f1 => [(ar, .inl (cJ, 32, .inr (.inl f1)))]) t) (va_A [(ar, .inl (cJ, 32, .inr (.inl f0)))] sz)) 0 0 (va_A [(ar, .inl (cJ, 32, .inr (.inl f0)))] sz) := by
  refine Met.ofW (cc := cJ7_fill_d0a16) (maxL := 5) (ret := none) (by decide) rfl ?_
  intro p e s m args below meth c s₁ B hml hv
  obtain ⟨rfl, hsz, hP, hK, hD0⟩ := hv
  have hx := B.exec
  have hb := B.bytes
  have hr := B.returns
  have hts := atoms_spec (ws := v_J7_fill_d0a16_32) B.pre
  have hown : s.vm.findClass RJ7 = some m.cls := findClass_of_methodNamed B.named
  have hlocks := B.notSynchronized
  subst hsz
  have hD := hD0.self (sz := s.heap.size)
  generalize hAe : (va_A [(ar, .inl (cJ, 32, .inr (.inl f0)))] s.heap.size) = A at hD ⊢
  have hA : ∀ q : Nat, s.heap.size ≤ q → A q := fun q h => by rw [← hAe]; exact Or.inr h
  have hS : va_S A s.heap s.heap [] := va_S.rf
  have hl := lv_entry ([.ref ar, .long v0]) (n := 5) (Nat.le_of_ble_eq_true rfl)
  rw [lg_entry_eq]
  generalize (lg_sl ([.ref ar, .long v0]) ++ List.replicate (5 - (lg_sl ([.ref ar, .long v0])).length) Slot.unset).toArray = ls at hl ⊢
  have hl : lv_has ls 5 [(0, .ref ar), (1, .long v0)] := hl
  have hP : va_P g vwCl [(ar, .inl (cJ, 32, .inr (.inl f0)))] s.heap := hP
  refine lv_iconst (v := 0) hx hb dJ7_fill_d0a16_0 (by decide) ?_
  refine lv_istore_n (lv' := [(3, .int 0), (0, .ref ar), (1, .long v0)]) hx hb dJ7_fill_d0a16_1 rfl hl (by decide) rfl (fun ls hl => ?_)
  refine lv_aload_n hx hb dJ7_fill_d0a16_2 rfl (lv_at hl 1 rfl) ?_
  refine va_alen (D := g) hx hb hK hP 0 1 rfl rfl (v := 32) rfl dJ7_fill_d0a16_3 ?_
  refine lv_istore (lv' := [(4, .int 32), (3, .int 0), (0, .ref ar), (1, .long v0)]) hx hb dJ7_fill_d0a16_4 hl (by decide) rfl (fun ls hl => ?_)
  have lp3 : ∀ (n1 : Nat) (i : Nat) (f : Nat → Int64) (H : Heap) (locs : List Loc) (ls : Array Slot), 32 - i < n1 → (i ≤ 32) → (∀ k, k < i → f k = v0) → va_P g vwCl [(ar, .inl (cJ, 32, .inr (.inl f)))] H → va_D A [(ar, .inl (cJ, 32, .inr (.inl f)))] → va_S A s.heap H locs → lv_has ls 5 [(0, .ref ar), (1, .long v0), (3, .int (nI i)), (4, .int 32)] → W p l e (headSpec v_J7_fill_d0a16_32 ({ frames := 0, cells := 0, slots := 0, locals := 0 })).room s m ([.ref ar, .long v0] : List Value).toArray below meth c H locs 0 0 (MQ below (va_Qv (fun (u : Nat → Int64) => match u with | f1 => ∀ k, k < 32 → f1 k = v0) (fun (u : Nat → Int64) (t : State) => bRW g (tyT cI cJ cB cZ cL) A (match u with | f1 => [(ar, .inl (cJ, 32, .inr (.inl f1)))]) t) A) ([.ref ar, .long v0] : List Value).toArray s 0 0 A) (F0 m 6 ls []) := by
    intro n1
    induction n1 with
    | zero => exact fun i f H locs ls hn => absurd hn (Nat.not_lt_zero _)
    | succ n1 ih2 =>
      intro i f H locs ls hn hi hf hP hD hS hl
      refine lv_iload_n hx hb dJ7_fill_d0a16_6 rfl (lv_at hl 2 rfl) ?_
      refine lv_iload hx hb dJ7_fill_d0a16_7 (lv_at hl 3 rfl) ?_
      refine lv_icmp_ge (tgt := 22) hx hb dJ7_fill_d0a16_9 (by decide) (fun c4 => ?_) (fun c4 => ?_)
      · have f5 := (show 32 ≤ (i : Int) from z_le rfl (nI_toInt (n := i) (by omega)) c4)
        have hP9 := hP.sub (ws' := [(ar, .inl (cJ, 32, .inr (.inl f)))]) [0] rfl
        have hD9 := hD.sub (ws' := [(ar, .inl (cJ, 32, .inr (.inl f)))]) [0] (by decide) rfl
        exact W.vret hx hb hr (fun t ht hW => ⟨⟨f, rfl, (fun k hk => hf k (by omega)), by rw [ht]; exact hP9, va_K.moved hW.alike hK, hD9⟩, hS.F ht⟩) hS.2.2 dJ7_fill_d0a16_22
      · have f5 := (show (i : Int) < 32 from z_nle rfl (nI_toInt (n := i) (by omega)) c4)
        refine lv_aload_n hx hb dJ7_fill_d0a16_12 rfl (lv_at hl 0 rfl) ?_
        refine lv_iload_n hx hb dJ7_fill_d0a16_13 rfl (lv_at hl 2 rfl) ?_
        refine lv_lload_n hx hb dJ7_fill_d0a16_14 rfl (lv_at hl 1 rfl) ?_
        refine va_last (D := g) hx hb hK hP hD hS 0 1 rfl rfl (vp_in_nI (n := i) (by omega) (by decide)) dJ7_fill_d0a16_15 (fun H locs hP hD hS => ?_)
        rw [nI_clamp (n := i) (by omega)] at hP hD
        have hP : va_P g vwCl [(ar, .inl (cJ, 32, .inr (.inl (vp_updL f i v0))))] H := hP
        have hD : va_D A [(ar, .inl (cJ, 32, .inr (.inl (vp_updL f i v0))))] := hD
        refine lv_iinc (v := (nI (i + 1))) (lv' := [(3, .int (nI (i + 1))), (0, .ref ar), (1, .long v0), (4, .int 32)]) hx hb dJ7_fill_d0a16_16 hl (k := 2) rfl (nI_add i 1) (by decide) rfl (fun ls hl => ?_)
        refine lv_goto (tgt := 6) hx hb dJ7_fill_d0a16_19 (by decide) ?_
        exact ih2 (i + 1) (vp_updL f i v0) _ _ _ (by omega) (by omega) (fill_s hf (fun k => rfl)) (hP.sub [0] rfl) (hD.sub [0] (by decide) rfl) hS (lv_sub hl [1, 2, 0, 3] rfl)
  exact lp3 _ 0 f0 _ _ _ (Nat.lt_succ_self _) (Nat.zero_le _) (fun k hk => absurd hk (Nat.not_lt_zero _)) (hP.sub [0] rfl) (hD.sub [0] (by decide) rfl) hS (lv_sub hl [2, 3, 1, 0] rfl)
def v_J13_bitCount_0 : List Cond := .code yJ13_bitCount_95d88 cJ13_bitCount_95d88 2 (some .int) :: (([.constantLong RJ13 314 (6148914691236517205), .constantLong RJ13 316 (3689348814741910323), .constantLong RJ13 318 (1085102592571150095)] : List Cond) ++ ([] : List Cond))
theorem good_v_J13_bitCount_0 : v_J13_bitCount_0.all goodWord = true := ga_c (by decide +kernel) (ga_a (by decide +kernel) rfl)
set_option maxHeartbeats 4000000 in
set_option maxRecDepth 100000 in
theorem k_J13_bitCount_0 (l : Launch) (g : va_G) (cI cJ cB cZ cL : ClassId)  (sz : Nat)  : Met l yJ13_bitCount_95d88 v_J13_bitCount_0 ({ frames := 0, cells := 0, slots := 0, locals := 0 }) (va_Pc [.long 0] (pRO g (tyT cI cJ cB cZ cL) [] sz)) (va_Qi (fun (r : Int32) (u : Unit) => r = 0) (fun (_ : Unit) (_ : State) => True) (va_A [] sz)) 0 0 (va_A [] sz) := by
  refine Met.ofW (cc := cJ13_bitCount_95d88) (maxL := 2) (ret := (some .int)) (by decide) rfl ?_
  intro p e s m args below meth c s₁ B hml hv
  obtain ⟨rfl, hsz, hP, hK⟩ := hv
  have hx := B.exec
  have hb := B.bytes
  have hr := B.returns
  have hts := atoms_spec (ws := v_J13_bitCount_0) B.pre
  have hown : s.vm.findClass RJ13 = some m.cls := findClass_of_methodNamed B.named
  have hlocks := B.notSynchronized
  subst hsz
  generalize hAe : (va_A [] s.heap.size) = A
  have hA : ∀ q : Nat, s.heap.size ≤ q → A q := fun q h => by rw [← hAe]; exact Or.inr h
  have hS : va_S A s.heap s.heap [] := va_S.rf
  have hl := lv_entry ([.long 0]) (n := 2) (Nat.le_of_ble_eq_true rfl)
  rw [lg_entry_eq]
  generalize (lg_sl ([.long 0]) ++ List.replicate (2 - (lg_sl ([.long 0])).length) Slot.unset).toArray = ls at hl ⊢
  have hl : lv_has ls 2 [(0, .long 0)] := hl
  have hP : va_P g vwCl [] s.heap := hP
  refine lv_lload_n hx hb dJ13_bitCount_95d88_0 rfl (lv_at hl 0 rfl) ?_
  refine lv_lload_n hx hb dJ13_bitCount_95d88_1 rfl (lv_at hl 0 rfl) ?_
  refine lv_iconst (v := 1) hx hb dJ13_bitCount_95d88_2 (by decide) ?_
  refine lv_lushr (v := 0) hx hb dJ13_bitCount_95d88_3 (by decide) ?_
  refine lv_ldc2 (v := 6148914691236517205) hx hb hown (hts (.constantLong RJ13 314 (6148914691236517205)) (List.mem_cons_of_mem _ (List.mem_append_left _ (List.mem_of_getElem? (i := 0) rfl)))) dJ13_bitCount_95d88_4 ?_
  refine lv_land hx hb dJ13_bitCount_95d88_7 ?_
  refine lv_topl (nm_r (e' := 0) (by decide) ?_)
  refine lv_lsub hx hb dJ13_bitCount_95d88_8 ?_
  refine lv_topl (nm_r (e' := 0) (by decide) ?_)
  refine lv_lstore_n (lv' := [(0, .long 0)]) hx hb dJ13_bitCount_95d88_9 rfl hl (by decide) rfl (fun ls hl => ?_)
  refine lv_lload_n hx hb dJ13_bitCount_95d88_10 rfl (lv_at hl 0 rfl) ?_
  refine lv_ldc2 (v := 3689348814741910323) hx hb hown (hts (.constantLong RJ13 316 (3689348814741910323)) (List.mem_cons_of_mem _ (List.mem_append_left _ (List.mem_of_getElem? (i := 1) rfl)))) dJ13_bitCount_95d88_11 ?_
  refine lv_land hx hb dJ13_bitCount_95d88_14 ?_
  refine lv_topl (nm_r (e' := 0) (by decide) ?_)
  refine lv_lload_n hx hb dJ13_bitCount_95d88_15 rfl (lv_at hl 0 rfl) ?_
  refine lv_iconst (v := 2) hx hb dJ13_bitCount_95d88_16 (by decide) ?_
  refine lv_lushr (v := 0) hx hb dJ13_bitCount_95d88_17 (by decide) ?_
  refine lv_ldc2 (v := 3689348814741910323) hx hb hown (hts (.constantLong RJ13 316 (3689348814741910323)) (List.mem_cons_of_mem _ (List.mem_append_left _ (List.mem_of_getElem? (i := 1) rfl)))) dJ13_bitCount_95d88_18 ?_
  refine lv_land hx hb dJ13_bitCount_95d88_21 ?_
  refine lv_topl (nm_r (e' := 0) (by decide) ?_)
  refine lv_ladd hx hb dJ13_bitCount_95d88_22 ?_
  refine lv_topl (nm_r (e' := 0) (by decide) ?_)
  refine lv_lstore_n (lv' := [(0, .long 0)]) hx hb dJ13_bitCount_95d88_23 rfl hl (by decide) rfl (fun ls hl => ?_)
  refine lv_lload_n hx hb dJ13_bitCount_95d88_24 rfl (lv_at hl 0 rfl) ?_
  refine lv_lload_n hx hb dJ13_bitCount_95d88_25 rfl (lv_at hl 0 rfl) ?_
  refine lv_iconst (v := 4) hx hb dJ13_bitCount_95d88_26 (by decide) ?_
  refine lv_lushr (v := 0) hx hb dJ13_bitCount_95d88_27 (by decide) ?_
  refine lv_ladd hx hb dJ13_bitCount_95d88_28 ?_
  refine lv_topl (nm_r (e' := 0) (by decide) ?_)
  refine lv_ldc2 (v := 1085102592571150095) hx hb hown (hts (.constantLong RJ13 318 (1085102592571150095)) (List.mem_cons_of_mem _ (List.mem_append_left _ (List.mem_of_getElem? (i := 2) rfl)))) dJ13_bitCount_95d88_29 ?_
  refine lv_land hx hb dJ13_bitCount_95d88_32 ?_
  refine lv_topl (nm_r (e' := 0) (by decide) ?_)
  refine lv_lstore_n (lv' := [(0, .long 0)]) hx hb dJ13_bitCount_95d88_33 rfl hl (by decide) rfl (fun ls hl => ?_)
  refine lv_lload_n hx hb dJ13_bitCount_95d88_34 rfl (lv_at hl 0 rfl) ?_
  refine lv_lload_n hx hb dJ13_bitCount_95d88_35 rfl (lv_at hl 0 rfl) ?_
  refine lv_bipush (v := 8) hx hb dJ13_bitCount_95d88_36 (by decide) ?_
  refine lv_lushr (v := 0) hx hb dJ13_bitCount_95d88_38 (by decide) ?_
  refine lv_ladd hx hb dJ13_bitCount_95d88_39 ?_
  refine lv_topl (nm_r (e' := 0) (by decide) ?_)
  refine lv_lstore_n (lv' := [(0, .long 0)]) hx hb dJ13_bitCount_95d88_40 rfl hl (by decide) rfl (fun ls hl => ?_)
  refine lv_lload_n hx hb dJ13_bitCount_95d88_41 rfl (lv_at hl 0 rfl) ?_
  refine lv_lload_n hx hb dJ13_bitCount_95d88_42 rfl (lv_at hl 0 rfl) ?_
  refine lv_bipush (v := 16) hx hb dJ13_bitCount_95d88_43 (by decide) ?_
  refine lv_lushr (v := 0) hx hb dJ13_bitCount_95d88_45 (by decide) ?_
  refine lv_ladd hx hb dJ13_bitCount_95d88_46 ?_
  refine lv_topl (nm_r (e' := 0) (by decide) ?_)
  refine lv_lstore_n (lv' := [(0, .long 0)]) hx hb dJ13_bitCount_95d88_47 rfl hl (by decide) rfl (fun ls hl => ?_)
  refine lv_lload_n hx hb dJ13_bitCount_95d88_48 rfl (lv_at hl 0 rfl) ?_
  refine lv_lload_n hx hb dJ13_bitCount_95d88_49 rfl (lv_at hl 0 rfl) ?_
  refine lv_bipush (v := 32) hx hb dJ13_bitCount_95d88_50 (by decide) ?_
  refine lv_lushr (v := 0) hx hb dJ13_bitCount_95d88_52 (by decide) ?_
  refine lv_ladd hx hb dJ13_bitCount_95d88_53 ?_
  refine lv_topl (nm_r (e' := 0) (by decide) ?_)
  refine lv_lstore_n (lv' := [(0, .long 0)]) hx hb dJ13_bitCount_95d88_54 rfl hl (by decide) rfl (fun ls hl => ?_)
  refine lv_lload_n hx hb dJ13_bitCount_95d88_55 rfl (lv_at hl 0 rfl) ?_
  refine lv_l2i (v := 0) hx hb dJ13_bitCount_95d88_56 (by decide) ?_
  refine lv_bipush (v := 127) hx hb dJ13_bitCount_95d88_57 (by decide) ?_
  refine lv_iand hx hb dJ13_bitCount_95d88_59 ?_
  refine lv_topi (nm_r (e' := 0) (by decide) ?_)
  exact W.iret (v := 0) hx hb hr (fun t ht hW => ⟨⟨0, (), rfl, rfl, trivial⟩, hS.F ht⟩) hS.2.2 dJ13_bitCount_95d88_60
def v_J6_bitCount_0 : List Cond := .code yJ6_bitCount_0f7a4 cJ6_bitCount_0f7a4 1 (some .int) :: (([.constant RJ6 265 (1431655765), .constant RJ6 266 (858993459), .constant RJ6 267 (252645135)] : List Cond) ++ ([] : List Cond))
theorem good_v_J6_bitCount_0 : v_J6_bitCount_0.all goodWord = true := ga_c (by decide +kernel) (ga_a (by decide +kernel) rfl)
set_option maxHeartbeats 4000000 in
set_option maxRecDepth 100000 in
theorem k_J6_bitCount_0 (l : Launch) (g : va_G) (cI cJ cB cZ cL : ClassId)  (sz : Nat)  : Met l yJ6_bitCount_0f7a4 v_J6_bitCount_0 ({ frames := 0, cells := 0, slots := 0, locals := 0 }) (va_Pc [.int 0] (pRO g (tyT cI cJ cB cZ cL) [] sz)) (va_Qi (fun (r : Int32) (u : Unit) => r = 0) (fun (_ : Unit) (_ : State) => True) (va_A [] sz)) 0 0 (va_A [] sz) := by
  refine Met.ofW (cc := cJ6_bitCount_0f7a4) (maxL := 1) (ret := (some .int)) (by decide) rfl ?_
  intro p e s m args below meth c s₁ B hml hv
  obtain ⟨rfl, hsz, hP, hK⟩ := hv
  have hx := B.exec
  have hb := B.bytes
  have hr := B.returns
  have hts := atoms_spec (ws := v_J6_bitCount_0) B.pre
  have hown : s.vm.findClass RJ6 = some m.cls := findClass_of_methodNamed B.named
  have hlocks := B.notSynchronized
  subst hsz
  generalize hAe : (va_A [] s.heap.size) = A
  have hA : ∀ q : Nat, s.heap.size ≤ q → A q := fun q h => by rw [← hAe]; exact Or.inr h
  have hS : va_S A s.heap s.heap [] := va_S.rf
  have hl := lv_entry ([.int 0]) (n := 1) (Nat.le_of_ble_eq_true rfl)
  rw [lg_entry_eq]
  generalize (lg_sl ([.int 0]) ++ List.replicate (1 - (lg_sl ([.int 0])).length) Slot.unset).toArray = ls at hl ⊢
  have hl : lv_has ls 1 [(0, .int 0)] := hl
  have hP : va_P g vwCl [] s.heap := hP
  refine lv_iload_n hx hb dJ6_bitCount_0f7a4_0 rfl (lv_at hl 0 rfl) ?_
  refine lv_iload_n hx hb dJ6_bitCount_0f7a4_1 rfl (lv_at hl 0 rfl) ?_
  refine lv_iconst (v := 1) hx hb dJ6_bitCount_0f7a4_2 (by decide) ?_
  refine lv_iushr (v := 0) hx hb dJ6_bitCount_0f7a4_3 (by decide) ?_
  refine lv_ldcw (v := 1431655765) hx hb hown (hts (.constant RJ6 265 (1431655765)) (List.mem_cons_of_mem _ (List.mem_append_left _ (List.mem_of_getElem? (i := 0) rfl)))) dJ6_bitCount_0f7a4_4 ?_
  refine lv_iand hx hb dJ6_bitCount_0f7a4_7 ?_
  refine lv_topi (nm_r (e' := 0) (by decide) ?_)
  refine lv_isub hx hb dJ6_bitCount_0f7a4_8 ?_
  refine lv_topi (nm_r (e' := 0) (by decide) ?_)
  refine lv_istore_n (lv' := [(0, .int 0)]) hx hb dJ6_bitCount_0f7a4_9 rfl hl (by decide) rfl (fun ls hl => ?_)
  refine lv_iload_n hx hb dJ6_bitCount_0f7a4_10 rfl (lv_at hl 0 rfl) ?_
  refine lv_ldcw (v := 858993459) hx hb hown (hts (.constant RJ6 266 (858993459)) (List.mem_cons_of_mem _ (List.mem_append_left _ (List.mem_of_getElem? (i := 1) rfl)))) dJ6_bitCount_0f7a4_11 ?_
  refine lv_iand hx hb dJ6_bitCount_0f7a4_14 ?_
  refine lv_topi (nm_r (e' := 0) (by decide) ?_)
  refine lv_iload_n hx hb dJ6_bitCount_0f7a4_15 rfl (lv_at hl 0 rfl) ?_
  refine lv_iconst (v := 2) hx hb dJ6_bitCount_0f7a4_16 (by decide) ?_
  refine lv_iushr (v := 0) hx hb dJ6_bitCount_0f7a4_17 (by decide) ?_
  refine lv_ldcw (v := 858993459) hx hb hown (hts (.constant RJ6 266 (858993459)) (List.mem_cons_of_mem _ (List.mem_append_left _ (List.mem_of_getElem? (i := 1) rfl)))) dJ6_bitCount_0f7a4_18 ?_
  refine lv_iand hx hb dJ6_bitCount_0f7a4_21 ?_
  refine lv_topi (nm_r (e' := 0) (by decide) ?_)
  refine lv_iadd hx hb dJ6_bitCount_0f7a4_22 ?_
  refine lv_topi (nm_r (e' := 0) (by decide) ?_)
  refine lv_istore_n (lv' := [(0, .int 0)]) hx hb dJ6_bitCount_0f7a4_23 rfl hl (by decide) rfl (fun ls hl => ?_)
  refine lv_iload_n hx hb dJ6_bitCount_0f7a4_24 rfl (lv_at hl 0 rfl) ?_
  refine lv_iload_n hx hb dJ6_bitCount_0f7a4_25 rfl (lv_at hl 0 rfl) ?_
  refine lv_iconst (v := 4) hx hb dJ6_bitCount_0f7a4_26 (by decide) ?_
  refine lv_iushr (v := 0) hx hb dJ6_bitCount_0f7a4_27 (by decide) ?_
  refine lv_iadd hx hb dJ6_bitCount_0f7a4_28 ?_
  refine lv_topi (nm_r (e' := 0) (by decide) ?_)
  refine lv_ldcw (v := 252645135) hx hb hown (hts (.constant RJ6 267 (252645135)) (List.mem_cons_of_mem _ (List.mem_append_left _ (List.mem_of_getElem? (i := 2) rfl)))) dJ6_bitCount_0f7a4_29 ?_
  refine lv_iand hx hb dJ6_bitCount_0f7a4_32 ?_
  refine lv_topi (nm_r (e' := 0) (by decide) ?_)
  refine lv_istore_n (lv' := [(0, .int 0)]) hx hb dJ6_bitCount_0f7a4_33 rfl hl (by decide) rfl (fun ls hl => ?_)
  refine lv_iload_n hx hb dJ6_bitCount_0f7a4_34 rfl (lv_at hl 0 rfl) ?_
  refine lv_iload_n hx hb dJ6_bitCount_0f7a4_35 rfl (lv_at hl 0 rfl) ?_
  refine lv_bipush (v := 8) hx hb dJ6_bitCount_0f7a4_36 (by decide) ?_
  refine lv_iushr (v := 0) hx hb dJ6_bitCount_0f7a4_38 (by decide) ?_
  refine lv_iadd hx hb dJ6_bitCount_0f7a4_39 ?_
  refine lv_topi (nm_r (e' := 0) (by decide) ?_)
  refine lv_istore_n (lv' := [(0, .int 0)]) hx hb dJ6_bitCount_0f7a4_40 rfl hl (by decide) rfl (fun ls hl => ?_)
  refine lv_iload_n hx hb dJ6_bitCount_0f7a4_41 rfl (lv_at hl 0 rfl) ?_
  refine lv_iload_n hx hb dJ6_bitCount_0f7a4_42 rfl (lv_at hl 0 rfl) ?_
  refine lv_bipush (v := 16) hx hb dJ6_bitCount_0f7a4_43 (by decide) ?_
  refine lv_iushr (v := 0) hx hb dJ6_bitCount_0f7a4_45 (by decide) ?_
  refine lv_iadd hx hb dJ6_bitCount_0f7a4_46 ?_
  refine lv_topi (nm_r (e' := 0) (by decide) ?_)
  refine lv_istore_n (lv' := [(0, .int 0)]) hx hb dJ6_bitCount_0f7a4_47 rfl hl (by decide) rfl (fun ls hl => ?_)
  refine lv_iload_n hx hb dJ6_bitCount_0f7a4_48 rfl (lv_at hl 0 rfl) ?_
  refine lv_bipush (v := 63) hx hb dJ6_bitCount_0f7a4_49 (by decide) ?_
  refine lv_iand hx hb dJ6_bitCount_0f7a4_51 ?_
  refine lv_topi (nm_r (e' := 0) (by decide) ?_)
  exact W.iret (v := 0) hx hb hr (fun t ht hW => ⟨⟨0, (), rfl, rfl, trivial⟩, hS.F ht⟩) hS.2.2 dJ6_bitCount_0f7a4_52
def v_J6_bitCount_1 : List Cond := .code yJ6_bitCount_0f7a4 cJ6_bitCount_0f7a4 1 (some .int) :: (([.constant RJ6 265 (1431655765), .constant RJ6 266 (858993459), .constant RJ6 267 (252645135)] : List Cond) ++ ([] : List Cond))
theorem good_v_J6_bitCount_1 : v_J6_bitCount_1.all goodWord = true := ga_c (by decide +kernel) (ga_a (by decide +kernel) rfl)
set_option maxHeartbeats 4000000 in
set_option maxRecDepth 100000 in
theorem k_J6_bitCount_1 (l : Launch) (g : va_G) (cI cJ cB cZ cL : ClassId)  (sz : Nat)  : Met l yJ6_bitCount_0f7a4 v_J6_bitCount_1 ({ frames := 0, cells := 0, slots := 0, locals := 0 }) (va_Pc [.int 1] (pRO g (tyT cI cJ cB cZ cL) [] sz)) (va_Qi (fun (r : Int32) (u : Unit) => r = 1) (fun (_ : Unit) (_ : State) => True) (va_A [] sz)) 0 0 (va_A [] sz) := by
  refine Met.ofW (cc := cJ6_bitCount_0f7a4) (maxL := 1) (ret := (some .int)) (by decide) rfl ?_
  intro p e s m args below meth c s₁ B hml hv
  obtain ⟨rfl, hsz, hP, hK⟩ := hv
  have hx := B.exec
  have hb := B.bytes
  have hr := B.returns
  have hts := atoms_spec (ws := v_J6_bitCount_1) B.pre
  have hown : s.vm.findClass RJ6 = some m.cls := findClass_of_methodNamed B.named
  have hlocks := B.notSynchronized
  subst hsz
  generalize hAe : (va_A [] s.heap.size) = A
  have hA : ∀ q : Nat, s.heap.size ≤ q → A q := fun q h => by rw [← hAe]; exact Or.inr h
  have hS : va_S A s.heap s.heap [] := va_S.rf
  have hl := lv_entry ([.int 1]) (n := 1) (Nat.le_of_ble_eq_true rfl)
  rw [lg_entry_eq]
  generalize (lg_sl ([.int 1]) ++ List.replicate (1 - (lg_sl ([.int 1])).length) Slot.unset).toArray = ls at hl ⊢
  have hl : lv_has ls 1 [(0, .int 1)] := hl
  have hP : va_P g vwCl [] s.heap := hP
  refine lv_iload_n hx hb dJ6_bitCount_0f7a4_0 rfl (lv_at hl 0 rfl) ?_
  refine lv_iload_n hx hb dJ6_bitCount_0f7a4_1 rfl (lv_at hl 0 rfl) ?_
  refine lv_iconst (v := 1) hx hb dJ6_bitCount_0f7a4_2 (by decide) ?_
  refine lv_iushr (v := 0) hx hb dJ6_bitCount_0f7a4_3 (by decide) ?_
  refine lv_ldcw (v := 1431655765) hx hb hown (hts (.constant RJ6 265 (1431655765)) (List.mem_cons_of_mem _ (List.mem_append_left _ (List.mem_of_getElem? (i := 0) rfl)))) dJ6_bitCount_0f7a4_4 ?_
  refine lv_iand hx hb dJ6_bitCount_0f7a4_7 ?_
  refine lv_topi (nm_r (e' := 0) (by decide) ?_)
  refine lv_isub hx hb dJ6_bitCount_0f7a4_8 ?_
  refine lv_topi (nm_r (e' := 1) (by decide) ?_)
  refine lv_istore_n (lv' := [(0, .int 1)]) hx hb dJ6_bitCount_0f7a4_9 rfl hl (by decide) rfl (fun ls hl => ?_)
  refine lv_iload_n hx hb dJ6_bitCount_0f7a4_10 rfl (lv_at hl 0 rfl) ?_
  refine lv_ldcw (v := 858993459) hx hb hown (hts (.constant RJ6 266 (858993459)) (List.mem_cons_of_mem _ (List.mem_append_left _ (List.mem_of_getElem? (i := 1) rfl)))) dJ6_bitCount_0f7a4_11 ?_
  refine lv_iand hx hb dJ6_bitCount_0f7a4_14 ?_
  refine lv_topi (nm_r (e' := 1) (by decide) ?_)
  refine lv_iload_n hx hb dJ6_bitCount_0f7a4_15 rfl (lv_at hl 0 rfl) ?_
  refine lv_iconst (v := 2) hx hb dJ6_bitCount_0f7a4_16 (by decide) ?_
  refine lv_iushr (v := 0) hx hb dJ6_bitCount_0f7a4_17 (by decide) ?_
  refine lv_ldcw (v := 858993459) hx hb hown (hts (.constant RJ6 266 (858993459)) (List.mem_cons_of_mem _ (List.mem_append_left _ (List.mem_of_getElem? (i := 1) rfl)))) dJ6_bitCount_0f7a4_18 ?_
  refine lv_iand hx hb dJ6_bitCount_0f7a4_21 ?_
  refine lv_topi (nm_r (e' := 0) (by decide) ?_)
  refine lv_iadd hx hb dJ6_bitCount_0f7a4_22 ?_
  refine lv_topi (nm_r (e' := 1) (by decide) ?_)
  refine lv_istore_n (lv' := [(0, .int 1)]) hx hb dJ6_bitCount_0f7a4_23 rfl hl (by decide) rfl (fun ls hl => ?_)
  refine lv_iload_n hx hb dJ6_bitCount_0f7a4_24 rfl (lv_at hl 0 rfl) ?_
  refine lv_iload_n hx hb dJ6_bitCount_0f7a4_25 rfl (lv_at hl 0 rfl) ?_
  refine lv_iconst (v := 4) hx hb dJ6_bitCount_0f7a4_26 (by decide) ?_
  refine lv_iushr (v := 0) hx hb dJ6_bitCount_0f7a4_27 (by decide) ?_
  refine lv_iadd hx hb dJ6_bitCount_0f7a4_28 ?_
  refine lv_topi (nm_r (e' := 1) (by decide) ?_)
  refine lv_ldcw (v := 252645135) hx hb hown (hts (.constant RJ6 267 (252645135)) (List.mem_cons_of_mem _ (List.mem_append_left _ (List.mem_of_getElem? (i := 2) rfl)))) dJ6_bitCount_0f7a4_29 ?_
  refine lv_iand hx hb dJ6_bitCount_0f7a4_32 ?_
  refine lv_topi (nm_r (e' := 1) (by decide) ?_)
  refine lv_istore_n (lv' := [(0, .int 1)]) hx hb dJ6_bitCount_0f7a4_33 rfl hl (by decide) rfl (fun ls hl => ?_)
  refine lv_iload_n hx hb dJ6_bitCount_0f7a4_34 rfl (lv_at hl 0 rfl) ?_
  refine lv_iload_n hx hb dJ6_bitCount_0f7a4_35 rfl (lv_at hl 0 rfl) ?_
  refine lv_bipush (v := 8) hx hb dJ6_bitCount_0f7a4_36 (by decide) ?_
  refine lv_iushr (v := 0) hx hb dJ6_bitCount_0f7a4_38 (by decide) ?_
  refine lv_iadd hx hb dJ6_bitCount_0f7a4_39 ?_
  refine lv_topi (nm_r (e' := 1) (by decide) ?_)
  refine lv_istore_n (lv' := [(0, .int 1)]) hx hb dJ6_bitCount_0f7a4_40 rfl hl (by decide) rfl (fun ls hl => ?_)
  refine lv_iload_n hx hb dJ6_bitCount_0f7a4_41 rfl (lv_at hl 0 rfl) ?_
  refine lv_iload_n hx hb dJ6_bitCount_0f7a4_42 rfl (lv_at hl 0 rfl) ?_
  refine lv_bipush (v := 16) hx hb dJ6_bitCount_0f7a4_43 (by decide) ?_
  refine lv_iushr (v := 0) hx hb dJ6_bitCount_0f7a4_45 (by decide) ?_
  refine lv_iadd hx hb dJ6_bitCount_0f7a4_46 ?_
  refine lv_topi (nm_r (e' := 1) (by decide) ?_)
  refine lv_istore_n (lv' := [(0, .int 1)]) hx hb dJ6_bitCount_0f7a4_47 rfl hl (by decide) rfl (fun ls hl => ?_)
  refine lv_iload_n hx hb dJ6_bitCount_0f7a4_48 rfl (lv_at hl 0 rfl) ?_
  refine lv_bipush (v := 63) hx hb dJ6_bitCount_0f7a4_49 (by decide) ?_
  refine lv_iand hx hb dJ6_bitCount_0f7a4_51 ?_
  refine lv_topi (nm_r (e' := 1) (by decide) ?_)
  exact W.iret (v := 1) hx hb hr (fun t ht hW => ⟨⟨1, (), rfl, rfl, trivial⟩, hS.F ht⟩) hS.2.2 dJ6_bitCount_0f7a4_52
def v_J6_bitCount_2 : List Cond := .code yJ6_bitCount_0f7a4 cJ6_bitCount_0f7a4 1 (some .int) :: (([.constant RJ6 265 (1431655765), .constant RJ6 266 (858993459), .constant RJ6 267 (252645135)] : List Cond) ++ ([] : List Cond))
theorem good_v_J6_bitCount_2 : v_J6_bitCount_2.all goodWord = true := ga_c (by decide +kernel) (ga_a (by decide +kernel) rfl)
set_option maxHeartbeats 4000000 in
set_option maxRecDepth 100000 in
theorem k_J6_bitCount_2 (l : Launch) (g : va_G) (cI cJ cB cZ cL : ClassId)  (sz : Nat)  : Met l yJ6_bitCount_0f7a4 v_J6_bitCount_2 ({ frames := 0, cells := 0, slots := 0, locals := 0 }) (va_Pc [.int 2] (pRO g (tyT cI cJ cB cZ cL) [] sz)) (va_Qi (fun (r : Int32) (u : Unit) => r = 1) (fun (_ : Unit) (_ : State) => True) (va_A [] sz)) 0 0 (va_A [] sz) := by
  refine Met.ofW (cc := cJ6_bitCount_0f7a4) (maxL := 1) (ret := (some .int)) (by decide) rfl ?_
  intro p e s m args below meth c s₁ B hml hv
  obtain ⟨rfl, hsz, hP, hK⟩ := hv
  have hx := B.exec
  have hb := B.bytes
  have hr := B.returns
  have hts := atoms_spec (ws := v_J6_bitCount_2) B.pre
  have hown : s.vm.findClass RJ6 = some m.cls := findClass_of_methodNamed B.named
  have hlocks := B.notSynchronized
  subst hsz
  generalize hAe : (va_A [] s.heap.size) = A
  have hA : ∀ q : Nat, s.heap.size ≤ q → A q := fun q h => by rw [← hAe]; exact Or.inr h
  have hS : va_S A s.heap s.heap [] := va_S.rf
  have hl := lv_entry ([.int 2]) (n := 1) (Nat.le_of_ble_eq_true rfl)
  rw [lg_entry_eq]
  generalize (lg_sl ([.int 2]) ++ List.replicate (1 - (lg_sl ([.int 2])).length) Slot.unset).toArray = ls at hl ⊢
  have hl : lv_has ls 1 [(0, .int 2)] := hl
  have hP : va_P g vwCl [] s.heap := hP
  refine lv_iload_n hx hb dJ6_bitCount_0f7a4_0 rfl (lv_at hl 0 rfl) ?_
  refine lv_iload_n hx hb dJ6_bitCount_0f7a4_1 rfl (lv_at hl 0 rfl) ?_
  refine lv_iconst (v := 1) hx hb dJ6_bitCount_0f7a4_2 (by decide) ?_
  refine lv_iushr (v := 1) hx hb dJ6_bitCount_0f7a4_3 (by decide) ?_
  refine lv_ldcw (v := 1431655765) hx hb hown (hts (.constant RJ6 265 (1431655765)) (List.mem_cons_of_mem _ (List.mem_append_left _ (List.mem_of_getElem? (i := 0) rfl)))) dJ6_bitCount_0f7a4_4 ?_
  refine lv_iand hx hb dJ6_bitCount_0f7a4_7 ?_
  refine lv_topi (nm_r (e' := 1) (by decide) ?_)
  refine lv_isub hx hb dJ6_bitCount_0f7a4_8 ?_
  refine lv_topi (nm_r (e' := 1) (by decide) ?_)
  refine lv_istore_n (lv' := [(0, .int 1)]) hx hb dJ6_bitCount_0f7a4_9 rfl hl (by decide) rfl (fun ls hl => ?_)
  refine lv_iload_n hx hb dJ6_bitCount_0f7a4_10 rfl (lv_at hl 0 rfl) ?_
  refine lv_ldcw (v := 858993459) hx hb hown (hts (.constant RJ6 266 (858993459)) (List.mem_cons_of_mem _ (List.mem_append_left _ (List.mem_of_getElem? (i := 1) rfl)))) dJ6_bitCount_0f7a4_11 ?_
  refine lv_iand hx hb dJ6_bitCount_0f7a4_14 ?_
  refine lv_topi (nm_r (e' := 1) (by decide) ?_)
  refine lv_iload_n hx hb dJ6_bitCount_0f7a4_15 rfl (lv_at hl 0 rfl) ?_
  refine lv_iconst (v := 2) hx hb dJ6_bitCount_0f7a4_16 (by decide) ?_
  refine lv_iushr (v := 0) hx hb dJ6_bitCount_0f7a4_17 (by decide) ?_
  refine lv_ldcw (v := 858993459) hx hb hown (hts (.constant RJ6 266 (858993459)) (List.mem_cons_of_mem _ (List.mem_append_left _ (List.mem_of_getElem? (i := 1) rfl)))) dJ6_bitCount_0f7a4_18 ?_
  refine lv_iand hx hb dJ6_bitCount_0f7a4_21 ?_
  refine lv_topi (nm_r (e' := 0) (by decide) ?_)
  refine lv_iadd hx hb dJ6_bitCount_0f7a4_22 ?_
  refine lv_topi (nm_r (e' := 1) (by decide) ?_)
  refine lv_istore_n (lv' := [(0, .int 1)]) hx hb dJ6_bitCount_0f7a4_23 rfl hl (by decide) rfl (fun ls hl => ?_)
  refine lv_iload_n hx hb dJ6_bitCount_0f7a4_24 rfl (lv_at hl 0 rfl) ?_
  refine lv_iload_n hx hb dJ6_bitCount_0f7a4_25 rfl (lv_at hl 0 rfl) ?_
  refine lv_iconst (v := 4) hx hb dJ6_bitCount_0f7a4_26 (by decide) ?_
  refine lv_iushr (v := 0) hx hb dJ6_bitCount_0f7a4_27 (by decide) ?_
  refine lv_iadd hx hb dJ6_bitCount_0f7a4_28 ?_
  refine lv_topi (nm_r (e' := 1) (by decide) ?_)
  refine lv_ldcw (v := 252645135) hx hb hown (hts (.constant RJ6 267 (252645135)) (List.mem_cons_of_mem _ (List.mem_append_left _ (List.mem_of_getElem? (i := 2) rfl)))) dJ6_bitCount_0f7a4_29 ?_
  refine lv_iand hx hb dJ6_bitCount_0f7a4_32 ?_
  refine lv_topi (nm_r (e' := 1) (by decide) ?_)
  refine lv_istore_n (lv' := [(0, .int 1)]) hx hb dJ6_bitCount_0f7a4_33 rfl hl (by decide) rfl (fun ls hl => ?_)
  refine lv_iload_n hx hb dJ6_bitCount_0f7a4_34 rfl (lv_at hl 0 rfl) ?_
  refine lv_iload_n hx hb dJ6_bitCount_0f7a4_35 rfl (lv_at hl 0 rfl) ?_
  refine lv_bipush (v := 8) hx hb dJ6_bitCount_0f7a4_36 (by decide) ?_
  refine lv_iushr (v := 0) hx hb dJ6_bitCount_0f7a4_38 (by decide) ?_
  refine lv_iadd hx hb dJ6_bitCount_0f7a4_39 ?_
  refine lv_topi (nm_r (e' := 1) (by decide) ?_)
  refine lv_istore_n (lv' := [(0, .int 1)]) hx hb dJ6_bitCount_0f7a4_40 rfl hl (by decide) rfl (fun ls hl => ?_)
  refine lv_iload_n hx hb dJ6_bitCount_0f7a4_41 rfl (lv_at hl 0 rfl) ?_
  refine lv_iload_n hx hb dJ6_bitCount_0f7a4_42 rfl (lv_at hl 0 rfl) ?_
  refine lv_bipush (v := 16) hx hb dJ6_bitCount_0f7a4_43 (by decide) ?_
  refine lv_iushr (v := 0) hx hb dJ6_bitCount_0f7a4_45 (by decide) ?_
  refine lv_iadd hx hb dJ6_bitCount_0f7a4_46 ?_
  refine lv_topi (nm_r (e' := 1) (by decide) ?_)
  refine lv_istore_n (lv' := [(0, .int 1)]) hx hb dJ6_bitCount_0f7a4_47 rfl hl (by decide) rfl (fun ls hl => ?_)
  refine lv_iload_n hx hb dJ6_bitCount_0f7a4_48 rfl (lv_at hl 0 rfl) ?_
  refine lv_bipush (v := 63) hx hb dJ6_bitCount_0f7a4_49 (by decide) ?_
  refine lv_iand hx hb dJ6_bitCount_0f7a4_51 ?_
  refine lv_topi (nm_r (e' := 1) (by decide) ?_)
  exact W.iret (v := 1) hx hb hr (fun t ht hW => ⟨⟨1, (), rfl, rfl, trivial⟩, hS.F ht⟩) hS.2.2 dJ6_bitCount_0f7a4_52
def v_J6_bitCount_3 : List Cond := .code yJ6_bitCount_0f7a4 cJ6_bitCount_0f7a4 1 (some .int) :: (([.constant RJ6 265 (1431655765), .constant RJ6 266 (858993459), .constant RJ6 267 (252645135)] : List Cond) ++ ([] : List Cond))
theorem good_v_J6_bitCount_3 : v_J6_bitCount_3.all goodWord = true := ga_c (by decide +kernel) (ga_a (by decide +kernel) rfl)
set_option maxHeartbeats 4000000 in
set_option maxRecDepth 100000 in
theorem k_J6_bitCount_3 (l : Launch) (g : va_G) (cI cJ cB cZ cL : ClassId)  (sz : Nat)  : Met l yJ6_bitCount_0f7a4 v_J6_bitCount_3 ({ frames := 0, cells := 0, slots := 0, locals := 0 }) (va_Pc [.int 3] (pRO g (tyT cI cJ cB cZ cL) [] sz)) (va_Qi (fun (r : Int32) (u : Unit) => r = 2) (fun (_ : Unit) (_ : State) => True) (va_A [] sz)) 0 0 (va_A [] sz) := by
  refine Met.ofW (cc := cJ6_bitCount_0f7a4) (maxL := 1) (ret := (some .int)) (by decide) rfl ?_
  intro p e s m args below meth c s₁ B hml hv
  obtain ⟨rfl, hsz, hP, hK⟩ := hv
  have hx := B.exec
  have hb := B.bytes
  have hr := B.returns
  have hts := atoms_spec (ws := v_J6_bitCount_3) B.pre
  have hown : s.vm.findClass RJ6 = some m.cls := findClass_of_methodNamed B.named
  have hlocks := B.notSynchronized
  subst hsz
  generalize hAe : (va_A [] s.heap.size) = A
  have hA : ∀ q : Nat, s.heap.size ≤ q → A q := fun q h => by rw [← hAe]; exact Or.inr h
  have hS : va_S A s.heap s.heap [] := va_S.rf
  have hl := lv_entry ([.int 3]) (n := 1) (Nat.le_of_ble_eq_true rfl)
  rw [lg_entry_eq]
  generalize (lg_sl ([.int 3]) ++ List.replicate (1 - (lg_sl ([.int 3])).length) Slot.unset).toArray = ls at hl ⊢
  have hl : lv_has ls 1 [(0, .int 3)] := hl
  have hP : va_P g vwCl [] s.heap := hP
  refine lv_iload_n hx hb dJ6_bitCount_0f7a4_0 rfl (lv_at hl 0 rfl) ?_
  refine lv_iload_n hx hb dJ6_bitCount_0f7a4_1 rfl (lv_at hl 0 rfl) ?_
  refine lv_iconst (v := 1) hx hb dJ6_bitCount_0f7a4_2 (by decide) ?_
  refine lv_iushr (v := 1) hx hb dJ6_bitCount_0f7a4_3 (by decide) ?_
  refine lv_ldcw (v := 1431655765) hx hb hown (hts (.constant RJ6 265 (1431655765)) (List.mem_cons_of_mem _ (List.mem_append_left _ (List.mem_of_getElem? (i := 0) rfl)))) dJ6_bitCount_0f7a4_4 ?_
  refine lv_iand hx hb dJ6_bitCount_0f7a4_7 ?_
  refine lv_topi (nm_r (e' := 1) (by decide) ?_)
  refine lv_isub hx hb dJ6_bitCount_0f7a4_8 ?_
  refine lv_topi (nm_r (e' := 2) (by decide) ?_)
  refine lv_istore_n (lv' := [(0, .int 2)]) hx hb dJ6_bitCount_0f7a4_9 rfl hl (by decide) rfl (fun ls hl => ?_)
  refine lv_iload_n hx hb dJ6_bitCount_0f7a4_10 rfl (lv_at hl 0 rfl) ?_
  refine lv_ldcw (v := 858993459) hx hb hown (hts (.constant RJ6 266 (858993459)) (List.mem_cons_of_mem _ (List.mem_append_left _ (List.mem_of_getElem? (i := 1) rfl)))) dJ6_bitCount_0f7a4_11 ?_
  refine lv_iand hx hb dJ6_bitCount_0f7a4_14 ?_
  refine lv_topi (nm_r (e' := 2) (by decide) ?_)
  refine lv_iload_n hx hb dJ6_bitCount_0f7a4_15 rfl (lv_at hl 0 rfl) ?_
  refine lv_iconst (v := 2) hx hb dJ6_bitCount_0f7a4_16 (by decide) ?_
  refine lv_iushr (v := 0) hx hb dJ6_bitCount_0f7a4_17 (by decide) ?_
  refine lv_ldcw (v := 858993459) hx hb hown (hts (.constant RJ6 266 (858993459)) (List.mem_cons_of_mem _ (List.mem_append_left _ (List.mem_of_getElem? (i := 1) rfl)))) dJ6_bitCount_0f7a4_18 ?_
  refine lv_iand hx hb dJ6_bitCount_0f7a4_21 ?_
  refine lv_topi (nm_r (e' := 0) (by decide) ?_)
  refine lv_iadd hx hb dJ6_bitCount_0f7a4_22 ?_
  refine lv_topi (nm_r (e' := 2) (by decide) ?_)
  refine lv_istore_n (lv' := [(0, .int 2)]) hx hb dJ6_bitCount_0f7a4_23 rfl hl (by decide) rfl (fun ls hl => ?_)
  refine lv_iload_n hx hb dJ6_bitCount_0f7a4_24 rfl (lv_at hl 0 rfl) ?_
  refine lv_iload_n hx hb dJ6_bitCount_0f7a4_25 rfl (lv_at hl 0 rfl) ?_
  refine lv_iconst (v := 4) hx hb dJ6_bitCount_0f7a4_26 (by decide) ?_
  refine lv_iushr (v := 0) hx hb dJ6_bitCount_0f7a4_27 (by decide) ?_
  refine lv_iadd hx hb dJ6_bitCount_0f7a4_28 ?_
  refine lv_topi (nm_r (e' := 2) (by decide) ?_)
  refine lv_ldcw (v := 252645135) hx hb hown (hts (.constant RJ6 267 (252645135)) (List.mem_cons_of_mem _ (List.mem_append_left _ (List.mem_of_getElem? (i := 2) rfl)))) dJ6_bitCount_0f7a4_29 ?_
  refine lv_iand hx hb dJ6_bitCount_0f7a4_32 ?_
  refine lv_topi (nm_r (e' := 2) (by decide) ?_)
  refine lv_istore_n (lv' := [(0, .int 2)]) hx hb dJ6_bitCount_0f7a4_33 rfl hl (by decide) rfl (fun ls hl => ?_)
  refine lv_iload_n hx hb dJ6_bitCount_0f7a4_34 rfl (lv_at hl 0 rfl) ?_
  refine lv_iload_n hx hb dJ6_bitCount_0f7a4_35 rfl (lv_at hl 0 rfl) ?_
  refine lv_bipush (v := 8) hx hb dJ6_bitCount_0f7a4_36 (by decide) ?_
  refine lv_iushr (v := 0) hx hb dJ6_bitCount_0f7a4_38 (by decide) ?_
  refine lv_iadd hx hb dJ6_bitCount_0f7a4_39 ?_
  refine lv_topi (nm_r (e' := 2) (by decide) ?_)
  refine lv_istore_n (lv' := [(0, .int 2)]) hx hb dJ6_bitCount_0f7a4_40 rfl hl (by decide) rfl (fun ls hl => ?_)
  refine lv_iload_n hx hb dJ6_bitCount_0f7a4_41 rfl (lv_at hl 0 rfl) ?_
  refine lv_iload_n hx hb dJ6_bitCount_0f7a4_42 rfl (lv_at hl 0 rfl) ?_
  refine lv_bipush (v := 16) hx hb dJ6_bitCount_0f7a4_43 (by decide) ?_
  refine lv_iushr (v := 0) hx hb dJ6_bitCount_0f7a4_45 (by decide) ?_
  refine lv_iadd hx hb dJ6_bitCount_0f7a4_46 ?_
  refine lv_topi (nm_r (e' := 2) (by decide) ?_)
  refine lv_istore_n (lv' := [(0, .int 2)]) hx hb dJ6_bitCount_0f7a4_47 rfl hl (by decide) rfl (fun ls hl => ?_)
  refine lv_iload_n hx hb dJ6_bitCount_0f7a4_48 rfl (lv_at hl 0 rfl) ?_
  refine lv_bipush (v := 63) hx hb dJ6_bitCount_0f7a4_49 (by decide) ?_
  refine lv_iand hx hb dJ6_bitCount_0f7a4_51 ?_
  refine lv_topi (nm_r (e' := 2) (by decide) ?_)
  exact W.iret (v := 2) hx hb hr (fun t ht hW => ⟨⟨2, (), rfl, rfl, trivial⟩, hS.F ht⟩) hS.2.2 dJ6_bitCount_0f7a4_52
def v_X8_push_0 : List Cond := .code yX8_push cX8_push 3 none :: (([.fieldLink RX8 9 "CardsAtYule$Tape" "length" "I", .fieldLink RX8 28 "CardsAtYule$Tape" "bytes" "[B"] : List Cond) ++ (wsX80 ++ ([] : List Cond)))
theorem good_v_X8_push_0 : v_X8_push_0.all goodWord = true := ga_c (by decide +kernel) (ga_a (by decide +kernel) (ga_a good_wsX80 rfl))
set_option maxHeartbeats 4000000 in
set_option maxRecDepth 100000 in
theorem k_X8_push_0 (l : Launch) (g : va_G) (cI cJ cB cZ cL : ClassId) (tp : Nat) (tl : Nat) (btp : Nat) (ft : Int32) (pl : Int32) (at_ : Int32) (sta : Int32) (kd : Int32) (nb : Int32) (np : Int32) (f0 : Nat → Int32) (p0 : Int32) (sz : Nat)  : Met l yX8_push v_X8_push_0 ({ frames := 0, cells := 0, slots := 0, locals := 0 }) (va_Pc [.ref tp, .int p0] (pRW g (tyT cI cJ cB cZ cL) [(tp, .inr (8, [.int 0, .ref tl, .int ft, .int pl, .ref btp, .int at_, .int sta, .int kd, .int nb, .int np])), (btp, .inl (cB, 1600, .inl f0))] sz)) (va_Qv (fun (u : Nat → Int32) => match u with | f1 => True) (fun (u : Nat → Int32) (t : State) => bRW g (tyT cI cJ cB cZ cL) (va_A [(tp, .inr (8, [.int 0, .ref tl, .int ft, .int pl, .ref btp, .int at_, .int sta, .int kd, .int nb, .int np])), (btp, .inl (cB, 1600, .inl f0))] sz) (match u with | f1 => [(tp, .inr (8, [.int 4, .ref tl, .int ft, .int pl, .ref btp, .int at_, .int sta, .int kd, .int nb, .int np])), (btp, .inl (cB, 1600, .inl f1))]) t) (va_A [(tp, .inr (8, [.int 0, .ref tl, .int ft, .int pl, .ref btp, .int at_, .int sta, .int kd, .int nb, .int np])), (btp, .inl (cB, 1600, .inl f0))] sz)) 0 0 (va_A [(tp, .inr (8, [.int 0, .ref tl, .int ft, .int pl, .ref btp, .int at_, .int sta, .int kd, .int nb, .int np])), (btp, .inl (cB, 1600, .inl f0))] sz) := by
  refine Met.ofW (cc := cX8_push) (maxL := 3) (ret := none) (by decide) rfl ?_
  intro p e s m args below meth c s₁ B hml hv
  obtain ⟨rfl, hsz, hP, hK, hD0⟩ := hv
  have hx := B.exec
  have hb := B.bytes
  have hr := B.returns
  have hts := atoms_spec (ws := v_X8_push_0) B.pre
  have hown : s.vm.findClass RX8 = some m.cls := findClass_of_methodNamed B.named
  have hlocks := B.notSynchronized
  subst hsz
  have iX8 : ∀ w ∈ wsX80, w ∈ v_X8_push_0 := (fun _ h => List.mem_cons_of_mem _ (List.mem_append_right _ (List.mem_append_left _ h)))
  have hD := hD0.self (sz := s.heap.size)
  generalize hAe : (va_A [(tp, .inr (8, [.int 0, .ref tl, .int ft, .int pl, .ref btp, .int at_, .int sta, .int kd, .int nb, .int np])), (btp, .inl (cB, 1600, .inl f0))] s.heap.size) = A at hD ⊢
  have hA : ∀ q : Nat, s.heap.size ≤ q → A q := fun q h => by rw [← hAe]; exact Or.inr h
  have hS : va_S A s.heap s.heap [] := va_S.rf
  have hl := lv_entry ([.ref tp, .int p0]) (n := 3) (Nat.le_of_ble_eq_true rfl)
  rw [lg_entry_eq]
  generalize (lg_sl ([.ref tp, .int p0]) ++ List.replicate (3 - (lg_sl ([.ref tp, .int p0])).length) Slot.unset).toArray = ls at hl ⊢
  have hl : lv_has ls 3 [(0, .ref tp), (1, .int p0)] := hl
  have hP : va_P g vwCl [(tp, .inr (8, [.int 0, .ref tl, .int ft, .int pl, .ref btp, .int at_, .int sta, .int kd, .int nb, .int np])), (btp, .inl (cB, 1600, .inl f0))] s.heap := hP
  refine lv_bipush (v := 24) hx hb dX8_push_0 (by decide) ?_
  refine lv_istore_n (lv' := [(2, .int 24), (0, .ref tp), (1, .int p0)]) hx hb dX8_push_2 rfl hl (by decide) rfl (fun ls hl => ?_)
  refine lv_iload_n hx hb dX8_push_3 rfl (lv_at hl 0 rfl) ?_
  refine lv_if_lt (tgt := 46) hx hb dX8_push_4 (by decide) (fun c1 => absurd c1 (by decide)) (fun _ => ?_)
  refine lv_aload_n hx hb dX8_push_7 rfl (lv_at hl 1 rfl) ?_
  refine va_get (D := g) (ci := 8) (v := .int 0) (C := RX8) (T := TX8) (N := 10) hx hb hts iX8 hown hK hP 0 rfl rfl 0 (by decide) (hts (.fieldLink RX8 9 "CardsAtYule$Tape" "length" "I") (List.mem_cons_of_mem _ (List.mem_append_left _ (List.mem_of_getElem? (i := 0) rfl)))) (fun _ h9 => h9) rfl dX8_push_8 ?_
  refine lv_sipush (v := 1600) hx hb dX8_push_11 (by decide) ?_
  refine lv_icmp_ge (tgt := 46) hx hb dX8_push_14 (by decide) (fun c2 => absurd c2 (by decide)) (fun _ => ?_)
  refine lv_aload_n hx hb dX8_push_17 rfl (lv_at hl 1 rfl) ?_
  refine va_get (D := g) (ci := 8) (v := .ref btp) (C := RX8) (T := TX8) (N := 10) hx hb hts iX8 hown hK hP 0 rfl rfl 4 (by decide) (hts (.fieldLink RX8 28 "CardsAtYule$Tape" "bytes" "[B") (List.mem_cons_of_mem _ (List.mem_append_left _ (List.mem_of_getElem? (i := 1) rfl)))) (fun _ h9 => h9) rfl dX8_push_18 ?_
  refine lv_aload_n hx hb dX8_push_21 rfl (lv_at hl 1 rfl) ?_
  refine va_get (D := g) (ci := 8) (v := .int 0) (C := RX8) (T := TX8) (N := 10) hx hb hts iX8 hown hK hP 0 rfl rfl 0 (by decide) (hts (.fieldLink RX8 9 "CardsAtYule$Tape" "length" "I") (List.mem_cons_of_mem _ (List.mem_append_left _ (List.mem_of_getElem? (i := 0) rfl)))) (fun _ h9 => h9) rfl dX8_push_22 ?_
  refine lv_iload_n hx hb dX8_push_25 rfl (lv_at hl 2 rfl) ?_
  refine lv_iload_n hx hb dX8_push_26 rfl (lv_at hl 0 rfl) ?_
  refine lv_ishr hx hb dX8_push_27 ?_
  refine lv_i2b (v := (p0 >>> (24 &&& (31 : Int32))).toInt8.toInt32) hx hb dX8_push_28 rfl ?_
  refine va_bast (D := g) hx hb hK hP hD hS 1 2 rfl rfl (vc_in (by decide)) dX8_push_29 (fun H locs hP hD hS => ?_)
  have hP : va_P g vwCl [(tp, .inr (8, [.int 0, .ref tl, .int ft, .int pl, .ref btp, .int at_, .int sta, .int kd, .int nb, .int np])), (btp, .inl (cB, 1600, .inl (upd f0 0 (vp_nar .byte ((p0 >>> (24 &&& (31 : Int32))).toInt8.toInt32)))))] H := hP
  have hD : va_D A [(tp, .inr (8, [.int 0, .ref tl, .int ft, .int pl, .ref btp, .int at_, .int sta, .int kd, .int nb, .int np])), (btp, .inl (cB, 1600, .inl (upd f0 0 (vp_nar .byte ((p0 >>> (24 &&& (31 : Int32))).toInt8.toInt32)))))] := hD
  refine lv_aload_n hx hb dX8_push_30 rfl (lv_at hl 1 rfl) ?_
  refine lv_dup hx hb dX8_push_31 rfl ?_
  refine va_get (D := g) (ci := 8) (v := .int 0) (C := RX8) (T := TX8) (N := 10) hx hb hts iX8 hown hK hP 0 rfl rfl 0 (by decide) (hts (.fieldLink RX8 9 "CardsAtYule$Tape" "length" "I") (List.mem_cons_of_mem _ (List.mem_append_left _ (List.mem_of_getElem? (i := 0) rfl)))) (fun _ h9 => h9) rfl dX8_push_32 ?_
  refine lv_iconst (v := 1) hx hb dX8_push_35 (by decide) ?_
  refine lv_iadd hx hb dX8_push_36 ?_
  refine lv_topi (nm_r (e' := 1) (by decide) ?_)
  refine va_put (D := g) (ci := 8) (v := .int 1) (ty := .int) (C := RX8) (T := TX8) (N := 10) hx hb hts iX8 tyX8 tyX8_ok nmX8 hown hK hP hD hS 0 rfl rfl 0 (by decide) (hts (.fieldLink RX8 9 "CardsAtYule$Tape" "length" "I") (List.mem_cons_of_mem _ (List.mem_append_left _ (List.mem_of_getElem? (i := 0) rfl)))) (fun _ h9 => h9) rfl (by decide +kernel) rfl rfl (Nat.le_of_ble_eq_true rfl) dX8_push_37 (fun H locs hP hD hS => ?_)
  have hP : va_P g vwCl [(tp, .inr (8, [.int 1, .ref tl, .int ft, .int pl, .ref btp, .int at_, .int sta, .int kd, .int nb, .int np])), (btp, .inl (cB, 1600, .inl (upd f0 0 (vp_nar .byte ((p0 >>> (24 &&& (31 : Int32))).toInt8.toInt32)))))] H := hP
  have hD : va_D A [(tp, .inr (8, [.int 1, .ref tl, .int ft, .int pl, .ref btp, .int at_, .int sta, .int kd, .int nb, .int np])), (btp, .inl (cB, 1600, .inl (upd f0 0 (vp_nar .byte ((p0 >>> (24 &&& (31 : Int32))).toInt8.toInt32)))))] := hD
  refine lv_iinc (v := 16) (lv' := [(2, .int 16), (0, .ref tp), (1, .int p0)]) hx hb dX8_push_40 hl (k := 0) rfl (by decide) (by decide) rfl (fun ls hl => ?_)
  refine lv_goto (tgt := 3) hx hb dX8_push_43 (by decide) ?_
  refine lv_iload_n hx hb dX8_push_3 rfl (lv_at hl 0 rfl) ?_
  refine lv_if_lt (tgt := 46) hx hb dX8_push_4 (by decide) (fun c3 => absurd c3 (by decide)) (fun _ => ?_)
  refine lv_aload_n hx hb dX8_push_7 rfl (lv_at hl 1 rfl) ?_
  refine va_get (D := g) (ci := 8) (v := .int 1) (C := RX8) (T := TX8) (N := 10) hx hb hts iX8 hown hK hP 0 rfl rfl 0 (by decide) (hts (.fieldLink RX8 9 "CardsAtYule$Tape" "length" "I") (List.mem_cons_of_mem _ (List.mem_append_left _ (List.mem_of_getElem? (i := 0) rfl)))) (fun _ h9 => h9) rfl dX8_push_8 ?_
  refine lv_sipush (v := 1600) hx hb dX8_push_11 (by decide) ?_
  refine lv_icmp_ge (tgt := 46) hx hb dX8_push_14 (by decide) (fun c4 => absurd c4 (by decide)) (fun _ => ?_)
  refine lv_aload_n hx hb dX8_push_17 rfl (lv_at hl 1 rfl) ?_
  refine va_get (D := g) (ci := 8) (v := .ref btp) (C := RX8) (T := TX8) (N := 10) hx hb hts iX8 hown hK hP 0 rfl rfl 4 (by decide) (hts (.fieldLink RX8 28 "CardsAtYule$Tape" "bytes" "[B") (List.mem_cons_of_mem _ (List.mem_append_left _ (List.mem_of_getElem? (i := 1) rfl)))) (fun _ h9 => h9) rfl dX8_push_18 ?_
  refine lv_aload_n hx hb dX8_push_21 rfl (lv_at hl 1 rfl) ?_
  refine va_get (D := g) (ci := 8) (v := .int 1) (C := RX8) (T := TX8) (N := 10) hx hb hts iX8 hown hK hP 0 rfl rfl 0 (by decide) (hts (.fieldLink RX8 9 "CardsAtYule$Tape" "length" "I") (List.mem_cons_of_mem _ (List.mem_append_left _ (List.mem_of_getElem? (i := 0) rfl)))) (fun _ h9 => h9) rfl dX8_push_22 ?_
  refine lv_iload_n hx hb dX8_push_25 rfl (lv_at hl 2 rfl) ?_
  refine lv_iload_n hx hb dX8_push_26 rfl (lv_at hl 0 rfl) ?_
  refine lv_ishr hx hb dX8_push_27 ?_
  refine lv_i2b (v := (p0 >>> (16 &&& (31 : Int32))).toInt8.toInt32) hx hb dX8_push_28 rfl ?_
  refine va_bast (D := g) hx hb hK hP hD hS 1 2 rfl rfl (vc_in (by decide)) dX8_push_29 (fun H locs hP hD hS => ?_)
  have hP : va_P g vwCl [(tp, .inr (8, [.int 1, .ref tl, .int ft, .int pl, .ref btp, .int at_, .int sta, .int kd, .int nb, .int np])), (btp, .inl (cB, 1600, .inl (upd (upd f0 0 (vp_nar .byte ((p0 >>> (24 &&& (31 : Int32))).toInt8.toInt32))) 1 (vp_nar .byte ((p0 >>> (16 &&& (31 : Int32))).toInt8.toInt32)))))] H := hP
  have hD : va_D A [(tp, .inr (8, [.int 1, .ref tl, .int ft, .int pl, .ref btp, .int at_, .int sta, .int kd, .int nb, .int np])), (btp, .inl (cB, 1600, .inl (upd (upd f0 0 (vp_nar .byte ((p0 >>> (24 &&& (31 : Int32))).toInt8.toInt32))) 1 (vp_nar .byte ((p0 >>> (16 &&& (31 : Int32))).toInt8.toInt32)))))] := hD
  refine lv_aload_n hx hb dX8_push_30 rfl (lv_at hl 1 rfl) ?_
  refine lv_dup hx hb dX8_push_31 rfl ?_
  refine va_get (D := g) (ci := 8) (v := .int 1) (C := RX8) (T := TX8) (N := 10) hx hb hts iX8 hown hK hP 0 rfl rfl 0 (by decide) (hts (.fieldLink RX8 9 "CardsAtYule$Tape" "length" "I") (List.mem_cons_of_mem _ (List.mem_append_left _ (List.mem_of_getElem? (i := 0) rfl)))) (fun _ h9 => h9) rfl dX8_push_32 ?_
  refine lv_iconst (v := 1) hx hb dX8_push_35 (by decide) ?_
  refine lv_iadd hx hb dX8_push_36 ?_
  refine lv_topi (nm_r (e' := 2) (by decide) ?_)
  refine va_put (D := g) (ci := 8) (v := .int 2) (ty := .int) (C := RX8) (T := TX8) (N := 10) hx hb hts iX8 tyX8 tyX8_ok nmX8 hown hK hP hD hS 0 rfl rfl 0 (by decide) (hts (.fieldLink RX8 9 "CardsAtYule$Tape" "length" "I") (List.mem_cons_of_mem _ (List.mem_append_left _ (List.mem_of_getElem? (i := 0) rfl)))) (fun _ h9 => h9) rfl (by decide +kernel) rfl rfl (Nat.le_of_ble_eq_true rfl) dX8_push_37 (fun H locs hP hD hS => ?_)
  have hP : va_P g vwCl [(tp, .inr (8, [.int 2, .ref tl, .int ft, .int pl, .ref btp, .int at_, .int sta, .int kd, .int nb, .int np])), (btp, .inl (cB, 1600, .inl (upd (upd f0 0 (vp_nar .byte ((p0 >>> (24 &&& (31 : Int32))).toInt8.toInt32))) 1 (vp_nar .byte ((p0 >>> (16 &&& (31 : Int32))).toInt8.toInt32)))))] H := hP
  have hD : va_D A [(tp, .inr (8, [.int 2, .ref tl, .int ft, .int pl, .ref btp, .int at_, .int sta, .int kd, .int nb, .int np])), (btp, .inl (cB, 1600, .inl (upd (upd f0 0 (vp_nar .byte ((p0 >>> (24 &&& (31 : Int32))).toInt8.toInt32))) 1 (vp_nar .byte ((p0 >>> (16 &&& (31 : Int32))).toInt8.toInt32)))))] := hD
  refine lv_iinc (v := 8) (lv' := [(2, .int 8), (0, .ref tp), (1, .int p0)]) hx hb dX8_push_40 hl (k := 0) rfl (by decide) (by decide) rfl (fun ls hl => ?_)
  refine lv_goto (tgt := 3) hx hb dX8_push_43 (by decide) ?_
  refine lv_iload_n hx hb dX8_push_3 rfl (lv_at hl 0 rfl) ?_
  refine lv_if_lt (tgt := 46) hx hb dX8_push_4 (by decide) (fun c5 => absurd c5 (by decide)) (fun _ => ?_)
  refine lv_aload_n hx hb dX8_push_7 rfl (lv_at hl 1 rfl) ?_
  refine va_get (D := g) (ci := 8) (v := .int 2) (C := RX8) (T := TX8) (N := 10) hx hb hts iX8 hown hK hP 0 rfl rfl 0 (by decide) (hts (.fieldLink RX8 9 "CardsAtYule$Tape" "length" "I") (List.mem_cons_of_mem _ (List.mem_append_left _ (List.mem_of_getElem? (i := 0) rfl)))) (fun _ h9 => h9) rfl dX8_push_8 ?_
  refine lv_sipush (v := 1600) hx hb dX8_push_11 (by decide) ?_
  refine lv_icmp_ge (tgt := 46) hx hb dX8_push_14 (by decide) (fun c6 => absurd c6 (by decide)) (fun _ => ?_)
  refine lv_aload_n hx hb dX8_push_17 rfl (lv_at hl 1 rfl) ?_
  refine va_get (D := g) (ci := 8) (v := .ref btp) (C := RX8) (T := TX8) (N := 10) hx hb hts iX8 hown hK hP 0 rfl rfl 4 (by decide) (hts (.fieldLink RX8 28 "CardsAtYule$Tape" "bytes" "[B") (List.mem_cons_of_mem _ (List.mem_append_left _ (List.mem_of_getElem? (i := 1) rfl)))) (fun _ h9 => h9) rfl dX8_push_18 ?_
  refine lv_aload_n hx hb dX8_push_21 rfl (lv_at hl 1 rfl) ?_
  refine va_get (D := g) (ci := 8) (v := .int 2) (C := RX8) (T := TX8) (N := 10) hx hb hts iX8 hown hK hP 0 rfl rfl 0 (by decide) (hts (.fieldLink RX8 9 "CardsAtYule$Tape" "length" "I") (List.mem_cons_of_mem _ (List.mem_append_left _ (List.mem_of_getElem? (i := 0) rfl)))) (fun _ h9 => h9) rfl dX8_push_22 ?_
  refine lv_iload_n hx hb dX8_push_25 rfl (lv_at hl 2 rfl) ?_
  refine lv_iload_n hx hb dX8_push_26 rfl (lv_at hl 0 rfl) ?_
  refine lv_ishr hx hb dX8_push_27 ?_
  refine lv_i2b (v := (p0 >>> (8 &&& (31 : Int32))).toInt8.toInt32) hx hb dX8_push_28 rfl ?_
  refine va_bast (D := g) hx hb hK hP hD hS 1 2 rfl rfl (vc_in (by decide)) dX8_push_29 (fun H locs hP hD hS => ?_)
  have hP : va_P g vwCl [(tp, .inr (8, [.int 2, .ref tl, .int ft, .int pl, .ref btp, .int at_, .int sta, .int kd, .int nb, .int np])), (btp, .inl (cB, 1600, .inl (upd (upd (upd f0 0 (vp_nar .byte ((p0 >>> (24 &&& (31 : Int32))).toInt8.toInt32))) 1 (vp_nar .byte ((p0 >>> (16 &&& (31 : Int32))).toInt8.toInt32))) 2 (vp_nar .byte ((p0 >>> (8 &&& (31 : Int32))).toInt8.toInt32)))))] H := hP
  have hD : va_D A [(tp, .inr (8, [.int 2, .ref tl, .int ft, .int pl, .ref btp, .int at_, .int sta, .int kd, .int nb, .int np])), (btp, .inl (cB, 1600, .inl (upd (upd (upd f0 0 (vp_nar .byte ((p0 >>> (24 &&& (31 : Int32))).toInt8.toInt32))) 1 (vp_nar .byte ((p0 >>> (16 &&& (31 : Int32))).toInt8.toInt32))) 2 (vp_nar .byte ((p0 >>> (8 &&& (31 : Int32))).toInt8.toInt32)))))] := hD
  refine lv_aload_n hx hb dX8_push_30 rfl (lv_at hl 1 rfl) ?_
  refine lv_dup hx hb dX8_push_31 rfl ?_
  refine va_get (D := g) (ci := 8) (v := .int 2) (C := RX8) (T := TX8) (N := 10) hx hb hts iX8 hown hK hP 0 rfl rfl 0 (by decide) (hts (.fieldLink RX8 9 "CardsAtYule$Tape" "length" "I") (List.mem_cons_of_mem _ (List.mem_append_left _ (List.mem_of_getElem? (i := 0) rfl)))) (fun _ h9 => h9) rfl dX8_push_32 ?_
  refine lv_iconst (v := 1) hx hb dX8_push_35 (by decide) ?_
  refine lv_iadd hx hb dX8_push_36 ?_
  refine lv_topi (nm_r (e' := 3) (by decide) ?_)
  refine va_put (D := g) (ci := 8) (v := .int 3) (ty := .int) (C := RX8) (T := TX8) (N := 10) hx hb hts iX8 tyX8 tyX8_ok nmX8 hown hK hP hD hS 0 rfl rfl 0 (by decide) (hts (.fieldLink RX8 9 "CardsAtYule$Tape" "length" "I") (List.mem_cons_of_mem _ (List.mem_append_left _ (List.mem_of_getElem? (i := 0) rfl)))) (fun _ h9 => h9) rfl (by decide +kernel) rfl rfl (Nat.le_of_ble_eq_true rfl) dX8_push_37 (fun H locs hP hD hS => ?_)
  have hP : va_P g vwCl [(tp, .inr (8, [.int 3, .ref tl, .int ft, .int pl, .ref btp, .int at_, .int sta, .int kd, .int nb, .int np])), (btp, .inl (cB, 1600, .inl (upd (upd (upd f0 0 (vp_nar .byte ((p0 >>> (24 &&& (31 : Int32))).toInt8.toInt32))) 1 (vp_nar .byte ((p0 >>> (16 &&& (31 : Int32))).toInt8.toInt32))) 2 (vp_nar .byte ((p0 >>> (8 &&& (31 : Int32))).toInt8.toInt32)))))] H := hP
  have hD : va_D A [(tp, .inr (8, [.int 3, .ref tl, .int ft, .int pl, .ref btp, .int at_, .int sta, .int kd, .int nb, .int np])), (btp, .inl (cB, 1600, .inl (upd (upd (upd f0 0 (vp_nar .byte ((p0 >>> (24 &&& (31 : Int32))).toInt8.toInt32))) 1 (vp_nar .byte ((p0 >>> (16 &&& (31 : Int32))).toInt8.toInt32))) 2 (vp_nar .byte ((p0 >>> (8 &&& (31 : Int32))).toInt8.toInt32)))))] := hD
  refine lv_iinc (v := 0) (lv' := [(2, .int 0), (0, .ref tp), (1, .int p0)]) hx hb dX8_push_40 hl (k := 0) rfl (by decide) (by decide) rfl (fun ls hl => ?_)
  refine lv_goto (tgt := 3) hx hb dX8_push_43 (by decide) ?_
  refine lv_iload_n hx hb dX8_push_3 rfl (lv_at hl 0 rfl) ?_
  refine lv_if_lt (tgt := 46) hx hb dX8_push_4 (by decide) (fun c7 => absurd c7 (by decide)) (fun _ => ?_)
  refine lv_aload_n hx hb dX8_push_7 rfl (lv_at hl 1 rfl) ?_
  refine va_get (D := g) (ci := 8) (v := .int 3) (C := RX8) (T := TX8) (N := 10) hx hb hts iX8 hown hK hP 0 rfl rfl 0 (by decide) (hts (.fieldLink RX8 9 "CardsAtYule$Tape" "length" "I") (List.mem_cons_of_mem _ (List.mem_append_left _ (List.mem_of_getElem? (i := 0) rfl)))) (fun _ h9 => h9) rfl dX8_push_8 ?_
  refine lv_sipush (v := 1600) hx hb dX8_push_11 (by decide) ?_
  refine lv_icmp_ge (tgt := 46) hx hb dX8_push_14 (by decide) (fun c8 => absurd c8 (by decide)) (fun _ => ?_)
  refine lv_aload_n hx hb dX8_push_17 rfl (lv_at hl 1 rfl) ?_
  refine va_get (D := g) (ci := 8) (v := .ref btp) (C := RX8) (T := TX8) (N := 10) hx hb hts iX8 hown hK hP 0 rfl rfl 4 (by decide) (hts (.fieldLink RX8 28 "CardsAtYule$Tape" "bytes" "[B") (List.mem_cons_of_mem _ (List.mem_append_left _ (List.mem_of_getElem? (i := 1) rfl)))) (fun _ h9 => h9) rfl dX8_push_18 ?_
  refine lv_aload_n hx hb dX8_push_21 rfl (lv_at hl 1 rfl) ?_
  refine va_get (D := g) (ci := 8) (v := .int 3) (C := RX8) (T := TX8) (N := 10) hx hb hts iX8 hown hK hP 0 rfl rfl 0 (by decide) (hts (.fieldLink RX8 9 "CardsAtYule$Tape" "length" "I") (List.mem_cons_of_mem _ (List.mem_append_left _ (List.mem_of_getElem? (i := 0) rfl)))) (fun _ h9 => h9) rfl dX8_push_22 ?_
  refine lv_iload_n hx hb dX8_push_25 rfl (lv_at hl 2 rfl) ?_
  refine lv_iload_n hx hb dX8_push_26 rfl (lv_at hl 0 rfl) ?_
  refine lv_ishr hx hb dX8_push_27 ?_
  refine lv_i2b (v := (p0 >>> (0 &&& (31 : Int32))).toInt8.toInt32) hx hb dX8_push_28 rfl ?_
  refine va_bast (D := g) hx hb hK hP hD hS 1 2 rfl rfl (vc_in (by decide)) dX8_push_29 (fun H locs hP hD hS => ?_)
  have hP : va_P g vwCl [(tp, .inr (8, [.int 3, .ref tl, .int ft, .int pl, .ref btp, .int at_, .int sta, .int kd, .int nb, .int np])), (btp, .inl (cB, 1600, .inl (upd (upd (upd (upd f0 0 (vp_nar .byte ((p0 >>> (24 &&& (31 : Int32))).toInt8.toInt32))) 1 (vp_nar .byte ((p0 >>> (16 &&& (31 : Int32))).toInt8.toInt32))) 2 (vp_nar .byte ((p0 >>> (8 &&& (31 : Int32))).toInt8.toInt32))) 3 (vp_nar .byte ((p0 >>> (0 &&& (31 : Int32))).toInt8.toInt32)))))] H := hP
  have hD : va_D A [(tp, .inr (8, [.int 3, .ref tl, .int ft, .int pl, .ref btp, .int at_, .int sta, .int kd, .int nb, .int np])), (btp, .inl (cB, 1600, .inl (upd (upd (upd (upd f0 0 (vp_nar .byte ((p0 >>> (24 &&& (31 : Int32))).toInt8.toInt32))) 1 (vp_nar .byte ((p0 >>> (16 &&& (31 : Int32))).toInt8.toInt32))) 2 (vp_nar .byte ((p0 >>> (8 &&& (31 : Int32))).toInt8.toInt32))) 3 (vp_nar .byte ((p0 >>> (0 &&& (31 : Int32))).toInt8.toInt32)))))] := hD
  refine lv_aload_n hx hb dX8_push_30 rfl (lv_at hl 1 rfl) ?_
  refine lv_dup hx hb dX8_push_31 rfl ?_
  refine va_get (D := g) (ci := 8) (v := .int 3) (C := RX8) (T := TX8) (N := 10) hx hb hts iX8 hown hK hP 0 rfl rfl 0 (by decide) (hts (.fieldLink RX8 9 "CardsAtYule$Tape" "length" "I") (List.mem_cons_of_mem _ (List.mem_append_left _ (List.mem_of_getElem? (i := 0) rfl)))) (fun _ h9 => h9) rfl dX8_push_32 ?_
  refine lv_iconst (v := 1) hx hb dX8_push_35 (by decide) ?_
  refine lv_iadd hx hb dX8_push_36 ?_
  refine lv_topi (nm_r (e' := 4) (by decide) ?_)
  refine va_put (D := g) (ci := 8) (v := .int 4) (ty := .int) (C := RX8) (T := TX8) (N := 10) hx hb hts iX8 tyX8 tyX8_ok nmX8 hown hK hP hD hS 0 rfl rfl 0 (by decide) (hts (.fieldLink RX8 9 "CardsAtYule$Tape" "length" "I") (List.mem_cons_of_mem _ (List.mem_append_left _ (List.mem_of_getElem? (i := 0) rfl)))) (fun _ h9 => h9) rfl (by decide +kernel) rfl rfl (Nat.le_of_ble_eq_true rfl) dX8_push_37 (fun H locs hP hD hS => ?_)
  have hP : va_P g vwCl [(tp, .inr (8, [.int 4, .ref tl, .int ft, .int pl, .ref btp, .int at_, .int sta, .int kd, .int nb, .int np])), (btp, .inl (cB, 1600, .inl (upd (upd (upd (upd f0 0 (vp_nar .byte ((p0 >>> (24 &&& (31 : Int32))).toInt8.toInt32))) 1 (vp_nar .byte ((p0 >>> (16 &&& (31 : Int32))).toInt8.toInt32))) 2 (vp_nar .byte ((p0 >>> (8 &&& (31 : Int32))).toInt8.toInt32))) 3 (vp_nar .byte ((p0 >>> (0 &&& (31 : Int32))).toInt8.toInt32)))))] H := hP
  have hD : va_D A [(tp, .inr (8, [.int 4, .ref tl, .int ft, .int pl, .ref btp, .int at_, .int sta, .int kd, .int nb, .int np])), (btp, .inl (cB, 1600, .inl (upd (upd (upd (upd f0 0 (vp_nar .byte ((p0 >>> (24 &&& (31 : Int32))).toInt8.toInt32))) 1 (vp_nar .byte ((p0 >>> (16 &&& (31 : Int32))).toInt8.toInt32))) 2 (vp_nar .byte ((p0 >>> (8 &&& (31 : Int32))).toInt8.toInt32))) 3 (vp_nar .byte ((p0 >>> (0 &&& (31 : Int32))).toInt8.toInt32)))))] := hD
  refine lv_iinc (v := (-8)) (lv' := [(2, .int (-8)), (0, .ref tp), (1, .int p0)]) hx hb dX8_push_40 hl (k := 0) rfl (by decide) (by decide) rfl (fun ls hl => ?_)
  refine lv_goto (tgt := 3) hx hb dX8_push_43 (by decide) ?_
  refine lv_iload_n hx hb dX8_push_3 rfl (lv_at hl 0 rfl) ?_
  refine lv_if_lt (tgt := 46) hx hb dX8_push_4 (by decide) (fun _ => ?_) (fun c9 => absurd c9 (by decide))
  have hP9 := hP.sub (ws' := [(tp, .inr (8, [.int 4, .ref tl, .int ft, .int pl, .ref btp, .int at_, .int sta, .int kd, .int nb, .int np])), (btp, .inl (cB, 1600, .inl (upd (upd (upd (upd f0 0 (vp_nar .byte ((p0 >>> (24 &&& (31 : Int32))).toInt8.toInt32))) 1 (vp_nar .byte ((p0 >>> (16 &&& (31 : Int32))).toInt8.toInt32))) 2 (vp_nar .byte ((p0 >>> (8 &&& (31 : Int32))).toInt8.toInt32))) 3 (vp_nar .byte ((p0 >>> (0 &&& (31 : Int32))).toInt8.toInt32)))))]) [0, 1] rfl
  have hD9 := hD.sub (ws' := [(tp, .inr (8, [.int 4, .ref tl, .int ft, .int pl, .ref btp, .int at_, .int sta, .int kd, .int nb, .int np])), (btp, .inl (cB, 1600, .inl (upd (upd (upd (upd f0 0 (vp_nar .byte ((p0 >>> (24 &&& (31 : Int32))).toInt8.toInt32))) 1 (vp_nar .byte ((p0 >>> (16 &&& (31 : Int32))).toInt8.toInt32))) 2 (vp_nar .byte ((p0 >>> (8 &&& (31 : Int32))).toInt8.toInt32))) 3 (vp_nar .byte ((p0 >>> (0 &&& (31 : Int32))).toInt8.toInt32)))))]) [0, 1] (by decide) rfl
  exact W.vret hx hb hr (fun t ht hW => ⟨⟨(upd (upd (upd (upd f0 0 (vp_nar .byte ((p0 >>> (24 &&& (31 : Int32))).toInt8.toInt32))) 1 (vp_nar .byte ((p0 >>> (16 &&& (31 : Int32))).toInt8.toInt32))) 2 (vp_nar .byte ((p0 >>> (8 &&& (31 : Int32))).toInt8.toInt32))) 3 (vp_nar .byte ((p0 >>> (0 &&& (31 : Int32))).toInt8.toInt32))), rfl, trivial, by rw [ht]; exact hP9, va_K.moved hW.alike hK, hD9⟩, hS.F ht⟩) hS.2.2 dX8_push_46
def v_X8_push_4 : List Cond := .code yX8_push cX8_push 3 none :: (([.fieldLink RX8 9 "CardsAtYule$Tape" "length" "I", .fieldLink RX8 28 "CardsAtYule$Tape" "bytes" "[B"] : List Cond) ++ (wsX80 ++ ([] : List Cond)))
theorem good_v_X8_push_4 : v_X8_push_4.all goodWord = true := ga_c (by decide +kernel) (ga_a (by decide +kernel) (ga_a good_wsX80 rfl))
set_option maxHeartbeats 4000000 in
set_option maxRecDepth 100000 in
theorem k_X8_push_4 (l : Launch) (g : va_G) (cI cJ cB cZ cL : ClassId) (tp : Nat) (tl : Nat) (btp : Nat) (ft : Int32) (pl : Int32) (at_ : Int32) (sta : Int32) (kd : Int32) (nb : Int32) (np : Int32) (f0 : Nat → Int32) (p0 : Int32) (sz : Nat)  : Met l yX8_push v_X8_push_4 ({ frames := 0, cells := 0, slots := 0, locals := 0 }) (va_Pc [.ref tp, .int p0] (pRW g (tyT cI cJ cB cZ cL) [(tp, .inr (8, [.int 4, .ref tl, .int ft, .int pl, .ref btp, .int at_, .int sta, .int kd, .int nb, .int np])), (btp, .inl (cB, 1600, .inl f0))] sz)) (va_Qv (fun (u : Nat → Int32) => match u with | f1 => True) (fun (u : Nat → Int32) (t : State) => bRW g (tyT cI cJ cB cZ cL) (va_A [(tp, .inr (8, [.int 4, .ref tl, .int ft, .int pl, .ref btp, .int at_, .int sta, .int kd, .int nb, .int np])), (btp, .inl (cB, 1600, .inl f0))] sz) (match u with | f1 => [(tp, .inr (8, [.int 8, .ref tl, .int ft, .int pl, .ref btp, .int at_, .int sta, .int kd, .int nb, .int np])), (btp, .inl (cB, 1600, .inl f1))]) t) (va_A [(tp, .inr (8, [.int 4, .ref tl, .int ft, .int pl, .ref btp, .int at_, .int sta, .int kd, .int nb, .int np])), (btp, .inl (cB, 1600, .inl f0))] sz)) 0 0 (va_A [(tp, .inr (8, [.int 4, .ref tl, .int ft, .int pl, .ref btp, .int at_, .int sta, .int kd, .int nb, .int np])), (btp, .inl (cB, 1600, .inl f0))] sz) := by
  refine Met.ofW (cc := cX8_push) (maxL := 3) (ret := none) (by decide) rfl ?_
  intro p e s m args below meth c s₁ B hml hv
  obtain ⟨rfl, hsz, hP, hK, hD0⟩ := hv
  have hx := B.exec
  have hb := B.bytes
  have hr := B.returns
  have hts := atoms_spec (ws := v_X8_push_4) B.pre
  have hown : s.vm.findClass RX8 = some m.cls := findClass_of_methodNamed B.named
  have hlocks := B.notSynchronized
  subst hsz
  have iX8 : ∀ w ∈ wsX80, w ∈ v_X8_push_4 := (fun _ h => List.mem_cons_of_mem _ (List.mem_append_right _ (List.mem_append_left _ h)))
  have hD := hD0.self (sz := s.heap.size)
  generalize hAe : (va_A [(tp, .inr (8, [.int 4, .ref tl, .int ft, .int pl, .ref btp, .int at_, .int sta, .int kd, .int nb, .int np])), (btp, .inl (cB, 1600, .inl f0))] s.heap.size) = A at hD ⊢
  have hA : ∀ q : Nat, s.heap.size ≤ q → A q := fun q h => by rw [← hAe]; exact Or.inr h
  have hS : va_S A s.heap s.heap [] := va_S.rf
  have hl := lv_entry ([.ref tp, .int p0]) (n := 3) (Nat.le_of_ble_eq_true rfl)
  rw [lg_entry_eq]
  generalize (lg_sl ([.ref tp, .int p0]) ++ List.replicate (3 - (lg_sl ([.ref tp, .int p0])).length) Slot.unset).toArray = ls at hl ⊢
  have hl : lv_has ls 3 [(0, .ref tp), (1, .int p0)] := hl
  have hP : va_P g vwCl [(tp, .inr (8, [.int 4, .ref tl, .int ft, .int pl, .ref btp, .int at_, .int sta, .int kd, .int nb, .int np])), (btp, .inl (cB, 1600, .inl f0))] s.heap := hP
  refine lv_bipush (v := 24) hx hb dX8_push_0 (by decide) ?_
  refine lv_istore_n (lv' := [(2, .int 24), (0, .ref tp), (1, .int p0)]) hx hb dX8_push_2 rfl hl (by decide) rfl (fun ls hl => ?_)
  refine lv_iload_n hx hb dX8_push_3 rfl (lv_at hl 0 rfl) ?_
  refine lv_if_lt (tgt := 46) hx hb dX8_push_4 (by decide) (fun c1 => absurd c1 (by decide)) (fun _ => ?_)
  refine lv_aload_n hx hb dX8_push_7 rfl (lv_at hl 1 rfl) ?_
  refine va_get (D := g) (ci := 8) (v := .int 4) (C := RX8) (T := TX8) (N := 10) hx hb hts iX8 hown hK hP 0 rfl rfl 0 (by decide) (hts (.fieldLink RX8 9 "CardsAtYule$Tape" "length" "I") (List.mem_cons_of_mem _ (List.mem_append_left _ (List.mem_of_getElem? (i := 0) rfl)))) (fun _ h9 => h9) rfl dX8_push_8 ?_
  refine lv_sipush (v := 1600) hx hb dX8_push_11 (by decide) ?_
  refine lv_icmp_ge (tgt := 46) hx hb dX8_push_14 (by decide) (fun c2 => absurd c2 (by decide)) (fun _ => ?_)
  refine lv_aload_n hx hb dX8_push_17 rfl (lv_at hl 1 rfl) ?_
  refine va_get (D := g) (ci := 8) (v := .ref btp) (C := RX8) (T := TX8) (N := 10) hx hb hts iX8 hown hK hP 0 rfl rfl 4 (by decide) (hts (.fieldLink RX8 28 "CardsAtYule$Tape" "bytes" "[B") (List.mem_cons_of_mem _ (List.mem_append_left _ (List.mem_of_getElem? (i := 1) rfl)))) (fun _ h9 => h9) rfl dX8_push_18 ?_
  refine lv_aload_n hx hb dX8_push_21 rfl (lv_at hl 1 rfl) ?_
  refine va_get (D := g) (ci := 8) (v := .int 4) (C := RX8) (T := TX8) (N := 10) hx hb hts iX8 hown hK hP 0 rfl rfl 0 (by decide) (hts (.fieldLink RX8 9 "CardsAtYule$Tape" "length" "I") (List.mem_cons_of_mem _ (List.mem_append_left _ (List.mem_of_getElem? (i := 0) rfl)))) (fun _ h9 => h9) rfl dX8_push_22 ?_
  refine lv_iload_n hx hb dX8_push_25 rfl (lv_at hl 2 rfl) ?_
  refine lv_iload_n hx hb dX8_push_26 rfl (lv_at hl 0 rfl) ?_
  refine lv_ishr hx hb dX8_push_27 ?_
  refine lv_i2b (v := (p0 >>> (24 &&& (31 : Int32))).toInt8.toInt32) hx hb dX8_push_28 rfl ?_
  refine va_bast (D := g) hx hb hK hP hD hS 1 2 rfl rfl (vc_in (by decide)) dX8_push_29 (fun H locs hP hD hS => ?_)
  have hP : va_P g vwCl [(tp, .inr (8, [.int 4, .ref tl, .int ft, .int pl, .ref btp, .int at_, .int sta, .int kd, .int nb, .int np])), (btp, .inl (cB, 1600, .inl (upd f0 4 (vp_nar .byte ((p0 >>> (24 &&& (31 : Int32))).toInt8.toInt32)))))] H := hP
  have hD : va_D A [(tp, .inr (8, [.int 4, .ref tl, .int ft, .int pl, .ref btp, .int at_, .int sta, .int kd, .int nb, .int np])), (btp, .inl (cB, 1600, .inl (upd f0 4 (vp_nar .byte ((p0 >>> (24 &&& (31 : Int32))).toInt8.toInt32)))))] := hD
  refine lv_aload_n hx hb dX8_push_30 rfl (lv_at hl 1 rfl) ?_
  refine lv_dup hx hb dX8_push_31 rfl ?_
  refine va_get (D := g) (ci := 8) (v := .int 4) (C := RX8) (T := TX8) (N := 10) hx hb hts iX8 hown hK hP 0 rfl rfl 0 (by decide) (hts (.fieldLink RX8 9 "CardsAtYule$Tape" "length" "I") (List.mem_cons_of_mem _ (List.mem_append_left _ (List.mem_of_getElem? (i := 0) rfl)))) (fun _ h9 => h9) rfl dX8_push_32 ?_
  refine lv_iconst (v := 1) hx hb dX8_push_35 (by decide) ?_
  refine lv_iadd hx hb dX8_push_36 ?_
  refine lv_topi (nm_r (e' := 5) (by decide) ?_)
  refine va_put (D := g) (ci := 8) (v := .int 5) (ty := .int) (C := RX8) (T := TX8) (N := 10) hx hb hts iX8 tyX8 tyX8_ok nmX8 hown hK hP hD hS 0 rfl rfl 0 (by decide) (hts (.fieldLink RX8 9 "CardsAtYule$Tape" "length" "I") (List.mem_cons_of_mem _ (List.mem_append_left _ (List.mem_of_getElem? (i := 0) rfl)))) (fun _ h9 => h9) rfl (by decide +kernel) rfl rfl (Nat.le_of_ble_eq_true rfl) dX8_push_37 (fun H locs hP hD hS => ?_)
  have hP : va_P g vwCl [(tp, .inr (8, [.int 5, .ref tl, .int ft, .int pl, .ref btp, .int at_, .int sta, .int kd, .int nb, .int np])), (btp, .inl (cB, 1600, .inl (upd f0 4 (vp_nar .byte ((p0 >>> (24 &&& (31 : Int32))).toInt8.toInt32)))))] H := hP
  have hD : va_D A [(tp, .inr (8, [.int 5, .ref tl, .int ft, .int pl, .ref btp, .int at_, .int sta, .int kd, .int nb, .int np])), (btp, .inl (cB, 1600, .inl (upd f0 4 (vp_nar .byte ((p0 >>> (24 &&& (31 : Int32))).toInt8.toInt32)))))] := hD
  refine lv_iinc (v := 16) (lv' := [(2, .int 16), (0, .ref tp), (1, .int p0)]) hx hb dX8_push_40 hl (k := 0) rfl (by decide) (by decide) rfl (fun ls hl => ?_)
  refine lv_goto (tgt := 3) hx hb dX8_push_43 (by decide) ?_
  refine lv_iload_n hx hb dX8_push_3 rfl (lv_at hl 0 rfl) ?_
  refine lv_if_lt (tgt := 46) hx hb dX8_push_4 (by decide) (fun c3 => absurd c3 (by decide)) (fun _ => ?_)
  refine lv_aload_n hx hb dX8_push_7 rfl (lv_at hl 1 rfl) ?_
  refine va_get (D := g) (ci := 8) (v := .int 5) (C := RX8) (T := TX8) (N := 10) hx hb hts iX8 hown hK hP 0 rfl rfl 0 (by decide) (hts (.fieldLink RX8 9 "CardsAtYule$Tape" "length" "I") (List.mem_cons_of_mem _ (List.mem_append_left _ (List.mem_of_getElem? (i := 0) rfl)))) (fun _ h9 => h9) rfl dX8_push_8 ?_
  refine lv_sipush (v := 1600) hx hb dX8_push_11 (by decide) ?_
  refine lv_icmp_ge (tgt := 46) hx hb dX8_push_14 (by decide) (fun c4 => absurd c4 (by decide)) (fun _ => ?_)
  refine lv_aload_n hx hb dX8_push_17 rfl (lv_at hl 1 rfl) ?_
  refine va_get (D := g) (ci := 8) (v := .ref btp) (C := RX8) (T := TX8) (N := 10) hx hb hts iX8 hown hK hP 0 rfl rfl 4 (by decide) (hts (.fieldLink RX8 28 "CardsAtYule$Tape" "bytes" "[B") (List.mem_cons_of_mem _ (List.mem_append_left _ (List.mem_of_getElem? (i := 1) rfl)))) (fun _ h9 => h9) rfl dX8_push_18 ?_
  refine lv_aload_n hx hb dX8_push_21 rfl (lv_at hl 1 rfl) ?_
  refine va_get (D := g) (ci := 8) (v := .int 5) (C := RX8) (T := TX8) (N := 10) hx hb hts iX8 hown hK hP 0 rfl rfl 0 (by decide) (hts (.fieldLink RX8 9 "CardsAtYule$Tape" "length" "I") (List.mem_cons_of_mem _ (List.mem_append_left _ (List.mem_of_getElem? (i := 0) rfl)))) (fun _ h9 => h9) rfl dX8_push_22 ?_
  refine lv_iload_n hx hb dX8_push_25 rfl (lv_at hl 2 rfl) ?_
  refine lv_iload_n hx hb dX8_push_26 rfl (lv_at hl 0 rfl) ?_
  refine lv_ishr hx hb dX8_push_27 ?_
  refine lv_i2b (v := (p0 >>> (16 &&& (31 : Int32))).toInt8.toInt32) hx hb dX8_push_28 rfl ?_
  refine va_bast (D := g) hx hb hK hP hD hS 1 2 rfl rfl (vc_in (by decide)) dX8_push_29 (fun H locs hP hD hS => ?_)
  have hP : va_P g vwCl [(tp, .inr (8, [.int 5, .ref tl, .int ft, .int pl, .ref btp, .int at_, .int sta, .int kd, .int nb, .int np])), (btp, .inl (cB, 1600, .inl (upd (upd f0 4 (vp_nar .byte ((p0 >>> (24 &&& (31 : Int32))).toInt8.toInt32))) 5 (vp_nar .byte ((p0 >>> (16 &&& (31 : Int32))).toInt8.toInt32)))))] H := hP
  have hD : va_D A [(tp, .inr (8, [.int 5, .ref tl, .int ft, .int pl, .ref btp, .int at_, .int sta, .int kd, .int nb, .int np])), (btp, .inl (cB, 1600, .inl (upd (upd f0 4 (vp_nar .byte ((p0 >>> (24 &&& (31 : Int32))).toInt8.toInt32))) 5 (vp_nar .byte ((p0 >>> (16 &&& (31 : Int32))).toInt8.toInt32)))))] := hD
  refine lv_aload_n hx hb dX8_push_30 rfl (lv_at hl 1 rfl) ?_
  refine lv_dup hx hb dX8_push_31 rfl ?_
  refine va_get (D := g) (ci := 8) (v := .int 5) (C := RX8) (T := TX8) (N := 10) hx hb hts iX8 hown hK hP 0 rfl rfl 0 (by decide) (hts (.fieldLink RX8 9 "CardsAtYule$Tape" "length" "I") (List.mem_cons_of_mem _ (List.mem_append_left _ (List.mem_of_getElem? (i := 0) rfl)))) (fun _ h9 => h9) rfl dX8_push_32 ?_
  refine lv_iconst (v := 1) hx hb dX8_push_35 (by decide) ?_
  refine lv_iadd hx hb dX8_push_36 ?_
  refine lv_topi (nm_r (e' := 6) (by decide) ?_)
  refine va_put (D := g) (ci := 8) (v := .int 6) (ty := .int) (C := RX8) (T := TX8) (N := 10) hx hb hts iX8 tyX8 tyX8_ok nmX8 hown hK hP hD hS 0 rfl rfl 0 (by decide) (hts (.fieldLink RX8 9 "CardsAtYule$Tape" "length" "I") (List.mem_cons_of_mem _ (List.mem_append_left _ (List.mem_of_getElem? (i := 0) rfl)))) (fun _ h9 => h9) rfl (by decide +kernel) rfl rfl (Nat.le_of_ble_eq_true rfl) dX8_push_37 (fun H locs hP hD hS => ?_)
  have hP : va_P g vwCl [(tp, .inr (8, [.int 6, .ref tl, .int ft, .int pl, .ref btp, .int at_, .int sta, .int kd, .int nb, .int np])), (btp, .inl (cB, 1600, .inl (upd (upd f0 4 (vp_nar .byte ((p0 >>> (24 &&& (31 : Int32))).toInt8.toInt32))) 5 (vp_nar .byte ((p0 >>> (16 &&& (31 : Int32))).toInt8.toInt32)))))] H := hP
  have hD : va_D A [(tp, .inr (8, [.int 6, .ref tl, .int ft, .int pl, .ref btp, .int at_, .int sta, .int kd, .int nb, .int np])), (btp, .inl (cB, 1600, .inl (upd (upd f0 4 (vp_nar .byte ((p0 >>> (24 &&& (31 : Int32))).toInt8.toInt32))) 5 (vp_nar .byte ((p0 >>> (16 &&& (31 : Int32))).toInt8.toInt32)))))] := hD
  refine lv_iinc (v := 8) (lv' := [(2, .int 8), (0, .ref tp), (1, .int p0)]) hx hb dX8_push_40 hl (k := 0) rfl (by decide) (by decide) rfl (fun ls hl => ?_)
  refine lv_goto (tgt := 3) hx hb dX8_push_43 (by decide) ?_
  refine lv_iload_n hx hb dX8_push_3 rfl (lv_at hl 0 rfl) ?_
  refine lv_if_lt (tgt := 46) hx hb dX8_push_4 (by decide) (fun c5 => absurd c5 (by decide)) (fun _ => ?_)
  refine lv_aload_n hx hb dX8_push_7 rfl (lv_at hl 1 rfl) ?_
  refine va_get (D := g) (ci := 8) (v := .int 6) (C := RX8) (T := TX8) (N := 10) hx hb hts iX8 hown hK hP 0 rfl rfl 0 (by decide) (hts (.fieldLink RX8 9 "CardsAtYule$Tape" "length" "I") (List.mem_cons_of_mem _ (List.mem_append_left _ (List.mem_of_getElem? (i := 0) rfl)))) (fun _ h9 => h9) rfl dX8_push_8 ?_
  refine lv_sipush (v := 1600) hx hb dX8_push_11 (by decide) ?_
  refine lv_icmp_ge (tgt := 46) hx hb dX8_push_14 (by decide) (fun c6 => absurd c6 (by decide)) (fun _ => ?_)
  refine lv_aload_n hx hb dX8_push_17 rfl (lv_at hl 1 rfl) ?_
  refine va_get (D := g) (ci := 8) (v := .ref btp) (C := RX8) (T := TX8) (N := 10) hx hb hts iX8 hown hK hP 0 rfl rfl 4 (by decide) (hts (.fieldLink RX8 28 "CardsAtYule$Tape" "bytes" "[B") (List.mem_cons_of_mem _ (List.mem_append_left _ (List.mem_of_getElem? (i := 1) rfl)))) (fun _ h9 => h9) rfl dX8_push_18 ?_
  refine lv_aload_n hx hb dX8_push_21 rfl (lv_at hl 1 rfl) ?_
  refine va_get (D := g) (ci := 8) (v := .int 6) (C := RX8) (T := TX8) (N := 10) hx hb hts iX8 hown hK hP 0 rfl rfl 0 (by decide) (hts (.fieldLink RX8 9 "CardsAtYule$Tape" "length" "I") (List.mem_cons_of_mem _ (List.mem_append_left _ (List.mem_of_getElem? (i := 0) rfl)))) (fun _ h9 => h9) rfl dX8_push_22 ?_
  refine lv_iload_n hx hb dX8_push_25 rfl (lv_at hl 2 rfl) ?_
  refine lv_iload_n hx hb dX8_push_26 rfl (lv_at hl 0 rfl) ?_
  refine lv_ishr hx hb dX8_push_27 ?_
  refine lv_i2b (v := (p0 >>> (8 &&& (31 : Int32))).toInt8.toInt32) hx hb dX8_push_28 rfl ?_
  refine va_bast (D := g) hx hb hK hP hD hS 1 2 rfl rfl (vc_in (by decide)) dX8_push_29 (fun H locs hP hD hS => ?_)
  have hP : va_P g vwCl [(tp, .inr (8, [.int 6, .ref tl, .int ft, .int pl, .ref btp, .int at_, .int sta, .int kd, .int nb, .int np])), (btp, .inl (cB, 1600, .inl (upd (upd (upd f0 4 (vp_nar .byte ((p0 >>> (24 &&& (31 : Int32))).toInt8.toInt32))) 5 (vp_nar .byte ((p0 >>> (16 &&& (31 : Int32))).toInt8.toInt32))) 6 (vp_nar .byte ((p0 >>> (8 &&& (31 : Int32))).toInt8.toInt32)))))] H := hP
  have hD : va_D A [(tp, .inr (8, [.int 6, .ref tl, .int ft, .int pl, .ref btp, .int at_, .int sta, .int kd, .int nb, .int np])), (btp, .inl (cB, 1600, .inl (upd (upd (upd f0 4 (vp_nar .byte ((p0 >>> (24 &&& (31 : Int32))).toInt8.toInt32))) 5 (vp_nar .byte ((p0 >>> (16 &&& (31 : Int32))).toInt8.toInt32))) 6 (vp_nar .byte ((p0 >>> (8 &&& (31 : Int32))).toInt8.toInt32)))))] := hD
  refine lv_aload_n hx hb dX8_push_30 rfl (lv_at hl 1 rfl) ?_
  refine lv_dup hx hb dX8_push_31 rfl ?_
  refine va_get (D := g) (ci := 8) (v := .int 6) (C := RX8) (T := TX8) (N := 10) hx hb hts iX8 hown hK hP 0 rfl rfl 0 (by decide) (hts (.fieldLink RX8 9 "CardsAtYule$Tape" "length" "I") (List.mem_cons_of_mem _ (List.mem_append_left _ (List.mem_of_getElem? (i := 0) rfl)))) (fun _ h9 => h9) rfl dX8_push_32 ?_
  refine lv_iconst (v := 1) hx hb dX8_push_35 (by decide) ?_
  refine lv_iadd hx hb dX8_push_36 ?_
  refine lv_topi (nm_r (e' := 7) (by decide) ?_)
  refine va_put (D := g) (ci := 8) (v := .int 7) (ty := .int) (C := RX8) (T := TX8) (N := 10) hx hb hts iX8 tyX8 tyX8_ok nmX8 hown hK hP hD hS 0 rfl rfl 0 (by decide) (hts (.fieldLink RX8 9 "CardsAtYule$Tape" "length" "I") (List.mem_cons_of_mem _ (List.mem_append_left _ (List.mem_of_getElem? (i := 0) rfl)))) (fun _ h9 => h9) rfl (by decide +kernel) rfl rfl (Nat.le_of_ble_eq_true rfl) dX8_push_37 (fun H locs hP hD hS => ?_)
  have hP : va_P g vwCl [(tp, .inr (8, [.int 7, .ref tl, .int ft, .int pl, .ref btp, .int at_, .int sta, .int kd, .int nb, .int np])), (btp, .inl (cB, 1600, .inl (upd (upd (upd f0 4 (vp_nar .byte ((p0 >>> (24 &&& (31 : Int32))).toInt8.toInt32))) 5 (vp_nar .byte ((p0 >>> (16 &&& (31 : Int32))).toInt8.toInt32))) 6 (vp_nar .byte ((p0 >>> (8 &&& (31 : Int32))).toInt8.toInt32)))))] H := hP
  have hD : va_D A [(tp, .inr (8, [.int 7, .ref tl, .int ft, .int pl, .ref btp, .int at_, .int sta, .int kd, .int nb, .int np])), (btp, .inl (cB, 1600, .inl (upd (upd (upd f0 4 (vp_nar .byte ((p0 >>> (24 &&& (31 : Int32))).toInt8.toInt32))) 5 (vp_nar .byte ((p0 >>> (16 &&& (31 : Int32))).toInt8.toInt32))) 6 (vp_nar .byte ((p0 >>> (8 &&& (31 : Int32))).toInt8.toInt32)))))] := hD
  refine lv_iinc (v := 0) (lv' := [(2, .int 0), (0, .ref tp), (1, .int p0)]) hx hb dX8_push_40 hl (k := 0) rfl (by decide) (by decide) rfl (fun ls hl => ?_)
  refine lv_goto (tgt := 3) hx hb dX8_push_43 (by decide) ?_
  refine lv_iload_n hx hb dX8_push_3 rfl (lv_at hl 0 rfl) ?_
  refine lv_if_lt (tgt := 46) hx hb dX8_push_4 (by decide) (fun c7 => absurd c7 (by decide)) (fun _ => ?_)
  refine lv_aload_n hx hb dX8_push_7 rfl (lv_at hl 1 rfl) ?_
  refine va_get (D := g) (ci := 8) (v := .int 7) (C := RX8) (T := TX8) (N := 10) hx hb hts iX8 hown hK hP 0 rfl rfl 0 (by decide) (hts (.fieldLink RX8 9 "CardsAtYule$Tape" "length" "I") (List.mem_cons_of_mem _ (List.mem_append_left _ (List.mem_of_getElem? (i := 0) rfl)))) (fun _ h9 => h9) rfl dX8_push_8 ?_
  refine lv_sipush (v := 1600) hx hb dX8_push_11 (by decide) ?_
  refine lv_icmp_ge (tgt := 46) hx hb dX8_push_14 (by decide) (fun c8 => absurd c8 (by decide)) (fun _ => ?_)
  refine lv_aload_n hx hb dX8_push_17 rfl (lv_at hl 1 rfl) ?_
  refine va_get (D := g) (ci := 8) (v := .ref btp) (C := RX8) (T := TX8) (N := 10) hx hb hts iX8 hown hK hP 0 rfl rfl 4 (by decide) (hts (.fieldLink RX8 28 "CardsAtYule$Tape" "bytes" "[B") (List.mem_cons_of_mem _ (List.mem_append_left _ (List.mem_of_getElem? (i := 1) rfl)))) (fun _ h9 => h9) rfl dX8_push_18 ?_
  refine lv_aload_n hx hb dX8_push_21 rfl (lv_at hl 1 rfl) ?_
  refine va_get (D := g) (ci := 8) (v := .int 7) (C := RX8) (T := TX8) (N := 10) hx hb hts iX8 hown hK hP 0 rfl rfl 0 (by decide) (hts (.fieldLink RX8 9 "CardsAtYule$Tape" "length" "I") (List.mem_cons_of_mem _ (List.mem_append_left _ (List.mem_of_getElem? (i := 0) rfl)))) (fun _ h9 => h9) rfl dX8_push_22 ?_
  refine lv_iload_n hx hb dX8_push_25 rfl (lv_at hl 2 rfl) ?_
  refine lv_iload_n hx hb dX8_push_26 rfl (lv_at hl 0 rfl) ?_
  refine lv_ishr hx hb dX8_push_27 ?_
  refine lv_i2b (v := (p0 >>> (0 &&& (31 : Int32))).toInt8.toInt32) hx hb dX8_push_28 rfl ?_
  refine va_bast (D := g) hx hb hK hP hD hS 1 2 rfl rfl (vc_in (by decide)) dX8_push_29 (fun H locs hP hD hS => ?_)
  have hP : va_P g vwCl [(tp, .inr (8, [.int 7, .ref tl, .int ft, .int pl, .ref btp, .int at_, .int sta, .int kd, .int nb, .int np])), (btp, .inl (cB, 1600, .inl (upd (upd (upd (upd f0 4 (vp_nar .byte ((p0 >>> (24 &&& (31 : Int32))).toInt8.toInt32))) 5 (vp_nar .byte ((p0 >>> (16 &&& (31 : Int32))).toInt8.toInt32))) 6 (vp_nar .byte ((p0 >>> (8 &&& (31 : Int32))).toInt8.toInt32))) 7 (vp_nar .byte ((p0 >>> (0 &&& (31 : Int32))).toInt8.toInt32)))))] H := hP
  have hD : va_D A [(tp, .inr (8, [.int 7, .ref tl, .int ft, .int pl, .ref btp, .int at_, .int sta, .int kd, .int nb, .int np])), (btp, .inl (cB, 1600, .inl (upd (upd (upd (upd f0 4 (vp_nar .byte ((p0 >>> (24 &&& (31 : Int32))).toInt8.toInt32))) 5 (vp_nar .byte ((p0 >>> (16 &&& (31 : Int32))).toInt8.toInt32))) 6 (vp_nar .byte ((p0 >>> (8 &&& (31 : Int32))).toInt8.toInt32))) 7 (vp_nar .byte ((p0 >>> (0 &&& (31 : Int32))).toInt8.toInt32)))))] := hD
  refine lv_aload_n hx hb dX8_push_30 rfl (lv_at hl 1 rfl) ?_
  refine lv_dup hx hb dX8_push_31 rfl ?_
  refine va_get (D := g) (ci := 8) (v := .int 7) (C := RX8) (T := TX8) (N := 10) hx hb hts iX8 hown hK hP 0 rfl rfl 0 (by decide) (hts (.fieldLink RX8 9 "CardsAtYule$Tape" "length" "I") (List.mem_cons_of_mem _ (List.mem_append_left _ (List.mem_of_getElem? (i := 0) rfl)))) (fun _ h9 => h9) rfl dX8_push_32 ?_
  refine lv_iconst (v := 1) hx hb dX8_push_35 (by decide) ?_
  refine lv_iadd hx hb dX8_push_36 ?_
  refine lv_topi (nm_r (e' := 8) (by decide) ?_)
  refine va_put (D := g) (ci := 8) (v := .int 8) (ty := .int) (C := RX8) (T := TX8) (N := 10) hx hb hts iX8 tyX8 tyX8_ok nmX8 hown hK hP hD hS 0 rfl rfl 0 (by decide) (hts (.fieldLink RX8 9 "CardsAtYule$Tape" "length" "I") (List.mem_cons_of_mem _ (List.mem_append_left _ (List.mem_of_getElem? (i := 0) rfl)))) (fun _ h9 => h9) rfl (by decide +kernel) rfl rfl (Nat.le_of_ble_eq_true rfl) dX8_push_37 (fun H locs hP hD hS => ?_)
  have hP : va_P g vwCl [(tp, .inr (8, [.int 8, .ref tl, .int ft, .int pl, .ref btp, .int at_, .int sta, .int kd, .int nb, .int np])), (btp, .inl (cB, 1600, .inl (upd (upd (upd (upd f0 4 (vp_nar .byte ((p0 >>> (24 &&& (31 : Int32))).toInt8.toInt32))) 5 (vp_nar .byte ((p0 >>> (16 &&& (31 : Int32))).toInt8.toInt32))) 6 (vp_nar .byte ((p0 >>> (8 &&& (31 : Int32))).toInt8.toInt32))) 7 (vp_nar .byte ((p0 >>> (0 &&& (31 : Int32))).toInt8.toInt32)))))] H := hP
  have hD : va_D A [(tp, .inr (8, [.int 8, .ref tl, .int ft, .int pl, .ref btp, .int at_, .int sta, .int kd, .int nb, .int np])), (btp, .inl (cB, 1600, .inl (upd (upd (upd (upd f0 4 (vp_nar .byte ((p0 >>> (24 &&& (31 : Int32))).toInt8.toInt32))) 5 (vp_nar .byte ((p0 >>> (16 &&& (31 : Int32))).toInt8.toInt32))) 6 (vp_nar .byte ((p0 >>> (8 &&& (31 : Int32))).toInt8.toInt32))) 7 (vp_nar .byte ((p0 >>> (0 &&& (31 : Int32))).toInt8.toInt32)))))] := hD
  refine lv_iinc (v := (-8)) (lv' := [(2, .int (-8)), (0, .ref tp), (1, .int p0)]) hx hb dX8_push_40 hl (k := 0) rfl (by decide) (by decide) rfl (fun ls hl => ?_)
  refine lv_goto (tgt := 3) hx hb dX8_push_43 (by decide) ?_
  refine lv_iload_n hx hb dX8_push_3 rfl (lv_at hl 0 rfl) ?_
  refine lv_if_lt (tgt := 46) hx hb dX8_push_4 (by decide) (fun _ => ?_) (fun c9 => absurd c9 (by decide))
  have hP9 := hP.sub (ws' := [(tp, .inr (8, [.int 8, .ref tl, .int ft, .int pl, .ref btp, .int at_, .int sta, .int kd, .int nb, .int np])), (btp, .inl (cB, 1600, .inl (upd (upd (upd (upd f0 4 (vp_nar .byte ((p0 >>> (24 &&& (31 : Int32))).toInt8.toInt32))) 5 (vp_nar .byte ((p0 >>> (16 &&& (31 : Int32))).toInt8.toInt32))) 6 (vp_nar .byte ((p0 >>> (8 &&& (31 : Int32))).toInt8.toInt32))) 7 (vp_nar .byte ((p0 >>> (0 &&& (31 : Int32))).toInt8.toInt32)))))]) [0, 1] rfl
  have hD9 := hD.sub (ws' := [(tp, .inr (8, [.int 8, .ref tl, .int ft, .int pl, .ref btp, .int at_, .int sta, .int kd, .int nb, .int np])), (btp, .inl (cB, 1600, .inl (upd (upd (upd (upd f0 4 (vp_nar .byte ((p0 >>> (24 &&& (31 : Int32))).toInt8.toInt32))) 5 (vp_nar .byte ((p0 >>> (16 &&& (31 : Int32))).toInt8.toInt32))) 6 (vp_nar .byte ((p0 >>> (8 &&& (31 : Int32))).toInt8.toInt32))) 7 (vp_nar .byte ((p0 >>> (0 &&& (31 : Int32))).toInt8.toInt32)))))]) [0, 1] (by decide) rfl
  exact W.vret hx hb hr (fun t ht hW => ⟨⟨(upd (upd (upd (upd f0 4 (vp_nar .byte ((p0 >>> (24 &&& (31 : Int32))).toInt8.toInt32))) 5 (vp_nar .byte ((p0 >>> (16 &&& (31 : Int32))).toInt8.toInt32))) 6 (vp_nar .byte ((p0 >>> (8 &&& (31 : Int32))).toInt8.toInt32))) 7 (vp_nar .byte ((p0 >>> (0 &&& (31 : Int32))).toInt8.toInt32))), rfl, trivial, by rw [ht]; exact hP9, va_K.moved hW.alike hK, hD9⟩, hS.F ht⟩) hS.2.2 dX8_push_46
def v_X8_push_8 : List Cond := .code yX8_push cX8_push 3 none :: (([.fieldLink RX8 9 "CardsAtYule$Tape" "length" "I", .fieldLink RX8 28 "CardsAtYule$Tape" "bytes" "[B"] : List Cond) ++ (wsX80 ++ ([] : List Cond)))
theorem good_v_X8_push_8 : v_X8_push_8.all goodWord = true := ga_c (by decide +kernel) (ga_a (by decide +kernel) (ga_a good_wsX80 rfl))
set_option maxHeartbeats 4000000 in
set_option maxRecDepth 100000 in
theorem k_X8_push_8 (l : Launch) (g : va_G) (cI cJ cB cZ cL : ClassId) (tp : Nat) (tl : Nat) (btp : Nat) (ft : Int32) (pl : Int32) (at_ : Int32) (sta : Int32) (kd : Int32) (nb : Int32) (np : Int32) (f0 : Nat → Int32) (p0 : Int32) (sz : Nat)  : Met l yX8_push v_X8_push_8 ({ frames := 0, cells := 0, slots := 0, locals := 0 }) (va_Pc [.ref tp, .int p0] (pRW g (tyT cI cJ cB cZ cL) [(tp, .inr (8, [.int 8, .ref tl, .int ft, .int pl, .ref btp, .int at_, .int sta, .int kd, .int nb, .int np])), (btp, .inl (cB, 1600, .inl f0))] sz)) (va_Qv (fun (u : Nat → Int32) => match u with | f1 => True) (fun (u : Nat → Int32) (t : State) => bRW g (tyT cI cJ cB cZ cL) (va_A [(tp, .inr (8, [.int 8, .ref tl, .int ft, .int pl, .ref btp, .int at_, .int sta, .int kd, .int nb, .int np])), (btp, .inl (cB, 1600, .inl f0))] sz) (match u with | f1 => [(tp, .inr (8, [.int 12, .ref tl, .int ft, .int pl, .ref btp, .int at_, .int sta, .int kd, .int nb, .int np])), (btp, .inl (cB, 1600, .inl f1))]) t) (va_A [(tp, .inr (8, [.int 8, .ref tl, .int ft, .int pl, .ref btp, .int at_, .int sta, .int kd, .int nb, .int np])), (btp, .inl (cB, 1600, .inl f0))] sz)) 0 0 (va_A [(tp, .inr (8, [.int 8, .ref tl, .int ft, .int pl, .ref btp, .int at_, .int sta, .int kd, .int nb, .int np])), (btp, .inl (cB, 1600, .inl f0))] sz) := by
  refine Met.ofW (cc := cX8_push) (maxL := 3) (ret := none) (by decide) rfl ?_
  intro p e s m args below meth c s₁ B hml hv
  obtain ⟨rfl, hsz, hP, hK, hD0⟩ := hv
  have hx := B.exec
  have hb := B.bytes
  have hr := B.returns
  have hts := atoms_spec (ws := v_X8_push_8) B.pre
  have hown : s.vm.findClass RX8 = some m.cls := findClass_of_methodNamed B.named
  have hlocks := B.notSynchronized
  subst hsz
  have iX8 : ∀ w ∈ wsX80, w ∈ v_X8_push_8 := (fun _ h => List.mem_cons_of_mem _ (List.mem_append_right _ (List.mem_append_left _ h)))
  have hD := hD0.self (sz := s.heap.size)
  generalize hAe : (va_A [(tp, .inr (8, [.int 8, .ref tl, .int ft, .int pl, .ref btp, .int at_, .int sta, .int kd, .int nb, .int np])), (btp, .inl (cB, 1600, .inl f0))] s.heap.size) = A at hD ⊢
  have hA : ∀ q : Nat, s.heap.size ≤ q → A q := fun q h => by rw [← hAe]; exact Or.inr h
  have hS : va_S A s.heap s.heap [] := va_S.rf
  have hl := lv_entry ([.ref tp, .int p0]) (n := 3) (Nat.le_of_ble_eq_true rfl)
  rw [lg_entry_eq]
  generalize (lg_sl ([.ref tp, .int p0]) ++ List.replicate (3 - (lg_sl ([.ref tp, .int p0])).length) Slot.unset).toArray = ls at hl ⊢
  have hl : lv_has ls 3 [(0, .ref tp), (1, .int p0)] := hl
  have hP : va_P g vwCl [(tp, .inr (8, [.int 8, .ref tl, .int ft, .int pl, .ref btp, .int at_, .int sta, .int kd, .int nb, .int np])), (btp, .inl (cB, 1600, .inl f0))] s.heap := hP
  refine lv_bipush (v := 24) hx hb dX8_push_0 (by decide) ?_
  refine lv_istore_n (lv' := [(2, .int 24), (0, .ref tp), (1, .int p0)]) hx hb dX8_push_2 rfl hl (by decide) rfl (fun ls hl => ?_)
  refine lv_iload_n hx hb dX8_push_3 rfl (lv_at hl 0 rfl) ?_
  refine lv_if_lt (tgt := 46) hx hb dX8_push_4 (by decide) (fun c1 => absurd c1 (by decide)) (fun _ => ?_)
  refine lv_aload_n hx hb dX8_push_7 rfl (lv_at hl 1 rfl) ?_
  refine va_get (D := g) (ci := 8) (v := .int 8) (C := RX8) (T := TX8) (N := 10) hx hb hts iX8 hown hK hP 0 rfl rfl 0 (by decide) (hts (.fieldLink RX8 9 "CardsAtYule$Tape" "length" "I") (List.mem_cons_of_mem _ (List.mem_append_left _ (List.mem_of_getElem? (i := 0) rfl)))) (fun _ h9 => h9) rfl dX8_push_8 ?_
  refine lv_sipush (v := 1600) hx hb dX8_push_11 (by decide) ?_
  refine lv_icmp_ge (tgt := 46) hx hb dX8_push_14 (by decide) (fun c2 => absurd c2 (by decide)) (fun _ => ?_)
  refine lv_aload_n hx hb dX8_push_17 rfl (lv_at hl 1 rfl) ?_
  refine va_get (D := g) (ci := 8) (v := .ref btp) (C := RX8) (T := TX8) (N := 10) hx hb hts iX8 hown hK hP 0 rfl rfl 4 (by decide) (hts (.fieldLink RX8 28 "CardsAtYule$Tape" "bytes" "[B") (List.mem_cons_of_mem _ (List.mem_append_left _ (List.mem_of_getElem? (i := 1) rfl)))) (fun _ h9 => h9) rfl dX8_push_18 ?_
  refine lv_aload_n hx hb dX8_push_21 rfl (lv_at hl 1 rfl) ?_
  refine va_get (D := g) (ci := 8) (v := .int 8) (C := RX8) (T := TX8) (N := 10) hx hb hts iX8 hown hK hP 0 rfl rfl 0 (by decide) (hts (.fieldLink RX8 9 "CardsAtYule$Tape" "length" "I") (List.mem_cons_of_mem _ (List.mem_append_left _ (List.mem_of_getElem? (i := 0) rfl)))) (fun _ h9 => h9) rfl dX8_push_22 ?_
  refine lv_iload_n hx hb dX8_push_25 rfl (lv_at hl 2 rfl) ?_
  refine lv_iload_n hx hb dX8_push_26 rfl (lv_at hl 0 rfl) ?_
  refine lv_ishr hx hb dX8_push_27 ?_
  refine lv_i2b (v := (p0 >>> (24 &&& (31 : Int32))).toInt8.toInt32) hx hb dX8_push_28 rfl ?_
  refine va_bast (D := g) hx hb hK hP hD hS 1 2 rfl rfl (vc_in (by decide)) dX8_push_29 (fun H locs hP hD hS => ?_)
  have hP : va_P g vwCl [(tp, .inr (8, [.int 8, .ref tl, .int ft, .int pl, .ref btp, .int at_, .int sta, .int kd, .int nb, .int np])), (btp, .inl (cB, 1600, .inl (upd f0 8 (vp_nar .byte ((p0 >>> (24 &&& (31 : Int32))).toInt8.toInt32)))))] H := hP
  have hD : va_D A [(tp, .inr (8, [.int 8, .ref tl, .int ft, .int pl, .ref btp, .int at_, .int sta, .int kd, .int nb, .int np])), (btp, .inl (cB, 1600, .inl (upd f0 8 (vp_nar .byte ((p0 >>> (24 &&& (31 : Int32))).toInt8.toInt32)))))] := hD
  refine lv_aload_n hx hb dX8_push_30 rfl (lv_at hl 1 rfl) ?_
  refine lv_dup hx hb dX8_push_31 rfl ?_
  refine va_get (D := g) (ci := 8) (v := .int 8) (C := RX8) (T := TX8) (N := 10) hx hb hts iX8 hown hK hP 0 rfl rfl 0 (by decide) (hts (.fieldLink RX8 9 "CardsAtYule$Tape" "length" "I") (List.mem_cons_of_mem _ (List.mem_append_left _ (List.mem_of_getElem? (i := 0) rfl)))) (fun _ h9 => h9) rfl dX8_push_32 ?_
  refine lv_iconst (v := 1) hx hb dX8_push_35 (by decide) ?_
  refine lv_iadd hx hb dX8_push_36 ?_
  refine lv_topi (nm_r (e' := 9) (by decide) ?_)
  refine va_put (D := g) (ci := 8) (v := .int 9) (ty := .int) (C := RX8) (T := TX8) (N := 10) hx hb hts iX8 tyX8 tyX8_ok nmX8 hown hK hP hD hS 0 rfl rfl 0 (by decide) (hts (.fieldLink RX8 9 "CardsAtYule$Tape" "length" "I") (List.mem_cons_of_mem _ (List.mem_append_left _ (List.mem_of_getElem? (i := 0) rfl)))) (fun _ h9 => h9) rfl (by decide +kernel) rfl rfl (Nat.le_of_ble_eq_true rfl) dX8_push_37 (fun H locs hP hD hS => ?_)
  have hP : va_P g vwCl [(tp, .inr (8, [.int 9, .ref tl, .int ft, .int pl, .ref btp, .int at_, .int sta, .int kd, .int nb, .int np])), (btp, .inl (cB, 1600, .inl (upd f0 8 (vp_nar .byte ((p0 >>> (24 &&& (31 : Int32))).toInt8.toInt32)))))] H := hP
  have hD : va_D A [(tp, .inr (8, [.int 9, .ref tl, .int ft, .int pl, .ref btp, .int at_, .int sta, .int kd, .int nb, .int np])), (btp, .inl (cB, 1600, .inl (upd f0 8 (vp_nar .byte ((p0 >>> (24 &&& (31 : Int32))).toInt8.toInt32)))))] := hD
  refine lv_iinc (v := 16) (lv' := [(2, .int 16), (0, .ref tp), (1, .int p0)]) hx hb dX8_push_40 hl (k := 0) rfl (by decide) (by decide) rfl (fun ls hl => ?_)
  refine lv_goto (tgt := 3) hx hb dX8_push_43 (by decide) ?_
  refine lv_iload_n hx hb dX8_push_3 rfl (lv_at hl 0 rfl) ?_
  refine lv_if_lt (tgt := 46) hx hb dX8_push_4 (by decide) (fun c3 => absurd c3 (by decide)) (fun _ => ?_)
  refine lv_aload_n hx hb dX8_push_7 rfl (lv_at hl 1 rfl) ?_
  refine va_get (D := g) (ci := 8) (v := .int 9) (C := RX8) (T := TX8) (N := 10) hx hb hts iX8 hown hK hP 0 rfl rfl 0 (by decide) (hts (.fieldLink RX8 9 "CardsAtYule$Tape" "length" "I") (List.mem_cons_of_mem _ (List.mem_append_left _ (List.mem_of_getElem? (i := 0) rfl)))) (fun _ h9 => h9) rfl dX8_push_8 ?_
  refine lv_sipush (v := 1600) hx hb dX8_push_11 (by decide) ?_
  refine lv_icmp_ge (tgt := 46) hx hb dX8_push_14 (by decide) (fun c4 => absurd c4 (by decide)) (fun _ => ?_)
  refine lv_aload_n hx hb dX8_push_17 rfl (lv_at hl 1 rfl) ?_
  refine va_get (D := g) (ci := 8) (v := .ref btp) (C := RX8) (T := TX8) (N := 10) hx hb hts iX8 hown hK hP 0 rfl rfl 4 (by decide) (hts (.fieldLink RX8 28 "CardsAtYule$Tape" "bytes" "[B") (List.mem_cons_of_mem _ (List.mem_append_left _ (List.mem_of_getElem? (i := 1) rfl)))) (fun _ h9 => h9) rfl dX8_push_18 ?_
  refine lv_aload_n hx hb dX8_push_21 rfl (lv_at hl 1 rfl) ?_
  refine va_get (D := g) (ci := 8) (v := .int 9) (C := RX8) (T := TX8) (N := 10) hx hb hts iX8 hown hK hP 0 rfl rfl 0 (by decide) (hts (.fieldLink RX8 9 "CardsAtYule$Tape" "length" "I") (List.mem_cons_of_mem _ (List.mem_append_left _ (List.mem_of_getElem? (i := 0) rfl)))) (fun _ h9 => h9) rfl dX8_push_22 ?_
  refine lv_iload_n hx hb dX8_push_25 rfl (lv_at hl 2 rfl) ?_
  refine lv_iload_n hx hb dX8_push_26 rfl (lv_at hl 0 rfl) ?_
  refine lv_ishr hx hb dX8_push_27 ?_
  refine lv_i2b (v := (p0 >>> (16 &&& (31 : Int32))).toInt8.toInt32) hx hb dX8_push_28 rfl ?_
  refine va_bast (D := g) hx hb hK hP hD hS 1 2 rfl rfl (vc_in (by decide)) dX8_push_29 (fun H locs hP hD hS => ?_)
  have hP : va_P g vwCl [(tp, .inr (8, [.int 9, .ref tl, .int ft, .int pl, .ref btp, .int at_, .int sta, .int kd, .int nb, .int np])), (btp, .inl (cB, 1600, .inl (upd (upd f0 8 (vp_nar .byte ((p0 >>> (24 &&& (31 : Int32))).toInt8.toInt32))) 9 (vp_nar .byte ((p0 >>> (16 &&& (31 : Int32))).toInt8.toInt32)))))] H := hP
  have hD : va_D A [(tp, .inr (8, [.int 9, .ref tl, .int ft, .int pl, .ref btp, .int at_, .int sta, .int kd, .int nb, .int np])), (btp, .inl (cB, 1600, .inl (upd (upd f0 8 (vp_nar .byte ((p0 >>> (24 &&& (31 : Int32))).toInt8.toInt32))) 9 (vp_nar .byte ((p0 >>> (16 &&& (31 : Int32))).toInt8.toInt32)))))] := hD
  refine lv_aload_n hx hb dX8_push_30 rfl (lv_at hl 1 rfl) ?_
  refine lv_dup hx hb dX8_push_31 rfl ?_
  refine va_get (D := g) (ci := 8) (v := .int 9) (C := RX8) (T := TX8) (N := 10) hx hb hts iX8 hown hK hP 0 rfl rfl 0 (by decide) (hts (.fieldLink RX8 9 "CardsAtYule$Tape" "length" "I") (List.mem_cons_of_mem _ (List.mem_append_left _ (List.mem_of_getElem? (i := 0) rfl)))) (fun _ h9 => h9) rfl dX8_push_32 ?_
  refine lv_iconst (v := 1) hx hb dX8_push_35 (by decide) ?_
  refine lv_iadd hx hb dX8_push_36 ?_
  refine lv_topi (nm_r (e' := 10) (by decide) ?_)
  refine va_put (D := g) (ci := 8) (v := .int 10) (ty := .int) (C := RX8) (T := TX8) (N := 10) hx hb hts iX8 tyX8 tyX8_ok nmX8 hown hK hP hD hS 0 rfl rfl 0 (by decide) (hts (.fieldLink RX8 9 "CardsAtYule$Tape" "length" "I") (List.mem_cons_of_mem _ (List.mem_append_left _ (List.mem_of_getElem? (i := 0) rfl)))) (fun _ h9 => h9) rfl (by decide +kernel) rfl rfl (Nat.le_of_ble_eq_true rfl) dX8_push_37 (fun H locs hP hD hS => ?_)
  have hP : va_P g vwCl [(tp, .inr (8, [.int 10, .ref tl, .int ft, .int pl, .ref btp, .int at_, .int sta, .int kd, .int nb, .int np])), (btp, .inl (cB, 1600, .inl (upd (upd f0 8 (vp_nar .byte ((p0 >>> (24 &&& (31 : Int32))).toInt8.toInt32))) 9 (vp_nar .byte ((p0 >>> (16 &&& (31 : Int32))).toInt8.toInt32)))))] H := hP
  have hD : va_D A [(tp, .inr (8, [.int 10, .ref tl, .int ft, .int pl, .ref btp, .int at_, .int sta, .int kd, .int nb, .int np])), (btp, .inl (cB, 1600, .inl (upd (upd f0 8 (vp_nar .byte ((p0 >>> (24 &&& (31 : Int32))).toInt8.toInt32))) 9 (vp_nar .byte ((p0 >>> (16 &&& (31 : Int32))).toInt8.toInt32)))))] := hD
  refine lv_iinc (v := 8) (lv' := [(2, .int 8), (0, .ref tp), (1, .int p0)]) hx hb dX8_push_40 hl (k := 0) rfl (by decide) (by decide) rfl (fun ls hl => ?_)
  refine lv_goto (tgt := 3) hx hb dX8_push_43 (by decide) ?_
  refine lv_iload_n hx hb dX8_push_3 rfl (lv_at hl 0 rfl) ?_
  refine lv_if_lt (tgt := 46) hx hb dX8_push_4 (by decide) (fun c5 => absurd c5 (by decide)) (fun _ => ?_)
  refine lv_aload_n hx hb dX8_push_7 rfl (lv_at hl 1 rfl) ?_
  refine va_get (D := g) (ci := 8) (v := .int 10) (C := RX8) (T := TX8) (N := 10) hx hb hts iX8 hown hK hP 0 rfl rfl 0 (by decide) (hts (.fieldLink RX8 9 "CardsAtYule$Tape" "length" "I") (List.mem_cons_of_mem _ (List.mem_append_left _ (List.mem_of_getElem? (i := 0) rfl)))) (fun _ h9 => h9) rfl dX8_push_8 ?_
  refine lv_sipush (v := 1600) hx hb dX8_push_11 (by decide) ?_
  refine lv_icmp_ge (tgt := 46) hx hb dX8_push_14 (by decide) (fun c6 => absurd c6 (by decide)) (fun _ => ?_)
  refine lv_aload_n hx hb dX8_push_17 rfl (lv_at hl 1 rfl) ?_
  refine va_get (D := g) (ci := 8) (v := .ref btp) (C := RX8) (T := TX8) (N := 10) hx hb hts iX8 hown hK hP 0 rfl rfl 4 (by decide) (hts (.fieldLink RX8 28 "CardsAtYule$Tape" "bytes" "[B") (List.mem_cons_of_mem _ (List.mem_append_left _ (List.mem_of_getElem? (i := 1) rfl)))) (fun _ h9 => h9) rfl dX8_push_18 ?_
  refine lv_aload_n hx hb dX8_push_21 rfl (lv_at hl 1 rfl) ?_
  refine va_get (D := g) (ci := 8) (v := .int 10) (C := RX8) (T := TX8) (N := 10) hx hb hts iX8 hown hK hP 0 rfl rfl 0 (by decide) (hts (.fieldLink RX8 9 "CardsAtYule$Tape" "length" "I") (List.mem_cons_of_mem _ (List.mem_append_left _ (List.mem_of_getElem? (i := 0) rfl)))) (fun _ h9 => h9) rfl dX8_push_22 ?_
  refine lv_iload_n hx hb dX8_push_25 rfl (lv_at hl 2 rfl) ?_
  refine lv_iload_n hx hb dX8_push_26 rfl (lv_at hl 0 rfl) ?_
  refine lv_ishr hx hb dX8_push_27 ?_
  refine lv_i2b (v := (p0 >>> (8 &&& (31 : Int32))).toInt8.toInt32) hx hb dX8_push_28 rfl ?_
  refine va_bast (D := g) hx hb hK hP hD hS 1 2 rfl rfl (vc_in (by decide)) dX8_push_29 (fun H locs hP hD hS => ?_)
  have hP : va_P g vwCl [(tp, .inr (8, [.int 10, .ref tl, .int ft, .int pl, .ref btp, .int at_, .int sta, .int kd, .int nb, .int np])), (btp, .inl (cB, 1600, .inl (upd (upd (upd f0 8 (vp_nar .byte ((p0 >>> (24 &&& (31 : Int32))).toInt8.toInt32))) 9 (vp_nar .byte ((p0 >>> (16 &&& (31 : Int32))).toInt8.toInt32))) 10 (vp_nar .byte ((p0 >>> (8 &&& (31 : Int32))).toInt8.toInt32)))))] H := hP
  have hD : va_D A [(tp, .inr (8, [.int 10, .ref tl, .int ft, .int pl, .ref btp, .int at_, .int sta, .int kd, .int nb, .int np])), (btp, .inl (cB, 1600, .inl (upd (upd (upd f0 8 (vp_nar .byte ((p0 >>> (24 &&& (31 : Int32))).toInt8.toInt32))) 9 (vp_nar .byte ((p0 >>> (16 &&& (31 : Int32))).toInt8.toInt32))) 10 (vp_nar .byte ((p0 >>> (8 &&& (31 : Int32))).toInt8.toInt32)))))] := hD
  refine lv_aload_n hx hb dX8_push_30 rfl (lv_at hl 1 rfl) ?_
  refine lv_dup hx hb dX8_push_31 rfl ?_
  refine va_get (D := g) (ci := 8) (v := .int 10) (C := RX8) (T := TX8) (N := 10) hx hb hts iX8 hown hK hP 0 rfl rfl 0 (by decide) (hts (.fieldLink RX8 9 "CardsAtYule$Tape" "length" "I") (List.mem_cons_of_mem _ (List.mem_append_left _ (List.mem_of_getElem? (i := 0) rfl)))) (fun _ h9 => h9) rfl dX8_push_32 ?_
  refine lv_iconst (v := 1) hx hb dX8_push_35 (by decide) ?_
  refine lv_iadd hx hb dX8_push_36 ?_
  refine lv_topi (nm_r (e' := 11) (by decide) ?_)
  refine va_put (D := g) (ci := 8) (v := .int 11) (ty := .int) (C := RX8) (T := TX8) (N := 10) hx hb hts iX8 tyX8 tyX8_ok nmX8 hown hK hP hD hS 0 rfl rfl 0 (by decide) (hts (.fieldLink RX8 9 "CardsAtYule$Tape" "length" "I") (List.mem_cons_of_mem _ (List.mem_append_left _ (List.mem_of_getElem? (i := 0) rfl)))) (fun _ h9 => h9) rfl (by decide +kernel) rfl rfl (Nat.le_of_ble_eq_true rfl) dX8_push_37 (fun H locs hP hD hS => ?_)
  have hP : va_P g vwCl [(tp, .inr (8, [.int 11, .ref tl, .int ft, .int pl, .ref btp, .int at_, .int sta, .int kd, .int nb, .int np])), (btp, .inl (cB, 1600, .inl (upd (upd (upd f0 8 (vp_nar .byte ((p0 >>> (24 &&& (31 : Int32))).toInt8.toInt32))) 9 (vp_nar .byte ((p0 >>> (16 &&& (31 : Int32))).toInt8.toInt32))) 10 (vp_nar .byte ((p0 >>> (8 &&& (31 : Int32))).toInt8.toInt32)))))] H := hP
  have hD : va_D A [(tp, .inr (8, [.int 11, .ref tl, .int ft, .int pl, .ref btp, .int at_, .int sta, .int kd, .int nb, .int np])), (btp, .inl (cB, 1600, .inl (upd (upd (upd f0 8 (vp_nar .byte ((p0 >>> (24 &&& (31 : Int32))).toInt8.toInt32))) 9 (vp_nar .byte ((p0 >>> (16 &&& (31 : Int32))).toInt8.toInt32))) 10 (vp_nar .byte ((p0 >>> (8 &&& (31 : Int32))).toInt8.toInt32)))))] := hD
  refine lv_iinc (v := 0) (lv' := [(2, .int 0), (0, .ref tp), (1, .int p0)]) hx hb dX8_push_40 hl (k := 0) rfl (by decide) (by decide) rfl (fun ls hl => ?_)
  refine lv_goto (tgt := 3) hx hb dX8_push_43 (by decide) ?_
  refine lv_iload_n hx hb dX8_push_3 rfl (lv_at hl 0 rfl) ?_
  refine lv_if_lt (tgt := 46) hx hb dX8_push_4 (by decide) (fun c7 => absurd c7 (by decide)) (fun _ => ?_)
  refine lv_aload_n hx hb dX8_push_7 rfl (lv_at hl 1 rfl) ?_
  refine va_get (D := g) (ci := 8) (v := .int 11) (C := RX8) (T := TX8) (N := 10) hx hb hts iX8 hown hK hP 0 rfl rfl 0 (by decide) (hts (.fieldLink RX8 9 "CardsAtYule$Tape" "length" "I") (List.mem_cons_of_mem _ (List.mem_append_left _ (List.mem_of_getElem? (i := 0) rfl)))) (fun _ h9 => h9) rfl dX8_push_8 ?_
  refine lv_sipush (v := 1600) hx hb dX8_push_11 (by decide) ?_
  refine lv_icmp_ge (tgt := 46) hx hb dX8_push_14 (by decide) (fun c8 => absurd c8 (by decide)) (fun _ => ?_)
  refine lv_aload_n hx hb dX8_push_17 rfl (lv_at hl 1 rfl) ?_
  refine va_get (D := g) (ci := 8) (v := .ref btp) (C := RX8) (T := TX8) (N := 10) hx hb hts iX8 hown hK hP 0 rfl rfl 4 (by decide) (hts (.fieldLink RX8 28 "CardsAtYule$Tape" "bytes" "[B") (List.mem_cons_of_mem _ (List.mem_append_left _ (List.mem_of_getElem? (i := 1) rfl)))) (fun _ h9 => h9) rfl dX8_push_18 ?_
  refine lv_aload_n hx hb dX8_push_21 rfl (lv_at hl 1 rfl) ?_
  refine va_get (D := g) (ci := 8) (v := .int 11) (C := RX8) (T := TX8) (N := 10) hx hb hts iX8 hown hK hP 0 rfl rfl 0 (by decide) (hts (.fieldLink RX8 9 "CardsAtYule$Tape" "length" "I") (List.mem_cons_of_mem _ (List.mem_append_left _ (List.mem_of_getElem? (i := 0) rfl)))) (fun _ h9 => h9) rfl dX8_push_22 ?_
  refine lv_iload_n hx hb dX8_push_25 rfl (lv_at hl 2 rfl) ?_
  refine lv_iload_n hx hb dX8_push_26 rfl (lv_at hl 0 rfl) ?_
  refine lv_ishr hx hb dX8_push_27 ?_
  refine lv_i2b (v := (p0 >>> (0 &&& (31 : Int32))).toInt8.toInt32) hx hb dX8_push_28 rfl ?_
  refine va_bast (D := g) hx hb hK hP hD hS 1 2 rfl rfl (vc_in (by decide)) dX8_push_29 (fun H locs hP hD hS => ?_)
  have hP : va_P g vwCl [(tp, .inr (8, [.int 11, .ref tl, .int ft, .int pl, .ref btp, .int at_, .int sta, .int kd, .int nb, .int np])), (btp, .inl (cB, 1600, .inl (upd (upd (upd (upd f0 8 (vp_nar .byte ((p0 >>> (24 &&& (31 : Int32))).toInt8.toInt32))) 9 (vp_nar .byte ((p0 >>> (16 &&& (31 : Int32))).toInt8.toInt32))) 10 (vp_nar .byte ((p0 >>> (8 &&& (31 : Int32))).toInt8.toInt32))) 11 (vp_nar .byte ((p0 >>> (0 &&& (31 : Int32))).toInt8.toInt32)))))] H := hP
  have hD : va_D A [(tp, .inr (8, [.int 11, .ref tl, .int ft, .int pl, .ref btp, .int at_, .int sta, .int kd, .int nb, .int np])), (btp, .inl (cB, 1600, .inl (upd (upd (upd (upd f0 8 (vp_nar .byte ((p0 >>> (24 &&& (31 : Int32))).toInt8.toInt32))) 9 (vp_nar .byte ((p0 >>> (16 &&& (31 : Int32))).toInt8.toInt32))) 10 (vp_nar .byte ((p0 >>> (8 &&& (31 : Int32))).toInt8.toInt32))) 11 (vp_nar .byte ((p0 >>> (0 &&& (31 : Int32))).toInt8.toInt32)))))] := hD
  refine lv_aload_n hx hb dX8_push_30 rfl (lv_at hl 1 rfl) ?_
  refine lv_dup hx hb dX8_push_31 rfl ?_
  refine va_get (D := g) (ci := 8) (v := .int 11) (C := RX8) (T := TX8) (N := 10) hx hb hts iX8 hown hK hP 0 rfl rfl 0 (by decide) (hts (.fieldLink RX8 9 "CardsAtYule$Tape" "length" "I") (List.mem_cons_of_mem _ (List.mem_append_left _ (List.mem_of_getElem? (i := 0) rfl)))) (fun _ h9 => h9) rfl dX8_push_32 ?_
  refine lv_iconst (v := 1) hx hb dX8_push_35 (by decide) ?_
  refine lv_iadd hx hb dX8_push_36 ?_
  refine lv_topi (nm_r (e' := 12) (by decide) ?_)
  refine va_put (D := g) (ci := 8) (v := .int 12) (ty := .int) (C := RX8) (T := TX8) (N := 10) hx hb hts iX8 tyX8 tyX8_ok nmX8 hown hK hP hD hS 0 rfl rfl 0 (by decide) (hts (.fieldLink RX8 9 "CardsAtYule$Tape" "length" "I") (List.mem_cons_of_mem _ (List.mem_append_left _ (List.mem_of_getElem? (i := 0) rfl)))) (fun _ h9 => h9) rfl (by decide +kernel) rfl rfl (Nat.le_of_ble_eq_true rfl) dX8_push_37 (fun H locs hP hD hS => ?_)
  have hP : va_P g vwCl [(tp, .inr (8, [.int 12, .ref tl, .int ft, .int pl, .ref btp, .int at_, .int sta, .int kd, .int nb, .int np])), (btp, .inl (cB, 1600, .inl (upd (upd (upd (upd f0 8 (vp_nar .byte ((p0 >>> (24 &&& (31 : Int32))).toInt8.toInt32))) 9 (vp_nar .byte ((p0 >>> (16 &&& (31 : Int32))).toInt8.toInt32))) 10 (vp_nar .byte ((p0 >>> (8 &&& (31 : Int32))).toInt8.toInt32))) 11 (vp_nar .byte ((p0 >>> (0 &&& (31 : Int32))).toInt8.toInt32)))))] H := hP
  have hD : va_D A [(tp, .inr (8, [.int 12, .ref tl, .int ft, .int pl, .ref btp, .int at_, .int sta, .int kd, .int nb, .int np])), (btp, .inl (cB, 1600, .inl (upd (upd (upd (upd f0 8 (vp_nar .byte ((p0 >>> (24 &&& (31 : Int32))).toInt8.toInt32))) 9 (vp_nar .byte ((p0 >>> (16 &&& (31 : Int32))).toInt8.toInt32))) 10 (vp_nar .byte ((p0 >>> (8 &&& (31 : Int32))).toInt8.toInt32))) 11 (vp_nar .byte ((p0 >>> (0 &&& (31 : Int32))).toInt8.toInt32)))))] := hD
  refine lv_iinc (v := (-8)) (lv' := [(2, .int (-8)), (0, .ref tp), (1, .int p0)]) hx hb dX8_push_40 hl (k := 0) rfl (by decide) (by decide) rfl (fun ls hl => ?_)
  refine lv_goto (tgt := 3) hx hb dX8_push_43 (by decide) ?_
  refine lv_iload_n hx hb dX8_push_3 rfl (lv_at hl 0 rfl) ?_
  refine lv_if_lt (tgt := 46) hx hb dX8_push_4 (by decide) (fun _ => ?_) (fun c9 => absurd c9 (by decide))
  have hP9 := hP.sub (ws' := [(tp, .inr (8, [.int 12, .ref tl, .int ft, .int pl, .ref btp, .int at_, .int sta, .int kd, .int nb, .int np])), (btp, .inl (cB, 1600, .inl (upd (upd (upd (upd f0 8 (vp_nar .byte ((p0 >>> (24 &&& (31 : Int32))).toInt8.toInt32))) 9 (vp_nar .byte ((p0 >>> (16 &&& (31 : Int32))).toInt8.toInt32))) 10 (vp_nar .byte ((p0 >>> (8 &&& (31 : Int32))).toInt8.toInt32))) 11 (vp_nar .byte ((p0 >>> (0 &&& (31 : Int32))).toInt8.toInt32)))))]) [0, 1] rfl
  have hD9 := hD.sub (ws' := [(tp, .inr (8, [.int 12, .ref tl, .int ft, .int pl, .ref btp, .int at_, .int sta, .int kd, .int nb, .int np])), (btp, .inl (cB, 1600, .inl (upd (upd (upd (upd f0 8 (vp_nar .byte ((p0 >>> (24 &&& (31 : Int32))).toInt8.toInt32))) 9 (vp_nar .byte ((p0 >>> (16 &&& (31 : Int32))).toInt8.toInt32))) 10 (vp_nar .byte ((p0 >>> (8 &&& (31 : Int32))).toInt8.toInt32))) 11 (vp_nar .byte ((p0 >>> (0 &&& (31 : Int32))).toInt8.toInt32)))))]) [0, 1] (by decide) rfl
  exact W.vret hx hb hr (fun t ht hW => ⟨⟨(upd (upd (upd (upd f0 8 (vp_nar .byte ((p0 >>> (24 &&& (31 : Int32))).toInt8.toInt32))) 9 (vp_nar .byte ((p0 >>> (16 &&& (31 : Int32))).toInt8.toInt32))) 10 (vp_nar .byte ((p0 >>> (8 &&& (31 : Int32))).toInt8.toInt32))) 11 (vp_nar .byte ((p0 >>> (0 &&& (31 : Int32))).toInt8.toInt32))), rfl, trivial, by rw [ht]; exact hP9, va_K.moved hW.alike hK, hD9⟩, hS.F ht⟩) hS.2.2 dX8_push_46
def v_X8_push_12 : List Cond := .code yX8_push cX8_push 3 none :: (([.fieldLink RX8 9 "CardsAtYule$Tape" "length" "I", .fieldLink RX8 28 "CardsAtYule$Tape" "bytes" "[B"] : List Cond) ++ (wsX80 ++ ([] : List Cond)))
theorem good_v_X8_push_12 : v_X8_push_12.all goodWord = true := ga_c (by decide +kernel) (ga_a (by decide +kernel) (ga_a good_wsX80 rfl))
set_option maxHeartbeats 4000000 in
set_option maxRecDepth 100000 in
theorem k_X8_push_12 (l : Launch) (g : va_G) (cI cJ cB cZ cL : ClassId) (tp : Nat) (tl : Nat) (btp : Nat) (ft : Int32) (pl : Int32) (at_ : Int32) (sta : Int32) (kd : Int32) (nb : Int32) (np : Int32) (f0 : Nat → Int32) (p0 : Int32) (sz : Nat)  : Met l yX8_push v_X8_push_12 ({ frames := 0, cells := 0, slots := 0, locals := 0 }) (va_Pc [.ref tp, .int p0] (pRW g (tyT cI cJ cB cZ cL) [(tp, .inr (8, [.int 12, .ref tl, .int ft, .int pl, .ref btp, .int at_, .int sta, .int kd, .int nb, .int np])), (btp, .inl (cB, 1600, .inl f0))] sz)) (va_Qv (fun (u : Nat → Int32) => match u with | f1 => True) (fun (u : Nat → Int32) (t : State) => bRW g (tyT cI cJ cB cZ cL) (va_A [(tp, .inr (8, [.int 12, .ref tl, .int ft, .int pl, .ref btp, .int at_, .int sta, .int kd, .int nb, .int np])), (btp, .inl (cB, 1600, .inl f0))] sz) (match u with | f1 => [(tp, .inr (8, [.int 16, .ref tl, .int ft, .int pl, .ref btp, .int at_, .int sta, .int kd, .int nb, .int np])), (btp, .inl (cB, 1600, .inl f1))]) t) (va_A [(tp, .inr (8, [.int 12, .ref tl, .int ft, .int pl, .ref btp, .int at_, .int sta, .int kd, .int nb, .int np])), (btp, .inl (cB, 1600, .inl f0))] sz)) 0 0 (va_A [(tp, .inr (8, [.int 12, .ref tl, .int ft, .int pl, .ref btp, .int at_, .int sta, .int kd, .int nb, .int np])), (btp, .inl (cB, 1600, .inl f0))] sz) := by
  refine Met.ofW (cc := cX8_push) (maxL := 3) (ret := none) (by decide) rfl ?_
  intro p e s m args below meth c s₁ B hml hv
  obtain ⟨rfl, hsz, hP, hK, hD0⟩ := hv
  have hx := B.exec
  have hb := B.bytes
  have hr := B.returns
  have hts := atoms_spec (ws := v_X8_push_12) B.pre
  have hown : s.vm.findClass RX8 = some m.cls := findClass_of_methodNamed B.named
  have hlocks := B.notSynchronized
  subst hsz
  have iX8 : ∀ w ∈ wsX80, w ∈ v_X8_push_12 := (fun _ h => List.mem_cons_of_mem _ (List.mem_append_right _ (List.mem_append_left _ h)))
  have hD := hD0.self (sz := s.heap.size)
  generalize hAe : (va_A [(tp, .inr (8, [.int 12, .ref tl, .int ft, .int pl, .ref btp, .int at_, .int sta, .int kd, .int nb, .int np])), (btp, .inl (cB, 1600, .inl f0))] s.heap.size) = A at hD ⊢
  have hA : ∀ q : Nat, s.heap.size ≤ q → A q := fun q h => by rw [← hAe]; exact Or.inr h
  have hS : va_S A s.heap s.heap [] := va_S.rf
  have hl := lv_entry ([.ref tp, .int p0]) (n := 3) (Nat.le_of_ble_eq_true rfl)
  rw [lg_entry_eq]
  generalize (lg_sl ([.ref tp, .int p0]) ++ List.replicate (3 - (lg_sl ([.ref tp, .int p0])).length) Slot.unset).toArray = ls at hl ⊢
  have hl : lv_has ls 3 [(0, .ref tp), (1, .int p0)] := hl
  have hP : va_P g vwCl [(tp, .inr (8, [.int 12, .ref tl, .int ft, .int pl, .ref btp, .int at_, .int sta, .int kd, .int nb, .int np])), (btp, .inl (cB, 1600, .inl f0))] s.heap := hP
  refine lv_bipush (v := 24) hx hb dX8_push_0 (by decide) ?_
  refine lv_istore_n (lv' := [(2, .int 24), (0, .ref tp), (1, .int p0)]) hx hb dX8_push_2 rfl hl (by decide) rfl (fun ls hl => ?_)
  refine lv_iload_n hx hb dX8_push_3 rfl (lv_at hl 0 rfl) ?_
  refine lv_if_lt (tgt := 46) hx hb dX8_push_4 (by decide) (fun c1 => absurd c1 (by decide)) (fun _ => ?_)
  refine lv_aload_n hx hb dX8_push_7 rfl (lv_at hl 1 rfl) ?_
  refine va_get (D := g) (ci := 8) (v := .int 12) (C := RX8) (T := TX8) (N := 10) hx hb hts iX8 hown hK hP 0 rfl rfl 0 (by decide) (hts (.fieldLink RX8 9 "CardsAtYule$Tape" "length" "I") (List.mem_cons_of_mem _ (List.mem_append_left _ (List.mem_of_getElem? (i := 0) rfl)))) (fun _ h9 => h9) rfl dX8_push_8 ?_
  refine lv_sipush (v := 1600) hx hb dX8_push_11 (by decide) ?_
  refine lv_icmp_ge (tgt := 46) hx hb dX8_push_14 (by decide) (fun c2 => absurd c2 (by decide)) (fun _ => ?_)
  refine lv_aload_n hx hb dX8_push_17 rfl (lv_at hl 1 rfl) ?_
  refine va_get (D := g) (ci := 8) (v := .ref btp) (C := RX8) (T := TX8) (N := 10) hx hb hts iX8 hown hK hP 0 rfl rfl 4 (by decide) (hts (.fieldLink RX8 28 "CardsAtYule$Tape" "bytes" "[B") (List.mem_cons_of_mem _ (List.mem_append_left _ (List.mem_of_getElem? (i := 1) rfl)))) (fun _ h9 => h9) rfl dX8_push_18 ?_
  refine lv_aload_n hx hb dX8_push_21 rfl (lv_at hl 1 rfl) ?_
  refine va_get (D := g) (ci := 8) (v := .int 12) (C := RX8) (T := TX8) (N := 10) hx hb hts iX8 hown hK hP 0 rfl rfl 0 (by decide) (hts (.fieldLink RX8 9 "CardsAtYule$Tape" "length" "I") (List.mem_cons_of_mem _ (List.mem_append_left _ (List.mem_of_getElem? (i := 0) rfl)))) (fun _ h9 => h9) rfl dX8_push_22 ?_
  refine lv_iload_n hx hb dX8_push_25 rfl (lv_at hl 2 rfl) ?_
  refine lv_iload_n hx hb dX8_push_26 rfl (lv_at hl 0 rfl) ?_
  refine lv_ishr hx hb dX8_push_27 ?_
  refine lv_i2b (v := (p0 >>> (24 &&& (31 : Int32))).toInt8.toInt32) hx hb dX8_push_28 rfl ?_
  refine va_bast (D := g) hx hb hK hP hD hS 1 2 rfl rfl (vc_in (by decide)) dX8_push_29 (fun H locs hP hD hS => ?_)
  have hP : va_P g vwCl [(tp, .inr (8, [.int 12, .ref tl, .int ft, .int pl, .ref btp, .int at_, .int sta, .int kd, .int nb, .int np])), (btp, .inl (cB, 1600, .inl (upd f0 12 (vp_nar .byte ((p0 >>> (24 &&& (31 : Int32))).toInt8.toInt32)))))] H := hP
  have hD : va_D A [(tp, .inr (8, [.int 12, .ref tl, .int ft, .int pl, .ref btp, .int at_, .int sta, .int kd, .int nb, .int np])), (btp, .inl (cB, 1600, .inl (upd f0 12 (vp_nar .byte ((p0 >>> (24 &&& (31 : Int32))).toInt8.toInt32)))))] := hD
  refine lv_aload_n hx hb dX8_push_30 rfl (lv_at hl 1 rfl) ?_
  refine lv_dup hx hb dX8_push_31 rfl ?_
  refine va_get (D := g) (ci := 8) (v := .int 12) (C := RX8) (T := TX8) (N := 10) hx hb hts iX8 hown hK hP 0 rfl rfl 0 (by decide) (hts (.fieldLink RX8 9 "CardsAtYule$Tape" "length" "I") (List.mem_cons_of_mem _ (List.mem_append_left _ (List.mem_of_getElem? (i := 0) rfl)))) (fun _ h9 => h9) rfl dX8_push_32 ?_
  refine lv_iconst (v := 1) hx hb dX8_push_35 (by decide) ?_
  refine lv_iadd hx hb dX8_push_36 ?_
  refine lv_topi (nm_r (e' := 13) (by decide) ?_)
  refine va_put (D := g) (ci := 8) (v := .int 13) (ty := .int) (C := RX8) (T := TX8) (N := 10) hx hb hts iX8 tyX8 tyX8_ok nmX8 hown hK hP hD hS 0 rfl rfl 0 (by decide) (hts (.fieldLink RX8 9 "CardsAtYule$Tape" "length" "I") (List.mem_cons_of_mem _ (List.mem_append_left _ (List.mem_of_getElem? (i := 0) rfl)))) (fun _ h9 => h9) rfl (by decide +kernel) rfl rfl (Nat.le_of_ble_eq_true rfl) dX8_push_37 (fun H locs hP hD hS => ?_)
  have hP : va_P g vwCl [(tp, .inr (8, [.int 13, .ref tl, .int ft, .int pl, .ref btp, .int at_, .int sta, .int kd, .int nb, .int np])), (btp, .inl (cB, 1600, .inl (upd f0 12 (vp_nar .byte ((p0 >>> (24 &&& (31 : Int32))).toInt8.toInt32)))))] H := hP
  have hD : va_D A [(tp, .inr (8, [.int 13, .ref tl, .int ft, .int pl, .ref btp, .int at_, .int sta, .int kd, .int nb, .int np])), (btp, .inl (cB, 1600, .inl (upd f0 12 (vp_nar .byte ((p0 >>> (24 &&& (31 : Int32))).toInt8.toInt32)))))] := hD
  refine lv_iinc (v := 16) (lv' := [(2, .int 16), (0, .ref tp), (1, .int p0)]) hx hb dX8_push_40 hl (k := 0) rfl (by decide) (by decide) rfl (fun ls hl => ?_)
  refine lv_goto (tgt := 3) hx hb dX8_push_43 (by decide) ?_
  refine lv_iload_n hx hb dX8_push_3 rfl (lv_at hl 0 rfl) ?_
  refine lv_if_lt (tgt := 46) hx hb dX8_push_4 (by decide) (fun c3 => absurd c3 (by decide)) (fun _ => ?_)
  refine lv_aload_n hx hb dX8_push_7 rfl (lv_at hl 1 rfl) ?_
  refine va_get (D := g) (ci := 8) (v := .int 13) (C := RX8) (T := TX8) (N := 10) hx hb hts iX8 hown hK hP 0 rfl rfl 0 (by decide) (hts (.fieldLink RX8 9 "CardsAtYule$Tape" "length" "I") (List.mem_cons_of_mem _ (List.mem_append_left _ (List.mem_of_getElem? (i := 0) rfl)))) (fun _ h9 => h9) rfl dX8_push_8 ?_
  refine lv_sipush (v := 1600) hx hb dX8_push_11 (by decide) ?_
  refine lv_icmp_ge (tgt := 46) hx hb dX8_push_14 (by decide) (fun c4 => absurd c4 (by decide)) (fun _ => ?_)
  refine lv_aload_n hx hb dX8_push_17 rfl (lv_at hl 1 rfl) ?_
  refine va_get (D := g) (ci := 8) (v := .ref btp) (C := RX8) (T := TX8) (N := 10) hx hb hts iX8 hown hK hP 0 rfl rfl 4 (by decide) (hts (.fieldLink RX8 28 "CardsAtYule$Tape" "bytes" "[B") (List.mem_cons_of_mem _ (List.mem_append_left _ (List.mem_of_getElem? (i := 1) rfl)))) (fun _ h9 => h9) rfl dX8_push_18 ?_
  refine lv_aload_n hx hb dX8_push_21 rfl (lv_at hl 1 rfl) ?_
  refine va_get (D := g) (ci := 8) (v := .int 13) (C := RX8) (T := TX8) (N := 10) hx hb hts iX8 hown hK hP 0 rfl rfl 0 (by decide) (hts (.fieldLink RX8 9 "CardsAtYule$Tape" "length" "I") (List.mem_cons_of_mem _ (List.mem_append_left _ (List.mem_of_getElem? (i := 0) rfl)))) (fun _ h9 => h9) rfl dX8_push_22 ?_
  refine lv_iload_n hx hb dX8_push_25 rfl (lv_at hl 2 rfl) ?_
  refine lv_iload_n hx hb dX8_push_26 rfl (lv_at hl 0 rfl) ?_
  refine lv_ishr hx hb dX8_push_27 ?_
  refine lv_i2b (v := (p0 >>> (16 &&& (31 : Int32))).toInt8.toInt32) hx hb dX8_push_28 rfl ?_
  refine va_bast (D := g) hx hb hK hP hD hS 1 2 rfl rfl (vc_in (by decide)) dX8_push_29 (fun H locs hP hD hS => ?_)
  have hP : va_P g vwCl [(tp, .inr (8, [.int 13, .ref tl, .int ft, .int pl, .ref btp, .int at_, .int sta, .int kd, .int nb, .int np])), (btp, .inl (cB, 1600, .inl (upd (upd f0 12 (vp_nar .byte ((p0 >>> (24 &&& (31 : Int32))).toInt8.toInt32))) 13 (vp_nar .byte ((p0 >>> (16 &&& (31 : Int32))).toInt8.toInt32)))))] H := hP
  have hD : va_D A [(tp, .inr (8, [.int 13, .ref tl, .int ft, .int pl, .ref btp, .int at_, .int sta, .int kd, .int nb, .int np])), (btp, .inl (cB, 1600, .inl (upd (upd f0 12 (vp_nar .byte ((p0 >>> (24 &&& (31 : Int32))).toInt8.toInt32))) 13 (vp_nar .byte ((p0 >>> (16 &&& (31 : Int32))).toInt8.toInt32)))))] := hD
  refine lv_aload_n hx hb dX8_push_30 rfl (lv_at hl 1 rfl) ?_
  refine lv_dup hx hb dX8_push_31 rfl ?_
  refine va_get (D := g) (ci := 8) (v := .int 13) (C := RX8) (T := TX8) (N := 10) hx hb hts iX8 hown hK hP 0 rfl rfl 0 (by decide) (hts (.fieldLink RX8 9 "CardsAtYule$Tape" "length" "I") (List.mem_cons_of_mem _ (List.mem_append_left _ (List.mem_of_getElem? (i := 0) rfl)))) (fun _ h9 => h9) rfl dX8_push_32 ?_
  refine lv_iconst (v := 1) hx hb dX8_push_35 (by decide) ?_
  refine lv_iadd hx hb dX8_push_36 ?_
  refine lv_topi (nm_r (e' := 14) (by decide) ?_)
  refine va_put (D := g) (ci := 8) (v := .int 14) (ty := .int) (C := RX8) (T := TX8) (N := 10) hx hb hts iX8 tyX8 tyX8_ok nmX8 hown hK hP hD hS 0 rfl rfl 0 (by decide) (hts (.fieldLink RX8 9 "CardsAtYule$Tape" "length" "I") (List.mem_cons_of_mem _ (List.mem_append_left _ (List.mem_of_getElem? (i := 0) rfl)))) (fun _ h9 => h9) rfl (by decide +kernel) rfl rfl (Nat.le_of_ble_eq_true rfl) dX8_push_37 (fun H locs hP hD hS => ?_)
  have hP : va_P g vwCl [(tp, .inr (8, [.int 14, .ref tl, .int ft, .int pl, .ref btp, .int at_, .int sta, .int kd, .int nb, .int np])), (btp, .inl (cB, 1600, .inl (upd (upd f0 12 (vp_nar .byte ((p0 >>> (24 &&& (31 : Int32))).toInt8.toInt32))) 13 (vp_nar .byte ((p0 >>> (16 &&& (31 : Int32))).toInt8.toInt32)))))] H := hP
  have hD : va_D A [(tp, .inr (8, [.int 14, .ref tl, .int ft, .int pl, .ref btp, .int at_, .int sta, .int kd, .int nb, .int np])), (btp, .inl (cB, 1600, .inl (upd (upd f0 12 (vp_nar .byte ((p0 >>> (24 &&& (31 : Int32))).toInt8.toInt32))) 13 (vp_nar .byte ((p0 >>> (16 &&& (31 : Int32))).toInt8.toInt32)))))] := hD
  refine lv_iinc (v := 8) (lv' := [(2, .int 8), (0, .ref tp), (1, .int p0)]) hx hb dX8_push_40 hl (k := 0) rfl (by decide) (by decide) rfl (fun ls hl => ?_)
  refine lv_goto (tgt := 3) hx hb dX8_push_43 (by decide) ?_
  refine lv_iload_n hx hb dX8_push_3 rfl (lv_at hl 0 rfl) ?_
  refine lv_if_lt (tgt := 46) hx hb dX8_push_4 (by decide) (fun c5 => absurd c5 (by decide)) (fun _ => ?_)
  refine lv_aload_n hx hb dX8_push_7 rfl (lv_at hl 1 rfl) ?_
  refine va_get (D := g) (ci := 8) (v := .int 14) (C := RX8) (T := TX8) (N := 10) hx hb hts iX8 hown hK hP 0 rfl rfl 0 (by decide) (hts (.fieldLink RX8 9 "CardsAtYule$Tape" "length" "I") (List.mem_cons_of_mem _ (List.mem_append_left _ (List.mem_of_getElem? (i := 0) rfl)))) (fun _ h9 => h9) rfl dX8_push_8 ?_
  refine lv_sipush (v := 1600) hx hb dX8_push_11 (by decide) ?_
  refine lv_icmp_ge (tgt := 46) hx hb dX8_push_14 (by decide) (fun c6 => absurd c6 (by decide)) (fun _ => ?_)
  refine lv_aload_n hx hb dX8_push_17 rfl (lv_at hl 1 rfl) ?_
  refine va_get (D := g) (ci := 8) (v := .ref btp) (C := RX8) (T := TX8) (N := 10) hx hb hts iX8 hown hK hP 0 rfl rfl 4 (by decide) (hts (.fieldLink RX8 28 "CardsAtYule$Tape" "bytes" "[B") (List.mem_cons_of_mem _ (List.mem_append_left _ (List.mem_of_getElem? (i := 1) rfl)))) (fun _ h9 => h9) rfl dX8_push_18 ?_
  refine lv_aload_n hx hb dX8_push_21 rfl (lv_at hl 1 rfl) ?_
  refine va_get (D := g) (ci := 8) (v := .int 14) (C := RX8) (T := TX8) (N := 10) hx hb hts iX8 hown hK hP 0 rfl rfl 0 (by decide) (hts (.fieldLink RX8 9 "CardsAtYule$Tape" "length" "I") (List.mem_cons_of_mem _ (List.mem_append_left _ (List.mem_of_getElem? (i := 0) rfl)))) (fun _ h9 => h9) rfl dX8_push_22 ?_
  refine lv_iload_n hx hb dX8_push_25 rfl (lv_at hl 2 rfl) ?_
  refine lv_iload_n hx hb dX8_push_26 rfl (lv_at hl 0 rfl) ?_
  refine lv_ishr hx hb dX8_push_27 ?_
  refine lv_i2b (v := (p0 >>> (8 &&& (31 : Int32))).toInt8.toInt32) hx hb dX8_push_28 rfl ?_
  refine va_bast (D := g) hx hb hK hP hD hS 1 2 rfl rfl (vc_in (by decide)) dX8_push_29 (fun H locs hP hD hS => ?_)
  have hP : va_P g vwCl [(tp, .inr (8, [.int 14, .ref tl, .int ft, .int pl, .ref btp, .int at_, .int sta, .int kd, .int nb, .int np])), (btp, .inl (cB, 1600, .inl (upd (upd (upd f0 12 (vp_nar .byte ((p0 >>> (24 &&& (31 : Int32))).toInt8.toInt32))) 13 (vp_nar .byte ((p0 >>> (16 &&& (31 : Int32))).toInt8.toInt32))) 14 (vp_nar .byte ((p0 >>> (8 &&& (31 : Int32))).toInt8.toInt32)))))] H := hP
  have hD : va_D A [(tp, .inr (8, [.int 14, .ref tl, .int ft, .int pl, .ref btp, .int at_, .int sta, .int kd, .int nb, .int np])), (btp, .inl (cB, 1600, .inl (upd (upd (upd f0 12 (vp_nar .byte ((p0 >>> (24 &&& (31 : Int32))).toInt8.toInt32))) 13 (vp_nar .byte ((p0 >>> (16 &&& (31 : Int32))).toInt8.toInt32))) 14 (vp_nar .byte ((p0 >>> (8 &&& (31 : Int32))).toInt8.toInt32)))))] := hD
  refine lv_aload_n hx hb dX8_push_30 rfl (lv_at hl 1 rfl) ?_
  refine lv_dup hx hb dX8_push_31 rfl ?_
  refine va_get (D := g) (ci := 8) (v := .int 14) (C := RX8) (T := TX8) (N := 10) hx hb hts iX8 hown hK hP 0 rfl rfl 0 (by decide) (hts (.fieldLink RX8 9 "CardsAtYule$Tape" "length" "I") (List.mem_cons_of_mem _ (List.mem_append_left _ (List.mem_of_getElem? (i := 0) rfl)))) (fun _ h9 => h9) rfl dX8_push_32 ?_
  refine lv_iconst (v := 1) hx hb dX8_push_35 (by decide) ?_
  refine lv_iadd hx hb dX8_push_36 ?_
  refine lv_topi (nm_r (e' := 15) (by decide) ?_)
  refine va_put (D := g) (ci := 8) (v := .int 15) (ty := .int) (C := RX8) (T := TX8) (N := 10) hx hb hts iX8 tyX8 tyX8_ok nmX8 hown hK hP hD hS 0 rfl rfl 0 (by decide) (hts (.fieldLink RX8 9 "CardsAtYule$Tape" "length" "I") (List.mem_cons_of_mem _ (List.mem_append_left _ (List.mem_of_getElem? (i := 0) rfl)))) (fun _ h9 => h9) rfl (by decide +kernel) rfl rfl (Nat.le_of_ble_eq_true rfl) dX8_push_37 (fun H locs hP hD hS => ?_)
  have hP : va_P g vwCl [(tp, .inr (8, [.int 15, .ref tl, .int ft, .int pl, .ref btp, .int at_, .int sta, .int kd, .int nb, .int np])), (btp, .inl (cB, 1600, .inl (upd (upd (upd f0 12 (vp_nar .byte ((p0 >>> (24 &&& (31 : Int32))).toInt8.toInt32))) 13 (vp_nar .byte ((p0 >>> (16 &&& (31 : Int32))).toInt8.toInt32))) 14 (vp_nar .byte ((p0 >>> (8 &&& (31 : Int32))).toInt8.toInt32)))))] H := hP
  have hD : va_D A [(tp, .inr (8, [.int 15, .ref tl, .int ft, .int pl, .ref btp, .int at_, .int sta, .int kd, .int nb, .int np])), (btp, .inl (cB, 1600, .inl (upd (upd (upd f0 12 (vp_nar .byte ((p0 >>> (24 &&& (31 : Int32))).toInt8.toInt32))) 13 (vp_nar .byte ((p0 >>> (16 &&& (31 : Int32))).toInt8.toInt32))) 14 (vp_nar .byte ((p0 >>> (8 &&& (31 : Int32))).toInt8.toInt32)))))] := hD
  refine lv_iinc (v := 0) (lv' := [(2, .int 0), (0, .ref tp), (1, .int p0)]) hx hb dX8_push_40 hl (k := 0) rfl (by decide) (by decide) rfl (fun ls hl => ?_)
  refine lv_goto (tgt := 3) hx hb dX8_push_43 (by decide) ?_
  refine lv_iload_n hx hb dX8_push_3 rfl (lv_at hl 0 rfl) ?_
  refine lv_if_lt (tgt := 46) hx hb dX8_push_4 (by decide) (fun c7 => absurd c7 (by decide)) (fun _ => ?_)
  refine lv_aload_n hx hb dX8_push_7 rfl (lv_at hl 1 rfl) ?_
  refine va_get (D := g) (ci := 8) (v := .int 15) (C := RX8) (T := TX8) (N := 10) hx hb hts iX8 hown hK hP 0 rfl rfl 0 (by decide) (hts (.fieldLink RX8 9 "CardsAtYule$Tape" "length" "I") (List.mem_cons_of_mem _ (List.mem_append_left _ (List.mem_of_getElem? (i := 0) rfl)))) (fun _ h9 => h9) rfl dX8_push_8 ?_
  refine lv_sipush (v := 1600) hx hb dX8_push_11 (by decide) ?_
  refine lv_icmp_ge (tgt := 46) hx hb dX8_push_14 (by decide) (fun c8 => absurd c8 (by decide)) (fun _ => ?_)
  refine lv_aload_n hx hb dX8_push_17 rfl (lv_at hl 1 rfl) ?_
  refine va_get (D := g) (ci := 8) (v := .ref btp) (C := RX8) (T := TX8) (N := 10) hx hb hts iX8 hown hK hP 0 rfl rfl 4 (by decide) (hts (.fieldLink RX8 28 "CardsAtYule$Tape" "bytes" "[B") (List.mem_cons_of_mem _ (List.mem_append_left _ (List.mem_of_getElem? (i := 1) rfl)))) (fun _ h9 => h9) rfl dX8_push_18 ?_
  refine lv_aload_n hx hb dX8_push_21 rfl (lv_at hl 1 rfl) ?_
  refine va_get (D := g) (ci := 8) (v := .int 15) (C := RX8) (T := TX8) (N := 10) hx hb hts iX8 hown hK hP 0 rfl rfl 0 (by decide) (hts (.fieldLink RX8 9 "CardsAtYule$Tape" "length" "I") (List.mem_cons_of_mem _ (List.mem_append_left _ (List.mem_of_getElem? (i := 0) rfl)))) (fun _ h9 => h9) rfl dX8_push_22 ?_
  refine lv_iload_n hx hb dX8_push_25 rfl (lv_at hl 2 rfl) ?_
  refine lv_iload_n hx hb dX8_push_26 rfl (lv_at hl 0 rfl) ?_
  refine lv_ishr hx hb dX8_push_27 ?_
  refine lv_i2b (v := (p0 >>> (0 &&& (31 : Int32))).toInt8.toInt32) hx hb dX8_push_28 rfl ?_
  refine va_bast (D := g) hx hb hK hP hD hS 1 2 rfl rfl (vc_in (by decide)) dX8_push_29 (fun H locs hP hD hS => ?_)
  have hP : va_P g vwCl [(tp, .inr (8, [.int 15, .ref tl, .int ft, .int pl, .ref btp, .int at_, .int sta, .int kd, .int nb, .int np])), (btp, .inl (cB, 1600, .inl (upd (upd (upd (upd f0 12 (vp_nar .byte ((p0 >>> (24 &&& (31 : Int32))).toInt8.toInt32))) 13 (vp_nar .byte ((p0 >>> (16 &&& (31 : Int32))).toInt8.toInt32))) 14 (vp_nar .byte ((p0 >>> (8 &&& (31 : Int32))).toInt8.toInt32))) 15 (vp_nar .byte ((p0 >>> (0 &&& (31 : Int32))).toInt8.toInt32)))))] H := hP
  have hD : va_D A [(tp, .inr (8, [.int 15, .ref tl, .int ft, .int pl, .ref btp, .int at_, .int sta, .int kd, .int nb, .int np])), (btp, .inl (cB, 1600, .inl (upd (upd (upd (upd f0 12 (vp_nar .byte ((p0 >>> (24 &&& (31 : Int32))).toInt8.toInt32))) 13 (vp_nar .byte ((p0 >>> (16 &&& (31 : Int32))).toInt8.toInt32))) 14 (vp_nar .byte ((p0 >>> (8 &&& (31 : Int32))).toInt8.toInt32))) 15 (vp_nar .byte ((p0 >>> (0 &&& (31 : Int32))).toInt8.toInt32)))))] := hD
  refine lv_aload_n hx hb dX8_push_30 rfl (lv_at hl 1 rfl) ?_
  refine lv_dup hx hb dX8_push_31 rfl ?_
  refine va_get (D := g) (ci := 8) (v := .int 15) (C := RX8) (T := TX8) (N := 10) hx hb hts iX8 hown hK hP 0 rfl rfl 0 (by decide) (hts (.fieldLink RX8 9 "CardsAtYule$Tape" "length" "I") (List.mem_cons_of_mem _ (List.mem_append_left _ (List.mem_of_getElem? (i := 0) rfl)))) (fun _ h9 => h9) rfl dX8_push_32 ?_
  refine lv_iconst (v := 1) hx hb dX8_push_35 (by decide) ?_
  refine lv_iadd hx hb dX8_push_36 ?_
  refine lv_topi (nm_r (e' := 16) (by decide) ?_)
  refine va_put (D := g) (ci := 8) (v := .int 16) (ty := .int) (C := RX8) (T := TX8) (N := 10) hx hb hts iX8 tyX8 tyX8_ok nmX8 hown hK hP hD hS 0 rfl rfl 0 (by decide) (hts (.fieldLink RX8 9 "CardsAtYule$Tape" "length" "I") (List.mem_cons_of_mem _ (List.mem_append_left _ (List.mem_of_getElem? (i := 0) rfl)))) (fun _ h9 => h9) rfl (by decide +kernel) rfl rfl (Nat.le_of_ble_eq_true rfl) dX8_push_37 (fun H locs hP hD hS => ?_)
  have hP : va_P g vwCl [(tp, .inr (8, [.int 16, .ref tl, .int ft, .int pl, .ref btp, .int at_, .int sta, .int kd, .int nb, .int np])), (btp, .inl (cB, 1600, .inl (upd (upd (upd (upd f0 12 (vp_nar .byte ((p0 >>> (24 &&& (31 : Int32))).toInt8.toInt32))) 13 (vp_nar .byte ((p0 >>> (16 &&& (31 : Int32))).toInt8.toInt32))) 14 (vp_nar .byte ((p0 >>> (8 &&& (31 : Int32))).toInt8.toInt32))) 15 (vp_nar .byte ((p0 >>> (0 &&& (31 : Int32))).toInt8.toInt32)))))] H := hP
  have hD : va_D A [(tp, .inr (8, [.int 16, .ref tl, .int ft, .int pl, .ref btp, .int at_, .int sta, .int kd, .int nb, .int np])), (btp, .inl (cB, 1600, .inl (upd (upd (upd (upd f0 12 (vp_nar .byte ((p0 >>> (24 &&& (31 : Int32))).toInt8.toInt32))) 13 (vp_nar .byte ((p0 >>> (16 &&& (31 : Int32))).toInt8.toInt32))) 14 (vp_nar .byte ((p0 >>> (8 &&& (31 : Int32))).toInt8.toInt32))) 15 (vp_nar .byte ((p0 >>> (0 &&& (31 : Int32))).toInt8.toInt32)))))] := hD
  refine lv_iinc (v := (-8)) (lv' := [(2, .int (-8)), (0, .ref tp), (1, .int p0)]) hx hb dX8_push_40 hl (k := 0) rfl (by decide) (by decide) rfl (fun ls hl => ?_)
  refine lv_goto (tgt := 3) hx hb dX8_push_43 (by decide) ?_
  refine lv_iload_n hx hb dX8_push_3 rfl (lv_at hl 0 rfl) ?_
  refine lv_if_lt (tgt := 46) hx hb dX8_push_4 (by decide) (fun _ => ?_) (fun c9 => absurd c9 (by decide))
  have hP9 := hP.sub (ws' := [(tp, .inr (8, [.int 16, .ref tl, .int ft, .int pl, .ref btp, .int at_, .int sta, .int kd, .int nb, .int np])), (btp, .inl (cB, 1600, .inl (upd (upd (upd (upd f0 12 (vp_nar .byte ((p0 >>> (24 &&& (31 : Int32))).toInt8.toInt32))) 13 (vp_nar .byte ((p0 >>> (16 &&& (31 : Int32))).toInt8.toInt32))) 14 (vp_nar .byte ((p0 >>> (8 &&& (31 : Int32))).toInt8.toInt32))) 15 (vp_nar .byte ((p0 >>> (0 &&& (31 : Int32))).toInt8.toInt32)))))]) [0, 1] rfl
  have hD9 := hD.sub (ws' := [(tp, .inr (8, [.int 16, .ref tl, .int ft, .int pl, .ref btp, .int at_, .int sta, .int kd, .int nb, .int np])), (btp, .inl (cB, 1600, .inl (upd (upd (upd (upd f0 12 (vp_nar .byte ((p0 >>> (24 &&& (31 : Int32))).toInt8.toInt32))) 13 (vp_nar .byte ((p0 >>> (16 &&& (31 : Int32))).toInt8.toInt32))) 14 (vp_nar .byte ((p0 >>> (8 &&& (31 : Int32))).toInt8.toInt32))) 15 (vp_nar .byte ((p0 >>> (0 &&& (31 : Int32))).toInt8.toInt32)))))]) [0, 1] (by decide) rfl
  exact W.vret hx hb hr (fun t ht hW => ⟨⟨(upd (upd (upd (upd f0 12 (vp_nar .byte ((p0 >>> (24 &&& (31 : Int32))).toInt8.toInt32))) 13 (vp_nar .byte ((p0 >>> (16 &&& (31 : Int32))).toInt8.toInt32))) 14 (vp_nar .byte ((p0 >>> (8 &&& (31 : Int32))).toInt8.toInt32))) 15 (vp_nar .byte ((p0 >>> (0 &&& (31 : Int32))).toInt8.toInt32))), rfl, trivial, by rw [ht]; exact hP9, va_K.moved hW.alike hK, hD9⟩, hS.F ht⟩) hS.2.2 dX8_push_46
def v_X8_push_16 : List Cond := .code yX8_push cX8_push 3 none :: (([.fieldLink RX8 9 "CardsAtYule$Tape" "length" "I", .fieldLink RX8 28 "CardsAtYule$Tape" "bytes" "[B"] : List Cond) ++ (wsX80 ++ ([] : List Cond)))
theorem good_v_X8_push_16 : v_X8_push_16.all goodWord = true := ga_c (by decide +kernel) (ga_a (by decide +kernel) (ga_a good_wsX80 rfl))
set_option maxHeartbeats 4000000 in
set_option maxRecDepth 100000 in
theorem k_X8_push_16 (l : Launch) (g : va_G) (cI cJ cB cZ cL : ClassId) (tp : Nat) (tl : Nat) (btp : Nat) (ft : Int32) (pl : Int32) (at_ : Int32) (sta : Int32) (kd : Int32) (nb : Int32) (np : Int32) (f0 : Nat → Int32) (p0 : Int32) (sz : Nat)  : Met l yX8_push v_X8_push_16 ({ frames := 0, cells := 0, slots := 0, locals := 0 }) (va_Pc [.ref tp, .int p0] (pRW g (tyT cI cJ cB cZ cL) [(tp, .inr (8, [.int 16, .ref tl, .int ft, .int pl, .ref btp, .int at_, .int sta, .int kd, .int nb, .int np])), (btp, .inl (cB, 1600, .inl f0))] sz)) (va_Qv (fun (u : Nat → Int32) => match u with | f1 => True) (fun (u : Nat → Int32) (t : State) => bRW g (tyT cI cJ cB cZ cL) (va_A [(tp, .inr (8, [.int 16, .ref tl, .int ft, .int pl, .ref btp, .int at_, .int sta, .int kd, .int nb, .int np])), (btp, .inl (cB, 1600, .inl f0))] sz) (match u with | f1 => [(tp, .inr (8, [.int 20, .ref tl, .int ft, .int pl, .ref btp, .int at_, .int sta, .int kd, .int nb, .int np])), (btp, .inl (cB, 1600, .inl f1))]) t) (va_A [(tp, .inr (8, [.int 16, .ref tl, .int ft, .int pl, .ref btp, .int at_, .int sta, .int kd, .int nb, .int np])), (btp, .inl (cB, 1600, .inl f0))] sz)) 0 0 (va_A [(tp, .inr (8, [.int 16, .ref tl, .int ft, .int pl, .ref btp, .int at_, .int sta, .int kd, .int nb, .int np])), (btp, .inl (cB, 1600, .inl f0))] sz) := by
  refine Met.ofW (cc := cX8_push) (maxL := 3) (ret := none) (by decide) rfl ?_
  intro p e s m args below meth c s₁ B hml hv
  obtain ⟨rfl, hsz, hP, hK, hD0⟩ := hv
  have hx := B.exec
  have hb := B.bytes
  have hr := B.returns
  have hts := atoms_spec (ws := v_X8_push_16) B.pre
  have hown : s.vm.findClass RX8 = some m.cls := findClass_of_methodNamed B.named
  have hlocks := B.notSynchronized
  subst hsz
  have iX8 : ∀ w ∈ wsX80, w ∈ v_X8_push_16 := (fun _ h => List.mem_cons_of_mem _ (List.mem_append_right _ (List.mem_append_left _ h)))
  have hD := hD0.self (sz := s.heap.size)
  generalize hAe : (va_A [(tp, .inr (8, [.int 16, .ref tl, .int ft, .int pl, .ref btp, .int at_, .int sta, .int kd, .int nb, .int np])), (btp, .inl (cB, 1600, .inl f0))] s.heap.size) = A at hD ⊢
  have hA : ∀ q : Nat, s.heap.size ≤ q → A q := fun q h => by rw [← hAe]; exact Or.inr h
  have hS : va_S A s.heap s.heap [] := va_S.rf
  have hl := lv_entry ([.ref tp, .int p0]) (n := 3) (Nat.le_of_ble_eq_true rfl)
  rw [lg_entry_eq]
  generalize (lg_sl ([.ref tp, .int p0]) ++ List.replicate (3 - (lg_sl ([.ref tp, .int p0])).length) Slot.unset).toArray = ls at hl ⊢
  have hl : lv_has ls 3 [(0, .ref tp), (1, .int p0)] := hl
  have hP : va_P g vwCl [(tp, .inr (8, [.int 16, .ref tl, .int ft, .int pl, .ref btp, .int at_, .int sta, .int kd, .int nb, .int np])), (btp, .inl (cB, 1600, .inl f0))] s.heap := hP
  refine lv_bipush (v := 24) hx hb dX8_push_0 (by decide) ?_
  refine lv_istore_n (lv' := [(2, .int 24), (0, .ref tp), (1, .int p0)]) hx hb dX8_push_2 rfl hl (by decide) rfl (fun ls hl => ?_)
  refine lv_iload_n hx hb dX8_push_3 rfl (lv_at hl 0 rfl) ?_
  refine lv_if_lt (tgt := 46) hx hb dX8_push_4 (by decide) (fun c1 => absurd c1 (by decide)) (fun _ => ?_)
  refine lv_aload_n hx hb dX8_push_7 rfl (lv_at hl 1 rfl) ?_
  refine va_get (D := g) (ci := 8) (v := .int 16) (C := RX8) (T := TX8) (N := 10) hx hb hts iX8 hown hK hP 0 rfl rfl 0 (by decide) (hts (.fieldLink RX8 9 "CardsAtYule$Tape" "length" "I") (List.mem_cons_of_mem _ (List.mem_append_left _ (List.mem_of_getElem? (i := 0) rfl)))) (fun _ h9 => h9) rfl dX8_push_8 ?_
  refine lv_sipush (v := 1600) hx hb dX8_push_11 (by decide) ?_
  refine lv_icmp_ge (tgt := 46) hx hb dX8_push_14 (by decide) (fun c2 => absurd c2 (by decide)) (fun _ => ?_)
  refine lv_aload_n hx hb dX8_push_17 rfl (lv_at hl 1 rfl) ?_
  refine va_get (D := g) (ci := 8) (v := .ref btp) (C := RX8) (T := TX8) (N := 10) hx hb hts iX8 hown hK hP 0 rfl rfl 4 (by decide) (hts (.fieldLink RX8 28 "CardsAtYule$Tape" "bytes" "[B") (List.mem_cons_of_mem _ (List.mem_append_left _ (List.mem_of_getElem? (i := 1) rfl)))) (fun _ h9 => h9) rfl dX8_push_18 ?_
  refine lv_aload_n hx hb dX8_push_21 rfl (lv_at hl 1 rfl) ?_
  refine va_get (D := g) (ci := 8) (v := .int 16) (C := RX8) (T := TX8) (N := 10) hx hb hts iX8 hown hK hP 0 rfl rfl 0 (by decide) (hts (.fieldLink RX8 9 "CardsAtYule$Tape" "length" "I") (List.mem_cons_of_mem _ (List.mem_append_left _ (List.mem_of_getElem? (i := 0) rfl)))) (fun _ h9 => h9) rfl dX8_push_22 ?_
  refine lv_iload_n hx hb dX8_push_25 rfl (lv_at hl 2 rfl) ?_
  refine lv_iload_n hx hb dX8_push_26 rfl (lv_at hl 0 rfl) ?_
  refine lv_ishr hx hb dX8_push_27 ?_
  refine lv_i2b (v := (p0 >>> (24 &&& (31 : Int32))).toInt8.toInt32) hx hb dX8_push_28 rfl ?_
  refine va_bast (D := g) hx hb hK hP hD hS 1 2 rfl rfl (vc_in (by decide)) dX8_push_29 (fun H locs hP hD hS => ?_)
  have hP : va_P g vwCl [(tp, .inr (8, [.int 16, .ref tl, .int ft, .int pl, .ref btp, .int at_, .int sta, .int kd, .int nb, .int np])), (btp, .inl (cB, 1600, .inl (upd f0 16 (vp_nar .byte ((p0 >>> (24 &&& (31 : Int32))).toInt8.toInt32)))))] H := hP
  have hD : va_D A [(tp, .inr (8, [.int 16, .ref tl, .int ft, .int pl, .ref btp, .int at_, .int sta, .int kd, .int nb, .int np])), (btp, .inl (cB, 1600, .inl (upd f0 16 (vp_nar .byte ((p0 >>> (24 &&& (31 : Int32))).toInt8.toInt32)))))] := hD
  refine lv_aload_n hx hb dX8_push_30 rfl (lv_at hl 1 rfl) ?_
  refine lv_dup hx hb dX8_push_31 rfl ?_
  refine va_get (D := g) (ci := 8) (v := .int 16) (C := RX8) (T := TX8) (N := 10) hx hb hts iX8 hown hK hP 0 rfl rfl 0 (by decide) (hts (.fieldLink RX8 9 "CardsAtYule$Tape" "length" "I") (List.mem_cons_of_mem _ (List.mem_append_left _ (List.mem_of_getElem? (i := 0) rfl)))) (fun _ h9 => h9) rfl dX8_push_32 ?_
  refine lv_iconst (v := 1) hx hb dX8_push_35 (by decide) ?_
  refine lv_iadd hx hb dX8_push_36 ?_
  refine lv_topi (nm_r (e' := 17) (by decide) ?_)
  refine va_put (D := g) (ci := 8) (v := .int 17) (ty := .int) (C := RX8) (T := TX8) (N := 10) hx hb hts iX8 tyX8 tyX8_ok nmX8 hown hK hP hD hS 0 rfl rfl 0 (by decide) (hts (.fieldLink RX8 9 "CardsAtYule$Tape" "length" "I") (List.mem_cons_of_mem _ (List.mem_append_left _ (List.mem_of_getElem? (i := 0) rfl)))) (fun _ h9 => h9) rfl (by decide +kernel) rfl rfl (Nat.le_of_ble_eq_true rfl) dX8_push_37 (fun H locs hP hD hS => ?_)
  have hP : va_P g vwCl [(tp, .inr (8, [.int 17, .ref tl, .int ft, .int pl, .ref btp, .int at_, .int sta, .int kd, .int nb, .int np])), (btp, .inl (cB, 1600, .inl (upd f0 16 (vp_nar .byte ((p0 >>> (24 &&& (31 : Int32))).toInt8.toInt32)))))] H := hP
  have hD : va_D A [(tp, .inr (8, [.int 17, .ref tl, .int ft, .int pl, .ref btp, .int at_, .int sta, .int kd, .int nb, .int np])), (btp, .inl (cB, 1600, .inl (upd f0 16 (vp_nar .byte ((p0 >>> (24 &&& (31 : Int32))).toInt8.toInt32)))))] := hD
  refine lv_iinc (v := 16) (lv' := [(2, .int 16), (0, .ref tp), (1, .int p0)]) hx hb dX8_push_40 hl (k := 0) rfl (by decide) (by decide) rfl (fun ls hl => ?_)
  refine lv_goto (tgt := 3) hx hb dX8_push_43 (by decide) ?_
  refine lv_iload_n hx hb dX8_push_3 rfl (lv_at hl 0 rfl) ?_
  refine lv_if_lt (tgt := 46) hx hb dX8_push_4 (by decide) (fun c3 => absurd c3 (by decide)) (fun _ => ?_)
  refine lv_aload_n hx hb dX8_push_7 rfl (lv_at hl 1 rfl) ?_
  refine va_get (D := g) (ci := 8) (v := .int 17) (C := RX8) (T := TX8) (N := 10) hx hb hts iX8 hown hK hP 0 rfl rfl 0 (by decide) (hts (.fieldLink RX8 9 "CardsAtYule$Tape" "length" "I") (List.mem_cons_of_mem _ (List.mem_append_left _ (List.mem_of_getElem? (i := 0) rfl)))) (fun _ h9 => h9) rfl dX8_push_8 ?_
  refine lv_sipush (v := 1600) hx hb dX8_push_11 (by decide) ?_
  refine lv_icmp_ge (tgt := 46) hx hb dX8_push_14 (by decide) (fun c4 => absurd c4 (by decide)) (fun _ => ?_)
  refine lv_aload_n hx hb dX8_push_17 rfl (lv_at hl 1 rfl) ?_
  refine va_get (D := g) (ci := 8) (v := .ref btp) (C := RX8) (T := TX8) (N := 10) hx hb hts iX8 hown hK hP 0 rfl rfl 4 (by decide) (hts (.fieldLink RX8 28 "CardsAtYule$Tape" "bytes" "[B") (List.mem_cons_of_mem _ (List.mem_append_left _ (List.mem_of_getElem? (i := 1) rfl)))) (fun _ h9 => h9) rfl dX8_push_18 ?_
  refine lv_aload_n hx hb dX8_push_21 rfl (lv_at hl 1 rfl) ?_
  refine va_get (D := g) (ci := 8) (v := .int 17) (C := RX8) (T := TX8) (N := 10) hx hb hts iX8 hown hK hP 0 rfl rfl 0 (by decide) (hts (.fieldLink RX8 9 "CardsAtYule$Tape" "length" "I") (List.mem_cons_of_mem _ (List.mem_append_left _ (List.mem_of_getElem? (i := 0) rfl)))) (fun _ h9 => h9) rfl dX8_push_22 ?_
  refine lv_iload_n hx hb dX8_push_25 rfl (lv_at hl 2 rfl) ?_
  refine lv_iload_n hx hb dX8_push_26 rfl (lv_at hl 0 rfl) ?_
  refine lv_ishr hx hb dX8_push_27 ?_
  refine lv_i2b (v := (p0 >>> (16 &&& (31 : Int32))).toInt8.toInt32) hx hb dX8_push_28 rfl ?_
  refine va_bast (D := g) hx hb hK hP hD hS 1 2 rfl rfl (vc_in (by decide)) dX8_push_29 (fun H locs hP hD hS => ?_)
  have hP : va_P g vwCl [(tp, .inr (8, [.int 17, .ref tl, .int ft, .int pl, .ref btp, .int at_, .int sta, .int kd, .int nb, .int np])), (btp, .inl (cB, 1600, .inl (upd (upd f0 16 (vp_nar .byte ((p0 >>> (24 &&& (31 : Int32))).toInt8.toInt32))) 17 (vp_nar .byte ((p0 >>> (16 &&& (31 : Int32))).toInt8.toInt32)))))] H := hP
  have hD : va_D A [(tp, .inr (8, [.int 17, .ref tl, .int ft, .int pl, .ref btp, .int at_, .int sta, .int kd, .int nb, .int np])), (btp, .inl (cB, 1600, .inl (upd (upd f0 16 (vp_nar .byte ((p0 >>> (24 &&& (31 : Int32))).toInt8.toInt32))) 17 (vp_nar .byte ((p0 >>> (16 &&& (31 : Int32))).toInt8.toInt32)))))] := hD
  refine lv_aload_n hx hb dX8_push_30 rfl (lv_at hl 1 rfl) ?_
  refine lv_dup hx hb dX8_push_31 rfl ?_
  refine va_get (D := g) (ci := 8) (v := .int 17) (C := RX8) (T := TX8) (N := 10) hx hb hts iX8 hown hK hP 0 rfl rfl 0 (by decide) (hts (.fieldLink RX8 9 "CardsAtYule$Tape" "length" "I") (List.mem_cons_of_mem _ (List.mem_append_left _ (List.mem_of_getElem? (i := 0) rfl)))) (fun _ h9 => h9) rfl dX8_push_32 ?_
  refine lv_iconst (v := 1) hx hb dX8_push_35 (by decide) ?_
  refine lv_iadd hx hb dX8_push_36 ?_
  refine lv_topi (nm_r (e' := 18) (by decide) ?_)
  refine va_put (D := g) (ci := 8) (v := .int 18) (ty := .int) (C := RX8) (T := TX8) (N := 10) hx hb hts iX8 tyX8 tyX8_ok nmX8 hown hK hP hD hS 0 rfl rfl 0 (by decide) (hts (.fieldLink RX8 9 "CardsAtYule$Tape" "length" "I") (List.mem_cons_of_mem _ (List.mem_append_left _ (List.mem_of_getElem? (i := 0) rfl)))) (fun _ h9 => h9) rfl (by decide +kernel) rfl rfl (Nat.le_of_ble_eq_true rfl) dX8_push_37 (fun H locs hP hD hS => ?_)
  have hP : va_P g vwCl [(tp, .inr (8, [.int 18, .ref tl, .int ft, .int pl, .ref btp, .int at_, .int sta, .int kd, .int nb, .int np])), (btp, .inl (cB, 1600, .inl (upd (upd f0 16 (vp_nar .byte ((p0 >>> (24 &&& (31 : Int32))).toInt8.toInt32))) 17 (vp_nar .byte ((p0 >>> (16 &&& (31 : Int32))).toInt8.toInt32)))))] H := hP
  have hD : va_D A [(tp, .inr (8, [.int 18, .ref tl, .int ft, .int pl, .ref btp, .int at_, .int sta, .int kd, .int nb, .int np])), (btp, .inl (cB, 1600, .inl (upd (upd f0 16 (vp_nar .byte ((p0 >>> (24 &&& (31 : Int32))).toInt8.toInt32))) 17 (vp_nar .byte ((p0 >>> (16 &&& (31 : Int32))).toInt8.toInt32)))))] := hD
  refine lv_iinc (v := 8) (lv' := [(2, .int 8), (0, .ref tp), (1, .int p0)]) hx hb dX8_push_40 hl (k := 0) rfl (by decide) (by decide) rfl (fun ls hl => ?_)
  refine lv_goto (tgt := 3) hx hb dX8_push_43 (by decide) ?_
  refine lv_iload_n hx hb dX8_push_3 rfl (lv_at hl 0 rfl) ?_
  refine lv_if_lt (tgt := 46) hx hb dX8_push_4 (by decide) (fun c5 => absurd c5 (by decide)) (fun _ => ?_)
  refine lv_aload_n hx hb dX8_push_7 rfl (lv_at hl 1 rfl) ?_
  refine va_get (D := g) (ci := 8) (v := .int 18) (C := RX8) (T := TX8) (N := 10) hx hb hts iX8 hown hK hP 0 rfl rfl 0 (by decide) (hts (.fieldLink RX8 9 "CardsAtYule$Tape" "length" "I") (List.mem_cons_of_mem _ (List.mem_append_left _ (List.mem_of_getElem? (i := 0) rfl)))) (fun _ h9 => h9) rfl dX8_push_8 ?_
  refine lv_sipush (v := 1600) hx hb dX8_push_11 (by decide) ?_
  refine lv_icmp_ge (tgt := 46) hx hb dX8_push_14 (by decide) (fun c6 => absurd c6 (by decide)) (fun _ => ?_)
  refine lv_aload_n hx hb dX8_push_17 rfl (lv_at hl 1 rfl) ?_
  refine va_get (D := g) (ci := 8) (v := .ref btp) (C := RX8) (T := TX8) (N := 10) hx hb hts iX8 hown hK hP 0 rfl rfl 4 (by decide) (hts (.fieldLink RX8 28 "CardsAtYule$Tape" "bytes" "[B") (List.mem_cons_of_mem _ (List.mem_append_left _ (List.mem_of_getElem? (i := 1) rfl)))) (fun _ h9 => h9) rfl dX8_push_18 ?_
  refine lv_aload_n hx hb dX8_push_21 rfl (lv_at hl 1 rfl) ?_
  refine va_get (D := g) (ci := 8) (v := .int 18) (C := RX8) (T := TX8) (N := 10) hx hb hts iX8 hown hK hP 0 rfl rfl 0 (by decide) (hts (.fieldLink RX8 9 "CardsAtYule$Tape" "length" "I") (List.mem_cons_of_mem _ (List.mem_append_left _ (List.mem_of_getElem? (i := 0) rfl)))) (fun _ h9 => h9) rfl dX8_push_22 ?_
  refine lv_iload_n hx hb dX8_push_25 rfl (lv_at hl 2 rfl) ?_
  refine lv_iload_n hx hb dX8_push_26 rfl (lv_at hl 0 rfl) ?_
  refine lv_ishr hx hb dX8_push_27 ?_
  refine lv_i2b (v := (p0 >>> (8 &&& (31 : Int32))).toInt8.toInt32) hx hb dX8_push_28 rfl ?_
  refine va_bast (D := g) hx hb hK hP hD hS 1 2 rfl rfl (vc_in (by decide)) dX8_push_29 (fun H locs hP hD hS => ?_)
  have hP : va_P g vwCl [(tp, .inr (8, [.int 18, .ref tl, .int ft, .int pl, .ref btp, .int at_, .int sta, .int kd, .int nb, .int np])), (btp, .inl (cB, 1600, .inl (upd (upd (upd f0 16 (vp_nar .byte ((p0 >>> (24 &&& (31 : Int32))).toInt8.toInt32))) 17 (vp_nar .byte ((p0 >>> (16 &&& (31 : Int32))).toInt8.toInt32))) 18 (vp_nar .byte ((p0 >>> (8 &&& (31 : Int32))).toInt8.toInt32)))))] H := hP
  have hD : va_D A [(tp, .inr (8, [.int 18, .ref tl, .int ft, .int pl, .ref btp, .int at_, .int sta, .int kd, .int nb, .int np])), (btp, .inl (cB, 1600, .inl (upd (upd (upd f0 16 (vp_nar .byte ((p0 >>> (24 &&& (31 : Int32))).toInt8.toInt32))) 17 (vp_nar .byte ((p0 >>> (16 &&& (31 : Int32))).toInt8.toInt32))) 18 (vp_nar .byte ((p0 >>> (8 &&& (31 : Int32))).toInt8.toInt32)))))] := hD
  refine lv_aload_n hx hb dX8_push_30 rfl (lv_at hl 1 rfl) ?_
  refine lv_dup hx hb dX8_push_31 rfl ?_
  refine va_get (D := g) (ci := 8) (v := .int 18) (C := RX8) (T := TX8) (N := 10) hx hb hts iX8 hown hK hP 0 rfl rfl 0 (by decide) (hts (.fieldLink RX8 9 "CardsAtYule$Tape" "length" "I") (List.mem_cons_of_mem _ (List.mem_append_left _ (List.mem_of_getElem? (i := 0) rfl)))) (fun _ h9 => h9) rfl dX8_push_32 ?_
  refine lv_iconst (v := 1) hx hb dX8_push_35 (by decide) ?_
  refine lv_iadd hx hb dX8_push_36 ?_
  refine lv_topi (nm_r (e' := 19) (by decide) ?_)
  refine va_put (D := g) (ci := 8) (v := .int 19) (ty := .int) (C := RX8) (T := TX8) (N := 10) hx hb hts iX8 tyX8 tyX8_ok nmX8 hown hK hP hD hS 0 rfl rfl 0 (by decide) (hts (.fieldLink RX8 9 "CardsAtYule$Tape" "length" "I") (List.mem_cons_of_mem _ (List.mem_append_left _ (List.mem_of_getElem? (i := 0) rfl)))) (fun _ h9 => h9) rfl (by decide +kernel) rfl rfl (Nat.le_of_ble_eq_true rfl) dX8_push_37 (fun H locs hP hD hS => ?_)
  have hP : va_P g vwCl [(tp, .inr (8, [.int 19, .ref tl, .int ft, .int pl, .ref btp, .int at_, .int sta, .int kd, .int nb, .int np])), (btp, .inl (cB, 1600, .inl (upd (upd (upd f0 16 (vp_nar .byte ((p0 >>> (24 &&& (31 : Int32))).toInt8.toInt32))) 17 (vp_nar .byte ((p0 >>> (16 &&& (31 : Int32))).toInt8.toInt32))) 18 (vp_nar .byte ((p0 >>> (8 &&& (31 : Int32))).toInt8.toInt32)))))] H := hP
  have hD : va_D A [(tp, .inr (8, [.int 19, .ref tl, .int ft, .int pl, .ref btp, .int at_, .int sta, .int kd, .int nb, .int np])), (btp, .inl (cB, 1600, .inl (upd (upd (upd f0 16 (vp_nar .byte ((p0 >>> (24 &&& (31 : Int32))).toInt8.toInt32))) 17 (vp_nar .byte ((p0 >>> (16 &&& (31 : Int32))).toInt8.toInt32))) 18 (vp_nar .byte ((p0 >>> (8 &&& (31 : Int32))).toInt8.toInt32)))))] := hD
  refine lv_iinc (v := 0) (lv' := [(2, .int 0), (0, .ref tp), (1, .int p0)]) hx hb dX8_push_40 hl (k := 0) rfl (by decide) (by decide) rfl (fun ls hl => ?_)
  refine lv_goto (tgt := 3) hx hb dX8_push_43 (by decide) ?_
  refine lv_iload_n hx hb dX8_push_3 rfl (lv_at hl 0 rfl) ?_
  refine lv_if_lt (tgt := 46) hx hb dX8_push_4 (by decide) (fun c7 => absurd c7 (by decide)) (fun _ => ?_)
  refine lv_aload_n hx hb dX8_push_7 rfl (lv_at hl 1 rfl) ?_
  refine va_get (D := g) (ci := 8) (v := .int 19) (C := RX8) (T := TX8) (N := 10) hx hb hts iX8 hown hK hP 0 rfl rfl 0 (by decide) (hts (.fieldLink RX8 9 "CardsAtYule$Tape" "length" "I") (List.mem_cons_of_mem _ (List.mem_append_left _ (List.mem_of_getElem? (i := 0) rfl)))) (fun _ h9 => h9) rfl dX8_push_8 ?_
  refine lv_sipush (v := 1600) hx hb dX8_push_11 (by decide) ?_
  refine lv_icmp_ge (tgt := 46) hx hb dX8_push_14 (by decide) (fun c8 => absurd c8 (by decide)) (fun _ => ?_)
  refine lv_aload_n hx hb dX8_push_17 rfl (lv_at hl 1 rfl) ?_
  refine va_get (D := g) (ci := 8) (v := .ref btp) (C := RX8) (T := TX8) (N := 10) hx hb hts iX8 hown hK hP 0 rfl rfl 4 (by decide) (hts (.fieldLink RX8 28 "CardsAtYule$Tape" "bytes" "[B") (List.mem_cons_of_mem _ (List.mem_append_left _ (List.mem_of_getElem? (i := 1) rfl)))) (fun _ h9 => h9) rfl dX8_push_18 ?_
  refine lv_aload_n hx hb dX8_push_21 rfl (lv_at hl 1 rfl) ?_
  refine va_get (D := g) (ci := 8) (v := .int 19) (C := RX8) (T := TX8) (N := 10) hx hb hts iX8 hown hK hP 0 rfl rfl 0 (by decide) (hts (.fieldLink RX8 9 "CardsAtYule$Tape" "length" "I") (List.mem_cons_of_mem _ (List.mem_append_left _ (List.mem_of_getElem? (i := 0) rfl)))) (fun _ h9 => h9) rfl dX8_push_22 ?_
  refine lv_iload_n hx hb dX8_push_25 rfl (lv_at hl 2 rfl) ?_
  refine lv_iload_n hx hb dX8_push_26 rfl (lv_at hl 0 rfl) ?_
  refine lv_ishr hx hb dX8_push_27 ?_
  refine lv_i2b (v := (p0 >>> (0 &&& (31 : Int32))).toInt8.toInt32) hx hb dX8_push_28 rfl ?_
  refine va_bast (D := g) hx hb hK hP hD hS 1 2 rfl rfl (vc_in (by decide)) dX8_push_29 (fun H locs hP hD hS => ?_)
  have hP : va_P g vwCl [(tp, .inr (8, [.int 19, .ref tl, .int ft, .int pl, .ref btp, .int at_, .int sta, .int kd, .int nb, .int np])), (btp, .inl (cB, 1600, .inl (upd (upd (upd (upd f0 16 (vp_nar .byte ((p0 >>> (24 &&& (31 : Int32))).toInt8.toInt32))) 17 (vp_nar .byte ((p0 >>> (16 &&& (31 : Int32))).toInt8.toInt32))) 18 (vp_nar .byte ((p0 >>> (8 &&& (31 : Int32))).toInt8.toInt32))) 19 (vp_nar .byte ((p0 >>> (0 &&& (31 : Int32))).toInt8.toInt32)))))] H := hP
  have hD : va_D A [(tp, .inr (8, [.int 19, .ref tl, .int ft, .int pl, .ref btp, .int at_, .int sta, .int kd, .int nb, .int np])), (btp, .inl (cB, 1600, .inl (upd (upd (upd (upd f0 16 (vp_nar .byte ((p0 >>> (24 &&& (31 : Int32))).toInt8.toInt32))) 17 (vp_nar .byte ((p0 >>> (16 &&& (31 : Int32))).toInt8.toInt32))) 18 (vp_nar .byte ((p0 >>> (8 &&& (31 : Int32))).toInt8.toInt32))) 19 (vp_nar .byte ((p0 >>> (0 &&& (31 : Int32))).toInt8.toInt32)))))] := hD
  refine lv_aload_n hx hb dX8_push_30 rfl (lv_at hl 1 rfl) ?_
  refine lv_dup hx hb dX8_push_31 rfl ?_
  refine va_get (D := g) (ci := 8) (v := .int 19) (C := RX8) (T := TX8) (N := 10) hx hb hts iX8 hown hK hP 0 rfl rfl 0 (by decide) (hts (.fieldLink RX8 9 "CardsAtYule$Tape" "length" "I") (List.mem_cons_of_mem _ (List.mem_append_left _ (List.mem_of_getElem? (i := 0) rfl)))) (fun _ h9 => h9) rfl dX8_push_32 ?_
  refine lv_iconst (v := 1) hx hb dX8_push_35 (by decide) ?_
  refine lv_iadd hx hb dX8_push_36 ?_
  refine lv_topi (nm_r (e' := 20) (by decide) ?_)
  refine va_put (D := g) (ci := 8) (v := .int 20) (ty := .int) (C := RX8) (T := TX8) (N := 10) hx hb hts iX8 tyX8 tyX8_ok nmX8 hown hK hP hD hS 0 rfl rfl 0 (by decide) (hts (.fieldLink RX8 9 "CardsAtYule$Tape" "length" "I") (List.mem_cons_of_mem _ (List.mem_append_left _ (List.mem_of_getElem? (i := 0) rfl)))) (fun _ h9 => h9) rfl (by decide +kernel) rfl rfl (Nat.le_of_ble_eq_true rfl) dX8_push_37 (fun H locs hP hD hS => ?_)
  have hP : va_P g vwCl [(tp, .inr (8, [.int 20, .ref tl, .int ft, .int pl, .ref btp, .int at_, .int sta, .int kd, .int nb, .int np])), (btp, .inl (cB, 1600, .inl (upd (upd (upd (upd f0 16 (vp_nar .byte ((p0 >>> (24 &&& (31 : Int32))).toInt8.toInt32))) 17 (vp_nar .byte ((p0 >>> (16 &&& (31 : Int32))).toInt8.toInt32))) 18 (vp_nar .byte ((p0 >>> (8 &&& (31 : Int32))).toInt8.toInt32))) 19 (vp_nar .byte ((p0 >>> (0 &&& (31 : Int32))).toInt8.toInt32)))))] H := hP
  have hD : va_D A [(tp, .inr (8, [.int 20, .ref tl, .int ft, .int pl, .ref btp, .int at_, .int sta, .int kd, .int nb, .int np])), (btp, .inl (cB, 1600, .inl (upd (upd (upd (upd f0 16 (vp_nar .byte ((p0 >>> (24 &&& (31 : Int32))).toInt8.toInt32))) 17 (vp_nar .byte ((p0 >>> (16 &&& (31 : Int32))).toInt8.toInt32))) 18 (vp_nar .byte ((p0 >>> (8 &&& (31 : Int32))).toInt8.toInt32))) 19 (vp_nar .byte ((p0 >>> (0 &&& (31 : Int32))).toInt8.toInt32)))))] := hD
  refine lv_iinc (v := (-8)) (lv' := [(2, .int (-8)), (0, .ref tp), (1, .int p0)]) hx hb dX8_push_40 hl (k := 0) rfl (by decide) (by decide) rfl (fun ls hl => ?_)
  refine lv_goto (tgt := 3) hx hb dX8_push_43 (by decide) ?_
  refine lv_iload_n hx hb dX8_push_3 rfl (lv_at hl 0 rfl) ?_
  refine lv_if_lt (tgt := 46) hx hb dX8_push_4 (by decide) (fun _ => ?_) (fun c9 => absurd c9 (by decide))
  have hP9 := hP.sub (ws' := [(tp, .inr (8, [.int 20, .ref tl, .int ft, .int pl, .ref btp, .int at_, .int sta, .int kd, .int nb, .int np])), (btp, .inl (cB, 1600, .inl (upd (upd (upd (upd f0 16 (vp_nar .byte ((p0 >>> (24 &&& (31 : Int32))).toInt8.toInt32))) 17 (vp_nar .byte ((p0 >>> (16 &&& (31 : Int32))).toInt8.toInt32))) 18 (vp_nar .byte ((p0 >>> (8 &&& (31 : Int32))).toInt8.toInt32))) 19 (vp_nar .byte ((p0 >>> (0 &&& (31 : Int32))).toInt8.toInt32)))))]) [0, 1] rfl
  have hD9 := hD.sub (ws' := [(tp, .inr (8, [.int 20, .ref tl, .int ft, .int pl, .ref btp, .int at_, .int sta, .int kd, .int nb, .int np])), (btp, .inl (cB, 1600, .inl (upd (upd (upd (upd f0 16 (vp_nar .byte ((p0 >>> (24 &&& (31 : Int32))).toInt8.toInt32))) 17 (vp_nar .byte ((p0 >>> (16 &&& (31 : Int32))).toInt8.toInt32))) 18 (vp_nar .byte ((p0 >>> (8 &&& (31 : Int32))).toInt8.toInt32))) 19 (vp_nar .byte ((p0 >>> (0 &&& (31 : Int32))).toInt8.toInt32)))))]) [0, 1] (by decide) rfl
  exact W.vret hx hb hr (fun t ht hW => ⟨⟨(upd (upd (upd (upd f0 16 (vp_nar .byte ((p0 >>> (24 &&& (31 : Int32))).toInt8.toInt32))) 17 (vp_nar .byte ((p0 >>> (16 &&& (31 : Int32))).toInt8.toInt32))) 18 (vp_nar .byte ((p0 >>> (8 &&& (31 : Int32))).toInt8.toInt32))) 19 (vp_nar .byte ((p0 >>> (0 &&& (31 : Int32))).toInt8.toInt32))), rfl, trivial, by rw [ht]; exact hP9, va_K.moved hW.alike hK, hD9⟩, hS.F ht⟩) hS.2.2 dX8_push_46
def v_X11_feed : List Cond := .code yX11_feed cX11_feed 6 (some .int) :: (([.fieldLink RX11 10 "CardsAtYule" "tape" "LCardsAtYule$Tape;", .fieldLink RX11 83 "CardsAtYule$Tape" "length" "I", .methodLink RX11 87 yX8_push, .instanceMethod yX8_push, .selects RX8 yX8_push yX8_push, .initialized RX8] : List Cond) ++ (v_X8_push_0 ++ (v_X8_push_4 ++ (v_X8_push_8 ++ (v_X8_push_12 ++ (v_X8_push_16 ++ (wsX110 ++ (wsX80 ++ ([] : List Cond)))))))))
theorem good_v_X11_feed : v_X11_feed.all goodWord = true := ga_c (by decide +kernel) (ga_a (by decide +kernel) (ga_a good_v_X8_push_0 (ga_a good_v_X8_push_4 (ga_a good_v_X8_push_8 (ga_a good_v_X8_push_12 (ga_a good_v_X8_push_16 (ga_a good_wsX110 (ga_a good_wsX80 rfl))))))))
set_option maxHeartbeats 4000000 in
set_option maxRecDepth 100000 in
theorem k_X11_feed (l : Launch) (g : va_G) (cI cJ cB cZ cL : ClassId) (x : Nat) (tp : Nat) (ld : Nat) (im : Nat) (bk : Nat) (co : Nat) (fa : Nat) (ch : Nat) (wi : Nat) (sl : Nat) (se : Nat) (dr : Nat) (tl : Nat) (btp : Nat) (p0 : Int32) (p1 : Int32) (p2 : Int32) (p3 : Int32) (p4 : Int32) (ip0 : Int) (ip1 : Int) (ip2 : Int) (ip3 : Int) (ip4 : Int) (sz : Nat) (hzp0 : p0.toInt = ip0) (hzp1 : p1.toInt = ip1) (hzp2 : p2.toInt = ip2) (hzp3 : p3.toInt = ip3) (hzp4 : p4.toInt = ip4) : Met l yX11_feed v_X11_feed ({ frames := 1, cells := 0, slots := 0, locals := 22 }) (va_Pc [.ref x, .int p0, .int p1, .int p2, .int p3, .int p4] (pRW g (tyT cI cJ cB cZ cL) [(x, .inr (10, [.ref tp, .ref ld, .ref im, .ref bk, .ref co, .ref fa, .ref ch, .ref wi, .ref sl, .ref se, .ref dr])), (tp, .inr (8, [.int 0, .ref tl, .int 0, .int (-1), .ref btp, .int 0, .int 0, .int 0, .int 0, .int 0])), (btp, .inl (cB, 1600, .inl (fun _ => 0)))] sz)) (va_Qi (fun (r : Int32) (u : Unit) => r = 20) (fun (_ : Unit) (t : State) => bRW g (tyT cI cJ cB cZ cL) (va_A [(x, .inr (10, [.ref tp, .ref ld, .ref im, .ref bk, .ref co, .ref fa, .ref ch, .ref wi, .ref sl, .ref se, .ref dr])), (tp, .inr (8, [.int 0, .ref tl, .int 0, .int (-1), .ref btp, .int 0, .int 0, .int 0, .int 0, .int 0])), (btp, .inl (cB, 1600, .inl (fun _ => 0)))] sz) [] t) (va_A [(x, .inr (10, [.ref tp, .ref ld, .ref im, .ref bk, .ref co, .ref fa, .ref ch, .ref wi, .ref sl, .ref se, .ref dr])), (tp, .inr (8, [.int 0, .ref tl, .int 0, .int (-1), .ref btp, .int 0, .int 0, .int 0, .int 0, .int 0])), (btp, .inl (cB, 1600, .inl (fun _ => 0)))] sz)) 0 0 (va_A [(x, .inr (10, [.ref tp, .ref ld, .ref im, .ref bk, .ref co, .ref fa, .ref ch, .ref wi, .ref sl, .ref se, .ref dr])), (tp, .inr (8, [.int 0, .ref tl, .int 0, .int (-1), .ref btp, .int 0, .int 0, .int 0, .int 0, .int 0])), (btp, .inl (cB, 1600, .inl (fun _ => 0)))] sz) := by
  refine Met.ofW (cc := cX11_feed) (maxL := 6) (ret := (some .int)) (by decide) rfl ?_
  intro p e s m args below meth c s₁ B hml hv
  obtain ⟨rfl, hsz, hP, hK, hD0⟩ := hv
  have hx := B.exec
  have hb := B.bytes
  have hr := B.returns
  have hts := atoms_spec (ws := v_X11_feed) B.pre
  have hown : s.vm.findClass RX11 = some m.cls := findClass_of_methodNamed B.named
  have hlocks := B.notSynchronized
  subst hsz
  have iX11 : ∀ w ∈ wsX110, w ∈ v_X11_feed := (fun _ h => List.mem_cons_of_mem _ (List.mem_append_right _ (List.mem_append_right _ (List.mem_append_right _ (List.mem_append_right _ (List.mem_append_right _ (List.mem_append_right _ (List.mem_append_left _ h))))))))
  have iX8 : ∀ w ∈ wsX80, w ∈ v_X11_feed := (fun _ h => List.mem_cons_of_mem _ (List.mem_append_right _ (List.mem_append_right _ (List.mem_append_right _ (List.mem_append_right _ (List.mem_append_right _ (List.mem_append_right _ (List.mem_append_right _ (List.mem_append_left _ h)))))))))
  have hD := hD0.self (sz := s.heap.size)
  generalize hAe : (va_A [(x, .inr (10, [.ref tp, .ref ld, .ref im, .ref bk, .ref co, .ref fa, .ref ch, .ref wi, .ref sl, .ref se, .ref dr])), (tp, .inr (8, [.int 0, .ref tl, .int 0, .int (-1), .ref btp, .int 0, .int 0, .int 0, .int 0, .int 0])), (btp, .inl (cB, 1600, .inl (fun _ => 0)))] s.heap.size) = A at hD ⊢
  have hA : ∀ q : Nat, s.heap.size ≤ q → A q := fun q h => by rw [← hAe]; exact Or.inr h
  have hS : va_S A s.heap s.heap [] := va_S.rf
  have hl := lv_entry ([.ref x, .int p0, .int p1, .int p2, .int p3, .int p4]) (n := 6) (Nat.le_of_ble_eq_true rfl)
  rw [lg_entry_eq]
  generalize (lg_sl ([.ref x, .int p0, .int p1, .int p2, .int p3, .int p4]) ++ List.replicate (6 - (lg_sl ([.ref x, .int p0, .int p1, .int p2, .int p3, .int p4])).length) Slot.unset).toArray = ls at hl ⊢
  have hl : lv_has ls 6 [(0, .ref x), (1, .int p0), (2, .int p1), (3, .int p2), (4, .int p3), (5, .int p4)] := hl
  have hP : va_P g vwCl [(x, .inr (10, [.ref tp, .ref ld, .ref im, .ref bk, .ref co, .ref fa, .ref ch, .ref wi, .ref sl, .ref se, .ref dr])), (tp, .inr (8, [.int 0, .ref tl, .int 0, .int (-1), .ref btp, .int 0, .int 0, .int 0, .int 0, .int 0])), (btp, .inl (cB, 1600, .inl (fun _ => 0)))] s.heap := hP
  refine lv_aload_n hx hb dX11_feed_0 rfl (lv_at hl 0 rfl) ?_
  refine va_get (D := g) (ci := 10) (v := .ref tp) (C := RX11) (T := TX11) (N := 11) hx hb hts iX11 hown hK hP 0 rfl rfl 0 (by decide) (hts (.fieldLink RX11 10 "CardsAtYule" "tape" "LCardsAtYule$Tape;") (List.mem_cons_of_mem _ (List.mem_append_left _ (List.mem_of_getElem? (i := 0) rfl)))) (fun _ h9 => h9) rfl dX11_feed_1 ?_
  refine va_get (D := g) (ci := 8) (v := .int 0) (C := RX8) (T := TX8) (N := 10) hx hb hts iX8 hown hK hP 1 rfl rfl 0 (by decide) (hts (.fieldLink RX11 83 "CardsAtYule$Tape" "length" "I") (List.mem_cons_of_mem _ (List.mem_append_left _ (List.mem_of_getElem? (i := 1) rfl)))) (fun _ h9 => h9) rfl dX11_feed_4 ?_
  refine lv_bipush (v := 20) hx hb dX11_feed_7 (by decide) ?_
  refine lv_iadd hx hb dX11_feed_9 ?_
  refine lv_topi (nm_r (e' := 20) (by decide) ?_)
  refine lv_sipush (v := 1600) hx hb dX11_feed_10 (by decide) ?_
  refine lv_icmp_le (tgt := 18) hx hb dX11_feed_13 (by decide) (fun _ => ?_) (fun c1 => absurd c1 (by decide))
  refine lv_aload_n hx hb dX11_feed_18 rfl (lv_at hl 0 rfl) ?_
  refine va_get (D := g) (ci := 10) (v := .ref tp) (C := RX11) (T := TX11) (N := 11) hx hb hts iX11 hown hK hP 0 rfl rfl 0 (by decide) (hts (.fieldLink RX11 10 "CardsAtYule" "tape" "LCardsAtYule$Tape;") (List.mem_cons_of_mem _ (List.mem_append_left _ (List.mem_of_getElem? (i := 0) rfl)))) (fun _ h9 => h9) rfl dX11_feed_19 ?_
  refine lv_iload_n hx hb dX11_feed_22 rfl (lv_at hl 1 rfl) ?_
  refine rw_v (wr := [(x, .inr (10, [.ref tp, .ref ld, .ref im, .ref bk, .ref co, .ref fa, .ref ch, .ref wi, .ref sl, .ref se, .ref dr]))]) (va_runV (As := [.int p0]) (rest := []) ⟨hx, hb, hml, hown, hts⟩ (k_X8_push_0 l g cI cJ cB cZ cL tp tl btp 0 (-1) 0 0 0 0 0 (fun _ => 0) p0 s.heap.size ) (cwV 1 hts (goodIn_app (g_4 (List.mem_cons_of_mem _ (List.mem_append_left _ (List.mem_of_getElem? (i := 2) rfl))) (List.mem_cons_of_mem _ (List.mem_append_left _ (List.mem_of_getElem? (i := 3) rfl))) (List.mem_cons_of_mem _ (List.mem_append_left _ (List.mem_of_getElem? (i := 4) rfl))) (List.mem_cons_of_mem _ (List.mem_append_left _ (List.mem_of_getElem? (i := 5) rfl))) (by decide +kernel)) (goodIn_sub (fun _ h => List.mem_cons_of_mem _ (List.mem_append_right _ (List.mem_append_left _ h))) good_v_X8_push_0)) rfl rfl rfl (by decide +kernel) ⟨Nat.le_of_ble_eq_true rfl, Nat.le_of_ble_eq_true rfl⟩) (pv_RW (q := (RX8, TX8, 10)) (ci := 8) (q0 := 0) (wc := [(tp, .inr (8, [.int 0, .ref tl, .int 0, .int (-1), .ref btp, .int 0, .int 0, .int 0, .int 0, .int 0])), (btp, .inl (cB, 1600, .inl (fun _ => 0)))]) hK hP hD [1, 2] (by decide) rfl rfl rfl) rfl rfl hl.1 rfl (lv_room (Nat.le_of_ble_eq_true rfl)) dX11_feed_23 ⟨Nat.le_of_ble_eq_true rfl, Nat.le_of_ble_eq_true rfl⟩) hS hA hP hD [1, 2] [0] rfl rfl (by decide) (by decide) (fun u3 H locs hw4 hP hD hS => ?_)
  generalize u3 = u_f15 at hw4 hP hD
  try dsimp only at hw4
  have hP : va_P g vwCl [(x, .inr (10, [.ref tp, .ref ld, .ref im, .ref bk, .ref co, .ref fa, .ref ch, .ref wi, .ref sl, .ref se, .ref dr])), (tp, .inr (8, [.int 4, .ref tl, .int 0, .int (-1), .ref btp, .int 0, .int 0, .int 0, .int 0, .int 0])), (btp, .inl (cB, 1600, .inl u_f15))] H := hP
  have hD : va_D A [(x, .inr (10, [.ref tp, .ref ld, .ref im, .ref bk, .ref co, .ref fa, .ref ch, .ref wi, .ref sl, .ref se, .ref dr])), (tp, .inr (8, [.int 4, .ref tl, .int 0, .int (-1), .ref btp, .int 0, .int 0, .int 0, .int 0, .int 0])), (btp, .inl (cB, 1600, .inl u_f15))] := hD
  refine lv_aload_n hx hb dX11_feed_26 rfl (lv_at hl 0 rfl) ?_
  refine va_get (D := g) (ci := 10) (v := .ref tp) (C := RX11) (T := TX11) (N := 11) hx hb hts iX11 hown hK hP 0 rfl rfl 0 (by decide) (hts (.fieldLink RX11 10 "CardsAtYule" "tape" "LCardsAtYule$Tape;") (List.mem_cons_of_mem _ (List.mem_append_left _ (List.mem_of_getElem? (i := 0) rfl)))) (fun _ h9 => h9) rfl dX11_feed_27 ?_
  refine lv_iload_n hx hb dX11_feed_30 rfl (lv_at hl 2 rfl) ?_
  refine rw_v (wr := [(x, .inr (10, [.ref tp, .ref ld, .ref im, .ref bk, .ref co, .ref fa, .ref ch, .ref wi, .ref sl, .ref se, .ref dr]))]) (va_runV (As := [.int p1]) (rest := []) ⟨hx, hb, hml, hown, hts⟩ (k_X8_push_4 l g cI cJ cB cZ cL tp tl btp 0 (-1) 0 0 0 0 0 u_f15 p1 H.size ) (cwV 1 hts (goodIn_app (g_4 (List.mem_cons_of_mem _ (List.mem_append_left _ (List.mem_of_getElem? (i := 2) rfl))) (List.mem_cons_of_mem _ (List.mem_append_left _ (List.mem_of_getElem? (i := 3) rfl))) (List.mem_cons_of_mem _ (List.mem_append_left _ (List.mem_of_getElem? (i := 4) rfl))) (List.mem_cons_of_mem _ (List.mem_append_left _ (List.mem_of_getElem? (i := 5) rfl))) (by decide +kernel)) (goodIn_sub (fun _ h => List.mem_cons_of_mem _ (List.mem_append_right _ (List.mem_append_right _ (List.mem_append_left _ h)))) good_v_X8_push_4)) rfl rfl rfl (by decide +kernel) ⟨Nat.le_of_ble_eq_true rfl, Nat.le_of_ble_eq_true rfl⟩) (pv_RW (q := (RX8, TX8, 10)) (ci := 8) (q0 := 0) (wc := [(tp, .inr (8, [.int 4, .ref tl, .int 0, .int (-1), .ref btp, .int 0, .int 0, .int 0, .int 0, .int 0])), (btp, .inl (cB, 1600, .inl u_f15))]) hK hP hD [1, 2] (by decide) rfl rfl rfl) rfl rfl hl.1 rfl (lv_room (Nat.le_of_ble_eq_true rfl)) dX11_feed_31 ⟨Nat.le_of_ble_eq_true rfl, Nat.le_of_ble_eq_true rfl⟩) hS hA hP hD [1, 2] [0] rfl rfl (by decide) (by decide) (fun u7 H locs hw8 hP hD hS => ?_)
  generalize u7 = u_f19 at hw8 hP hD
  try dsimp only at hw8
  have hP : va_P g vwCl [(x, .inr (10, [.ref tp, .ref ld, .ref im, .ref bk, .ref co, .ref fa, .ref ch, .ref wi, .ref sl, .ref se, .ref dr])), (tp, .inr (8, [.int 8, .ref tl, .int 0, .int (-1), .ref btp, .int 0, .int 0, .int 0, .int 0, .int 0])), (btp, .inl (cB, 1600, .inl u_f19))] H := hP
  have hD : va_D A [(x, .inr (10, [.ref tp, .ref ld, .ref im, .ref bk, .ref co, .ref fa, .ref ch, .ref wi, .ref sl, .ref se, .ref dr])), (tp, .inr (8, [.int 8, .ref tl, .int 0, .int (-1), .ref btp, .int 0, .int 0, .int 0, .int 0, .int 0])), (btp, .inl (cB, 1600, .inl u_f19))] := hD
  refine lv_aload_n hx hb dX11_feed_34 rfl (lv_at hl 0 rfl) ?_
  refine va_get (D := g) (ci := 10) (v := .ref tp) (C := RX11) (T := TX11) (N := 11) hx hb hts iX11 hown hK hP 0 rfl rfl 0 (by decide) (hts (.fieldLink RX11 10 "CardsAtYule" "tape" "LCardsAtYule$Tape;") (List.mem_cons_of_mem _ (List.mem_append_left _ (List.mem_of_getElem? (i := 0) rfl)))) (fun _ h9 => h9) rfl dX11_feed_35 ?_
  refine lv_iload_n hx hb dX11_feed_38 rfl (lv_at hl 3 rfl) ?_
  refine rw_v (wr := [(x, .inr (10, [.ref tp, .ref ld, .ref im, .ref bk, .ref co, .ref fa, .ref ch, .ref wi, .ref sl, .ref se, .ref dr]))]) (va_runV (As := [.int p2]) (rest := []) ⟨hx, hb, hml, hown, hts⟩ (k_X8_push_8 l g cI cJ cB cZ cL tp tl btp 0 (-1) 0 0 0 0 0 u_f19 p2 H.size ) (cwV 1 hts (goodIn_app (g_4 (List.mem_cons_of_mem _ (List.mem_append_left _ (List.mem_of_getElem? (i := 2) rfl))) (List.mem_cons_of_mem _ (List.mem_append_left _ (List.mem_of_getElem? (i := 3) rfl))) (List.mem_cons_of_mem _ (List.mem_append_left _ (List.mem_of_getElem? (i := 4) rfl))) (List.mem_cons_of_mem _ (List.mem_append_left _ (List.mem_of_getElem? (i := 5) rfl))) (by decide +kernel)) (goodIn_sub (fun _ h => List.mem_cons_of_mem _ (List.mem_append_right _ (List.mem_append_right _ (List.mem_append_right _ (List.mem_append_left _ h))))) good_v_X8_push_8)) rfl rfl rfl (by decide +kernel) ⟨Nat.le_of_ble_eq_true rfl, Nat.le_of_ble_eq_true rfl⟩) (pv_RW (q := (RX8, TX8, 10)) (ci := 8) (q0 := 0) (wc := [(tp, .inr (8, [.int 8, .ref tl, .int 0, .int (-1), .ref btp, .int 0, .int 0, .int 0, .int 0, .int 0])), (btp, .inl (cB, 1600, .inl u_f19))]) hK hP hD [1, 2] (by decide) rfl rfl rfl) rfl rfl hl.1 rfl (lv_room (Nat.le_of_ble_eq_true rfl)) dX11_feed_39 ⟨Nat.le_of_ble_eq_true rfl, Nat.le_of_ble_eq_true rfl⟩) hS hA hP hD [1, 2] [0] rfl rfl (by decide) (by decide) (fun u11 H locs hw12 hP hD hS => ?_)
  generalize u11 = u_f113 at hw12 hP hD
  try dsimp only at hw12
  have hP : va_P g vwCl [(x, .inr (10, [.ref tp, .ref ld, .ref im, .ref bk, .ref co, .ref fa, .ref ch, .ref wi, .ref sl, .ref se, .ref dr])), (tp, .inr (8, [.int 12, .ref tl, .int 0, .int (-1), .ref btp, .int 0, .int 0, .int 0, .int 0, .int 0])), (btp, .inl (cB, 1600, .inl u_f113))] H := hP
  have hD : va_D A [(x, .inr (10, [.ref tp, .ref ld, .ref im, .ref bk, .ref co, .ref fa, .ref ch, .ref wi, .ref sl, .ref se, .ref dr])), (tp, .inr (8, [.int 12, .ref tl, .int 0, .int (-1), .ref btp, .int 0, .int 0, .int 0, .int 0, .int 0])), (btp, .inl (cB, 1600, .inl u_f113))] := hD
  refine lv_aload_n hx hb dX11_feed_42 rfl (lv_at hl 0 rfl) ?_
  refine va_get (D := g) (ci := 10) (v := .ref tp) (C := RX11) (T := TX11) (N := 11) hx hb hts iX11 hown hK hP 0 rfl rfl 0 (by decide) (hts (.fieldLink RX11 10 "CardsAtYule" "tape" "LCardsAtYule$Tape;") (List.mem_cons_of_mem _ (List.mem_append_left _ (List.mem_of_getElem? (i := 0) rfl)))) (fun _ h9 => h9) rfl dX11_feed_43 ?_
  refine lv_iload hx hb dX11_feed_46 (lv_at hl 4 rfl) ?_
  refine rw_v (wr := [(x, .inr (10, [.ref tp, .ref ld, .ref im, .ref bk, .ref co, .ref fa, .ref ch, .ref wi, .ref sl, .ref se, .ref dr]))]) (va_runV (As := [.int p3]) (rest := []) ⟨hx, hb, hml, hown, hts⟩ (k_X8_push_12 l g cI cJ cB cZ cL tp tl btp 0 (-1) 0 0 0 0 0 u_f113 p3 H.size ) (cwV 1 hts (goodIn_app (g_4 (List.mem_cons_of_mem _ (List.mem_append_left _ (List.mem_of_getElem? (i := 2) rfl))) (List.mem_cons_of_mem _ (List.mem_append_left _ (List.mem_of_getElem? (i := 3) rfl))) (List.mem_cons_of_mem _ (List.mem_append_left _ (List.mem_of_getElem? (i := 4) rfl))) (List.mem_cons_of_mem _ (List.mem_append_left _ (List.mem_of_getElem? (i := 5) rfl))) (by decide +kernel)) (goodIn_sub (fun _ h => List.mem_cons_of_mem _ (List.mem_append_right _ (List.mem_append_right _ (List.mem_append_right _ (List.mem_append_right _ (List.mem_append_left _ h)))))) good_v_X8_push_12)) rfl rfl rfl (by decide +kernel) ⟨Nat.le_of_ble_eq_true rfl, Nat.le_of_ble_eq_true rfl⟩) (pv_RW (q := (RX8, TX8, 10)) (ci := 8) (q0 := 0) (wc := [(tp, .inr (8, [.int 12, .ref tl, .int 0, .int (-1), .ref btp, .int 0, .int 0, .int 0, .int 0, .int 0])), (btp, .inl (cB, 1600, .inl u_f113))]) hK hP hD [1, 2] (by decide) rfl rfl rfl) rfl rfl hl.1 rfl (lv_room (Nat.le_of_ble_eq_true rfl)) dX11_feed_48 ⟨Nat.le_of_ble_eq_true rfl, Nat.le_of_ble_eq_true rfl⟩) hS hA hP hD [1, 2] [0] rfl rfl (by decide) (by decide) (fun u15 H locs hw16 hP hD hS => ?_)
  generalize u15 = u_f117 at hw16 hP hD
  try dsimp only at hw16
  have hP : va_P g vwCl [(x, .inr (10, [.ref tp, .ref ld, .ref im, .ref bk, .ref co, .ref fa, .ref ch, .ref wi, .ref sl, .ref se, .ref dr])), (tp, .inr (8, [.int 16, .ref tl, .int 0, .int (-1), .ref btp, .int 0, .int 0, .int 0, .int 0, .int 0])), (btp, .inl (cB, 1600, .inl u_f117))] H := hP
  have hD : va_D A [(x, .inr (10, [.ref tp, .ref ld, .ref im, .ref bk, .ref co, .ref fa, .ref ch, .ref wi, .ref sl, .ref se, .ref dr])), (tp, .inr (8, [.int 16, .ref tl, .int 0, .int (-1), .ref btp, .int 0, .int 0, .int 0, .int 0, .int 0])), (btp, .inl (cB, 1600, .inl u_f117))] := hD
  refine lv_aload_n hx hb dX11_feed_51 rfl (lv_at hl 0 rfl) ?_
  refine va_get (D := g) (ci := 10) (v := .ref tp) (C := RX11) (T := TX11) (N := 11) hx hb hts iX11 hown hK hP 0 rfl rfl 0 (by decide) (hts (.fieldLink RX11 10 "CardsAtYule" "tape" "LCardsAtYule$Tape;") (List.mem_cons_of_mem _ (List.mem_append_left _ (List.mem_of_getElem? (i := 0) rfl)))) (fun _ h9 => h9) rfl dX11_feed_52 ?_
  refine lv_iload hx hb dX11_feed_55 (lv_at hl 5 rfl) ?_
  refine rw_v (wr := [(x, .inr (10, [.ref tp, .ref ld, .ref im, .ref bk, .ref co, .ref fa, .ref ch, .ref wi, .ref sl, .ref se, .ref dr]))]) (va_runV (As := [.int p4]) (rest := []) ⟨hx, hb, hml, hown, hts⟩ (k_X8_push_16 l g cI cJ cB cZ cL tp tl btp 0 (-1) 0 0 0 0 0 u_f117 p4 H.size ) (cwV 1 hts (goodIn_app (g_4 (List.mem_cons_of_mem _ (List.mem_append_left _ (List.mem_of_getElem? (i := 2) rfl))) (List.mem_cons_of_mem _ (List.mem_append_left _ (List.mem_of_getElem? (i := 3) rfl))) (List.mem_cons_of_mem _ (List.mem_append_left _ (List.mem_of_getElem? (i := 4) rfl))) (List.mem_cons_of_mem _ (List.mem_append_left _ (List.mem_of_getElem? (i := 5) rfl))) (by decide +kernel)) (goodIn_sub (fun _ h => List.mem_cons_of_mem _ (List.mem_append_right _ (List.mem_append_right _ (List.mem_append_right _ (List.mem_append_right _ (List.mem_append_right _ (List.mem_append_left _ h))))))) good_v_X8_push_16)) rfl rfl rfl (by decide +kernel) ⟨Nat.le_of_ble_eq_true rfl, Nat.le_of_ble_eq_true rfl⟩) (pv_RW (q := (RX8, TX8, 10)) (ci := 8) (q0 := 0) (wc := [(tp, .inr (8, [.int 16, .ref tl, .int 0, .int (-1), .ref btp, .int 0, .int 0, .int 0, .int 0, .int 0])), (btp, .inl (cB, 1600, .inl u_f117))]) hK hP hD [1, 2] (by decide) rfl rfl rfl) rfl rfl hl.1 rfl (lv_room (Nat.le_of_ble_eq_true rfl)) dX11_feed_57 ⟨Nat.le_of_ble_eq_true rfl, Nat.le_of_ble_eq_true rfl⟩) hS hA hP hD [1, 2] [0] rfl rfl (by decide) (by decide) (fun u19 H locs hw20 hP hD hS => ?_)
  generalize u19 = u_f121 at hw20 hP hD
  try dsimp only at hw20
  have hP : va_P g vwCl [(x, .inr (10, [.ref tp, .ref ld, .ref im, .ref bk, .ref co, .ref fa, .ref ch, .ref wi, .ref sl, .ref se, .ref dr])), (tp, .inr (8, [.int 20, .ref tl, .int 0, .int (-1), .ref btp, .int 0, .int 0, .int 0, .int 0, .int 0])), (btp, .inl (cB, 1600, .inl u_f121))] H := hP
  have hD : va_D A [(x, .inr (10, [.ref tp, .ref ld, .ref im, .ref bk, .ref co, .ref fa, .ref ch, .ref wi, .ref sl, .ref se, .ref dr])), (tp, .inr (8, [.int 20, .ref tl, .int 0, .int (-1), .ref btp, .int 0, .int 0, .int 0, .int 0, .int 0])), (btp, .inl (cB, 1600, .inl u_f121))] := hD
  refine lv_aload_n hx hb dX11_feed_60 rfl (lv_at hl 0 rfl) ?_
  refine va_get (D := g) (ci := 10) (v := .ref tp) (C := RX11) (T := TX11) (N := 11) hx hb hts iX11 hown hK hP 0 rfl rfl 0 (by decide) (hts (.fieldLink RX11 10 "CardsAtYule" "tape" "LCardsAtYule$Tape;") (List.mem_cons_of_mem _ (List.mem_append_left _ (List.mem_of_getElem? (i := 0) rfl)))) (fun _ h9 => h9) rfl dX11_feed_61 ?_
  refine va_get (D := g) (ci := 8) (v := .int 20) (C := RX8) (T := TX8) (N := 10) hx hb hts iX8 hown hK hP 1 rfl rfl 0 (by decide) (hts (.fieldLink RX11 83 "CardsAtYule$Tape" "length" "I") (List.mem_cons_of_mem _ (List.mem_append_left _ (List.mem_of_getElem? (i := 1) rfl)))) (fun _ h9 => h9) rfl dX11_feed_64 ?_
  have hP9 := hP.sub (ws' := []) [] rfl
  have hD9 := hD.sub (ws' := []) [] (by decide) rfl
  exact W.iret (v := 20) hx hb hr (fun t ht hW => ⟨⟨20, (), rfl, rfl, by rw [ht]; exact hP9, va_K.moved hW.alike hK, hD9⟩, hS.F ht⟩) hS.2.2 dX11_feed_67
def v_X11_end : List Cond := .code yX11_end cX11_end 2 (some .int) :: (([.fieldLink RX11 10 "CardsAtYule" "tape" "LCardsAtYule$Tape;", .fieldLink RX11 83 "CardsAtYule$Tape" "length" "I"] : List Cond) ++ (wsX110 ++ (wsX80 ++ ([] : List Cond))))
theorem good_v_X11_end : v_X11_end.all goodWord = true := ga_c (by decide +kernel) (ga_a (by decide +kernel) (ga_a good_wsX110 (ga_a good_wsX80 rfl)))
set_option maxHeartbeats 4000000 in
set_option maxRecDepth 100000 in
theorem k_X11_end (l : Launch) (g : va_G) (cI cJ cB cZ cL : ClassId) (x : Nat) (tp : Nat) (ld : Nat) (im : Nat) (bk : Nat) (co : Nat) (fa : Nat) (ch : Nat) (wi : Nat) (sl : Nat) (se : Nat) (dr : Nat) (tl : Nat) (btp : Nat) (p0 : Int32) (ip0 : Int) (sz : Nat) (hzp0 : p0.toInt = ip0) : Met l yX11_end v_X11_end ({ frames := 0, cells := 0, slots := 0, locals := 0 }) (va_Pc [.ref x, .int p0] (pRW g (tyT cI cJ cB cZ cL) [(x, .inr (10, [.ref tp, .ref ld, .ref im, .ref bk, .ref co, .ref fa, .ref ch, .ref wi, .ref sl, .ref se, .ref dr])), (tp, .inr (8, [.int 0, .ref tl, .int 0, .int (-1), .ref btp, .int 0, .int 0, .int 0, .int 0, .int 0]))] sz)) (va_Qi (fun (r : Int32) (u : Unit) => (r = p0 ∧ 0 ≤ ip0 ∧ ip0 ≤ 0) ∨ (r = (-1) ∧ ¬ (0 ≤ ip0 ∧ ip0 ≤ 0))) (fun (_ : Unit) (t : State) => bRW g (tyT cI cJ cB cZ cL) (va_A [(x, .inr (10, [.ref tp, .ref ld, .ref im, .ref bk, .ref co, .ref fa, .ref ch, .ref wi, .ref sl, .ref se, .ref dr])), (tp, .inr (8, [.int 0, .ref tl, .int 0, .int (-1), .ref btp, .int 0, .int 0, .int 0, .int 0, .int 0]))] sz) [] t) (va_A [(x, .inr (10, [.ref tp, .ref ld, .ref im, .ref bk, .ref co, .ref fa, .ref ch, .ref wi, .ref sl, .ref se, .ref dr])), (tp, .inr (8, [.int 0, .ref tl, .int 0, .int (-1), .ref btp, .int 0, .int 0, .int 0, .int 0, .int 0]))] sz)) 0 0 (va_A [(x, .inr (10, [.ref tp, .ref ld, .ref im, .ref bk, .ref co, .ref fa, .ref ch, .ref wi, .ref sl, .ref se, .ref dr])), (tp, .inr (8, [.int 0, .ref tl, .int 0, .int (-1), .ref btp, .int 0, .int 0, .int 0, .int 0, .int 0]))] sz) := by
  refine Met.ofW (cc := cX11_end) (maxL := 2) (ret := (some .int)) (by decide) rfl ?_
  intro p e s m args below meth c s₁ B hml hv
  obtain ⟨rfl, hsz, hP, hK, hD0⟩ := hv
  have hx := B.exec
  have hb := B.bytes
  have hr := B.returns
  have hts := atoms_spec (ws := v_X11_end) B.pre
  have hown : s.vm.findClass RX11 = some m.cls := findClass_of_methodNamed B.named
  have hlocks := B.notSynchronized
  subst hsz
  have iX11 : ∀ w ∈ wsX110, w ∈ v_X11_end := (fun _ h => List.mem_cons_of_mem _ (List.mem_append_right _ (List.mem_append_left _ h)))
  have iX8 : ∀ w ∈ wsX80, w ∈ v_X11_end := (fun _ h => List.mem_cons_of_mem _ (List.mem_append_right _ (List.mem_append_right _ (List.mem_append_left _ h))))
  have hD := hD0.self (sz := s.heap.size)
  generalize hAe : (va_A [(x, .inr (10, [.ref tp, .ref ld, .ref im, .ref bk, .ref co, .ref fa, .ref ch, .ref wi, .ref sl, .ref se, .ref dr])), (tp, .inr (8, [.int 0, .ref tl, .int 0, .int (-1), .ref btp, .int 0, .int 0, .int 0, .int 0, .int 0]))] s.heap.size) = A at hD ⊢
  have hA : ∀ q : Nat, s.heap.size ≤ q → A q := fun q h => by rw [← hAe]; exact Or.inr h
  have hS : va_S A s.heap s.heap [] := va_S.rf
  have hl := lv_entry ([.ref x, .int p0]) (n := 2) (Nat.le_of_ble_eq_true rfl)
  rw [lg_entry_eq]
  generalize (lg_sl ([.ref x, .int p0]) ++ List.replicate (2 - (lg_sl ([.ref x, .int p0])).length) Slot.unset).toArray = ls at hl ⊢
  have hl : lv_has ls 2 [(0, .ref x), (1, .int p0)] := hl
  have hP : va_P g vwCl [(x, .inr (10, [.ref tp, .ref ld, .ref im, .ref bk, .ref co, .ref fa, .ref ch, .ref wi, .ref sl, .ref se, .ref dr])), (tp, .inr (8, [.int 0, .ref tl, .int 0, .int (-1), .ref btp, .int 0, .int 0, .int 0, .int 0, .int 0]))] s.heap := hP
  refine lv_iload_n hx hb dX11_end_0 rfl (lv_at hl 1 rfl) ?_
  refine lv_if_lt (tgt := 15) hx hb dX11_end_1 (by decide) (fun c1 => ?_) (fun c1 => ?_)
  · have f2 := (show ip0 < 0 from z_lt hzp0 rfl c1)
    refine lv_iconst (v := (-1)) hx hb dX11_end_15 (by decide) ?_
    have hP9 := hP.sub (ws' := []) [] rfl
    have hD9 := hD.sub (ws' := []) [] (by decide) rfl
    exact W.iret (v := (-1)) hx hb hr (fun t ht hW => ⟨⟨(-1), (), rfl, Or.inr ⟨rfl, by omega⟩, by rw [ht]; exact hP9, va_K.moved hW.alike hK, hD9⟩, hS.F ht⟩) hS.2.2 dX11_end_16
  · have f2 := (show 0 ≤ ip0 from z_nlt hzp0 rfl c1)
    refine lv_iload_n hx hb dX11_end_4 rfl (lv_at hl 1 rfl) ?_
    refine lv_aload_n hx hb dX11_end_5 rfl (lv_at hl 0 rfl) ?_
    refine va_get (D := g) (ci := 10) (v := .ref tp) (C := RX11) (T := TX11) (N := 11) hx hb hts iX11 hown hK hP 0 rfl rfl 0 (by decide) (hts (.fieldLink RX11 10 "CardsAtYule" "tape" "LCardsAtYule$Tape;") (List.mem_cons_of_mem _ (List.mem_append_left _ (List.mem_of_getElem? (i := 0) rfl)))) (fun _ h9 => h9) rfl dX11_end_6 ?_
    refine va_get (D := g) (ci := 8) (v := .int 0) (C := RX8) (T := TX8) (N := 10) hx hb hts iX8 hown hK hP 1 rfl rfl 0 (by decide) (hts (.fieldLink RX11 83 "CardsAtYule$Tape" "length" "I") (List.mem_cons_of_mem _ (List.mem_append_left _ (List.mem_of_getElem? (i := 1) rfl)))) (fun _ h9 => h9) rfl dX11_end_9 ?_
    refine lv_icmp_le (tgt := 17) hx hb dX11_end_12 (by decide) (fun c3 => ?_) (fun c3 => ?_)
    · have f4 := (show ip0 ≤ 0 from z_le hzp0 rfl c3)
      refine lv_aload_n hx hb dX11_end_17 rfl (lv_at hl 0 rfl) ?_
      refine va_get (D := g) (ci := 10) (v := .ref tp) (C := RX11) (T := TX11) (N := 11) hx hb hts iX11 hown hK hP 0 rfl rfl 0 (by decide) (hts (.fieldLink RX11 10 "CardsAtYule" "tape" "LCardsAtYule$Tape;") (List.mem_cons_of_mem _ (List.mem_append_left _ (List.mem_of_getElem? (i := 0) rfl)))) (fun _ h9 => h9) rfl dX11_end_18 ?_
      refine lv_iload_n hx hb dX11_end_21 rfl (lv_at hl 1 rfl) ?_
      refine va_put (D := g) (ci := 8) (v := .int p0) (ty := .int) (C := RX8) (T := TX8) (N := 10) hx hb hts iX8 tyX8 tyX8_ok nmX8 hown hK hP hD hS 1 rfl rfl 0 (by decide) (hts (.fieldLink RX11 83 "CardsAtYule$Tape" "length" "I") (List.mem_cons_of_mem _ (List.mem_append_left _ (List.mem_of_getElem? (i := 1) rfl)))) (fun _ h9 => h9) rfl (by decide +kernel) rfl rfl (Nat.le_of_ble_eq_true rfl) dX11_end_22 (fun H locs hP hD hS => ?_)
      have hP : va_P g vwCl [(x, .inr (10, [.ref tp, .ref ld, .ref im, .ref bk, .ref co, .ref fa, .ref ch, .ref wi, .ref sl, .ref se, .ref dr])), (tp, .inr (8, [.int p0, .ref tl, .int 0, .int (-1), .ref btp, .int 0, .int 0, .int 0, .int 0, .int 0]))] H := hP
      have hD : va_D A [(x, .inr (10, [.ref tp, .ref ld, .ref im, .ref bk, .ref co, .ref fa, .ref ch, .ref wi, .ref sl, .ref se, .ref dr])), (tp, .inr (8, [.int p0, .ref tl, .int 0, .int (-1), .ref btp, .int 0, .int 0, .int 0, .int 0, .int 0]))] := hD
      refine lv_iload_n hx hb dX11_end_25 rfl (lv_at hl 1 rfl) ?_
      have hP9 := hP.sub (ws' := []) [] rfl
      have hD9 := hD.sub (ws' := []) [] (by decide) rfl
      exact W.iret (v := p0) hx hb hr (fun t ht hW => ⟨⟨p0, (), rfl, Or.inl ⟨rfl, by omega, by omega⟩, by rw [ht]; exact hP9, va_K.moved hW.alike hK, hD9⟩, hS.F ht⟩) hS.2.2 dX11_end_26
    · have f4 := (show 0 < ip0 from z_nle hzp0 rfl c3)
      refine lv_iconst (v := (-1)) hx hb dX11_end_15 (by decide) ?_
      have hP9 := hP.sub (ws' := []) [] rfl
      have hD9 := hD.sub (ws' := []) [] (by decide) rfl
      exact W.iret (v := (-1)) hx hb hr (fun t ht hW => ⟨⟨(-1), (), rfl, Or.inr ⟨rfl, by omega⟩, by rw [ht]; exact hP9, va_K.moved hW.alike hK, hD9⟩, hS.F ht⟩) hS.2.2 dX11_end_16
def v_X11_fault : List Cond := .code yX11_fault cX11_fault 2 (some .int) :: (([.fieldLink RX11 10 "CardsAtYule" "tape" "LCardsAtYule$Tape;", .fieldLink RX11 112 "CardsAtYule$Tape" "place" "I", .fieldLink RX11 109 "CardsAtYule$Tape" "fault" "I"] : List Cond) ++ (wsX110 ++ (wsX80 ++ ([] : List Cond))))
theorem good_v_X11_fault : v_X11_fault.all goodWord = true := ga_c (by decide +kernel) (ga_a (by decide +kernel) (ga_a good_wsX110 (ga_a good_wsX80 rfl)))
set_option maxHeartbeats 4000000 in
set_option maxRecDepth 100000 in
theorem k_X11_fault (l : Launch) (g : va_G) (cI cJ cB cZ cL : ClassId) (x : Nat) (tp : Nat) (ld : Nat) (im : Nat) (bk : Nat) (co : Nat) (fa : Nat) (ch : Nat) (wi : Nat) (sl : Nat) (se : Nat) (dr : Nat) (tl : Nat) (btp : Nat) (p0 : Int32) (ip0 : Int) (sz : Nat) (hzp0 : p0.toInt = ip0) : Met l yX11_fault v_X11_fault ({ frames := 0, cells := 0, slots := 0, locals := 0 }) (va_Pc [.ref x, .int p0] (pRO g (tyT cI cJ cB cZ cL) [(x, .inr (10, [.ref tp, .ref ld, .ref im, .ref bk, .ref co, .ref fa, .ref ch, .ref wi, .ref sl, .ref se, .ref dr])), (tp, .inr (8, [.int 0, .ref tl, .int 0, .int (-1), .ref btp, .int 0, .int 0, .int 0, .int 0, .int 0]))] sz)) (va_Qi (fun (r : Int32) (u : Unit) => (r = 0 ∧ ip0 = 0) ∨ (r = (-1) ∧ ip0 ≠ 0)) (fun (_ : Unit) (_ : State) => True) (va_A [] sz)) 0 0 (va_A [] sz) := by
  refine Met.ofW (cc := cX11_fault) (maxL := 2) (ret := (some .int)) (by decide) rfl ?_
  intro p e s m args below meth c s₁ B hml hv
  obtain ⟨rfl, hsz, hP, hK⟩ := hv
  have hx := B.exec
  have hb := B.bytes
  have hr := B.returns
  have hts := atoms_spec (ws := v_X11_fault) B.pre
  have hown : s.vm.findClass RX11 = some m.cls := findClass_of_methodNamed B.named
  have hlocks := B.notSynchronized
  subst hsz
  have iX11 : ∀ w ∈ wsX110, w ∈ v_X11_fault := (fun _ h => List.mem_cons_of_mem _ (List.mem_append_right _ (List.mem_append_left _ h)))
  have iX8 : ∀ w ∈ wsX80, w ∈ v_X11_fault := (fun _ h => List.mem_cons_of_mem _ (List.mem_append_right _ (List.mem_append_right _ (List.mem_append_left _ h))))
  generalize hAe : (va_A [] s.heap.size) = A
  have hA : ∀ q : Nat, s.heap.size ≤ q → A q := fun q h => by rw [← hAe]; exact Or.inr h
  have hS : va_S A s.heap s.heap [] := va_S.rf
  have hl := lv_entry ([.ref x, .int p0]) (n := 2) (Nat.le_of_ble_eq_true rfl)
  rw [lg_entry_eq]
  generalize (lg_sl ([.ref x, .int p0]) ++ List.replicate (2 - (lg_sl ([.ref x, .int p0])).length) Slot.unset).toArray = ls at hl ⊢
  have hl : lv_has ls 2 [(0, .ref x), (1, .int p0)] := hl
  have hP : va_P g vwCl [(x, .inr (10, [.ref tp, .ref ld, .ref im, .ref bk, .ref co, .ref fa, .ref ch, .ref wi, .ref sl, .ref se, .ref dr])), (tp, .inr (8, [.int 0, .ref tl, .int 0, .int (-1), .ref btp, .int 0, .int 0, .int 0, .int 0, .int 0]))] s.heap := hP
  refine lv_iload_n hx hb dX11_fault_0 rfl (lv_at hl 1 rfl) ?_
  refine lv_if_ne (tgt := 12) hx hb dX11_fault_1 (by decide) (fun c1 => ?_) (fun c1 => ?_)
  · have f2 := (show ip0 ≠ 0 from z_ne hzp0 rfl c1)
    refine lv_iload_n hx hb dX11_fault_12 rfl (lv_at hl 1 rfl) ?_
    refine lv_iconst (v := 1) hx hb dX11_fault_13 (by decide) ?_
    refine lv_icmp_ne (tgt := 27) hx hb dX11_fault_14 (by decide) (fun c3 => ?_) (fun c3 => ?_)
    · have f4 := (show ip0 ≠ 1 from z_ne hzp0 rfl c3)
      refine lv_iconst (v := (-1)) hx hb dX11_fault_27 (by decide) ?_
      exact W.iret (v := (-1)) hx hb hr (fun t ht hW => ⟨⟨(-1), (), rfl, Or.inr ⟨rfl, by omega⟩, trivial⟩, hS.F ht⟩) hS.2.2 dX11_fault_28
    · have f4 := (show ip0 = 1 from z_eq hzp0 rfl c3)
      refine lv_aload_n hx hb dX11_fault_17 rfl (lv_at hl 0 rfl) ?_
      refine va_get (D := g) (ci := 10) (v := .ref tp) (C := RX11) (T := TX11) (N := 11) hx hb hts iX11 hown hK hP 0 rfl rfl 0 (by decide) (hts (.fieldLink RX11 10 "CardsAtYule" "tape" "LCardsAtYule$Tape;") (List.mem_cons_of_mem _ (List.mem_append_left _ (List.mem_of_getElem? (i := 0) rfl)))) (fun _ h9 => h9) rfl dX11_fault_18 ?_
      refine va_get (D := g) (ci := 8) (v := .int (-1)) (C := RX8) (T := TX8) (N := 10) hx hb hts iX8 hown hK hP 1 rfl rfl 3 (by decide) (hts (.fieldLink RX11 112 "CardsAtYule$Tape" "place" "I") (List.mem_cons_of_mem _ (List.mem_append_left _ (List.mem_of_getElem? (i := 1) rfl)))) (fun _ h9 => h9) rfl dX11_fault_21 ?_
      refine lv_goto (tgt := 28) hx hb dX11_fault_24 (by decide) ?_
      exact W.iret (v := (-1)) hx hb hr (fun t ht hW => ⟨⟨(-1), (), rfl, Or.inr ⟨rfl, by omega⟩, trivial⟩, hS.F ht⟩) hS.2.2 dX11_fault_28
  · have f2 := (show ip0 = 0 from z_eq hzp0 rfl c1)
    refine lv_aload_n hx hb dX11_fault_4 rfl (lv_at hl 0 rfl) ?_
    refine va_get (D := g) (ci := 10) (v := .ref tp) (C := RX11) (T := TX11) (N := 11) hx hb hts iX11 hown hK hP 0 rfl rfl 0 (by decide) (hts (.fieldLink RX11 10 "CardsAtYule" "tape" "LCardsAtYule$Tape;") (List.mem_cons_of_mem _ (List.mem_append_left _ (List.mem_of_getElem? (i := 0) rfl)))) (fun _ h9 => h9) rfl dX11_fault_5 ?_
    refine va_get (D := g) (ci := 8) (v := .int 0) (C := RX8) (T := TX8) (N := 10) hx hb hts iX8 hown hK hP 1 rfl rfl 2 (by decide) (hts (.fieldLink RX11 109 "CardsAtYule$Tape" "fault" "I") (List.mem_cons_of_mem _ (List.mem_append_left _ (List.mem_of_getElem? (i := 2) rfl)))) (fun _ h9 => h9) rfl dX11_fault_8 ?_
    exact W.iret (v := 0) hx hb hr (fun t ht hW => ⟨⟨0, (), rfl, Or.inl ⟨rfl, by omega⟩, trivial⟩, hS.F ht⟩) hS.2.2 dX11_fault_11
def v_X11_does : List Cond := .code yX11_does cX11_does 4 (some .int) :: (([.methodLink RX11 148 yX11_isBelow, .static yX11_isBelow, .initialized RX11, .methodLink RX11 152 yX11_isBit, .static yX11_isBit] : List Cond) ++ (v_X11_isBelow ++ (v_X11_isBit ++ ([] : List Cond))))
theorem good_v_X11_does : v_X11_does.all goodWord = true := ga_c (by decide +kernel) (ga_a (by decide +kernel) (ga_a good_v_X11_isBelow (ga_a good_v_X11_isBit rfl)))
set_option maxHeartbeats 4000000 in
set_option maxRecDepth 100000 in
theorem k_X11_does (l : Launch) (g : va_G) (cI cJ cB cZ cL : ClassId) (x : Nat) (tp : Nat) (ld : Nat) (im : Nat) (bk : Nat) (co : Nat) (fa : Nat) (ch : Nat) (wi : Nat) (sl : Nat) (se : Nat) (dr : Nat) (p0 : Int32) (p1 : Int32) (p2 : Int32) (ip0 : Int) (ip1 : Int) (ip2 : Int) (sz : Nat) (hzp0 : p0.toInt = ip0) (hzp1 : p1.toInt = ip1) (hzp2 : p2.toInt = ip2) : Met l yX11_does v_X11_does ({ frames := 1, cells := 0, slots := 0, locals := 21 }) (va_Pc [.ref x, .int p0, .int p1, .int p2] (pRO g (tyT cI cJ cB cZ cL) [(x, .inr (10, [.ref tp, .ref ld, .ref im, .ref bk, .ref co, .ref fa, .ref ch, .ref wi, .ref sl, .ref se, .ref dr]))] sz)) (va_Qi (fun (r : Int32) (u : Unit) => r = doesV p0 p1 p2 ip0 ip1 ip2) (fun (_ : Unit) (_ : State) => True) (va_A [] sz)) 0 0 (va_A [] sz) := by
  refine Met.ofW (cc := cX11_does) (maxL := 4) (ret := (some .int)) (by decide) rfl ?_
  intro p e s m args below meth c s₁ B hml hv
  obtain ⟨rfl, hsz, hP, hK⟩ := hv
  have hx := B.exec
  have hb := B.bytes
  have hr := B.returns
  have hts := atoms_spec (ws := v_X11_does) B.pre
  have hown : s.vm.findClass RX11 = some m.cls := findClass_of_methodNamed B.named
  have hlocks := B.notSynchronized
  subst hsz
  generalize hAe : (va_A [] s.heap.size) = A
  have hA : ∀ q : Nat, s.heap.size ≤ q → A q := fun q h => by rw [← hAe]; exact Or.inr h
  have hS : va_S A s.heap s.heap [] := va_S.rf
  have hl := lv_entry ([.ref x, .int p0, .int p1, .int p2]) (n := 4) (Nat.le_of_ble_eq_true rfl)
  rw [lg_entry_eq]
  generalize (lg_sl ([.ref x, .int p0, .int p1, .int p2]) ++ List.replicate (4 - (lg_sl ([.ref x, .int p0, .int p1, .int p2])).length) Slot.unset).toArray = ls at hl ⊢
  have hl : lv_has ls 4 [(0, .ref x), (1, .int p0), (2, .int p1), (3, .int p2)] := hl
  have hP : va_P g vwCl [(x, .inr (10, [.ref tp, .ref ld, .ref im, .ref bk, .ref co, .ref fa, .ref ch, .ref wi, .ref sl, .ref se, .ref dr]))] s.heap := hP
  refine lv_iload_n hx hb dX11_does_0 rfl (lv_at hl 1 rfl) ?_
  refine lv_bipush (v := 16) hx hb dX11_does_1 (by decide) ?_
  refine ro_i (va_runS (As := [.int p0, .int 16]) (rest := []) ⟨hx, hb, hml, hown, hts⟩ (k_X11_isBelow l g cI cJ cB cZ cL p0 16 ip0 16 s.heap.size hzp0 rfl) (va_cwS 2 hts (goodIn_app (g_3 (List.mem_cons_of_mem _ (List.mem_append_left _ (List.mem_of_getElem? (i := 0) rfl))) (List.mem_cons_of_mem _ (List.mem_append_left _ (List.mem_of_getElem? (i := 1) rfl))) (List.mem_cons_of_mem _ (List.mem_append_left _ (List.mem_of_getElem? (i := 2) rfl))) (by decide +kernel)) (goodIn_sub (fun _ h => List.mem_cons_of_mem _ (List.mem_append_right _ (List.mem_append_left _ h))) good_v_X11_isBelow)) rfl rfl rfl (by decide +kernel) ⟨Nat.le_of_ble_eq_true rfl, Nat.le_of_ble_eq_true rfl⟩) (ps_RO (wc := []) hK hP [] rfl) rfl rfl hl.1 rfl (lv_room (Nat.le_of_ble_eq_true rfl)) dX11_does_3 ⟨Nat.le_of_ble_eq_true rfl, Nat.le_of_ble_eq_true rfl⟩) hS hA hP (fun r1 u2 H locs hw3 hP hS => ?_)
  rcases hw3 with ⟨rfl, hw3_0, hw3_1⟩ | ⟨rfl, hw3_0⟩
  · refine lv_if_eq (tgt := 23) hx hb dX11_does_6 (by decide) (fun c4 => absurd c4 (by decide)) (fun _ => ?_)
    refine lv_iload_n hx hb dX11_does_9 rfl (lv_at hl 2 rfl) ?_
    refine ro_i (va_runS (As := [.int p1]) (rest := []) ⟨hx, hb, hml, hown, hts⟩ (k_X11_isBit l g cI cJ cB cZ cL p1 ip1 H.size hzp1) (va_cwS 1 hts (goodIn_app (g_3 (List.mem_cons_of_mem _ (List.mem_append_left _ (List.mem_of_getElem? (i := 3) rfl))) (List.mem_cons_of_mem _ (List.mem_append_left _ (List.mem_of_getElem? (i := 4) rfl))) (List.mem_cons_of_mem _ (List.mem_append_left _ (List.mem_of_getElem? (i := 2) rfl))) (by decide +kernel)) (goodIn_sub (fun _ h => List.mem_cons_of_mem _ (List.mem_append_right _ (List.mem_append_right _ (List.mem_append_left _ h)))) good_v_X11_isBit)) rfl rfl rfl (by decide +kernel) ⟨Nat.le_of_ble_eq_true rfl, Nat.le_of_ble_eq_true rfl⟩) (ps_RO (wc := []) hK hP [] rfl) rfl rfl hl.1 rfl (lv_room (Nat.le_of_ble_eq_true rfl)) dX11_does_10 ⟨Nat.le_of_ble_eq_true rfl, Nat.le_of_ble_eq_true rfl⟩) hS hA hP (fun r5 u6 H locs hw7 hP hS => ?_)
    rcases hw7 with ⟨rfl, hw7_0⟩ | ⟨rfl, hw7_0⟩
    · refine lv_if_eq (tgt := 23) hx hb dX11_does_13 (by decide) (fun c8 => absurd c8 (by decide)) (fun _ => ?_)
      refine lv_iload_n hx hb dX11_does_16 rfl (lv_at hl 3 rfl) ?_
      refine ro_i (va_runS (As := [.int p2]) (rest := []) ⟨hx, hb, hml, hown, hts⟩ (k_X11_isBit l g cI cJ cB cZ cL p2 ip2 H.size hzp2) (va_cwS 1 hts (goodIn_app (g_3 (List.mem_cons_of_mem _ (List.mem_append_left _ (List.mem_of_getElem? (i := 3) rfl))) (List.mem_cons_of_mem _ (List.mem_append_left _ (List.mem_of_getElem? (i := 4) rfl))) (List.mem_cons_of_mem _ (List.mem_append_left _ (List.mem_of_getElem? (i := 2) rfl))) (by decide +kernel)) (goodIn_sub (fun _ h => List.mem_cons_of_mem _ (List.mem_append_right _ (List.mem_append_right _ (List.mem_append_left _ h)))) good_v_X11_isBit)) rfl rfl rfl (by decide +kernel) ⟨Nat.le_of_ble_eq_true rfl, Nat.le_of_ble_eq_true rfl⟩) (ps_RO (wc := []) hK hP [] rfl) rfl rfl hl.1 rfl (lv_room (Nat.le_of_ble_eq_true rfl)) dX11_does_17 ⟨Nat.le_of_ble_eq_true rfl, Nat.le_of_ble_eq_true rfl⟩) hS hA hP (fun r9 u10 H locs hw11 hP hS => ?_)
      rcases hw11 with ⟨rfl, hw11_0⟩ | ⟨rfl, hw11_0⟩
      · refine lv_if_ne (tgt := 26) hx hb dX11_does_20 (by decide) (fun _ => ?_) (fun c12 => absurd c12 (by decide))
        refine lv_iload_n hx hb dX11_does_26 rfl (lv_at hl 1 rfl) ?_
        refine lv_iload_n hx hb dX11_does_27 rfl (lv_at hl 2 rfl) ?_
        refine lv_iconst (v := 2) hx hb dX11_does_28 (by decide) ?_
        refine lv_iload_n hx hb dX11_does_29 rfl (lv_at hl 3 rfl) ?_
        refine lv_imul hx hb dX11_does_30 ?_
        refine lv_iadd hx hb dX11_does_31 ?_
        refine lv_ishr hx hb dX11_does_32 ?_
        refine lv_iconst (v := 1) hx hb dX11_does_33 (by decide) ?_
        refine lv_iand hx hb dX11_does_34 ?_
        exact W.iret (v := ((p0 >>> ((p1 + (2 * p2)) &&& (31 : Int32))) &&& 1)) hx hb hr (fun t ht hW => ⟨⟨((p0 >>> ((p1 + (2 * p2)) &&& (31 : Int32))) &&& 1), (), rfl, (if_pos ⟨⟨by omega, by omega⟩, ⟨by omega, by omega⟩, ⟨by omega, by omega⟩⟩).symm, trivial⟩, hS.F ht⟩) hS.2.2 dX11_does_35
      · refine lv_if_ne (tgt := 26) hx hb dX11_does_20 (by decide) (fun c13 => absurd c13 (by decide)) (fun _ => ?_)
        refine lv_bipush (v := (-2)) hx hb dX11_does_23 (by decide) ?_
        exact W.iret (v := (-2)) hx hb hr (fun t ht hW => ⟨⟨(-2), (), rfl, (if_neg (by omega)).symm, trivial⟩, hS.F ht⟩) hS.2.2 dX11_does_25
    · refine lv_if_eq (tgt := 23) hx hb dX11_does_13 (by decide) (fun _ => ?_) (fun c14 => absurd c14 (by decide))
      refine lv_bipush (v := (-2)) hx hb dX11_does_23 (by decide) ?_
      exact W.iret (v := (-2)) hx hb hr (fun t ht hW => ⟨⟨(-2), (), rfl, (if_neg (by omega)).symm, trivial⟩, hS.F ht⟩) hS.2.2 dX11_does_25
  · refine lv_if_eq (tgt := 23) hx hb dX11_does_6 (by decide) (fun _ => ?_) (fun c15 => absurd c15 (by decide))
    refine lv_bipush (v := (-2)) hx hb dX11_does_23 (by decide) ?_
    exact W.iret (v := (-2)) hx hb hr (fun t ht hW => ⟨⟨(-2), (), rfl, (if_neg (by omega)).symm, trivial⟩, hS.F ht⟩) hS.2.2 dX11_does_25
def v_X7_has : List Cond := .code yX7_has cX7_has 2 (some .boolean) :: (([.fieldLink RX7 15 "CardsAtYule$Slots" "size" "[I"] : List Cond) ++ (wsX70 ++ ([] : List Cond)))
theorem good_v_X7_has : v_X7_has.all goodWord = true := ga_c (by decide +kernel) (ga_a (by decide +kernel) (ga_a good_wsX70 rfl))
set_option maxHeartbeats 4000000 in
set_option maxRecDepth 100000 in
theorem k_X7_has (l : Launch) (g : va_G) (cI cJ cB cZ cL : ClassId) (sl : Nat) (s1 : Nat) (s2 : Nat) (s3 : Nat) (fz : Nat → Int32) (p0 : Int32) (ip0 : Int) (sz : Nat) (hzp0 : p0.toInt = ip0) (h0 : 0 ≤ ip0) (h1 : ip0 < 4) (hS_fz : ∀ k, k < 4 → fz k = (-1)) : Met l yX7_has v_X7_has ({ frames := 0, cells := 0, slots := 0, locals := 0 }) (va_Pc [.ref sl, .int p0] (pRO g (tyT cI cJ cB cZ cL) [(sl, .inr (7, [.ref s1, .ref s2, .ref s3])), (s2, .inl (cI, 4, .inl fz))] sz)) (va_Qi (fun (r : Int32) (u : Unit) => r = 0) (fun (_ : Unit) (_ : State) => True) (va_A [] sz)) 0 0 (va_A [] sz) := by
  refine Met.ofW (cc := cX7_has) (maxL := 2) (ret := (some .boolean)) (by decide) rfl ?_
  intro p e s m args below meth c s₁ B hml hv
  obtain ⟨rfl, hsz, hP, hK⟩ := hv
  have hx := B.exec
  have hb := B.bytes
  have hr := B.returns
  have hts := atoms_spec (ws := v_X7_has) B.pre
  have hown : s.vm.findClass RX7 = some m.cls := findClass_of_methodNamed B.named
  have hlocks := B.notSynchronized
  subst hsz
  have iX7 : ∀ w ∈ wsX70, w ∈ v_X7_has := (fun _ h => List.mem_cons_of_mem _ (List.mem_append_right _ (List.mem_append_left _ h)))
  generalize hAe : (va_A [] s.heap.size) = A
  have hA : ∀ q : Nat, s.heap.size ≤ q → A q := fun q h => by rw [← hAe]; exact Or.inr h
  have hS : va_S A s.heap s.heap [] := va_S.rf
  have hl := lv_entry ([.ref sl, .int p0]) (n := 2) (Nat.le_of_ble_eq_true rfl)
  rw [lg_entry_eq]
  generalize (lg_sl ([.ref sl, .int p0]) ++ List.replicate (2 - (lg_sl ([.ref sl, .int p0])).length) Slot.unset).toArray = ls at hl ⊢
  have hl : lv_has ls 2 [(0, .ref sl), (1, .int p0)] := hl
  have hP : va_P g vwCl [(sl, .inr (7, [.ref s1, .ref s2, .ref s3])), (s2, .inl (cI, 4, .inl fz))] s.heap := hP
  refine lv_aload_n hx hb dX7_has_0 rfl (lv_at hl 0 rfl) ?_
  refine va_get (D := g) (ci := 7) (v := .ref s2) (C := RX7) (T := TX7) (N := 3) hx hb hts iX7 hown hK hP 0 rfl rfl 1 (by decide) (hts (.fieldLink RX7 15 "CardsAtYule$Slots" "size" "[I") (List.mem_cons_of_mem _ (List.mem_append_left _ (List.mem_of_getElem? (i := 0) rfl)))) (fun _ h9 => h9) rfl dX7_has_1 ?_
  refine lv_iload_n hx hb dX7_has_4 rfl (lv_at hl 1 rfl) ?_
  refine va_iald (D := g) hx hb hK hP 1 0 rfl rfl (vi_in hzp0 (by omega) (by omega)) dX7_has_5 ?_
  refine lv_topi (nm_r (e' := (-1)) (hS_fz _ (cl_z hzp0 (by omega) (by omega))) ?_)
  refine lv_iconst (v := (-1)) hx hb dX7_has_6 (by decide) ?_
  refine lv_icmp_eq (tgt := 14) hx hb dX7_has_7 (by decide) (fun _ => ?_) (fun c1 => absurd c1 (by decide))
  refine lv_iconst (v := 0) hx hb dX7_has_14 (by decide) ?_
  exact W.zret (v := 0) hx hb hr rfl (fun t ht hW => ⟨⟨0, (), rfl, rfl, trivial⟩, hS.F ht⟩) hS.2.2 dX7_has_15
def v_X7_filled : List Cond := .code yX7_filled cX7_filled 3 (some .int) :: (([.methodLink RX7 22 yX7_has, .instanceMethod yX7_has, .selects RX7 yX7_has yX7_has, .initialized RX7] : List Cond) ++ (v_X7_has ++ ([] : List Cond)))
theorem good_v_X7_filled : v_X7_filled.all goodWord = true := ga_c (by decide +kernel) (ga_a (by decide +kernel) (ga_a good_v_X7_has rfl))
set_option maxHeartbeats 4000000 in
set_option maxRecDepth 100000 in
theorem k_X7_filled (l : Launch) (g : va_G) (cI cJ cB cZ cL : ClassId) (sl : Nat) (s1 : Nat) (s2 : Nat) (s3 : Nat) (fz : Nat → Int32) (sz : Nat) (hS_fz : ∀ k, k < 4 → fz k = (-1)) : Met l yX7_filled v_X7_filled ({ frames := 1, cells := 0, slots := 0, locals := 21 }) (va_Pc [.ref sl] (pRO g (tyT cI cJ cB cZ cL) [(sl, .inr (7, [.ref s1, .ref s2, .ref s3])), (s2, .inl (cI, 4, .inl fz))] sz)) (va_Qi (fun (r : Int32) (u : Unit) => r = 0) (fun (_ : Unit) (_ : State) => True) (va_A [] sz)) 0 0 (va_A [] sz) := by
  refine Met.ofW (cc := cX7_filled) (maxL := 3) (ret := (some .int)) (by decide) rfl ?_
  intro p e s m args below meth c s₁ B hml hv
  obtain ⟨rfl, hsz, hP, hK⟩ := hv
  have hx := B.exec
  have hb := B.bytes
  have hr := B.returns
  have hts := atoms_spec (ws := v_X7_filled) B.pre
  have hown : s.vm.findClass RX7 = some m.cls := findClass_of_methodNamed B.named
  have hlocks := B.notSynchronized
  subst hsz
  generalize hAe : (va_A [] s.heap.size) = A
  have hA : ∀ q : Nat, s.heap.size ≤ q → A q := fun q h => by rw [← hAe]; exact Or.inr h
  have hS : va_S A s.heap s.heap [] := va_S.rf
  have hl := lv_entry ([.ref sl]) (n := 3) (Nat.le_of_ble_eq_true rfl)
  rw [lg_entry_eq]
  generalize (lg_sl ([.ref sl]) ++ List.replicate (3 - (lg_sl ([.ref sl])).length) Slot.unset).toArray = ls at hl ⊢
  have hl : lv_has ls 3 [(0, .ref sl)] := hl
  have hP : va_P g vwCl [(sl, .inr (7, [.ref s1, .ref s2, .ref s3])), (s2, .inl (cI, 4, .inl fz))] s.heap := hP
  refine lv_iconst (v := 0) hx hb dX7_filled_0 (by decide) ?_
  refine lv_istore_n (lv' := [(1, .int 0), (0, .ref sl)]) hx hb dX7_filled_1 rfl hl (by decide) rfl (fun ls hl => ?_)
  refine lv_iconst (v := 0) hx hb dX7_filled_2 (by decide) ?_
  refine lv_istore_n (lv' := [(2, .int 0), (1, .int 0), (0, .ref sl)]) hx hb dX7_filled_3 rfl hl (by decide) rfl (fun ls hl => ?_)
  refine lv_iload_n hx hb dX7_filled_4 rfl (lv_at hl 0 rfl) ?_
  refine lv_iconst (v := 4) hx hb dX7_filled_5 (by decide) ?_
  refine lv_icmp_ge (tgt := 31) hx hb dX7_filled_6 (by decide) (fun c1 => absurd c1 (by decide)) (fun _ => ?_)
  refine lv_iload_n hx hb dX7_filled_9 rfl (lv_at hl 1 rfl) ?_
  refine lv_aload_n hx hb dX7_filled_10 rfl (lv_at hl 2 rfl) ?_
  refine lv_iload_n hx hb dX7_filled_11 rfl (lv_at hl 0 rfl) ?_
  refine ro_i (va_runV (As := [.int 0]) (rest := [.int 0]) ⟨hx, hb, hml, hown, hts⟩ (k_X7_has l g cI cJ cB cZ cL sl s1 s2 s3 fz 0 0 s.heap.size rfl (by omega) (by omega) hS_fz) (cwV 1 hts (goodIn_app (g_4 (List.mem_cons_of_mem _ (List.mem_append_left _ (List.mem_of_getElem? (i := 0) rfl))) (List.mem_cons_of_mem _ (List.mem_append_left _ (List.mem_of_getElem? (i := 1) rfl))) (List.mem_cons_of_mem _ (List.mem_append_left _ (List.mem_of_getElem? (i := 2) rfl))) (List.mem_cons_of_mem _ (List.mem_append_left _ (List.mem_of_getElem? (i := 3) rfl))) (by decide +kernel)) (goodIn_sub (fun _ h => List.mem_cons_of_mem _ (List.mem_append_right _ (List.mem_append_left _ h))) good_v_X7_has)) rfl rfl rfl (by decide +kernel) ⟨Nat.le_of_ble_eq_true rfl, Nat.le_of_ble_eq_true rfl⟩) (pv_RO (q := (RX7, TX7, 3)) (ci := 7) (q0 := 0) (wc := [(sl, .inr (7, [.ref s1, .ref s2, .ref s3])), (s2, .inl (cI, 4, .inl fz))]) hK hP [0, 1] rfl rfl rfl) rfl rfl hl.1 rfl (lv_room (Nat.le_of_ble_eq_true rfl)) dX7_filled_12 ⟨Nat.le_of_ble_eq_true rfl, Nat.le_of_ble_eq_true rfl⟩) hS hA hP (fun r2 u3 H locs hw4 hP hS => ?_)
  subst hw4
  refine lv_if_eq (tgt := 22) hx hb dX7_filled_15 (by decide) (fun _ => ?_) (fun c5 => absurd c5 (by decide))
  refine lv_iconst (v := 0) hx hb dX7_filled_22 (by decide) ?_
  refine lv_iadd hx hb dX7_filled_23 ?_
  refine lv_topi (nm_r (e' := 0) (by decide) ?_)
  refine lv_istore_n (lv' := [(1, .int 0), (2, .int 0), (0, .ref sl)]) hx hb dX7_filled_24 rfl hl (by decide) rfl (fun ls hl => ?_)
  refine lv_iinc (v := 1) (lv' := [(2, .int 1), (1, .int 0), (0, .ref sl)]) hx hb dX7_filled_25 hl (k := 1) rfl (by decide) (by decide) rfl (fun ls hl => ?_)
  refine lv_goto (tgt := 4) hx hb dX7_filled_28 (by decide) ?_
  refine lv_iload_n hx hb dX7_filled_4 rfl (lv_at hl 0 rfl) ?_
  refine lv_iconst (v := 4) hx hb dX7_filled_5 (by decide) ?_
  refine lv_icmp_ge (tgt := 31) hx hb dX7_filled_6 (by decide) (fun c6 => absurd c6 (by decide)) (fun _ => ?_)
  refine lv_iload_n hx hb dX7_filled_9 rfl (lv_at hl 1 rfl) ?_
  refine lv_aload_n hx hb dX7_filled_10 rfl (lv_at hl 2 rfl) ?_
  refine lv_iload_n hx hb dX7_filled_11 rfl (lv_at hl 0 rfl) ?_
  refine ro_i (va_runV (As := [.int 1]) (rest := [.int 0]) ⟨hx, hb, hml, hown, hts⟩ (k_X7_has l g cI cJ cB cZ cL sl s1 s2 s3 fz 1 1 H.size rfl (by omega) (by omega) hS_fz) (cwV 1 hts (goodIn_app (g_4 (List.mem_cons_of_mem _ (List.mem_append_left _ (List.mem_of_getElem? (i := 0) rfl))) (List.mem_cons_of_mem _ (List.mem_append_left _ (List.mem_of_getElem? (i := 1) rfl))) (List.mem_cons_of_mem _ (List.mem_append_left _ (List.mem_of_getElem? (i := 2) rfl))) (List.mem_cons_of_mem _ (List.mem_append_left _ (List.mem_of_getElem? (i := 3) rfl))) (by decide +kernel)) (goodIn_sub (fun _ h => List.mem_cons_of_mem _ (List.mem_append_right _ (List.mem_append_left _ h))) good_v_X7_has)) rfl rfl rfl (by decide +kernel) ⟨Nat.le_of_ble_eq_true rfl, Nat.le_of_ble_eq_true rfl⟩) (pv_RO (q := (RX7, TX7, 3)) (ci := 7) (q0 := 0) (wc := [(sl, .inr (7, [.ref s1, .ref s2, .ref s3])), (s2, .inl (cI, 4, .inl fz))]) hK hP [0, 1] rfl rfl rfl) rfl rfl hl.1 rfl (lv_room (Nat.le_of_ble_eq_true rfl)) dX7_filled_12 ⟨Nat.le_of_ble_eq_true rfl, Nat.le_of_ble_eq_true rfl⟩) hS hA hP (fun r7 u8 H locs hw9 hP hS => ?_)
  subst hw9
  refine lv_if_eq (tgt := 22) hx hb dX7_filled_15 (by decide) (fun _ => ?_) (fun c10 => absurd c10 (by decide))
  refine lv_iconst (v := 0) hx hb dX7_filled_22 (by decide) ?_
  refine lv_iadd hx hb dX7_filled_23 ?_
  refine lv_topi (nm_r (e' := 0) (by decide) ?_)
  refine lv_istore_n (lv' := [(1, .int 0), (2, .int 1), (0, .ref sl)]) hx hb dX7_filled_24 rfl hl (by decide) rfl (fun ls hl => ?_)
  refine lv_iinc (v := 2) (lv' := [(2, .int 2), (1, .int 0), (0, .ref sl)]) hx hb dX7_filled_25 hl (k := 1) rfl (by decide) (by decide) rfl (fun ls hl => ?_)
  refine lv_goto (tgt := 4) hx hb dX7_filled_28 (by decide) ?_
  refine lv_iload_n hx hb dX7_filled_4 rfl (lv_at hl 0 rfl) ?_
  refine lv_iconst (v := 4) hx hb dX7_filled_5 (by decide) ?_
  refine lv_icmp_ge (tgt := 31) hx hb dX7_filled_6 (by decide) (fun c11 => absurd c11 (by decide)) (fun _ => ?_)
  refine lv_iload_n hx hb dX7_filled_9 rfl (lv_at hl 1 rfl) ?_
  refine lv_aload_n hx hb dX7_filled_10 rfl (lv_at hl 2 rfl) ?_
  refine lv_iload_n hx hb dX7_filled_11 rfl (lv_at hl 0 rfl) ?_
  refine ro_i (va_runV (As := [.int 2]) (rest := [.int 0]) ⟨hx, hb, hml, hown, hts⟩ (k_X7_has l g cI cJ cB cZ cL sl s1 s2 s3 fz 2 2 H.size rfl (by omega) (by omega) hS_fz) (cwV 1 hts (goodIn_app (g_4 (List.mem_cons_of_mem _ (List.mem_append_left _ (List.mem_of_getElem? (i := 0) rfl))) (List.mem_cons_of_mem _ (List.mem_append_left _ (List.mem_of_getElem? (i := 1) rfl))) (List.mem_cons_of_mem _ (List.mem_append_left _ (List.mem_of_getElem? (i := 2) rfl))) (List.mem_cons_of_mem _ (List.mem_append_left _ (List.mem_of_getElem? (i := 3) rfl))) (by decide +kernel)) (goodIn_sub (fun _ h => List.mem_cons_of_mem _ (List.mem_append_right _ (List.mem_append_left _ h))) good_v_X7_has)) rfl rfl rfl (by decide +kernel) ⟨Nat.le_of_ble_eq_true rfl, Nat.le_of_ble_eq_true rfl⟩) (pv_RO (q := (RX7, TX7, 3)) (ci := 7) (q0 := 0) (wc := [(sl, .inr (7, [.ref s1, .ref s2, .ref s3])), (s2, .inl (cI, 4, .inl fz))]) hK hP [0, 1] rfl rfl rfl) rfl rfl hl.1 rfl (lv_room (Nat.le_of_ble_eq_true rfl)) dX7_filled_12 ⟨Nat.le_of_ble_eq_true rfl, Nat.le_of_ble_eq_true rfl⟩) hS hA hP (fun r12 u13 H locs hw14 hP hS => ?_)
  subst hw14
  refine lv_if_eq (tgt := 22) hx hb dX7_filled_15 (by decide) (fun _ => ?_) (fun c15 => absurd c15 (by decide))
  refine lv_iconst (v := 0) hx hb dX7_filled_22 (by decide) ?_
  refine lv_iadd hx hb dX7_filled_23 ?_
  refine lv_topi (nm_r (e' := 0) (by decide) ?_)
  refine lv_istore_n (lv' := [(1, .int 0), (2, .int 2), (0, .ref sl)]) hx hb dX7_filled_24 rfl hl (by decide) rfl (fun ls hl => ?_)
  refine lv_iinc (v := 3) (lv' := [(2, .int 3), (1, .int 0), (0, .ref sl)]) hx hb dX7_filled_25 hl (k := 1) rfl (by decide) (by decide) rfl (fun ls hl => ?_)
  refine lv_goto (tgt := 4) hx hb dX7_filled_28 (by decide) ?_
  refine lv_iload_n hx hb dX7_filled_4 rfl (lv_at hl 0 rfl) ?_
  refine lv_iconst (v := 4) hx hb dX7_filled_5 (by decide) ?_
  refine lv_icmp_ge (tgt := 31) hx hb dX7_filled_6 (by decide) (fun c16 => absurd c16 (by decide)) (fun _ => ?_)
  refine lv_iload_n hx hb dX7_filled_9 rfl (lv_at hl 1 rfl) ?_
  refine lv_aload_n hx hb dX7_filled_10 rfl (lv_at hl 2 rfl) ?_
  refine lv_iload_n hx hb dX7_filled_11 rfl (lv_at hl 0 rfl) ?_
  refine ro_i (va_runV (As := [.int 3]) (rest := [.int 0]) ⟨hx, hb, hml, hown, hts⟩ (k_X7_has l g cI cJ cB cZ cL sl s1 s2 s3 fz 3 3 H.size rfl (by omega) (by omega) hS_fz) (cwV 1 hts (goodIn_app (g_4 (List.mem_cons_of_mem _ (List.mem_append_left _ (List.mem_of_getElem? (i := 0) rfl))) (List.mem_cons_of_mem _ (List.mem_append_left _ (List.mem_of_getElem? (i := 1) rfl))) (List.mem_cons_of_mem _ (List.mem_append_left _ (List.mem_of_getElem? (i := 2) rfl))) (List.mem_cons_of_mem _ (List.mem_append_left _ (List.mem_of_getElem? (i := 3) rfl))) (by decide +kernel)) (goodIn_sub (fun _ h => List.mem_cons_of_mem _ (List.mem_append_right _ (List.mem_append_left _ h))) good_v_X7_has)) rfl rfl rfl (by decide +kernel) ⟨Nat.le_of_ble_eq_true rfl, Nat.le_of_ble_eq_true rfl⟩) (pv_RO (q := (RX7, TX7, 3)) (ci := 7) (q0 := 0) (wc := [(sl, .inr (7, [.ref s1, .ref s2, .ref s3])), (s2, .inl (cI, 4, .inl fz))]) hK hP [0, 1] rfl rfl rfl) rfl rfl hl.1 rfl (lv_room (Nat.le_of_ble_eq_true rfl)) dX7_filled_12 ⟨Nat.le_of_ble_eq_true rfl, Nat.le_of_ble_eq_true rfl⟩) hS hA hP (fun r17 u18 H locs hw19 hP hS => ?_)
  subst hw19
  refine lv_if_eq (tgt := 22) hx hb dX7_filled_15 (by decide) (fun _ => ?_) (fun c20 => absurd c20 (by decide))
  refine lv_iconst (v := 0) hx hb dX7_filled_22 (by decide) ?_
  refine lv_iadd hx hb dX7_filled_23 ?_
  refine lv_topi (nm_r (e' := 0) (by decide) ?_)
  refine lv_istore_n (lv' := [(1, .int 0), (2, .int 3), (0, .ref sl)]) hx hb dX7_filled_24 rfl hl (by decide) rfl (fun ls hl => ?_)
  refine lv_iinc (v := 4) (lv' := [(2, .int 4), (1, .int 0), (0, .ref sl)]) hx hb dX7_filled_25 hl (k := 1) rfl (by decide) (by decide) rfl (fun ls hl => ?_)
  refine lv_goto (tgt := 4) hx hb dX7_filled_28 (by decide) ?_
  refine lv_iload_n hx hb dX7_filled_4 rfl (lv_at hl 0 rfl) ?_
  refine lv_iconst (v := 4) hx hb dX7_filled_5 (by decide) ?_
  refine lv_icmp_ge (tgt := 31) hx hb dX7_filled_6 (by decide) (fun _ => ?_) (fun c21 => absurd c21 (by decide))
  refine lv_iload_n hx hb dX7_filled_31 rfl (lv_at hl 1 rfl) ?_
  exact W.iret (v := 0) hx hb hr (fun t ht hW => ⟨⟨0, (), rfl, rfl, trivial⟩, hS.F ht⟩) hS.2.2 dX7_filled_32
def v_X4_lostCards : List Cond := .code yX4_lostCards cX4_lostCards 3 (some .int) :: (([.fieldLink RX4 53 "CardsAtYule$Land" "pairs" "I"] : List Cond) ++ (wsX40 ++ ([] : List Cond)))
theorem good_v_X4_lostCards : v_X4_lostCards.all goodWord = true := ga_c (by decide +kernel) (ga_a (by decide +kernel) (ga_a good_wsX40 rfl))
set_option maxHeartbeats 4000000 in
set_option maxRecDepth 100000 in
theorem k_X4_lostCards (l : Launch) (g : va_G) (cI cJ cB cZ cL : ClassId) (ld : Nat) (l1 : Nat) (l2 : Nat) (l3 : Nat) (l4 : Nat) (l5 : Nat) (l6 : Nat) (l7 : Nat) (l8 : Nat) (sz : Nat)  : Met l yX4_lostCards v_X4_lostCards ({ frames := 0, cells := 0, slots := 0, locals := 0 }) (va_Pc [.ref ld] (pRO g (tyT cI cJ cB cZ cL) [(ld, .inr (4, [.int 0, .int 0, .int 0, .int 0, .int 0, .int 0, .long 0, .ref l1, .ref l2, .ref l3, .ref l4, .ref l5, .ref l6, .ref l7, .ref l8]))] sz)) (va_Qi (fun (r : Int32) (u : Unit) => r = 0) (fun (_ : Unit) (_ : State) => True) (va_A [] sz)) 0 0 (va_A [] sz) := by
  refine Met.ofW (cc := cX4_lostCards) (maxL := 3) (ret := (some .int)) (by decide) rfl ?_
  intro p e s m args below meth c s₁ B hml hv
  obtain ⟨rfl, hsz, hP, hK⟩ := hv
  have hx := B.exec
  have hb := B.bytes
  have hr := B.returns
  have hts := atoms_spec (ws := v_X4_lostCards) B.pre
  have hown : s.vm.findClass RX4 = some m.cls := findClass_of_methodNamed B.named
  have hlocks := B.notSynchronized
  subst hsz
  have iX4 : ∀ w ∈ wsX40, w ∈ v_X4_lostCards := (fun _ h => List.mem_cons_of_mem _ (List.mem_append_right _ (List.mem_append_left _ h)))
  generalize hAe : (va_A [] s.heap.size) = A
  have hA : ∀ q : Nat, s.heap.size ≤ q → A q := fun q h => by rw [← hAe]; exact Or.inr h
  have hS : va_S A s.heap s.heap [] := va_S.rf
  have hl := lv_entry ([.ref ld]) (n := 3) (Nat.le_of_ble_eq_true rfl)
  rw [lg_entry_eq]
  generalize (lg_sl ([.ref ld]) ++ List.replicate (3 - (lg_sl ([.ref ld])).length) Slot.unset).toArray = ls at hl ⊢
  have hl : lv_has ls 3 [(0, .ref ld)] := hl
  have hP : va_P g vwCl [(ld, .inr (4, [.int 0, .int 0, .int 0, .int 0, .int 0, .int 0, .long 0, .ref l1, .ref l2, .ref l3, .ref l4, .ref l5, .ref l6, .ref l7, .ref l8]))] s.heap := hP
  refine lv_iconst (v := 0) hx hb dX4_lostCards_0 (by decide) ?_
  refine lv_istore_n (lv' := [(1, .int 0), (0, .ref ld)]) hx hb dX4_lostCards_1 rfl hl (by decide) rfl (fun ls hl => ?_)
  refine lv_iconst (v := 0) hx hb dX4_lostCards_2 (by decide) ?_
  refine lv_istore_n (lv' := [(2, .int 0), (1, .int 0), (0, .ref ld)]) hx hb dX4_lostCards_3 rfl hl (by decide) rfl (fun ls hl => ?_)
  refine lv_iload_n hx hb dX4_lostCards_4 rfl (lv_at hl 0 rfl) ?_
  refine lv_iconst (v := 2) hx hb dX4_lostCards_5 (by decide) ?_
  refine lv_aload_n hx hb dX4_lostCards_6 rfl (lv_at hl 2 rfl) ?_
  refine va_get (D := g) (ci := 4) (v := .int 0) (C := RX4) (T := TX4) (N := 15) hx hb hts iX4 hown hK hP 0 rfl rfl 5 (by decide) (hts (.fieldLink RX4 53 "CardsAtYule$Land" "pairs" "I") (List.mem_cons_of_mem _ (List.mem_append_left _ (List.mem_of_getElem? (i := 0) rfl)))) (fun _ h9 => h9) rfl dX4_lostCards_7 ?_
  refine lv_imul hx hb dX4_lostCards_10 ?_
  refine lv_topi (nm_r (e' := 0) (by decide) ?_)
  refine lv_icmp_ge (tgt := 32) hx hb dX4_lostCards_11 (by decide) (fun _ => ?_) (fun c1 => absurd c1 (by decide))
  refine lv_iload_n hx hb dX4_lostCards_32 rfl (lv_at hl 1 rfl) ?_
  exact W.iret (v := 0) hx hb hr (fun t ht hW => ⟨⟨0, (), rfl, rfl, trivial⟩, hS.F ht⟩) hS.2.2 dX4_lostCards_33
def v_X11_write : List Cond := .code yX11_write cX11_write 5 (some .int) :: (([.methodLink RX11 148 yX11_isBelow, .static yX11_isBelow, .initialized RX11, .fieldLink RX11 65 "CardsAtYule" "slots" "LCardsAtYule$Slots;", .methodLink RX11 394 yX7_has, .instanceMethod yX7_has, .selects RX7 yX7_has yX7_has, .initialized RX7] : List Cond) ++ (v_X11_isBelow ++ (v_X7_has ++ (wsX110 ++ ([] : List Cond)))))
theorem good_v_X11_write : v_X11_write.all goodWord = true := ga_c (by decide +kernel) (ga_a (by decide +kernel) (ga_a good_v_X11_isBelow (ga_a good_v_X7_has (ga_a good_wsX110 rfl))))
set_option maxHeartbeats 4000000 in
set_option maxRecDepth 100000 in
theorem k_X11_write (l : Launch) (g : va_G) (cI cJ cB cZ cL : ClassId) (x : Nat) (tp : Nat) (ld : Nat) (im : Nat) (bk : Nat) (co : Nat) (fa : Nat) (ch : Nat) (wi : Nat) (sl : Nat) (se : Nat) (dr : Nat) (s1 : Nat) (s2 : Nat) (s3 : Nat) (fz : Nat → Int32) (p0 : Int32) (p1 : Int32) (p2 : Int64) (ip0 : Int) (sz : Nat) (hzp0 : p0.toInt = ip0) (hS_fz : ∀ k, k < 4 → fz k = (-1)) : Met l yX11_write v_X11_write ({ frames := 1, cells := 0, slots := 0, locals := 21 }) (va_Pc [.ref x, .int p0, .int p1, .long p2] (pRO g (tyT cI cJ cB cZ cL) [(x, .inr (10, [.ref tp, .ref ld, .ref im, .ref bk, .ref co, .ref fa, .ref ch, .ref wi, .ref sl, .ref se, .ref dr])), (sl, .inr (7, [.ref s1, .ref s2, .ref s3])), (s2, .inl (cI, 4, .inl fz))] sz)) (va_Qi (fun (r : Int32) (u : Unit) => (r = (-6) ∧ 0 ≤ ip0 ∧ ip0 < 4) ∨ (r = (-2) ∧ ¬ (0 ≤ ip0 ∧ ip0 < 4))) (fun (_ : Unit) (_ : State) => True) (va_A [] sz)) 0 0 (va_A [] sz) := by
  refine Met.ofW (cc := cX11_write) (maxL := 5) (ret := (some .int)) (by decide) rfl ?_
  intro p e s m args below meth c s₁ B hml hv
  obtain ⟨rfl, hsz, hP, hK⟩ := hv
  have hx := B.exec
  have hb := B.bytes
  have hr := B.returns
  have hts := atoms_spec (ws := v_X11_write) B.pre
  have hown : s.vm.findClass RX11 = some m.cls := findClass_of_methodNamed B.named
  have hlocks := B.notSynchronized
  subst hsz
  have iX11 : ∀ w ∈ wsX110, w ∈ v_X11_write := (fun _ h => List.mem_cons_of_mem _ (List.mem_append_right _ (List.mem_append_right _ (List.mem_append_right _ (List.mem_append_left _ h)))))
  generalize hAe : (va_A [] s.heap.size) = A
  have hA : ∀ q : Nat, s.heap.size ≤ q → A q := fun q h => by rw [← hAe]; exact Or.inr h
  have hS : va_S A s.heap s.heap [] := va_S.rf
  have hl := lv_entry ([.ref x, .int p0, .int p1, .long p2]) (n := 5) (Nat.le_of_ble_eq_true rfl)
  rw [lg_entry_eq]
  generalize (lg_sl ([.ref x, .int p0, .int p1, .long p2]) ++ List.replicate (5 - (lg_sl ([.ref x, .int p0, .int p1, .long p2])).length) Slot.unset).toArray = ls at hl ⊢
  have hl : lv_has ls 5 [(0, .ref x), (1, .int p0), (2, .int p1), (3, .long p2)] := hl
  have hP : va_P g vwCl [(x, .inr (10, [.ref tp, .ref ld, .ref im, .ref bk, .ref co, .ref fa, .ref ch, .ref wi, .ref sl, .ref se, .ref dr])), (sl, .inr (7, [.ref s1, .ref s2, .ref s3])), (s2, .inl (cI, 4, .inl fz))] s.heap := hP
  refine lv_iload_n hx hb dX11_write_0 rfl (lv_at hl 1 rfl) ?_
  refine lv_iconst (v := 4) hx hb dX11_write_1 (by decide) ?_
  refine ro_i (va_runS (As := [.int p0, .int 4]) (rest := []) ⟨hx, hb, hml, hown, hts⟩ (k_X11_isBelow l g cI cJ cB cZ cL p0 4 ip0 4 s.heap.size hzp0 rfl) (va_cwS 2 hts (goodIn_app (g_3 (List.mem_cons_of_mem _ (List.mem_append_left _ (List.mem_of_getElem? (i := 0) rfl))) (List.mem_cons_of_mem _ (List.mem_append_left _ (List.mem_of_getElem? (i := 1) rfl))) (List.mem_cons_of_mem _ (List.mem_append_left _ (List.mem_of_getElem? (i := 2) rfl))) (by decide +kernel)) (goodIn_sub (fun _ h => List.mem_cons_of_mem _ (List.mem_append_right _ (List.mem_append_left _ h))) good_v_X11_isBelow)) rfl rfl rfl (by decide +kernel) ⟨Nat.le_of_ble_eq_true rfl, Nat.le_of_ble_eq_true rfl⟩) (ps_RO (wc := []) hK hP [] rfl) rfl rfl hl.1 rfl (lv_room (Nat.le_of_ble_eq_true rfl)) dX11_write_2 ⟨Nat.le_of_ble_eq_true rfl, Nat.le_of_ble_eq_true rfl⟩) hS hA hP (fun r1 u2 H locs hw3 hP hS => ?_)
  rcases hw3 with ⟨rfl, hw3_0, hw3_1⟩ | ⟨rfl, hw3_0⟩
  · refine lv_if_ne (tgt := 11) hx hb dX11_write_5 (by decide) (fun _ => ?_) (fun c4 => absurd c4 (by decide))
    refine lv_aload_n hx hb dX11_write_11 rfl (lv_at hl 0 rfl) ?_
    refine va_get (D := g) (ci := 10) (v := .ref sl) (C := RX11) (T := TX11) (N := 11) hx hb hts iX11 hown hK hP 0 rfl rfl 8 (by decide) (hts (.fieldLink RX11 65 "CardsAtYule" "slots" "LCardsAtYule$Slots;") (List.mem_cons_of_mem _ (List.mem_append_left _ (List.mem_of_getElem? (i := 3) rfl)))) (fun _ h9 => h9) rfl dX11_write_12 ?_
    refine lv_iload_n hx hb dX11_write_15 rfl (lv_at hl 1 rfl) ?_
    refine ro_i (va_runV (As := [.int p0]) (rest := []) ⟨hx, hb, hml, hown, hts⟩ (k_X7_has l g cI cJ cB cZ cL sl s1 s2 s3 fz p0 ip0 H.size hzp0 (by omega) (by omega) hS_fz) (cwV 1 hts (goodIn_app (g_4 (List.mem_cons_of_mem _ (List.mem_append_left _ (List.mem_of_getElem? (i := 4) rfl))) (List.mem_cons_of_mem _ (List.mem_append_left _ (List.mem_of_getElem? (i := 5) rfl))) (List.mem_cons_of_mem _ (List.mem_append_left _ (List.mem_of_getElem? (i := 6) rfl))) (List.mem_cons_of_mem _ (List.mem_append_left _ (List.mem_of_getElem? (i := 7) rfl))) (by decide +kernel)) (goodIn_sub (fun _ h => List.mem_cons_of_mem _ (List.mem_append_right _ (List.mem_append_right _ (List.mem_append_left _ h)))) good_v_X7_has)) rfl rfl rfl (by decide +kernel) ⟨Nat.le_of_ble_eq_true rfl, Nat.le_of_ble_eq_true rfl⟩) (pv_RO (q := (RX7, TX7, 3)) (ci := 7) (q0 := 0) (wc := [(sl, .inr (7, [.ref s1, .ref s2, .ref s3])), (s2, .inl (cI, 4, .inl fz))]) hK hP [1, 2] rfl rfl rfl) rfl rfl hl.1 rfl (lv_room (Nat.le_of_ble_eq_true rfl)) dX11_write_16 ⟨Nat.le_of_ble_eq_true rfl, Nat.le_of_ble_eq_true rfl⟩) hS hA hP (fun r5 u6 H locs hw7 hP hS => ?_)
    subst hw7
    refine lv_if_ne (tgt := 25) hx hb dX11_write_19 (by decide) (fun c8 => absurd c8 (by decide)) (fun _ => ?_)
    refine lv_bipush (v := (-6)) hx hb dX11_write_22 (by decide) ?_
    exact W.iret (v := (-6)) hx hb hr (fun t ht hW => ⟨⟨(-6), (), rfl, Or.inl ⟨rfl, by omega, by omega⟩, trivial⟩, hS.F ht⟩) hS.2.2 dX11_write_24
  · refine lv_if_ne (tgt := 11) hx hb dX11_write_5 (by decide) (fun c9 => absurd c9 (by decide)) (fun _ => ?_)
    refine lv_bipush (v := (-2)) hx hb dX11_write_8 (by decide) ?_
    exact W.iret (v := (-2)) hx hb hr (fun t ht hW => ⟨⟨(-2), (), rfl, Or.inr ⟨rfl, by omega⟩, trivial⟩, hS.F ht⟩) hS.2.2 dX11_write_10
def v_X11_paste : List Cond := .code yX11_paste cX11_paste 6 (some .int) :: (([.methodLink RX11 148 yX11_isBelow, .static yX11_isBelow, .initialized RX11, .fieldLink RX11 65 "CardsAtYule" "slots" "LCardsAtYule$Slots;", .methodLink RX11 394 yX7_has, .instanceMethod yX7_has, .selects RX7 yX7_has yX7_has, .initialized RX7] : List Cond) ++ (v_X11_isBelow ++ (v_X7_has ++ (wsX110 ++ ([] : List Cond)))))
theorem good_v_X11_paste : v_X11_paste.all goodWord = true := ga_c (by decide +kernel) (ga_a (by decide +kernel) (ga_a good_v_X11_isBelow (ga_a good_v_X7_has (ga_a good_wsX110 rfl))))
set_option maxHeartbeats 4000000 in
set_option maxRecDepth 100000 in
theorem k_X11_paste (l : Launch) (g : va_G) (cI cJ cB cZ cL : ClassId) (x : Nat) (tp : Nat) (ld : Nat) (im : Nat) (bk : Nat) (co : Nat) (fa : Nat) (ch : Nat) (wi : Nat) (sl : Nat) (se : Nat) (dr : Nat) (s1 : Nat) (s2 : Nat) (s3 : Nat) (fz : Nat → Int32) (p0 : Int32) (p1 : Int32) (p2 : Int32) (p3 : Int32) (p4 : Int32) (ip0 : Int) (ip1 : Int) (ip2 : Int) (ip3 : Int) (ip4 : Int) (sz : Nat) (hzp0 : p0.toInt = ip0) (hzp1 : p1.toInt = ip1) (hzp2 : p2.toInt = ip2) (hzp3 : p3.toInt = ip3) (hzp4 : p4.toInt = ip4) (hS_fz : ∀ k, k < 4 → fz k = (-1)) : Met l yX11_paste v_X11_paste ({ frames := 1, cells := 0, slots := 0, locals := 21 }) (va_Pc [.ref x, .int p0, .int p1, .int p2, .int p3, .int p4] (pRO g (tyT cI cJ cB cZ cL) [(x, .inr (10, [.ref tp, .ref ld, .ref im, .ref bk, .ref co, .ref fa, .ref ch, .ref wi, .ref sl, .ref se, .ref dr])), (sl, .inr (7, [.ref s1, .ref s2, .ref s3])), (s2, .inl (cI, 4, .inl fz))] sz)) (va_Qi (fun (r : Int32) (u : Unit) => (r = (-6) ∧ 0 ≤ ip0 ∧ ip0 < 4 ∧ 0 ≤ ip2 ∧ ip2 < 4) ∨ (r = (-2) ∧ ¬ (0 ≤ ip0 ∧ ip0 < 4 ∧ 0 ≤ ip2 ∧ ip2 < 4))) (fun (_ : Unit) (_ : State) => True) (va_A [] sz)) 0 0 (va_A [] sz) := by
  refine Met.ofW (cc := cX11_paste) (maxL := 6) (ret := (some .int)) (by decide) rfl ?_
  intro p e s m args below meth c s₁ B hml hv
  obtain ⟨rfl, hsz, hP, hK⟩ := hv
  have hx := B.exec
  have hb := B.bytes
  have hr := B.returns
  have hts := atoms_spec (ws := v_X11_paste) B.pre
  have hown : s.vm.findClass RX11 = some m.cls := findClass_of_methodNamed B.named
  have hlocks := B.notSynchronized
  subst hsz
  have iX11 : ∀ w ∈ wsX110, w ∈ v_X11_paste := (fun _ h => List.mem_cons_of_mem _ (List.mem_append_right _ (List.mem_append_right _ (List.mem_append_right _ (List.mem_append_left _ h)))))
  generalize hAe : (va_A [] s.heap.size) = A
  have hA : ∀ q : Nat, s.heap.size ≤ q → A q := fun q h => by rw [← hAe]; exact Or.inr h
  have hS : va_S A s.heap s.heap [] := va_S.rf
  have hl := lv_entry ([.ref x, .int p0, .int p1, .int p2, .int p3, .int p4]) (n := 6) (Nat.le_of_ble_eq_true rfl)
  rw [lg_entry_eq]
  generalize (lg_sl ([.ref x, .int p0, .int p1, .int p2, .int p3, .int p4]) ++ List.replicate (6 - (lg_sl ([.ref x, .int p0, .int p1, .int p2, .int p3, .int p4])).length) Slot.unset).toArray = ls at hl ⊢
  have hl : lv_has ls 6 [(0, .ref x), (1, .int p0), (2, .int p1), (3, .int p2), (4, .int p3), (5, .int p4)] := hl
  have hP : va_P g vwCl [(x, .inr (10, [.ref tp, .ref ld, .ref im, .ref bk, .ref co, .ref fa, .ref ch, .ref wi, .ref sl, .ref se, .ref dr])), (sl, .inr (7, [.ref s1, .ref s2, .ref s3])), (s2, .inl (cI, 4, .inl fz))] s.heap := hP
  refine lv_iload_n hx hb dX11_paste_0 rfl (lv_at hl 1 rfl) ?_
  refine lv_iconst (v := 4) hx hb dX11_paste_1 (by decide) ?_
  refine ro_i (va_runS (As := [.int p0, .int 4]) (rest := []) ⟨hx, hb, hml, hown, hts⟩ (k_X11_isBelow l g cI cJ cB cZ cL p0 4 ip0 4 s.heap.size hzp0 rfl) (va_cwS 2 hts (goodIn_app (g_3 (List.mem_cons_of_mem _ (List.mem_append_left _ (List.mem_of_getElem? (i := 0) rfl))) (List.mem_cons_of_mem _ (List.mem_append_left _ (List.mem_of_getElem? (i := 1) rfl))) (List.mem_cons_of_mem _ (List.mem_append_left _ (List.mem_of_getElem? (i := 2) rfl))) (by decide +kernel)) (goodIn_sub (fun _ h => List.mem_cons_of_mem _ (List.mem_append_right _ (List.mem_append_left _ h))) good_v_X11_isBelow)) rfl rfl rfl (by decide +kernel) ⟨Nat.le_of_ble_eq_true rfl, Nat.le_of_ble_eq_true rfl⟩) (ps_RO (wc := []) hK hP [] rfl) rfl rfl hl.1 rfl (lv_room (Nat.le_of_ble_eq_true rfl)) dX11_paste_2 ⟨Nat.le_of_ble_eq_true rfl, Nat.le_of_ble_eq_true rfl⟩) hS hA hP (fun r1 u2 H locs hw3 hP hS => ?_)
  rcases hw3 with ⟨rfl, hw3_0, hw3_1⟩ | ⟨rfl, hw3_0⟩
  · refine lv_if_eq (tgt := 16) hx hb dX11_paste_5 (by decide) (fun c4 => absurd c4 (by decide)) (fun _ => ?_)
    refine lv_iload_n hx hb dX11_paste_8 rfl (lv_at hl 3 rfl) ?_
    refine lv_iconst (v := 4) hx hb dX11_paste_9 (by decide) ?_
    refine ro_i (va_runS (As := [.int p2, .int 4]) (rest := []) ⟨hx, hb, hml, hown, hts⟩ (k_X11_isBelow l g cI cJ cB cZ cL p2 4 ip2 4 H.size hzp2 rfl) (va_cwS 2 hts (goodIn_app (g_3 (List.mem_cons_of_mem _ (List.mem_append_left _ (List.mem_of_getElem? (i := 0) rfl))) (List.mem_cons_of_mem _ (List.mem_append_left _ (List.mem_of_getElem? (i := 1) rfl))) (List.mem_cons_of_mem _ (List.mem_append_left _ (List.mem_of_getElem? (i := 2) rfl))) (by decide +kernel)) (goodIn_sub (fun _ h => List.mem_cons_of_mem _ (List.mem_append_right _ (List.mem_append_left _ h))) good_v_X11_isBelow)) rfl rfl rfl (by decide +kernel) ⟨Nat.le_of_ble_eq_true rfl, Nat.le_of_ble_eq_true rfl⟩) (ps_RO (wc := []) hK hP [] rfl) rfl rfl hl.1 rfl (lv_room (Nat.le_of_ble_eq_true rfl)) dX11_paste_10 ⟨Nat.le_of_ble_eq_true rfl, Nat.le_of_ble_eq_true rfl⟩) hS hA hP (fun r5 u6 H locs hw7 hP hS => ?_)
    rcases hw7 with ⟨rfl, hw7_0, hw7_1⟩ | ⟨rfl, hw7_0⟩
    · refine lv_if_ne (tgt := 19) hx hb dX11_paste_13 (by decide) (fun _ => ?_) (fun c8 => absurd c8 (by decide))
      refine lv_aload_n hx hb dX11_paste_19 rfl (lv_at hl 0 rfl) ?_
      refine va_get (D := g) (ci := 10) (v := .ref sl) (C := RX11) (T := TX11) (N := 11) hx hb hts iX11 hown hK hP 0 rfl rfl 8 (by decide) (hts (.fieldLink RX11 65 "CardsAtYule" "slots" "LCardsAtYule$Slots;") (List.mem_cons_of_mem _ (List.mem_append_left _ (List.mem_of_getElem? (i := 3) rfl)))) (fun _ h9 => h9) rfl dX11_paste_20 ?_
      refine lv_iload_n hx hb dX11_paste_23 rfl (lv_at hl 1 rfl) ?_
      refine ro_i (va_runV (As := [.int p0]) (rest := []) ⟨hx, hb, hml, hown, hts⟩ (k_X7_has l g cI cJ cB cZ cL sl s1 s2 s3 fz p0 ip0 H.size hzp0 (by omega) (by omega) hS_fz) (cwV 1 hts (goodIn_app (g_4 (List.mem_cons_of_mem _ (List.mem_append_left _ (List.mem_of_getElem? (i := 4) rfl))) (List.mem_cons_of_mem _ (List.mem_append_left _ (List.mem_of_getElem? (i := 5) rfl))) (List.mem_cons_of_mem _ (List.mem_append_left _ (List.mem_of_getElem? (i := 6) rfl))) (List.mem_cons_of_mem _ (List.mem_append_left _ (List.mem_of_getElem? (i := 7) rfl))) (by decide +kernel)) (goodIn_sub (fun _ h => List.mem_cons_of_mem _ (List.mem_append_right _ (List.mem_append_right _ (List.mem_append_left _ h)))) good_v_X7_has)) rfl rfl rfl (by decide +kernel) ⟨Nat.le_of_ble_eq_true rfl, Nat.le_of_ble_eq_true rfl⟩) (pv_RO (q := (RX7, TX7, 3)) (ci := 7) (q0 := 0) (wc := [(sl, .inr (7, [.ref s1, .ref s2, .ref s3])), (s2, .inl (cI, 4, .inl fz))]) hK hP [1, 2] rfl rfl rfl) rfl rfl hl.1 rfl (lv_room (Nat.le_of_ble_eq_true rfl)) dX11_paste_24 ⟨Nat.le_of_ble_eq_true rfl, Nat.le_of_ble_eq_true rfl⟩) hS hA hP (fun r9 u10 H locs hw11 hP hS => ?_)
      subst hw11
      refine lv_if_eq (tgt := 41) hx hb dX11_paste_27 (by decide) (fun _ => ?_) (fun c12 => absurd c12 (by decide))
      refine lv_bipush (v := (-6)) hx hb dX11_paste_41 (by decide) ?_
      exact W.iret (v := (-6)) hx hb hr (fun t ht hW => ⟨⟨(-6), (), rfl, Or.inl ⟨rfl, by omega, by omega, by omega, by omega⟩, trivial⟩, hS.F ht⟩) hS.2.2 dX11_paste_43
    · refine lv_if_ne (tgt := 19) hx hb dX11_paste_13 (by decide) (fun c13 => absurd c13 (by decide)) (fun _ => ?_)
      refine lv_bipush (v := (-2)) hx hb dX11_paste_16 (by decide) ?_
      exact W.iret (v := (-2)) hx hb hr (fun t ht hW => ⟨⟨(-2), (), rfl, Or.inr ⟨rfl, by omega⟩, trivial⟩, hS.F ht⟩) hS.2.2 dX11_paste_18
  · refine lv_if_eq (tgt := 16) hx hb dX11_paste_5 (by decide) (fun _ => ?_) (fun c14 => absurd c14 (by decide))
    refine lv_bipush (v := (-2)) hx hb dX11_paste_16 (by decide) ?_
    exact W.iret (v := (-2)) hx hb hr (fun t ht hW => ⟨⟨(-2), (), rfl, Or.inr ⟨rfl, by omega⟩, trivial⟩, hS.F ht⟩) hS.2.2 dX11_paste_18
def v_X11_on : List Cond := .code yX11_on cX11_on 2 (some .int) :: (([.methodLink RX11 148 yX11_isBelow, .static yX11_isBelow, .initialized RX11, .fieldLink RX11 23 "CardsAtYule" "images" "[LCardsAtYule$Land;"] : List Cond) ++ (v_X11_isBelow ++ (wsX110 ++ ([] : List Cond))))
theorem good_v_X11_on : v_X11_on.all goodWord = true := ga_c (by decide +kernel) (ga_a (by decide +kernel) (ga_a good_v_X11_isBelow (ga_a good_wsX110 rfl)))
set_option maxHeartbeats 4000000 in
set_option maxRecDepth 100000 in
theorem k_X11_on (l : Launch) (g : va_G) (cI cJ cB cZ cL : ClassId) (x : Nat) (tp : Nat) (ld : Nat) (im : Nat) (bk : Nat) (co : Nat) (fa : Nat) (ch : Nat) (wi : Nat) (sl : Nat) (se : Nat) (dr : Nat) (p0 : Int32) (ip0 : Int) (sz : Nat) (hzp0 : p0.toInt = ip0) : Met l yX11_on v_X11_on ({ frames := 1, cells := 0, slots := 0, locals := 21 }) (va_Pc [.ref x, .int p0] (pRO g (tyT cI cJ cB cZ cL) [(x, .inr (10, [.ref tp, .ref ld, .ref im, .ref bk, .ref co, .ref fa, .ref ch, .ref wi, .ref sl, .ref se, .ref dr])), (im, .inl (cL, 3, .inr (.inr (.inr (.inr (fun _ => none))))))] sz)) (va_Qi (fun (r : Int32) (u : Unit) => (r = (-6) ∧ 0 ≤ ip0 ∧ ip0 < 3) ∨ (r = (-2) ∧ ¬ (0 ≤ ip0 ∧ ip0 < 3))) (fun (_ : Unit) (_ : State) => True) (va_A [] sz)) 0 0 (va_A [] sz) := by
  refine Met.ofW (cc := cX11_on) (maxL := 2) (ret := (some .int)) (by decide) rfl ?_
  intro p e s m args below meth c s₁ B hml hv
  obtain ⟨rfl, hsz, hP, hK⟩ := hv
  have hx := B.exec
  have hb := B.bytes
  have hr := B.returns
  have hts := atoms_spec (ws := v_X11_on) B.pre
  have hown : s.vm.findClass RX11 = some m.cls := findClass_of_methodNamed B.named
  have hlocks := B.notSynchronized
  subst hsz
  have iX11 : ∀ w ∈ wsX110, w ∈ v_X11_on := (fun _ h => List.mem_cons_of_mem _ (List.mem_append_right _ (List.mem_append_right _ (List.mem_append_left _ h))))
  generalize hAe : (va_A [] s.heap.size) = A
  have hA : ∀ q : Nat, s.heap.size ≤ q → A q := fun q h => by rw [← hAe]; exact Or.inr h
  have hS : va_S A s.heap s.heap [] := va_S.rf
  have hl := lv_entry ([.ref x, .int p0]) (n := 2) (Nat.le_of_ble_eq_true rfl)
  rw [lg_entry_eq]
  generalize (lg_sl ([.ref x, .int p0]) ++ List.replicate (2 - (lg_sl ([.ref x, .int p0])).length) Slot.unset).toArray = ls at hl ⊢
  have hl : lv_has ls 2 [(0, .ref x), (1, .int p0)] := hl
  have hP : va_P g vwCl [(x, .inr (10, [.ref tp, .ref ld, .ref im, .ref bk, .ref co, .ref fa, .ref ch, .ref wi, .ref sl, .ref se, .ref dr])), (im, .inl (cL, 3, .inr (.inr (.inr (.inr (fun _ => none))))))] s.heap := hP
  refine lv_iload_n hx hb dX11_on_0 rfl (lv_at hl 1 rfl) ?_
  refine lv_iconst (v := 3) hx hb dX11_on_1 (by decide) ?_
  refine ro_i (va_runS (As := [.int p0, .int 3]) (rest := []) ⟨hx, hb, hml, hown, hts⟩ (k_X11_isBelow l g cI cJ cB cZ cL p0 3 ip0 3 s.heap.size hzp0 rfl) (va_cwS 2 hts (goodIn_app (g_3 (List.mem_cons_of_mem _ (List.mem_append_left _ (List.mem_of_getElem? (i := 0) rfl))) (List.mem_cons_of_mem _ (List.mem_append_left _ (List.mem_of_getElem? (i := 1) rfl))) (List.mem_cons_of_mem _ (List.mem_append_left _ (List.mem_of_getElem? (i := 2) rfl))) (by decide +kernel)) (goodIn_sub (fun _ h => List.mem_cons_of_mem _ (List.mem_append_right _ (List.mem_append_left _ h))) good_v_X11_isBelow)) rfl rfl rfl (by decide +kernel) ⟨Nat.le_of_ble_eq_true rfl, Nat.le_of_ble_eq_true rfl⟩) (ps_RO (wc := []) hK hP [] rfl) rfl rfl hl.1 rfl (lv_room (Nat.le_of_ble_eq_true rfl)) dX11_on_2 ⟨Nat.le_of_ble_eq_true rfl, Nat.le_of_ble_eq_true rfl⟩) hS hA hP (fun r1 u2 H locs hw3 hP hS => ?_)
  rcases hw3 with ⟨rfl, hw3_0, hw3_1⟩ | ⟨rfl, hw3_0⟩
  · refine lv_if_ne (tgt := 11) hx hb dX11_on_5 (by decide) (fun _ => ?_) (fun c4 => absurd c4 (by decide))
    refine lv_aload_n hx hb dX11_on_11 rfl (lv_at hl 0 rfl) ?_
    refine va_get (D := g) (ci := 10) (v := .ref im) (C := RX11) (T := TX11) (N := 11) hx hb hts iX11 hown hK hP 0 rfl rfl 2 (by decide) (hts (.fieldLink RX11 23 "CardsAtYule" "images" "[LCardsAtYule$Land;") (List.mem_cons_of_mem _ (List.mem_append_left _ (List.mem_of_getElem? (i := 3) rfl)))) (fun _ h9 => h9) rfl dX11_on_12 ?_
    refine lv_iload_n hx hb dX11_on_15 rfl (lv_at hl 1 rfl) ?_
    refine va_aldq (D := g) hx hb hK hP 1 4 rfl rfl (vi_in hzp0 (by omega) (by omega)) dX11_on_16 ?_
    refine lv_ifnonnullN hx hb dX11_on_17 ?_
    refine lv_bipush (v := (-6)) hx hb dX11_on_20 (by decide) ?_
    exact W.iret (v := (-6)) hx hb hr (fun t ht hW => ⟨⟨(-6), (), rfl, Or.inl ⟨rfl, by omega, by omega⟩, trivial⟩, hS.F ht⟩) hS.2.2 dX11_on_22
  · refine lv_if_ne (tgt := 11) hx hb dX11_on_5 (by decide) (fun c5 => absurd c5 (by decide)) (fun _ => ?_)
    refine lv_bipush (v := (-2)) hx hb dX11_on_8 (by decide) ?_
    exact W.iret (v := (-2)) hx hb hr (fun t ht hW => ⟨⟨(-2), (), rfl, Or.inr ⟨rfl, by omega⟩, trivial⟩, hS.F ht⟩) hS.2.2 dX11_on_10
def v_X11_count : List Cond := .code yX11_count cX11_count 2 (some .int) :: (([.fieldLink RX11 19 "CardsAtYule" "land" "LCardsAtYule$Land;", .fieldLink RX11 223 "CardsAtYule$Land" "people" "I", .fieldLink RX11 194 "CardsAtYule$Land" "pairs" "I", .fieldLink RX11 177 "CardsAtYule$Land" "years" "I", .fieldLink RX11 379 "CardsAtYule$Land" "card" "I", .fieldLink RX11 382 "CardsAtYule$Land" "hurt" "I", .fieldLink RX11 376 "CardsAtYule$Land" "strikes" "J", .methodLink RX11 212 yJ13_bitCount_95d88, .static yJ13_bitCount_95d88, .initialized RJ13, .methodLink RX11 385 yX4_lostCards, .instanceMethod yX4_lostCards, .selects RX4 yX4_lostCards yX4_lostCards, .initialized RX4, .fieldLink RX11 106 "CardsAtYule$Land" "lines" "I", .fieldLink RX11 10 "CardsAtYule" "tape" "LCardsAtYule$Tape;", .fieldLink RX11 83 "CardsAtYule$Tape" "length" "I", .fieldLink RX11 65 "CardsAtYule" "slots" "LCardsAtYule$Slots;", .methodLink RX11 388 yX7_filled, .instanceMethod yX7_filled, .selects RX7 yX7_filled yX7_filled, .initialized RX7] : List Cond) ++ (v_J13_bitCount_0 ++ (v_X4_lostCards ++ (v_X7_filled ++ (wsX110 ++ (wsX40 ++ (wsX80 ++ ([] : List Cond))))))))
theorem good_v_X11_count : v_X11_count.all goodWord = true := ga_c (by decide +kernel) (ga_a (by decide +kernel) (ga_a good_v_J13_bitCount_0 (ga_a good_v_X4_lostCards (ga_a good_v_X7_filled (ga_a good_wsX110 (ga_a good_wsX40 (ga_a good_wsX80 rfl)))))))
set_option maxHeartbeats 4000000 in
set_option maxRecDepth 100000 in
theorem k_X11_count (l : Launch) (g : va_G) (cI cJ cB cZ cL : ClassId) (x : Nat) (tp : Nat) (ld : Nat) (im : Nat) (bk : Nat) (co : Nat) (fa : Nat) (ch : Nat) (wi : Nat) (sl : Nat) (se : Nat) (dr : Nat) (l1 : Nat) (l2 : Nat) (l3 : Nat) (l4 : Nat) (l5 : Nat) (l6 : Nat) (l7 : Nat) (l8 : Nat) (tl : Nat) (btp : Nat) (s1 : Nat) (s2 : Nat) (s3 : Nat) (fz : Nat → Int32) (p0 : Int32) (ip0 : Int) (sz : Nat) (hzp0 : p0.toInt = ip0) (hS_fz : ∀ k, k < 4 → fz k = (-1)) : Met l yX11_count v_X11_count ({ frames := 2, cells := 0, slots := 0, locals := 43 }) (va_Pc [.ref x, .int p0] (pRO g (tyT cI cJ cB cZ cL) [(x, .inr (10, [.ref tp, .ref ld, .ref im, .ref bk, .ref co, .ref fa, .ref ch, .ref wi, .ref sl, .ref se, .ref dr])), (ld, .inr (4, [.int 0, .int 0, .int 0, .int 0, .int 0, .int 0, .long 0, .ref l1, .ref l2, .ref l3, .ref l4, .ref l5, .ref l6, .ref l7, .ref l8])), (tp, .inr (8, [.int 0, .ref tl, .int 0, .int (-1), .ref btp, .int 0, .int 0, .int 0, .int 0, .int 0])), (sl, .inr (7, [.ref s1, .ref s2, .ref s3])), (s2, .inl (cI, 4, .inl fz))] sz)) (va_Qi (fun (r : Int32) (u : Unit) => (r = 0 ∧ 0 ≤ ip0 ∧ ip0 ≤ 9) ∨ (r = (-1) ∧ ¬ (0 ≤ ip0 ∧ ip0 ≤ 9))) (fun (_ : Unit) (_ : State) => True) (va_A [] sz)) 0 0 (va_A [] sz) := by
  refine Met.ofW (cc := cX11_count) (maxL := 2) (ret := (some .int)) (by decide) rfl ?_
  intro p e s m args below meth c s₁ B hml hv
  obtain ⟨rfl, hsz, hP, hK⟩ := hv
  have hx := B.exec
  have hb := B.bytes
  have hr := B.returns
  have hts := atoms_spec (ws := v_X11_count) B.pre
  have hown : s.vm.findClass RX11 = some m.cls := findClass_of_methodNamed B.named
  have hlocks := B.notSynchronized
  subst hsz
  have iX11 : ∀ w ∈ wsX110, w ∈ v_X11_count := (fun _ h => List.mem_cons_of_mem _ (List.mem_append_right _ (List.mem_append_right _ (List.mem_append_right _ (List.mem_append_right _ (List.mem_append_left _ h))))))
  have iX4 : ∀ w ∈ wsX40, w ∈ v_X11_count := (fun _ h => List.mem_cons_of_mem _ (List.mem_append_right _ (List.mem_append_right _ (List.mem_append_right _ (List.mem_append_right _ (List.mem_append_right _ (List.mem_append_left _ h)))))))
  have iX8 : ∀ w ∈ wsX80, w ∈ v_X11_count := (fun _ h => List.mem_cons_of_mem _ (List.mem_append_right _ (List.mem_append_right _ (List.mem_append_right _ (List.mem_append_right _ (List.mem_append_right _ (List.mem_append_right _ (List.mem_append_left _ h))))))))
  generalize hAe : (va_A [] s.heap.size) = A
  have hA : ∀ q : Nat, s.heap.size ≤ q → A q := fun q h => by rw [← hAe]; exact Or.inr h
  have hS : va_S A s.heap s.heap [] := va_S.rf
  have hl := lv_entry ([.ref x, .int p0]) (n := 2) (Nat.le_of_ble_eq_true rfl)
  rw [lg_entry_eq]
  generalize (lg_sl ([.ref x, .int p0]) ++ List.replicate (2 - (lg_sl ([.ref x, .int p0])).length) Slot.unset).toArray = ls at hl ⊢
  have hl : lv_has ls 2 [(0, .ref x), (1, .int p0)] := hl
  have hP : va_P g vwCl [(x, .inr (10, [.ref tp, .ref ld, .ref im, .ref bk, .ref co, .ref fa, .ref ch, .ref wi, .ref sl, .ref se, .ref dr])), (ld, .inr (4, [.int 0, .int 0, .int 0, .int 0, .int 0, .int 0, .long 0, .ref l1, .ref l2, .ref l3, .ref l4, .ref l5, .ref l6, .ref l7, .ref l8])), (tp, .inr (8, [.int 0, .ref tl, .int 0, .int (-1), .ref btp, .int 0, .int 0, .int 0, .int 0, .int 0])), (sl, .inr (7, [.ref s1, .ref s2, .ref s3])), (s2, .inl (cI, 4, .inl fz))] s.heap := hP
  refine lv_iload_n hx hb dX11_count_0 rfl (lv_at hl 1 rfl) ?_
  have hz1 : (p0.toInt < 0 ∨ 9 < p0.toInt) ∨ p0 = 0 ∨ p0 = 1 ∨ p0 = 2 ∨ p0 = 3 ∨ p0 = 4 ∨ p0 = 5 ∨ p0 = 6 ∨ p0 = 7 ∨ p0 = 8 ∨ p0 = 9 := tsw_0_9 p0
  rcases hz1 with hz1 | rfl | rfl | rfl | rfl | rfl | rfl | rfl | rfl | rfl | rfl
  · refine lv_tableOut (tgt := 139) hx hb dX11_count_1 hz1 (by decide) ?_
    refine lv_iconst (v := (-1)) hx hb dX11_count_139 (by decide) ?_
    exact W.iret (v := (-1)) hx hb hr (fun t ht hW => ⟨⟨(-1), (), rfl, Or.inr ⟨rfl, by rw [← hzp0]; omega⟩, trivial⟩, hS.F ht⟩) hS.2.2 dX11_count_140
  · have f2 : ip0 = 0 := hzp0.symm
    refine lv_tableIn (off := 55) (tgt := 56) hx hb dX11_count_1 (by decide) (by decide) (by decide) (by decide) ?_
    refine lv_aload_n hx hb dX11_count_56 rfl (lv_at hl 0 rfl) ?_
    refine va_get (D := g) (ci := 10) (v := .ref ld) (C := RX11) (T := TX11) (N := 11) hx hb hts iX11 hown hK hP 0 rfl rfl 1 (by decide) (hts (.fieldLink RX11 19 "CardsAtYule" "land" "LCardsAtYule$Land;") (List.mem_cons_of_mem _ (List.mem_append_left _ (List.mem_of_getElem? (i := 0) rfl)))) (fun _ h9 => h9) rfl dX11_count_57 ?_
    refine va_get (D := g) (ci := 4) (v := .int 0) (C := RX4) (T := TX4) (N := 15) hx hb hts iX4 hown hK hP 1 rfl rfl 4 (by decide) (hts (.fieldLink RX11 223 "CardsAtYule$Land" "people" "I") (List.mem_cons_of_mem _ (List.mem_append_left _ (List.mem_of_getElem? (i := 1) rfl)))) (fun _ h9 => h9) rfl dX11_count_60 ?_
    exact W.iret (v := 0) hx hb hr (fun t ht hW => ⟨⟨0, (), rfl, Or.inl ⟨rfl, by omega, by omega⟩, trivial⟩, hS.F ht⟩) hS.2.2 dX11_count_63
  · have f3 : ip0 = 1 := hzp0.symm
    refine lv_tableIn (off := 63) (tgt := 64) hx hb dX11_count_1 (by decide) (by decide) (by decide) (by decide) ?_
    refine lv_aload_n hx hb dX11_count_64 rfl (lv_at hl 0 rfl) ?_
    refine va_get (D := g) (ci := 10) (v := .ref ld) (C := RX11) (T := TX11) (N := 11) hx hb hts iX11 hown hK hP 0 rfl rfl 1 (by decide) (hts (.fieldLink RX11 19 "CardsAtYule" "land" "LCardsAtYule$Land;") (List.mem_cons_of_mem _ (List.mem_append_left _ (List.mem_of_getElem? (i := 0) rfl)))) (fun _ h9 => h9) rfl dX11_count_65 ?_
    refine va_get (D := g) (ci := 4) (v := .int 0) (C := RX4) (T := TX4) (N := 15) hx hb hts iX4 hown hK hP 1 rfl rfl 5 (by decide) (hts (.fieldLink RX11 194 "CardsAtYule$Land" "pairs" "I") (List.mem_cons_of_mem _ (List.mem_append_left _ (List.mem_of_getElem? (i := 2) rfl)))) (fun _ h9 => h9) rfl dX11_count_68 ?_
    exact W.iret (v := 0) hx hb hr (fun t ht hW => ⟨⟨0, (), rfl, Or.inl ⟨rfl, by omega, by omega⟩, trivial⟩, hS.F ht⟩) hS.2.2 dX11_count_71
  · have f4 : ip0 = 2 := hzp0.symm
    refine lv_tableIn (off := 71) (tgt := 72) hx hb dX11_count_1 (by decide) (by decide) (by decide) (by decide) ?_
    refine lv_aload_n hx hb dX11_count_72 rfl (lv_at hl 0 rfl) ?_
    refine va_get (D := g) (ci := 10) (v := .ref ld) (C := RX11) (T := TX11) (N := 11) hx hb hts iX11 hown hK hP 0 rfl rfl 1 (by decide) (hts (.fieldLink RX11 19 "CardsAtYule" "land" "LCardsAtYule$Land;") (List.mem_cons_of_mem _ (List.mem_append_left _ (List.mem_of_getElem? (i := 0) rfl)))) (fun _ h9 => h9) rfl dX11_count_73 ?_
    refine va_get (D := g) (ci := 4) (v := .int 0) (C := RX4) (T := TX4) (N := 15) hx hb hts iX4 hown hK hP 1 rfl rfl 1 (by decide) (hts (.fieldLink RX11 177 "CardsAtYule$Land" "years" "I") (List.mem_cons_of_mem _ (List.mem_append_left _ (List.mem_of_getElem? (i := 3) rfl)))) (fun _ h9 => h9) rfl dX11_count_76 ?_
    exact W.iret (v := 0) hx hb hr (fun t ht hW => ⟨⟨0, (), rfl, Or.inl ⟨rfl, by omega, by omega⟩, trivial⟩, hS.F ht⟩) hS.2.2 dX11_count_79
  · have f5 : ip0 = 3 := hzp0.symm
    refine lv_tableIn (off := 79) (tgt := 80) hx hb dX11_count_1 (by decide) (by decide) (by decide) (by decide) ?_
    refine lv_aload_n hx hb dX11_count_80 rfl (lv_at hl 0 rfl) ?_
    refine va_get (D := g) (ci := 10) (v := .ref ld) (C := RX11) (T := TX11) (N := 11) hx hb hts iX11 hown hK hP 0 rfl rfl 1 (by decide) (hts (.fieldLink RX11 19 "CardsAtYule" "land" "LCardsAtYule$Land;") (List.mem_cons_of_mem _ (List.mem_append_left _ (List.mem_of_getElem? (i := 0) rfl)))) (fun _ h9 => h9) rfl dX11_count_81 ?_
    refine va_get (D := g) (ci := 4) (v := .int 0) (C := RX4) (T := TX4) (N := 15) hx hb hts iX4 hown hK hP 1 rfl rfl 2 (by decide) (hts (.fieldLink RX11 379 "CardsAtYule$Land" "card" "I") (List.mem_cons_of_mem _ (List.mem_append_left _ (List.mem_of_getElem? (i := 4) rfl)))) (fun _ h9 => h9) rfl dX11_count_84 ?_
    exact W.iret (v := 0) hx hb hr (fun t ht hW => ⟨⟨0, (), rfl, Or.inl ⟨rfl, by omega, by omega⟩, trivial⟩, hS.F ht⟩) hS.2.2 dX11_count_87
  · have f6 : ip0 = 4 := hzp0.symm
    refine lv_tableIn (off := 87) (tgt := 88) hx hb dX11_count_1 (by decide) (by decide) (by decide) (by decide) ?_
    refine lv_aload_n hx hb dX11_count_88 rfl (lv_at hl 0 rfl) ?_
    refine va_get (D := g) (ci := 10) (v := .ref ld) (C := RX11) (T := TX11) (N := 11) hx hb hts iX11 hown hK hP 0 rfl rfl 1 (by decide) (hts (.fieldLink RX11 19 "CardsAtYule" "land" "LCardsAtYule$Land;") (List.mem_cons_of_mem _ (List.mem_append_left _ (List.mem_of_getElem? (i := 0) rfl)))) (fun _ h9 => h9) rfl dX11_count_89 ?_
    refine va_get (D := g) (ci := 4) (v := .int 0) (C := RX4) (T := TX4) (N := 15) hx hb hts iX4 hown hK hP 1 rfl rfl 3 (by decide) (hts (.fieldLink RX11 382 "CardsAtYule$Land" "hurt" "I") (List.mem_cons_of_mem _ (List.mem_append_left _ (List.mem_of_getElem? (i := 5) rfl)))) (fun _ h9 => h9) rfl dX11_count_92 ?_
    exact W.iret (v := 0) hx hb hr (fun t ht hW => ⟨⟨0, (), rfl, Or.inl ⟨rfl, by omega, by omega⟩, trivial⟩, hS.F ht⟩) hS.2.2 dX11_count_95
  · have f7 : ip0 = 5 := hzp0.symm
    refine lv_tableIn (off := 95) (tgt := 96) hx hb dX11_count_1 (by decide) (by decide) (by decide) (by decide) ?_
    refine lv_aload_n hx hb dX11_count_96 rfl (lv_at hl 0 rfl) ?_
    refine va_get (D := g) (ci := 10) (v := .ref ld) (C := RX11) (T := TX11) (N := 11) hx hb hts iX11 hown hK hP 0 rfl rfl 1 (by decide) (hts (.fieldLink RX11 19 "CardsAtYule" "land" "LCardsAtYule$Land;") (List.mem_cons_of_mem _ (List.mem_append_left _ (List.mem_of_getElem? (i := 0) rfl)))) (fun _ h9 => h9) rfl dX11_count_97 ?_
    refine va_get (D := g) (ci := 4) (v := .long 0) (C := RX4) (T := TX4) (N := 15) hx hb hts iX4 hown hK hP 1 rfl rfl 6 (by decide) (hts (.fieldLink RX11 376 "CardsAtYule$Land" "strikes" "J") (List.mem_cons_of_mem _ (List.mem_append_left _ (List.mem_of_getElem? (i := 6) rfl)))) (fun _ h9 => h9) rfl dX11_count_100 ?_
    refine ro_i (va_runS (As := [.long 0]) (rest := []) ⟨hx, hb, hml, hown, hts⟩ (k_J13_bitCount_0 l g cI cJ cB cZ cL  s.heap.size ) (va_cwS 1 hts (goodIn_app (g_3 (List.mem_cons_of_mem _ (List.mem_append_left _ (List.mem_of_getElem? (i := 7) rfl))) (List.mem_cons_of_mem _ (List.mem_append_left _ (List.mem_of_getElem? (i := 8) rfl))) (List.mem_cons_of_mem _ (List.mem_append_left _ (List.mem_of_getElem? (i := 9) rfl))) (by decide +kernel)) (goodIn_sub (fun _ h => List.mem_cons_of_mem _ (List.mem_append_right _ (List.mem_append_left _ h))) good_v_J13_bitCount_0)) rfl rfl rfl (by decide +kernel) ⟨Nat.le_of_ble_eq_true rfl, Nat.le_of_ble_eq_true rfl⟩) (ps_RO (wc := []) hK hP [] rfl) rfl rfl hl.1 rfl (lv_room (Nat.le_of_ble_eq_true rfl)) dX11_count_103 ⟨Nat.le_of_ble_eq_true rfl, Nat.le_of_ble_eq_true rfl⟩) hS hA hP (fun r8 u9 H locs hw10 hP hS => ?_)
    subst hw10
    exact W.iret (v := 0) hx hb hr (fun t ht hW => ⟨⟨0, (), rfl, Or.inl ⟨rfl, by omega, by omega⟩, trivial⟩, hS.F ht⟩) hS.2.2 dX11_count_106
  · have f11 : ip0 = 6 := hzp0.symm
    refine lv_tableIn (off := 106) (tgt := 107) hx hb dX11_count_1 (by decide) (by decide) (by decide) (by decide) ?_
    refine lv_aload_n hx hb dX11_count_107 rfl (lv_at hl 0 rfl) ?_
    refine va_get (D := g) (ci := 10) (v := .ref ld) (C := RX11) (T := TX11) (N := 11) hx hb hts iX11 hown hK hP 0 rfl rfl 1 (by decide) (hts (.fieldLink RX11 19 "CardsAtYule" "land" "LCardsAtYule$Land;") (List.mem_cons_of_mem _ (List.mem_append_left _ (List.mem_of_getElem? (i := 0) rfl)))) (fun _ h9 => h9) rfl dX11_count_108 ?_
    refine ro_i (va_runV (As := []) (rest := []) ⟨hx, hb, hml, hown, hts⟩ (k_X4_lostCards l g cI cJ cB cZ cL ld l1 l2 l3 l4 l5 l6 l7 l8 s.heap.size ) (cwV 0 hts (goodIn_app (g_4 (List.mem_cons_of_mem _ (List.mem_append_left _ (List.mem_of_getElem? (i := 10) rfl))) (List.mem_cons_of_mem _ (List.mem_append_left _ (List.mem_of_getElem? (i := 11) rfl))) (List.mem_cons_of_mem _ (List.mem_append_left _ (List.mem_of_getElem? (i := 12) rfl))) (List.mem_cons_of_mem _ (List.mem_append_left _ (List.mem_of_getElem? (i := 13) rfl))) (by decide +kernel)) (goodIn_sub (fun _ h => List.mem_cons_of_mem _ (List.mem_append_right _ (List.mem_append_right _ (List.mem_append_left _ h)))) good_v_X4_lostCards)) rfl rfl rfl (by decide +kernel) ⟨Nat.le_of_ble_eq_true rfl, Nat.le_of_ble_eq_true rfl⟩) (pv_RO (q := (RX4, TX4, 15)) (ci := 4) (q0 := 0) (wc := [(ld, .inr (4, [.int 0, .int 0, .int 0, .int 0, .int 0, .int 0, .long 0, .ref l1, .ref l2, .ref l3, .ref l4, .ref l5, .ref l6, .ref l7, .ref l8]))]) hK hP [1] rfl rfl rfl) rfl rfl hl.1 rfl (lv_room (Nat.le_of_ble_eq_true rfl)) dX11_count_111 ⟨Nat.le_of_ble_eq_true rfl, Nat.le_of_ble_eq_true rfl⟩) hS hA hP (fun r12 u13 H locs hw14 hP hS => ?_)
    subst hw14
    exact W.iret (v := 0) hx hb hr (fun t ht hW => ⟨⟨0, (), rfl, Or.inl ⟨rfl, by omega, by omega⟩, trivial⟩, hS.F ht⟩) hS.2.2 dX11_count_114
  · have f15 : ip0 = 7 := hzp0.symm
    refine lv_tableIn (off := 114) (tgt := 115) hx hb dX11_count_1 (by decide) (by decide) (by decide) (by decide) ?_
    refine lv_aload_n hx hb dX11_count_115 rfl (lv_at hl 0 rfl) ?_
    refine va_get (D := g) (ci := 10) (v := .ref ld) (C := RX11) (T := TX11) (N := 11) hx hb hts iX11 hown hK hP 0 rfl rfl 1 (by decide) (hts (.fieldLink RX11 19 "CardsAtYule" "land" "LCardsAtYule$Land;") (List.mem_cons_of_mem _ (List.mem_append_left _ (List.mem_of_getElem? (i := 0) rfl)))) (fun _ h9 => h9) rfl dX11_count_116 ?_
    refine va_get (D := g) (ci := 4) (v := .int 0) (C := RX4) (T := TX4) (N := 15) hx hb hts iX4 hown hK hP 1 rfl rfl 0 (by decide) (hts (.fieldLink RX11 106 "CardsAtYule$Land" "lines" "I") (List.mem_cons_of_mem _ (List.mem_append_left _ (List.mem_of_getElem? (i := 14) rfl)))) (fun _ h9 => h9) rfl dX11_count_119 ?_
    exact W.iret (v := 0) hx hb hr (fun t ht hW => ⟨⟨0, (), rfl, Or.inl ⟨rfl, by omega, by omega⟩, trivial⟩, hS.F ht⟩) hS.2.2 dX11_count_122
  · have f16 : ip0 = 8 := hzp0.symm
    refine lv_tableIn (off := 122) (tgt := 123) hx hb dX11_count_1 (by decide) (by decide) (by decide) (by decide) ?_
    refine lv_aload_n hx hb dX11_count_123 rfl (lv_at hl 0 rfl) ?_
    refine va_get (D := g) (ci := 10) (v := .ref tp) (C := RX11) (T := TX11) (N := 11) hx hb hts iX11 hown hK hP 0 rfl rfl 0 (by decide) (hts (.fieldLink RX11 10 "CardsAtYule" "tape" "LCardsAtYule$Tape;") (List.mem_cons_of_mem _ (List.mem_append_left _ (List.mem_of_getElem? (i := 15) rfl)))) (fun _ h9 => h9) rfl dX11_count_124 ?_
    refine va_get (D := g) (ci := 8) (v := .int 0) (C := RX8) (T := TX8) (N := 10) hx hb hts iX8 hown hK hP 2 rfl rfl 0 (by decide) (hts (.fieldLink RX11 83 "CardsAtYule$Tape" "length" "I") (List.mem_cons_of_mem _ (List.mem_append_left _ (List.mem_of_getElem? (i := 16) rfl)))) (fun _ h9 => h9) rfl dX11_count_127 ?_
    exact W.iret (v := 0) hx hb hr (fun t ht hW => ⟨⟨0, (), rfl, Or.inl ⟨rfl, by omega, by omega⟩, trivial⟩, hS.F ht⟩) hS.2.2 dX11_count_130
  · have f17 : ip0 = 9 := hzp0.symm
    refine lv_tableIn (off := 130) (tgt := 131) hx hb dX11_count_1 (by decide) (by decide) (by decide) (by decide) ?_
    refine lv_aload_n hx hb dX11_count_131 rfl (lv_at hl 0 rfl) ?_
    refine va_get (D := g) (ci := 10) (v := .ref sl) (C := RX11) (T := TX11) (N := 11) hx hb hts iX11 hown hK hP 0 rfl rfl 8 (by decide) (hts (.fieldLink RX11 65 "CardsAtYule" "slots" "LCardsAtYule$Slots;") (List.mem_cons_of_mem _ (List.mem_append_left _ (List.mem_of_getElem? (i := 17) rfl)))) (fun _ h9 => h9) rfl dX11_count_132 ?_
    refine ro_i (va_runV (As := []) (rest := []) ⟨hx, hb, hml, hown, hts⟩ (k_X7_filled l g cI cJ cB cZ cL sl s1 s2 s3 fz s.heap.size hS_fz) (cwV 0 hts (goodIn_app (g_4 (List.mem_cons_of_mem _ (List.mem_append_left _ (List.mem_of_getElem? (i := 18) rfl))) (List.mem_cons_of_mem _ (List.mem_append_left _ (List.mem_of_getElem? (i := 19) rfl))) (List.mem_cons_of_mem _ (List.mem_append_left _ (List.mem_of_getElem? (i := 20) rfl))) (List.mem_cons_of_mem _ (List.mem_append_left _ (List.mem_of_getElem? (i := 21) rfl))) (by decide +kernel)) (goodIn_sub (fun _ h => List.mem_cons_of_mem _ (List.mem_append_right _ (List.mem_append_right _ (List.mem_append_right _ (List.mem_append_left _ h))))) good_v_X7_filled)) rfl rfl rfl (by decide +kernel) ⟨Nat.le_of_ble_eq_true rfl, Nat.le_of_ble_eq_true rfl⟩) (pv_RO (q := (RX7, TX7, 3)) (ci := 7) (q0 := 0) (wc := [(sl, .inr (7, [.ref s1, .ref s2, .ref s3])), (s2, .inl (cI, 4, .inl fz))]) hK hP [3, 4] rfl rfl rfl) rfl rfl hl.1 rfl (lv_room (Nat.le_of_ble_eq_true rfl)) dX11_count_135 ⟨Nat.le_of_ble_eq_true rfl, Nat.le_of_ble_eq_true rfl⟩) hS hA hP (fun r18 u19 H locs hw20 hP hS => ?_)
    subst hw20
    exact W.iret (v := 0) hx hb hr (fun t ht hW => ⟨⟨0, (), rfl, Or.inl ⟨rfl, by omega, by omega⟩, trivial⟩, hS.F ht⟩) hS.2.2 dX11_count_138
def v_X7_lay : List Cond := .code yX7_lay cX7_lay 5 none :: (([.fieldLink RX7 11 "CardsAtYule$Slots" "width" "[I", .fieldLink RX7 15 "CardsAtYule$Slots" "size" "[I", .fieldLink RX7 18 "CardsAtYule$Slots" "numbers" "[J"] : List Cond) ++ (wsX70 ++ ([] : List Cond)))
theorem good_v_X7_lay : v_X7_lay.all goodWord = true := ga_c (by decide +kernel) (ga_a (by decide +kernel) (ga_a good_wsX70 rfl))
set_option maxHeartbeats 4000000 in
set_option maxRecDepth 100000 in
theorem k_X7_lay (l : Launch) (g : va_G) (cI cJ cB cZ cL : ClassId) (sl : Nat) (s1 : Nat) (s2 : Nat) (s3 : Nat) (fz : Nat → Int32) (js : Nat) (jn : Nat) (p1 : Int32) (f0 : Nat → Int64) (sz : Nat) (h0 : js < 4) (h1 : jn ≤ 60) : Met l yX7_lay v_X7_lay ({ frames := 0, cells := 0, slots := 0, locals := 0 }) (va_Pc [.ref sl, .int (nI js), .int p1, .int (nI jn)] (pRW g (tyT cI cJ cB cZ cL) [(sl, .inr (7, [.ref s1, .ref s2, .ref s3])), (s1, .inl (cI, 4, .inl (fun _ => 0))), (s2, .inl (cI, 4, .inl fz)), (s3, .inl (cJ, 240, .inr (.inl f0)))] sz)) (va_Qv (fun (u : Unit) => True) (fun (_ : Unit) (t : State) => bRW g (tyT cI cJ cB cZ cL) (va_A [(sl, .inr (7, [.ref s1, .ref s2, .ref s3])), (s1, .inl (cI, 4, .inl (fun _ => 0))), (s2, .inl (cI, 4, .inl fz)), (s3, .inl (cJ, 240, .inr (.inl f0)))] sz) [] t) (va_A [(sl, .inr (7, [.ref s1, .ref s2, .ref s3])), (s1, .inl (cI, 4, .inl (fun _ => 0))), (s2, .inl (cI, 4, .inl fz)), (s3, .inl (cJ, 240, .inr (.inl f0)))] sz)) 0 0 (va_A [(sl, .inr (7, [.ref s1, .ref s2, .ref s3])), (s1, .inl (cI, 4, .inl (fun _ => 0))), (s2, .inl (cI, 4, .inl fz)), (s3, .inl (cJ, 240, .inr (.inl f0)))] sz) := by
  refine Met.ofW (cc := cX7_lay) (maxL := 5) (ret := none) (by decide) rfl ?_
  intro p e s m args below meth c s₁ B hml hv
  obtain ⟨rfl, hsz, hP, hK, hD0⟩ := hv
  have hx := B.exec
  have hb := B.bytes
  have hr := B.returns
  have hts := atoms_spec (ws := v_X7_lay) B.pre
  have hown : s.vm.findClass RX7 = some m.cls := findClass_of_methodNamed B.named
  have hlocks := B.notSynchronized
  subst hsz
  have iX7 : ∀ w ∈ wsX70, w ∈ v_X7_lay := (fun _ h => List.mem_cons_of_mem _ (List.mem_append_right _ (List.mem_append_left _ h)))
  have hD := hD0.self (sz := s.heap.size)
  generalize hAe : (va_A [(sl, .inr (7, [.ref s1, .ref s2, .ref s3])), (s1, .inl (cI, 4, .inl (fun _ => 0))), (s2, .inl (cI, 4, .inl fz)), (s3, .inl (cJ, 240, .inr (.inl f0)))] s.heap.size) = A at hD ⊢
  have hA : ∀ q : Nat, s.heap.size ≤ q → A q := fun q h => by rw [← hAe]; exact Or.inr h
  have hS : va_S A s.heap s.heap [] := va_S.rf
  have hl := lv_entry ([.ref sl, .int (nI js), .int p1, .int (nI jn)]) (n := 5) (Nat.le_of_ble_eq_true rfl)
  rw [lg_entry_eq]
  generalize (lg_sl ([.ref sl, .int (nI js), .int p1, .int (nI jn)]) ++ List.replicate (5 - (lg_sl ([.ref sl, .int (nI js), .int p1, .int (nI jn)])).length) Slot.unset).toArray = ls at hl ⊢
  have hl : lv_has ls 5 [(0, .ref sl), (1, .int (nI js)), (2, .int p1), (3, .int (nI jn))] := hl
  have hP : va_P g vwCl [(sl, .inr (7, [.ref s1, .ref s2, .ref s3])), (s1, .inl (cI, 4, .inl (fun _ => 0))), (s2, .inl (cI, 4, .inl fz)), (s3, .inl (cJ, 240, .inr (.inl f0)))] s.heap := hP
  refine lv_aload_n hx hb dX7_lay_0 rfl (lv_at hl 0 rfl) ?_
  refine va_get (D := g) (ci := 7) (v := .ref s1) (C := RX7) (T := TX7) (N := 3) hx hb hts iX7 hown hK hP 0 rfl rfl 0 (by decide) (hts (.fieldLink RX7 11 "CardsAtYule$Slots" "width" "[I") (List.mem_cons_of_mem _ (List.mem_append_left _ (List.mem_of_getElem? (i := 0) rfl)))) (fun _ h9 => h9) rfl dX7_lay_1 ?_
  refine lv_iload_n hx hb dX7_lay_4 rfl (lv_at hl 1 rfl) ?_
  refine lv_iload_n hx hb dX7_lay_5 rfl (lv_at hl 2 rfl) ?_
  refine va_iast (D := g) hx hb hK hP hD hS 1 0 rfl rfl (vp_in_nI (n := js) (by omega) (by decide)) dX7_lay_6 (fun H locs hP hD hS => ?_)
  rw [nI_clamp (n := js) (by omega)] at hP hD
  have hP : va_P g vwCl [(sl, .inr (7, [.ref s1, .ref s2, .ref s3])), (s1, .inl (cI, 4, .inl (upd (fun _ => 0) js p1))), (s2, .inl (cI, 4, .inl fz)), (s3, .inl (cJ, 240, .inr (.inl f0)))] H := hP
  have hD : va_D A [(sl, .inr (7, [.ref s1, .ref s2, .ref s3])), (s1, .inl (cI, 4, .inl (upd (fun _ => 0) js p1))), (s2, .inl (cI, 4, .inl fz)), (s3, .inl (cJ, 240, .inr (.inl f0)))] := hD
  refine lv_aload_n hx hb dX7_lay_7 rfl (lv_at hl 0 rfl) ?_
  refine va_get (D := g) (ci := 7) (v := .ref s2) (C := RX7) (T := TX7) (N := 3) hx hb hts iX7 hown hK hP 0 rfl rfl 1 (by decide) (hts (.fieldLink RX7 15 "CardsAtYule$Slots" "size" "[I") (List.mem_cons_of_mem _ (List.mem_append_left _ (List.mem_of_getElem? (i := 1) rfl)))) (fun _ h9 => h9) rfl dX7_lay_8 ?_
  refine lv_iload_n hx hb dX7_lay_11 rfl (lv_at hl 1 rfl) ?_
  refine lv_iload_n hx hb dX7_lay_12 rfl (lv_at hl 3 rfl) ?_
  refine va_iast (D := g) hx hb hK hP hD hS 2 0 rfl rfl (vp_in_nI (n := js) (by omega) (by decide)) dX7_lay_13 (fun H locs hP hD hS => ?_)
  rw [nI_clamp (n := js) (by omega)] at hP hD
  have hP : va_P g vwCl [(sl, .inr (7, [.ref s1, .ref s2, .ref s3])), (s1, .inl (cI, 4, .inl (upd (fun _ => 0) js p1))), (s2, .inl (cI, 4, .inl (upd fz js (nI jn)))), (s3, .inl (cJ, 240, .inr (.inl f0)))] H := hP
  have hD : va_D A [(sl, .inr (7, [.ref s1, .ref s2, .ref s3])), (s1, .inl (cI, 4, .inl (upd (fun _ => 0) js p1))), (s2, .inl (cI, 4, .inl (upd fz js (nI jn)))), (s3, .inl (cJ, 240, .inr (.inl f0)))] := hD
  refine lv_iconst (v := 0) hx hb dX7_lay_14 (by decide) ?_
  refine lv_istore (lv' := [(4, .int 0), (0, .ref sl), (1, .int (nI js)), (2, .int p1), (3, .int (nI jn))]) hx hb dX7_lay_15 hl (by decide) rfl (fun ls hl => ?_)
  have lp3 : ∀ (n1 : Nat) (i : Nat) (f : Nat → Int64) (H : Heap) (locs : List Loc) (ls : Array Slot), jn - i < n1 → (i ≤ jn) → va_P g vwCl [(sl, .inr (7, [.ref s1, .ref s2, .ref s3])), (s1, .inl (cI, 4, .inl (upd (fun _ => 0) js p1))), (s2, .inl (cI, 4, .inl (upd fz js (nI jn)))), (s3, .inl (cJ, 240, .inr (.inl f)))] H → va_D A [(sl, .inr (7, [.ref s1, .ref s2, .ref s3])), (s1, .inl (cI, 4, .inl (upd (fun _ => 0) js p1))), (s2, .inl (cI, 4, .inl (upd fz js (nI jn)))), (s3, .inl (cJ, 240, .inr (.inl f)))] → va_S A s.heap H locs → lv_has ls 5 [(0, .ref sl), (1, .int (nI js)), (2, .int p1), (3, .int (nI jn)), (4, .int (nI i))] → W p l e (headSpec v_X7_lay ({ frames := 0, cells := 0, slots := 0, locals := 0 })).room s m ([.ref sl, .int (nI js), .int p1, .int (nI jn)] : List Value).toArray below meth c H locs 0 0 (MQ below (va_Qv (fun (u : Unit) => True) (fun (_ : Unit) (t : State) => bRW g (tyT cI cJ cB cZ cL) A [] t) A) ([.ref sl, .int (nI js), .int p1, .int (nI jn)] : List Value).toArray s 0 0 A) (F0 m 17 ls []) := by
    intro n1
    induction n1 with
    | zero => exact fun i f H locs ls hn => absurd hn (Nat.not_lt_zero _)
    | succ n1 ih2 =>
      intro i f H locs ls hn hi hP hD hS hl
      refine lv_iload hx hb dX7_lay_17 (lv_at hl 4 rfl) ?_
      refine lv_iload_n hx hb dX7_lay_19 rfl (lv_at hl 3 rfl) ?_
      refine lv_icmp_ge (tgt := 42) hx hb dX7_lay_20 (by decide) (fun c4 => ?_) (fun c4 => ?_)
      · have f5 := (show (jn : Int) ≤ (i : Int) from z_le (nI_toInt (n := jn) (by omega)) (nI_toInt (n := i) (by omega)) c4)
        have hP9 := hP.sub (ws' := []) [] rfl
        have hD9 := hD.sub (ws' := []) [] (by decide) rfl
        exact W.vret hx hb hr (fun t ht hW => ⟨⟨(), rfl, trivial, by rw [ht]; exact hP9, va_K.moved hW.alike hK, hD9⟩, hS.F ht⟩) hS.2.2 dX7_lay_42
      · have f5 := (show (i : Int) < (jn : Int) from z_nle (nI_toInt (n := jn) (by omega)) (nI_toInt (n := i) (by omega)) c4)
        refine lv_aload_n hx hb dX7_lay_23 rfl (lv_at hl 0 rfl) ?_
        refine va_get (D := g) (ci := 7) (v := .ref s3) (C := RX7) (T := TX7) (N := 3) hx hb hts iX7 hown hK hP 0 rfl rfl 2 (by decide) (hts (.fieldLink RX7 18 "CardsAtYule$Slots" "numbers" "[J") (List.mem_cons_of_mem _ (List.mem_append_left _ (List.mem_of_getElem? (i := 2) rfl)))) (fun _ h9 => h9) rfl dX7_lay_24 ?_
        refine lv_iload_n hx hb dX7_lay_27 rfl (lv_at hl 1 rfl) ?_
        refine lv_bipush (v := 60) hx hb dX7_lay_28 (by decide) ?_
        refine lv_imul hx hb dX7_lay_30 ?_
        refine lv_topi (nm_r (e' := (nI (js * 60))) (pk_mul js 60) ?_)
        refine lv_iload hx hb dX7_lay_31 (lv_at hl 4 rfl) ?_
        refine lv_iadd hx hb dX7_lay_33 ?_
        refine lv_topi (nm_r (e' := (nI ((js * 60) + i))) (nI_add (js * 60) i) ?_)
        refine lv_lconst (v := 0) hx hb dX7_lay_34 (by decide) ?_
        refine va_last (D := g) hx hb hK hP hD hS 3 1 rfl rfl (vp_in_nI (n := (js * 60) + i) (by omega) (by decide)) dX7_lay_35 (fun H locs hP hD hS => ?_)
        rw [nI_clamp (n := (js * 60) + i) (by omega)] at hP hD
        have hP : va_P g vwCl [(sl, .inr (7, [.ref s1, .ref s2, .ref s3])), (s1, .inl (cI, 4, .inl (upd (fun _ => 0) js p1))), (s2, .inl (cI, 4, .inl (upd fz js (nI jn)))), (s3, .inl (cJ, 240, .inr (.inl (vp_updL f ((js * 60) + i) 0))))] H := hP
        have hD : va_D A [(sl, .inr (7, [.ref s1, .ref s2, .ref s3])), (s1, .inl (cI, 4, .inl (upd (fun _ => 0) js p1))), (s2, .inl (cI, 4, .inl (upd fz js (nI jn)))), (s3, .inl (cJ, 240, .inr (.inl (vp_updL f ((js * 60) + i) 0))))] := hD
        refine lv_iinc (v := (nI (i + 1))) (lv' := [(4, .int (nI (i + 1))), (0, .ref sl), (1, .int (nI js)), (2, .int p1), (3, .int (nI jn))]) hx hb dX7_lay_36 hl (k := 4) rfl (nI_add i 1) (by decide) rfl (fun ls hl => ?_)
        refine lv_goto (tgt := 17) hx hb dX7_lay_39 (by decide) ?_
        exact ih2 (i + 1) _ _ _ _ (by omega) (by omega) (hP.sub [0, 1, 2, 3] rfl) (hD.sub [0, 1, 2, 3] (by decide) rfl) hS (lv_sub hl [1, 2, 3, 4, 0] rfl)
  exact lp3 _ 0 f0 _ _ _ (Nat.lt_succ_self _) (Nat.zero_le _) (hP.sub [0, 1, 2, 3] rfl) (hD.sub [0, 1, 2, 3] (by decide) rfl) hS (lv_sub hl [1, 2, 3, 4, 0] rfl)
def v_X11_row : List Cond := .code yX11_row cX11_row 4 (some .int) :: (([.methodLink RX11 148 yX11_isBelow, .static yX11_isBelow, .initialized RX11, .fieldLink RX11 65 "CardsAtYule" "slots" "LCardsAtYule$Slots;", .methodLink RX11 391 yX7_lay, .instanceMethod yX7_lay, .selects RX7 yX7_lay yX7_lay, .initialized RX7] : List Cond) ++ (v_X11_isBelow ++ (v_X7_lay ++ (wsX110 ++ ([] : List Cond)))))
theorem good_v_X11_row : v_X11_row.all goodWord = true := ga_c (by decide +kernel) (ga_a (by decide +kernel) (ga_a good_v_X11_isBelow (ga_a good_v_X7_lay (ga_a good_wsX110 rfl))))
set_option maxHeartbeats 4000000 in
set_option maxRecDepth 100000 in
theorem k_X11_row (l : Launch) (g : va_G) (cI cJ cB cZ cL : ClassId) (x : Nat) (tp : Nat) (ld : Nat) (im : Nat) (bk : Nat) (co : Nat) (fa : Nat) (ch : Nat) (wi : Nat) (sl : Nat) (se : Nat) (dr : Nat) (s1 : Nat) (s2 : Nat) (s3 : Nat) (fz : Nat → Int32) (p0 : Int32) (p1 : Int32) (p2 : Int32) (ip0 : Int) (ip1 : Int) (ip2 : Int) (sz : Nat) (hzp0 : p0.toInt = ip0) (hzp1 : p1.toInt = ip1) (hzp2 : p2.toInt = ip2) : Met l yX11_row v_X11_row ({ frames := 1, cells := 0, slots := 0, locals := 24 }) (va_Pc [.ref x, .int p0, .int p1, .int p2] (pRW g (tyT cI cJ cB cZ cL) [(x, .inr (10, [.ref tp, .ref ld, .ref im, .ref bk, .ref co, .ref fa, .ref ch, .ref wi, .ref sl, .ref se, .ref dr])), (sl, .inr (7, [.ref s1, .ref s2, .ref s3])), (s1, .inl (cI, 4, .inl (fun _ => 0))), (s2, .inl (cI, 4, .inl fz)), (s3, .inl (cJ, 240, .inr (.inl (fun _ => 0))))] sz)) (va_Qi (fun (r : Int32) (u : Unit) => (r = (-2) ∧ ¬ (0 ≤ ip0 ∧ ip0 < 4 ∧ 0 ≤ ip1 ∧ ip1 < 4 ∧ ip2 ≤ 60)) ∨ (r = (-3) ∧ (0 ≤ ip0 ∧ ip0 < 4 ∧ 0 ≤ ip1 ∧ ip1 < 4 ∧ ip2 ≤ 60) ∧ ip2 < 0) ∨ (r = 0 ∧ (0 ≤ ip0 ∧ ip0 < 4 ∧ 0 ≤ ip1 ∧ ip1 < 4 ∧ ip2 ≤ 60) ∧ 0 ≤ ip2)) (fun (_ : Unit) (t : State) => bRW g (tyT cI cJ cB cZ cL) (va_A [(x, .inr (10, [.ref tp, .ref ld, .ref im, .ref bk, .ref co, .ref fa, .ref ch, .ref wi, .ref sl, .ref se, .ref dr])), (sl, .inr (7, [.ref s1, .ref s2, .ref s3])), (s1, .inl (cI, 4, .inl (fun _ => 0))), (s2, .inl (cI, 4, .inl fz)), (s3, .inl (cJ, 240, .inr (.inl (fun _ => 0))))] sz) [] t) (va_A [(x, .inr (10, [.ref tp, .ref ld, .ref im, .ref bk, .ref co, .ref fa, .ref ch, .ref wi, .ref sl, .ref se, .ref dr])), (sl, .inr (7, [.ref s1, .ref s2, .ref s3])), (s1, .inl (cI, 4, .inl (fun _ => 0))), (s2, .inl (cI, 4, .inl fz)), (s3, .inl (cJ, 240, .inr (.inl (fun _ => 0))))] sz)) 0 0 (va_A [(x, .inr (10, [.ref tp, .ref ld, .ref im, .ref bk, .ref co, .ref fa, .ref ch, .ref wi, .ref sl, .ref se, .ref dr])), (sl, .inr (7, [.ref s1, .ref s2, .ref s3])), (s1, .inl (cI, 4, .inl (fun _ => 0))), (s2, .inl (cI, 4, .inl fz)), (s3, .inl (cJ, 240, .inr (.inl (fun _ => 0))))] sz) := by
  refine Met.ofW (cc := cX11_row) (maxL := 4) (ret := (some .int)) (by decide) rfl ?_
  intro p e s m args below meth c s₁ B hml hv
  obtain ⟨rfl, hsz, hP, hK, hD0⟩ := hv
  have hx := B.exec
  have hb := B.bytes
  have hr := B.returns
  have hts := atoms_spec (ws := v_X11_row) B.pre
  have hown : s.vm.findClass RX11 = some m.cls := findClass_of_methodNamed B.named
  have hlocks := B.notSynchronized
  subst hsz
  have iX11 : ∀ w ∈ wsX110, w ∈ v_X11_row := (fun _ h => List.mem_cons_of_mem _ (List.mem_append_right _ (List.mem_append_right _ (List.mem_append_right _ (List.mem_append_left _ h)))))
  have hD := hD0.self (sz := s.heap.size)
  generalize hAe : (va_A [(x, .inr (10, [.ref tp, .ref ld, .ref im, .ref bk, .ref co, .ref fa, .ref ch, .ref wi, .ref sl, .ref se, .ref dr])), (sl, .inr (7, [.ref s1, .ref s2, .ref s3])), (s1, .inl (cI, 4, .inl (fun _ => 0))), (s2, .inl (cI, 4, .inl fz)), (s3, .inl (cJ, 240, .inr (.inl (fun _ => 0))))] s.heap.size) = A at hD ⊢
  have hA : ∀ q : Nat, s.heap.size ≤ q → A q := fun q h => by rw [← hAe]; exact Or.inr h
  have hS : va_S A s.heap s.heap [] := va_S.rf
  have hl := lv_entry ([.ref x, .int p0, .int p1, .int p2]) (n := 4) (Nat.le_of_ble_eq_true rfl)
  rw [lg_entry_eq]
  generalize (lg_sl ([.ref x, .int p0, .int p1, .int p2]) ++ List.replicate (4 - (lg_sl ([.ref x, .int p0, .int p1, .int p2])).length) Slot.unset).toArray = ls at hl ⊢
  have hl : lv_has ls 4 [(0, .ref x), (1, .int p0), (2, .int p1), (3, .int p2)] := hl
  have hP : va_P g vwCl [(x, .inr (10, [.ref tp, .ref ld, .ref im, .ref bk, .ref co, .ref fa, .ref ch, .ref wi, .ref sl, .ref se, .ref dr])), (sl, .inr (7, [.ref s1, .ref s2, .ref s3])), (s1, .inl (cI, 4, .inl (fun _ => 0))), (s2, .inl (cI, 4, .inl fz)), (s3, .inl (cJ, 240, .inr (.inl (fun _ => 0))))] s.heap := hP
  refine lv_iload_n hx hb dX11_row_0 rfl (lv_at hl 1 rfl) ?_
  refine lv_iconst (v := 4) hx hb dX11_row_1 (by decide) ?_
  refine ro_i (va_runS (As := [.int p0, .int 4]) (rest := []) ⟨hx, hb, hml, hown, hts⟩ (k_X11_isBelow l g cI cJ cB cZ cL p0 4 ip0 4 s.heap.size hzp0 rfl) (va_cwS 2 hts (goodIn_app (g_3 (List.mem_cons_of_mem _ (List.mem_append_left _ (List.mem_of_getElem? (i := 0) rfl))) (List.mem_cons_of_mem _ (List.mem_append_left _ (List.mem_of_getElem? (i := 1) rfl))) (List.mem_cons_of_mem _ (List.mem_append_left _ (List.mem_of_getElem? (i := 2) rfl))) (by decide +kernel)) (goodIn_sub (fun _ h => List.mem_cons_of_mem _ (List.mem_append_right _ (List.mem_append_left _ h))) good_v_X11_isBelow)) rfl rfl rfl (by decide +kernel) ⟨Nat.le_of_ble_eq_true rfl, Nat.le_of_ble_eq_true rfl⟩) (ps_RO (wc := []) hK hP [] rfl) rfl rfl hl.1 rfl (lv_room (Nat.le_of_ble_eq_true rfl)) dX11_row_2 ⟨Nat.le_of_ble_eq_true rfl, Nat.le_of_ble_eq_true rfl⟩) hS hA hP (fun r1 u2 H locs hw3 hP hS => ?_)
  rcases hw3 with ⟨rfl, hw3_0, hw3_1⟩ | ⟨rfl, hw3_0⟩
  · refine lv_if_eq (tgt := 22) hx hb dX11_row_5 (by decide) (fun c4 => absurd c4 (by decide)) (fun _ => ?_)
    refine lv_iload_n hx hb dX11_row_8 rfl (lv_at hl 2 rfl) ?_
    refine lv_iconst (v := 4) hx hb dX11_row_9 (by decide) ?_
    refine ro_i (va_runS (As := [.int p1, .int 4]) (rest := []) ⟨hx, hb, hml, hown, hts⟩ (k_X11_isBelow l g cI cJ cB cZ cL p1 4 ip1 4 H.size hzp1 rfl) (va_cwS 2 hts (goodIn_app (g_3 (List.mem_cons_of_mem _ (List.mem_append_left _ (List.mem_of_getElem? (i := 0) rfl))) (List.mem_cons_of_mem _ (List.mem_append_left _ (List.mem_of_getElem? (i := 1) rfl))) (List.mem_cons_of_mem _ (List.mem_append_left _ (List.mem_of_getElem? (i := 2) rfl))) (by decide +kernel)) (goodIn_sub (fun _ h => List.mem_cons_of_mem _ (List.mem_append_right _ (List.mem_append_left _ h))) good_v_X11_isBelow)) rfl rfl rfl (by decide +kernel) ⟨Nat.le_of_ble_eq_true rfl, Nat.le_of_ble_eq_true rfl⟩) (ps_RO (wc := []) hK hP [] rfl) rfl rfl hl.1 rfl (lv_room (Nat.le_of_ble_eq_true rfl)) dX11_row_10 ⟨Nat.le_of_ble_eq_true rfl, Nat.le_of_ble_eq_true rfl⟩) hS hA hP (fun r5 u6 H locs hw7 hP hS => ?_)
    rcases hw7 with ⟨rfl, hw7_0, hw7_1⟩ | ⟨rfl, hw7_0⟩
    · refine lv_if_eq (tgt := 22) hx hb dX11_row_13 (by decide) (fun c8 => absurd c8 (by decide)) (fun _ => ?_)
      refine lv_iload_n hx hb dX11_row_16 rfl (lv_at hl 3 rfl) ?_
      refine lv_bipush (v := 60) hx hb dX11_row_17 (by decide) ?_
      refine lv_icmp_le (tgt := 25) hx hb dX11_row_19 (by decide) (fun c9 => ?_) (fun c9 => ?_)
      · have f10 := (show ip2 ≤ 60 from z_le hzp2 rfl c9)
        refine lv_iload_n hx hb dX11_row_25 rfl (lv_at hl 3 rfl) ?_
        refine lv_if_ge (tgt := 32) hx hb dX11_row_26 (by decide) (fun c11 => ?_) (fun c11 => ?_)
        · have f12 := (show 0 ≤ ip2 from z_le rfl hzp2 c11)
          refine lv_aload_n hx hb dX11_row_32 rfl (lv_at hl 0 rfl) ?_
          refine va_get (D := g) (ci := 10) (v := .ref sl) (C := RX11) (T := TX11) (N := 11) hx hb hts iX11 hown hK hP 0 rfl rfl 8 (by decide) (hts (.fieldLink RX11 65 "CardsAtYule" "slots" "LCardsAtYule$Slots;") (List.mem_cons_of_mem _ (List.mem_append_left _ (List.mem_of_getElem? (i := 3) rfl)))) (fun _ h9 => h9) rfl dX11_row_33 ?_
          refine lv_iload_n hx hb dX11_row_36 rfl (lv_at hl 1 rfl) ?_
          refine lv_iload_n hx hb dX11_row_37 rfl (lv_at hl 2 rfl) ?_
          refine lv_iload_n hx hb dX11_row_38 rfl (lv_at hl 3 rfl) ?_
          obtain ⟨js, hjs, rfl⟩ : ∃ js : Nat, js < 4 ∧ p0 = nI js := natz hzp0 (by omega) (by omega) (by decide)
          have hIjs : (js : Int) = ip0 := by rw [← hzp0]; exact (nI_toInt (by omega)).symm
          obtain ⟨jn, hjn, rfl⟩ : ∃ jn : Nat, jn < 61 ∧ p2 = nI jn := natz hzp2 (by omega) (by omega) (by decide)
          have hIjn : (jn : Int) = ip2 := by rw [← hzp2]; exact (nI_toInt (by omega)).symm
          refine rw_v (wr := [(x, .inr (10, [.ref tp, .ref ld, .ref im, .ref bk, .ref co, .ref fa, .ref ch, .ref wi, .ref sl, .ref se, .ref dr]))]) (va_runV (As := [.int (nI js), .int p1, .int (nI jn)]) (rest := []) ⟨hx, hb, hml, hown, hts⟩ (k_X7_lay l g cI cJ cB cZ cL sl s1 s2 s3 fz js jn p1 (fun _ => 0) H.size (by omega) (by omega)) (cwV 3 hts (goodIn_app (g_4 (List.mem_cons_of_mem _ (List.mem_append_left _ (List.mem_of_getElem? (i := 4) rfl))) (List.mem_cons_of_mem _ (List.mem_append_left _ (List.mem_of_getElem? (i := 5) rfl))) (List.mem_cons_of_mem _ (List.mem_append_left _ (List.mem_of_getElem? (i := 6) rfl))) (List.mem_cons_of_mem _ (List.mem_append_left _ (List.mem_of_getElem? (i := 7) rfl))) (by decide +kernel)) (goodIn_sub (fun _ h => List.mem_cons_of_mem _ (List.mem_append_right _ (List.mem_append_right _ (List.mem_append_left _ h)))) good_v_X7_lay)) rfl rfl rfl (by decide +kernel) ⟨Nat.le_of_ble_eq_true rfl, Nat.le_of_ble_eq_true rfl⟩) (pv_RW (q := (RX7, TX7, 3)) (ci := 7) (q0 := 0) (wc := [(sl, .inr (7, [.ref s1, .ref s2, .ref s3])), (s1, .inl (cI, 4, .inl (fun _ => 0))), (s2, .inl (cI, 4, .inl fz)), (s3, .inl (cJ, 240, .inr (.inl (fun _ => 0))))]) hK hP hD [1, 2, 3, 4] (by decide) rfl rfl rfl) rfl rfl hl.1 rfl (lv_room (Nat.le_of_ble_eq_true rfl)) dX11_row_39 ⟨Nat.le_of_ble_eq_true rfl, Nat.le_of_ble_eq_true rfl⟩) hS hA hP hD [1, 2, 3, 4] [0] rfl rfl (by decide) (by decide) (fun u14 H locs hw15 hP hD hS => ?_)
          have hP : va_P g vwCl [(x, .inr (10, [.ref tp, .ref ld, .ref im, .ref bk, .ref co, .ref fa, .ref ch, .ref wi, .ref sl, .ref se, .ref dr]))] H := hP
          have hD : va_D A [(x, .inr (10, [.ref tp, .ref ld, .ref im, .ref bk, .ref co, .ref fa, .ref ch, .ref wi, .ref sl, .ref se, .ref dr]))] := hD
          refine lv_iconst (v := 0) hx hb dX11_row_42 (by decide) ?_
          have hP9 := hP.sub (ws' := []) [] rfl
          have hD9 := hD.sub (ws' := []) [] (by decide) rfl
          exact W.iret (v := 0) hx hb hr (fun t ht hW => ⟨⟨0, (), rfl, Or.inr (Or.inr ⟨rfl, ⟨by omega, by omega, by omega, by omega, by omega⟩, by omega⟩), by rw [ht]; exact hP9, va_K.moved hW.alike hK, hD9⟩, hS.F ht⟩) hS.2.2 dX11_row_43
        · have f12 := (show ip2 < 0 from z_nle rfl hzp2 c11)
          refine lv_bipush (v := (-3)) hx hb dX11_row_29 (by decide) ?_
          have hP9 := hP.sub (ws' := []) [] rfl
          have hD9 := hD.sub (ws' := []) [] (by decide) rfl
          exact W.iret (v := (-3)) hx hb hr (fun t ht hW => ⟨⟨(-3), (), rfl, Or.inr (Or.inl ⟨rfl, ⟨by omega, by omega, by omega, by omega, by omega⟩, by omega⟩), by rw [ht]; exact hP9, va_K.moved hW.alike hK, hD9⟩, hS.F ht⟩) hS.2.2 dX11_row_31
      · have f10 := (show 60 < ip2 from z_nle hzp2 rfl c9)
        refine lv_bipush (v := (-2)) hx hb dX11_row_22 (by decide) ?_
        have hP9 := hP.sub (ws' := []) [] rfl
        have hD9 := hD.sub (ws' := []) [] (by decide) rfl
        exact W.iret (v := (-2)) hx hb hr (fun t ht hW => ⟨⟨(-2), (), rfl, Or.inl ⟨rfl, by omega⟩, by rw [ht]; exact hP9, va_K.moved hW.alike hK, hD9⟩, hS.F ht⟩) hS.2.2 dX11_row_24
    · refine lv_if_eq (tgt := 22) hx hb dX11_row_13 (by decide) (fun _ => ?_) (fun c16 => absurd c16 (by decide))
      refine lv_bipush (v := (-2)) hx hb dX11_row_22 (by decide) ?_
      have hP9 := hP.sub (ws' := []) [] rfl
      have hD9 := hD.sub (ws' := []) [] (by decide) rfl
      exact W.iret (v := (-2)) hx hb hr (fun t ht hW => ⟨⟨(-2), (), rfl, Or.inl ⟨rfl, by omega⟩, by rw [ht]; exact hP9, va_K.moved hW.alike hK, hD9⟩, hS.F ht⟩) hS.2.2 dX11_row_24
  · refine lv_if_eq (tgt := 22) hx hb dX11_row_5 (by decide) (fun _ => ?_) (fun c17 => absurd c17 (by decide))
    refine lv_bipush (v := (-2)) hx hb dX11_row_22 (by decide) ?_
    have hP9 := hP.sub (ws' := []) [] rfl
    have hD9 := hD.sub (ws' := []) [] (by decide) rfl
    exact W.iret (v := (-2)) hx hb hr (fun t ht hW => ⟨⟨(-2), (), rfl, Or.inl ⟨rfl, by omega⟩, by rw [ht]; exact hP9, va_K.moved hW.alike hK, hD9⟩, hS.F ht⟩) hS.2.2 dX11_row_24
