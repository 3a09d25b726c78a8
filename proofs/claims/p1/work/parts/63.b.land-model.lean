def v_X12_copyRow_x : List Cond := .code yX12_copyRow cX12_copyRow 5 none :: (([] : List Cond) ++ ([] : List Cond))
theorem good_v_X12_copyRow_x : v_X12_copyRow_x.all goodWord = true := ga_c (by decide +kernel) (ga_a (by decide +kernel) rfl)
set_option maxHeartbeats 4000000 in
set_option maxRecDepth 100000 in
theorem k_X12_copyRow_x (l : Launch) (g : va_G) (cI cJ cB cZ cL : ClassId) (rw : Nat) (f0 : Nat → Int32) (sz : Nat)  : Met l yX12_copyRow v_X12_copyRow_x ({ frames := 0, cells := 0, slots := 0, locals := 0 }) (va_Pc [.ref rw, .int 1, .int 4, .int 0] (pRW g (tyT cI cJ cB cZ cL) [(rw, .inl (cI, 5, .inl f0))] sz)) (va_Qv (fun (u : Unit) => True) (fun (_ : Unit) (t : State) => bRW g (tyT cI cJ cB cZ cL) (va_A [(rw, .inl (cI, 5, .inl f0))] sz) [(rw, .inl (cI, 5, .inl (upd f0 0 (f0 4))))] t) (va_A [(rw, .inl (cI, 5, .inl f0))] sz)) 0 0 (va_A [(rw, .inl (cI, 5, .inl f0))] sz) := by
  refine Met.ofW (cc := cX12_copyRow) (maxL := 5) (ret := none) (by decide) rfl ?_
  intro p e s m args below meth c s₁ B hml hv
  obtain ⟨rfl, hsz, hP, hK, hD0⟩ := hv
  have hx := B.exec
  have hb := B.bytes
  have hr := B.returns
  have hts := atoms_spec (ws := v_X12_copyRow_x) B.pre
  have hown : s.vm.findClass RX12 = some m.cls := findClass_of_methodNamed B.named
  have hlocks := B.notSynchronized
  subst hsz
  have hD := hD0.self (sz := s.heap.size)
  generalize hAe : (va_A [(rw, .inl (cI, 5, .inl f0))] s.heap.size) = A at hD ⊢
  have hA : ∀ q : Nat, s.heap.size ≤ q → A q := fun q h => by rw [← hAe]; exact Or.inr h
  have hS : va_S A s.heap s.heap [] := va_S.rf
  have hl := lv_entry ([.ref rw, .int 1, .int 4, .int 0]) (n := 5) (Nat.le_of_ble_eq_true rfl)
  rw [lg_entry_eq]
  generalize (lg_sl ([.ref rw, .int 1, .int 4, .int 0]) ++ List.replicate (5 - (lg_sl ([.ref rw, .int 1, .int 4, .int 0])).length) Slot.unset).toArray = ls at hl ⊢
  have hl : lv_has ls 5 [(0, .ref rw), (1, .int 1), (2, .int 4), (3, .int 0)] := hl
  have hP : va_P g vwCl [(rw, .inl (cI, 5, .inl f0))] s.heap := hP
  refine lv_iconst (v := 0) hx hb dX12_copyRow_0 (by decide) ?_
  refine lv_istore (lv' := [(4, .int 0), (0, .ref rw), (1, .int 1), (2, .int 4), (3, .int 0)]) hx hb dX12_copyRow_1 hl (by decide) rfl (fun ls hl => ?_)
  refine lv_iload hx hb dX12_copyRow_3 (lv_at hl 0 rfl) ?_
  refine lv_iload_n hx hb dX12_copyRow_5 rfl (lv_at hl 2 rfl) ?_
  refine lv_icmp_ge (tgt := 31) hx hb dX12_copyRow_6 (by decide) (fun c1 => absurd c1 (by decide)) (fun _ => ?_)
  refine lv_aload_n hx hb dX12_copyRow_9 rfl (lv_at hl 1 rfl) ?_
  refine lv_iload_n hx hb dX12_copyRow_10 rfl (lv_at hl 2 rfl) ?_
  refine lv_iload_n hx hb dX12_copyRow_11 rfl (lv_at hl 4 rfl) ?_
  refine lv_imul hx hb dX12_copyRow_12 ?_
  refine lv_topi (nm_r (e' := 0) (by decide) ?_)
  refine lv_iload hx hb dX12_copyRow_13 (lv_at hl 0 rfl) ?_
  refine lv_iadd hx hb dX12_copyRow_15 ?_
  refine lv_topi (nm_r (e' := 0) (by decide) ?_)
  refine lv_aload_n hx hb dX12_copyRow_16 rfl (lv_at hl 1 rfl) ?_
  refine lv_iload_n hx hb dX12_copyRow_17 rfl (lv_at hl 2 rfl) ?_
  refine lv_iload_n hx hb dX12_copyRow_18 rfl (lv_at hl 3 rfl) ?_
  refine lv_imul hx hb dX12_copyRow_19 ?_
  refine lv_topi (nm_r (e' := 4) (by decide) ?_)
  refine lv_iload hx hb dX12_copyRow_20 (lv_at hl 0 rfl) ?_
  refine lv_iadd hx hb dX12_copyRow_22 ?_
  refine lv_topi (nm_r (e' := 4) (by decide) ?_)
  refine va_iald (D := g) hx hb hK hP 0 0 rfl rfl (vc_in (by decide)) dX12_copyRow_23 ?_
  refine va_iast (D := g) hx hb hK hP hD hS 0 0 rfl rfl (vc_in (by decide)) dX12_copyRow_24 (fun H locs hP hD hS => ?_)
  have hP : va_P g vwCl [(rw, .inl (cI, 5, .inl (upd f0 0 (f0 4))))] H := hP
  have hD : va_D A [(rw, .inl (cI, 5, .inl (upd f0 0 (f0 4))))] := hD
  refine lv_iinc (v := 1) (lv' := [(4, .int 1), (0, .ref rw), (1, .int 1), (2, .int 4), (3, .int 0)]) hx hb dX12_copyRow_25 hl (k := 0) rfl (by decide) (by decide) rfl (fun ls hl => ?_)
  refine lv_goto (tgt := 3) hx hb dX12_copyRow_28 (by decide) ?_
  refine lv_iload hx hb dX12_copyRow_3 (lv_at hl 0 rfl) ?_
  refine lv_iload_n hx hb dX12_copyRow_5 rfl (lv_at hl 2 rfl) ?_
  refine lv_icmp_ge (tgt := 31) hx hb dX12_copyRow_6 (by decide) (fun _ => ?_) (fun c2 => absurd c2 (by decide))
  have hP9 := hP.sub (ws' := [(rw, .inl (cI, 5, .inl (upd f0 0 (f0 4))))]) [0] rfl
  have hD9 := hD.sub (ws' := [(rw, .inl (cI, 5, .inl (upd f0 0 (f0 4))))]) [0] (by decide) rfl
  exact W.vret hx hb hr (fun t ht hW => ⟨⟨(), rfl, trivial, by rw [ht]; exact hP9, va_K.moved hW.alike hK, hD9⟩, hS.F ht⟩) hS.2.2 dX12_copyRow_31
def v_X12_copyRow_l : List Cond := .code yX12_copyRow cX12_copyRow 5 none :: (([] : List Cond) ++ ([] : List Cond))
theorem good_v_X12_copyRow_l : v_X12_copyRow_l.all goodWord = true := ga_c (by decide +kernel) (ga_a (by decide +kernel) rfl)
set_option maxHeartbeats 4000000 in
set_option maxRecDepth 100000 in
theorem k_X12_copyRow_l (l : Launch) (g : va_G) (cI cJ cB cZ cL : ClassId) (rw : Nat) (f0 : Nat → Int32) (ia : Nat) (ib : Nat) (sz : Nat) (h0 : ia ≤ 4) (h1 : ib ≤ 4) : Met l yX12_copyRow v_X12_copyRow_l ({ frames := 0, cells := 0, slots := 0, locals := 0 }) (va_Pc [.ref rw, .int 1, .int (nI ia), .int (nI ib)] (pRW g (tyT cI cJ cB cZ cL) [(rw, .inl (cI, 5, .inl f0))] sz)) (va_Qv (fun (u : Nat → Int32) => match u with | f1 => True) (fun (u : Nat → Int32) (t : State) => bRW g (tyT cI cJ cB cZ cL) (va_A [(rw, .inl (cI, 5, .inl f0))] sz) (match u with | f1 => [(rw, .inl (cI, 5, .inl f1))]) t) (va_A [(rw, .inl (cI, 5, .inl f0))] sz)) 0 0 (va_A [(rw, .inl (cI, 5, .inl f0))] sz) := by
  refine Met.ofW (cc := cX12_copyRow) (maxL := 5) (ret := none) (by decide) rfl ?_
  intro p e s m args below meth c s₁ B hml hv
  obtain ⟨rfl, hsz, hP, hK, hD0⟩ := hv
  have hx := B.exec
  have hb := B.bytes
  have hr := B.returns
  have hts := atoms_spec (ws := v_X12_copyRow_l) B.pre
  have hown : s.vm.findClass RX12 = some m.cls := findClass_of_methodNamed B.named
  have hlocks := B.notSynchronized
  subst hsz
  have hD := hD0.self (sz := s.heap.size)
  generalize hAe : (va_A [(rw, .inl (cI, 5, .inl f0))] s.heap.size) = A at hD ⊢
  have hA : ∀ q : Nat, s.heap.size ≤ q → A q := fun q h => by rw [← hAe]; exact Or.inr h
  have hS : va_S A s.heap s.heap [] := va_S.rf
  have hl := lv_entry ([.ref rw, .int 1, .int (nI ia), .int (nI ib)]) (n := 5) (Nat.le_of_ble_eq_true rfl)
  rw [lg_entry_eq]
  generalize (lg_sl ([.ref rw, .int 1, .int (nI ia), .int (nI ib)]) ++ List.replicate (5 - (lg_sl ([.ref rw, .int 1, .int (nI ia), .int (nI ib)])).length) Slot.unset).toArray = ls at hl ⊢
  have hl : lv_has ls 5 [(0, .ref rw), (1, .int 1), (2, .int (nI ia)), (3, .int (nI ib))] := hl
  have hP : va_P g vwCl [(rw, .inl (cI, 5, .inl f0))] s.heap := hP
  refine lv_iconst (v := 0) hx hb dX12_copyRow_0 (by decide) ?_
  refine lv_istore (lv' := [(4, .int 0), (0, .ref rw), (1, .int 1), (2, .int (nI ia)), (3, .int (nI ib))]) hx hb dX12_copyRow_1 hl (by decide) rfl (fun ls hl => ?_)
  have lp3 : ∀ (n1 : Nat) (i : Nat) (f : Nat → Int32) (H : Heap) (locs : List Loc) (ls : Array Slot), 1 - i < n1 → (i ≤ 1) → va_P g vwCl [(rw, .inl (cI, 5, .inl f))] H → va_D A [(rw, .inl (cI, 5, .inl f))] → va_S A s.heap H locs → lv_has ls 5 [(0, .ref rw), (1, .int 1), (2, .int (nI ia)), (3, .int (nI ib)), (4, .int (nI i))] → W p l e (headSpec v_X12_copyRow_l ({ frames := 0, cells := 0, slots := 0, locals := 0 })).room s m ([.ref rw, .int 1, .int (nI ia), .int (nI ib)] : List Value).toArray below meth c H locs 0 0 (MQ below (va_Qv (fun (u : Nat → Int32) => match u with | f1 => True) (fun (u : Nat → Int32) (t : State) => bRW g (tyT cI cJ cB cZ cL) A (match u with | f1 => [(rw, .inl (cI, 5, .inl f1))]) t) A) ([.ref rw, .int 1, .int (nI ia), .int (nI ib)] : List Value).toArray s 0 0 A) (F0 m 3 ls []) := by
    intro n1
    induction n1 with
    | zero => exact fun i f H locs ls hn => absurd hn (Nat.not_lt_zero _)
    | succ n1 ih2 =>
      intro i f H locs ls hn hi hP hD hS hl
      refine lv_iload hx hb dX12_copyRow_3 (lv_at hl 4 rfl) ?_
      refine lv_iload_n hx hb dX12_copyRow_5 rfl (lv_at hl 1 rfl) ?_
      refine lv_icmp_ge (tgt := 31) hx hb dX12_copyRow_6 (by decide) (fun c4 => ?_) (fun c4 => ?_)
      · have f5 := (show 1 ≤ (i : Int) from z_le rfl (nI_toInt (n := i) (by omega)) c4)
        have hP9 := hP.sub (ws' := [(rw, .inl (cI, 5, .inl f))]) [0] rfl
        have hD9 := hD.sub (ws' := [(rw, .inl (cI, 5, .inl f))]) [0] (by decide) rfl
        exact W.vret hx hb hr (fun t ht hW => ⟨⟨f, rfl, trivial, by rw [ht]; exact hP9, va_K.moved hW.alike hK, hD9⟩, hS.F ht⟩) hS.2.2 dX12_copyRow_31
      · have f5 := (show (i : Int) < 1 from z_nle rfl (nI_toInt (n := i) (by omega)) c4)
        refine lv_aload_n hx hb dX12_copyRow_9 rfl (lv_at hl 0 rfl) ?_
        refine lv_iload_n hx hb dX12_copyRow_10 rfl (lv_at hl 1 rfl) ?_
        refine lv_iload_n hx hb dX12_copyRow_11 rfl (lv_at hl 3 rfl) ?_
        refine lv_imul hx hb dX12_copyRow_12 ?_
        refine lv_topi (nm_r (e' := (nI (1 * ib))) (pk_mul 1 ib) ?_)
        refine lv_iload hx hb dX12_copyRow_13 (lv_at hl 4 rfl) ?_
        refine lv_iadd hx hb dX12_copyRow_15 ?_
        refine lv_topi (nm_r (e' := (nI ((1 * ib) + i))) (nI_add (1 * ib) i) ?_)
        refine lv_aload_n hx hb dX12_copyRow_16 rfl (lv_at hl 0 rfl) ?_
        refine lv_iload_n hx hb dX12_copyRow_17 rfl (lv_at hl 1 rfl) ?_
        refine lv_iload_n hx hb dX12_copyRow_18 rfl (lv_at hl 2 rfl) ?_
        refine lv_imul hx hb dX12_copyRow_19 ?_
        refine lv_topi (nm_r (e' := (nI (1 * ia))) (pk_mul 1 ia) ?_)
        refine lv_iload hx hb dX12_copyRow_20 (lv_at hl 4 rfl) ?_
        refine lv_iadd hx hb dX12_copyRow_22 ?_
        refine lv_topi (nm_r (e' := (nI ((1 * ia) + i))) (nI_add (1 * ia) i) ?_)
        refine va_iald (D := g) hx hb hK hP 0 0 rfl rfl (vp_in_nI (n := (1 * ia) + i) (by omega) (by decide)) dX12_copyRow_23 ?_
        refine lv_topi (nm_r (e' := f ((1 * ia) + i)) (congrArg f (nI_clamp (n := (1 * ia) + i) (by omega))) ?_)
        refine va_iast (D := g) hx hb hK hP hD hS 0 0 rfl rfl (vp_in_nI (n := (1 * ib) + i) (by omega) (by decide)) dX12_copyRow_24 (fun H locs hP hD hS => ?_)
        rw [nI_clamp (n := (1 * ib) + i) (by omega)] at hP hD
        have hP : va_P g vwCl [(rw, .inl (cI, 5, .inl (upd f ((1 * ib) + i) (f ((1 * ia) + i)))))] H := hP
        have hD : va_D A [(rw, .inl (cI, 5, .inl (upd f ((1 * ib) + i) (f ((1 * ia) + i)))))] := hD
        refine lv_iinc (v := (nI (i + 1))) (lv' := [(4, .int (nI (i + 1))), (0, .ref rw), (1, .int 1), (2, .int (nI ia)), (3, .int (nI ib))]) hx hb dX12_copyRow_25 hl (k := 4) rfl (nI_add i 1) (by decide) rfl (fun ls hl => ?_)
        refine lv_goto (tgt := 3) hx hb dX12_copyRow_28 (by decide) ?_
        exact ih2 (i + 1) _ _ _ _ (by omega) (by omega) (hP.sub [0] rfl) (hD.sub [0] (by decide) rfl) hS (lv_sub hl [1, 2, 3, 4, 0] rfl)
  exact lp3 _ 0 f0 _ _ _ (Nat.lt_succ_self _) (Nat.zero_le _) (hP.sub [0] rfl) (hD.sub [0] (by decide) rfl) hS (lv_sub hl [1, 2, 3, 4, 0] rfl)
def v_X12_copyRow_h : List Cond := .code yX12_copyRow cX12_copyRow 5 none :: (([] : List Cond) ++ ([] : List Cond))
theorem good_v_X12_copyRow_h : v_X12_copyRow_h.all goodWord = true := ga_c (by decide +kernel) (ga_a (by decide +kernel) rfl)
set_option maxHeartbeats 4000000 in
set_option maxRecDepth 100000 in
theorem k_X12_copyRow_h (l : Launch) (g : va_G) (cI cJ cB cZ cL : ClassId) (rw : Nat) (f0 : Nat → Int32) (ia : Nat) (ib : Nat) (sz : Nat) (h0 : ia ≤ 4) (h1 : ib ≤ 4) : Met l yX12_copyRow v_X12_copyRow_h ({ frames := 0, cells := 0, slots := 0, locals := 0 }) (va_Pc [.ref rw, .int 5, .int (nI ia), .int (nI ib)] (pRW g (tyT cI cJ cB cZ cL) [(rw, .inl (cI, 25, .inl f0))] sz)) (va_Qv (fun (u : Nat → Int32) => match u with | f1 => True) (fun (u : Nat → Int32) (t : State) => bRW g (tyT cI cJ cB cZ cL) (va_A [(rw, .inl (cI, 25, .inl f0))] sz) (match u with | f1 => [(rw, .inl (cI, 25, .inl f1))]) t) (va_A [(rw, .inl (cI, 25, .inl f0))] sz)) 0 0 (va_A [(rw, .inl (cI, 25, .inl f0))] sz) := by
  refine Met.ofW (cc := cX12_copyRow) (maxL := 5) (ret := none) (by decide) rfl ?_
  intro p e s m args below meth c s₁ B hml hv
  obtain ⟨rfl, hsz, hP, hK, hD0⟩ := hv
  have hx := B.exec
  have hb := B.bytes
  have hr := B.returns
  have hts := atoms_spec (ws := v_X12_copyRow_h) B.pre
  have hown : s.vm.findClass RX12 = some m.cls := findClass_of_methodNamed B.named
  have hlocks := B.notSynchronized
  subst hsz
  have hD := hD0.self (sz := s.heap.size)
  generalize hAe : (va_A [(rw, .inl (cI, 25, .inl f0))] s.heap.size) = A at hD ⊢
  have hA : ∀ q : Nat, s.heap.size ≤ q → A q := fun q h => by rw [← hAe]; exact Or.inr h
  have hS : va_S A s.heap s.heap [] := va_S.rf
  have hl := lv_entry ([.ref rw, .int 5, .int (nI ia), .int (nI ib)]) (n := 5) (Nat.le_of_ble_eq_true rfl)
  rw [lg_entry_eq]
  generalize (lg_sl ([.ref rw, .int 5, .int (nI ia), .int (nI ib)]) ++ List.replicate (5 - (lg_sl ([.ref rw, .int 5, .int (nI ia), .int (nI ib)])).length) Slot.unset).toArray = ls at hl ⊢
  have hl : lv_has ls 5 [(0, .ref rw), (1, .int 5), (2, .int (nI ia)), (3, .int (nI ib))] := hl
  have hP : va_P g vwCl [(rw, .inl (cI, 25, .inl f0))] s.heap := hP
  refine lv_iconst (v := 0) hx hb dX12_copyRow_0 (by decide) ?_
  refine lv_istore (lv' := [(4, .int 0), (0, .ref rw), (1, .int 5), (2, .int (nI ia)), (3, .int (nI ib))]) hx hb dX12_copyRow_1 hl (by decide) rfl (fun ls hl => ?_)
  have lp3 : ∀ (n1 : Nat) (i : Nat) (f : Nat → Int32) (H : Heap) (locs : List Loc) (ls : Array Slot), 5 - i < n1 → (i ≤ 5) → va_P g vwCl [(rw, .inl (cI, 25, .inl f))] H → va_D A [(rw, .inl (cI, 25, .inl f))] → va_S A s.heap H locs → lv_has ls 5 [(0, .ref rw), (1, .int 5), (2, .int (nI ia)), (3, .int (nI ib)), (4, .int (nI i))] → W p l e (headSpec v_X12_copyRow_h ({ frames := 0, cells := 0, slots := 0, locals := 0 })).room s m ([.ref rw, .int 5, .int (nI ia), .int (nI ib)] : List Value).toArray below meth c H locs 0 0 (MQ below (va_Qv (fun (u : Nat → Int32) => match u with | f1 => True) (fun (u : Nat → Int32) (t : State) => bRW g (tyT cI cJ cB cZ cL) A (match u with | f1 => [(rw, .inl (cI, 25, .inl f1))]) t) A) ([.ref rw, .int 5, .int (nI ia), .int (nI ib)] : List Value).toArray s 0 0 A) (F0 m 3 ls []) := by
    intro n1
    induction n1 with
    | zero => exact fun i f H locs ls hn => absurd hn (Nat.not_lt_zero _)
    | succ n1 ih2 =>
      intro i f H locs ls hn hi hP hD hS hl
      refine lv_iload hx hb dX12_copyRow_3 (lv_at hl 4 rfl) ?_
      refine lv_iload_n hx hb dX12_copyRow_5 rfl (lv_at hl 1 rfl) ?_
      refine lv_icmp_ge (tgt := 31) hx hb dX12_copyRow_6 (by decide) (fun c4 => ?_) (fun c4 => ?_)
      · have f5 := (show 5 ≤ (i : Int) from z_le rfl (nI_toInt (n := i) (by omega)) c4)
        have hP9 := hP.sub (ws' := [(rw, .inl (cI, 25, .inl f))]) [0] rfl
        have hD9 := hD.sub (ws' := [(rw, .inl (cI, 25, .inl f))]) [0] (by decide) rfl
        exact W.vret hx hb hr (fun t ht hW => ⟨⟨f, rfl, trivial, by rw [ht]; exact hP9, va_K.moved hW.alike hK, hD9⟩, hS.F ht⟩) hS.2.2 dX12_copyRow_31
      · have f5 := (show (i : Int) < 5 from z_nle rfl (nI_toInt (n := i) (by omega)) c4)
        refine lv_aload_n hx hb dX12_copyRow_9 rfl (lv_at hl 0 rfl) ?_
        refine lv_iload_n hx hb dX12_copyRow_10 rfl (lv_at hl 1 rfl) ?_
        refine lv_iload_n hx hb dX12_copyRow_11 rfl (lv_at hl 3 rfl) ?_
        refine lv_imul hx hb dX12_copyRow_12 ?_
        refine lv_topi (nm_r (e' := (nI (5 * ib))) (pk_mul 5 ib) ?_)
        refine lv_iload hx hb dX12_copyRow_13 (lv_at hl 4 rfl) ?_
        refine lv_iadd hx hb dX12_copyRow_15 ?_
        refine lv_topi (nm_r (e' := (nI ((5 * ib) + i))) (nI_add (5 * ib) i) ?_)
        refine lv_aload_n hx hb dX12_copyRow_16 rfl (lv_at hl 0 rfl) ?_
        refine lv_iload_n hx hb dX12_copyRow_17 rfl (lv_at hl 1 rfl) ?_
        refine lv_iload_n hx hb dX12_copyRow_18 rfl (lv_at hl 2 rfl) ?_
        refine lv_imul hx hb dX12_copyRow_19 ?_
        refine lv_topi (nm_r (e' := (nI (5 * ia))) (pk_mul 5 ia) ?_)
        refine lv_iload hx hb dX12_copyRow_20 (lv_at hl 4 rfl) ?_
        refine lv_iadd hx hb dX12_copyRow_22 ?_
        refine lv_topi (nm_r (e' := (nI ((5 * ia) + i))) (nI_add (5 * ia) i) ?_)
        refine va_iald (D := g) hx hb hK hP 0 0 rfl rfl (vp_in_nI (n := (5 * ia) + i) (by omega) (by decide)) dX12_copyRow_23 ?_
        refine lv_topi (nm_r (e' := f ((5 * ia) + i)) (congrArg f (nI_clamp (n := (5 * ia) + i) (by omega))) ?_)
        refine va_iast (D := g) hx hb hK hP hD hS 0 0 rfl rfl (vp_in_nI (n := (5 * ib) + i) (by omega) (by decide)) dX12_copyRow_24 (fun H locs hP hD hS => ?_)
        rw [nI_clamp (n := (5 * ib) + i) (by omega)] at hP hD
        have hP : va_P g vwCl [(rw, .inl (cI, 25, .inl (upd f ((5 * ib) + i) (f ((5 * ia) + i)))))] H := hP
        have hD : va_D A [(rw, .inl (cI, 25, .inl (upd f ((5 * ib) + i) (f ((5 * ia) + i)))))] := hD
        refine lv_iinc (v := (nI (i + 1))) (lv' := [(4, .int (nI (i + 1))), (0, .ref rw), (1, .int 5), (2, .int (nI ia)), (3, .int (nI ib))]) hx hb dX12_copyRow_25 hl (k := 4) rfl (nI_add i 1) (by decide) rfl (fun ls hl => ?_)
        refine lv_goto (tgt := 3) hx hb dX12_copyRow_28 (by decide) ?_
        exact ih2 (i + 1) _ _ _ _ (by omega) (by omega) (hP.sub [0] rfl) (hD.sub [0] (by decide) rfl) hS (lv_sub hl [1, 2, 3, 4, 0] rfl)
  exact lp3 _ 0 f0 _ _ _ (Nat.lt_succ_self _) (Nat.zero_le _) (hP.sub [0] rfl) (hD.sub [0] (by decide) rfl) hS (lv_sub hl [1, 2, 3, 4, 0] rfl)
def v_X12_copyRow_p : List Cond := .code yX12_copyRow cX12_copyRow 5 none :: (([] : List Cond) ++ ([] : List Cond))
theorem good_v_X12_copyRow_p : v_X12_copyRow_p.all goodWord = true := ga_c (by decide +kernel) (ga_a (by decide +kernel) rfl)
set_option maxHeartbeats 4000000 in
set_option maxRecDepth 100000 in
theorem k_X12_copyRow_p (l : Launch) (g : va_G) (cI cJ cB cZ cL : ClassId) (rw : Nat) (f0 : Nat → Int32) (ia : Nat) (ib : Nat) (sz : Nat) (h0 : ia ≤ 4) (h1 : ib ≤ 4) : Met l yX12_copyRow v_X12_copyRow_p ({ frames := 0, cells := 0, slots := 0, locals := 0 }) (va_Pc [.ref rw, .int 50, .int (nI ia), .int (nI ib)] (pRW g (tyT cI cJ cB cZ cL) [(rw, .inl (cI, 250, .inl f0))] sz)) (va_Qv (fun (u : Nat → Int32) => match u with | f1 => True) (fun (u : Nat → Int32) (t : State) => bRW g (tyT cI cJ cB cZ cL) (va_A [(rw, .inl (cI, 250, .inl f0))] sz) (match u with | f1 => [(rw, .inl (cI, 250, .inl f1))]) t) (va_A [(rw, .inl (cI, 250, .inl f0))] sz)) 0 0 (va_A [(rw, .inl (cI, 250, .inl f0))] sz) := by
  refine Met.ofW (cc := cX12_copyRow) (maxL := 5) (ret := none) (by decide) rfl ?_
  intro p e s m args below meth c s₁ B hml hv
  obtain ⟨rfl, hsz, hP, hK, hD0⟩ := hv
  have hx := B.exec
  have hb := B.bytes
  have hr := B.returns
  have hts := atoms_spec (ws := v_X12_copyRow_p) B.pre
  have hown : s.vm.findClass RX12 = some m.cls := findClass_of_methodNamed B.named
  have hlocks := B.notSynchronized
  subst hsz
  have hD := hD0.self (sz := s.heap.size)
  generalize hAe : (va_A [(rw, .inl (cI, 250, .inl f0))] s.heap.size) = A at hD ⊢
  have hA : ∀ q : Nat, s.heap.size ≤ q → A q := fun q h => by rw [← hAe]; exact Or.inr h
  have hS : va_S A s.heap s.heap [] := va_S.rf
  have hl := lv_entry ([.ref rw, .int 50, .int (nI ia), .int (nI ib)]) (n := 5) (Nat.le_of_ble_eq_true rfl)
  rw [lg_entry_eq]
  generalize (lg_sl ([.ref rw, .int 50, .int (nI ia), .int (nI ib)]) ++ List.replicate (5 - (lg_sl ([.ref rw, .int 50, .int (nI ia), .int (nI ib)])).length) Slot.unset).toArray = ls at hl ⊢
  have hl : lv_has ls 5 [(0, .ref rw), (1, .int 50), (2, .int (nI ia)), (3, .int (nI ib))] := hl
  have hP : va_P g vwCl [(rw, .inl (cI, 250, .inl f0))] s.heap := hP
  refine lv_iconst (v := 0) hx hb dX12_copyRow_0 (by decide) ?_
  refine lv_istore (lv' := [(4, .int 0), (0, .ref rw), (1, .int 50), (2, .int (nI ia)), (3, .int (nI ib))]) hx hb dX12_copyRow_1 hl (by decide) rfl (fun ls hl => ?_)
  have lp3 : ∀ (n1 : Nat) (i : Nat) (f : Nat → Int32) (H : Heap) (locs : List Loc) (ls : Array Slot), 50 - i < n1 → (i ≤ 50) → va_P g vwCl [(rw, .inl (cI, 250, .inl f))] H → va_D A [(rw, .inl (cI, 250, .inl f))] → va_S A s.heap H locs → lv_has ls 5 [(0, .ref rw), (1, .int 50), (2, .int (nI ia)), (3, .int (nI ib)), (4, .int (nI i))] → W p l e (headSpec v_X12_copyRow_p ({ frames := 0, cells := 0, slots := 0, locals := 0 })).room s m ([.ref rw, .int 50, .int (nI ia), .int (nI ib)] : List Value).toArray below meth c H locs 0 0 (MQ below (va_Qv (fun (u : Nat → Int32) => match u with | f1 => True) (fun (u : Nat → Int32) (t : State) => bRW g (tyT cI cJ cB cZ cL) A (match u with | f1 => [(rw, .inl (cI, 250, .inl f1))]) t) A) ([.ref rw, .int 50, .int (nI ia), .int (nI ib)] : List Value).toArray s 0 0 A) (F0 m 3 ls []) := by
    intro n1
    induction n1 with
    | zero => exact fun i f H locs ls hn => absurd hn (Nat.not_lt_zero _)
    | succ n1 ih2 =>
      intro i f H locs ls hn hi hP hD hS hl
      refine lv_iload hx hb dX12_copyRow_3 (lv_at hl 4 rfl) ?_
      refine lv_iload_n hx hb dX12_copyRow_5 rfl (lv_at hl 1 rfl) ?_
      refine lv_icmp_ge (tgt := 31) hx hb dX12_copyRow_6 (by decide) (fun c4 => ?_) (fun c4 => ?_)
      · have f5 := (show 50 ≤ (i : Int) from z_le rfl (nI_toInt (n := i) (by omega)) c4)
        have hP9 := hP.sub (ws' := [(rw, .inl (cI, 250, .inl f))]) [0] rfl
        have hD9 := hD.sub (ws' := [(rw, .inl (cI, 250, .inl f))]) [0] (by decide) rfl
        exact W.vret hx hb hr (fun t ht hW => ⟨⟨f, rfl, trivial, by rw [ht]; exact hP9, va_K.moved hW.alike hK, hD9⟩, hS.F ht⟩) hS.2.2 dX12_copyRow_31
      · have f5 := (show (i : Int) < 50 from z_nle rfl (nI_toInt (n := i) (by omega)) c4)
        refine lv_aload_n hx hb dX12_copyRow_9 rfl (lv_at hl 0 rfl) ?_
        refine lv_iload_n hx hb dX12_copyRow_10 rfl (lv_at hl 1 rfl) ?_
        refine lv_iload_n hx hb dX12_copyRow_11 rfl (lv_at hl 3 rfl) ?_
        refine lv_imul hx hb dX12_copyRow_12 ?_
        refine lv_topi (nm_r (e' := (nI (50 * ib))) (pk_mul 50 ib) ?_)
        refine lv_iload hx hb dX12_copyRow_13 (lv_at hl 4 rfl) ?_
        refine lv_iadd hx hb dX12_copyRow_15 ?_
        refine lv_topi (nm_r (e' := (nI ((50 * ib) + i))) (nI_add (50 * ib) i) ?_)
        refine lv_aload_n hx hb dX12_copyRow_16 rfl (lv_at hl 0 rfl) ?_
        refine lv_iload_n hx hb dX12_copyRow_17 rfl (lv_at hl 1 rfl) ?_
        refine lv_iload_n hx hb dX12_copyRow_18 rfl (lv_at hl 2 rfl) ?_
        refine lv_imul hx hb dX12_copyRow_19 ?_
        refine lv_topi (nm_r (e' := (nI (50 * ia))) (pk_mul 50 ia) ?_)
        refine lv_iload hx hb dX12_copyRow_20 (lv_at hl 4 rfl) ?_
        refine lv_iadd hx hb dX12_copyRow_22 ?_
        refine lv_topi (nm_r (e' := (nI ((50 * ia) + i))) (nI_add (50 * ia) i) ?_)
        refine va_iald (D := g) hx hb hK hP 0 0 rfl rfl (vp_in_nI (n := (50 * ia) + i) (by omega) (by decide)) dX12_copyRow_23 ?_
        refine lv_topi (nm_r (e' := f ((50 * ia) + i)) (congrArg f (nI_clamp (n := (50 * ia) + i) (by omega))) ?_)
        refine va_iast (D := g) hx hb hK hP hD hS 0 0 rfl rfl (vp_in_nI (n := (50 * ib) + i) (by omega) (by decide)) dX12_copyRow_24 (fun H locs hP hD hS => ?_)
        rw [nI_clamp (n := (50 * ib) + i) (by omega)] at hP hD
        have hP : va_P g vwCl [(rw, .inl (cI, 250, .inl (upd f ((50 * ib) + i) (f ((50 * ia) + i)))))] H := hP
        have hD : va_D A [(rw, .inl (cI, 250, .inl (upd f ((50 * ib) + i) (f ((50 * ia) + i)))))] := hD
        refine lv_iinc (v := (nI (i + 1))) (lv' := [(4, .int (nI (i + 1))), (0, .ref rw), (1, .int 50), (2, .int (nI ia)), (3, .int (nI ib))]) hx hb dX12_copyRow_25 hl (k := 4) rfl (nI_add i 1) (by decide) rfl (fun ls hl => ?_)
        refine lv_goto (tgt := 3) hx hb dX12_copyRow_28 (by decide) ?_
        exact ih2 (i + 1) _ _ _ _ (by omega) (by omega) (hP.sub [0] rfl) (hD.sub [0] (by decide) rfl) hS (lv_sub hl [1, 2, 3, 4, 0] rfl)
  exact lp3 _ 0 f0 _ _ _ (Nat.lt_succ_self _) (Nat.zero_le _) (hP.sub [0] rfl) (hD.sub [0] (by decide) rfl) hS (lv_sub hl [1, 2, 3, 4, 0] rfl)
def v_X12_copyRow_q : List Cond := .code yX12_copyRow cX12_copyRow 5 none :: (([] : List Cond) ++ ([] : List Cond))
theorem good_v_X12_copyRow_q : v_X12_copyRow_q.all goodWord = true := ga_c (by decide +kernel) (ga_a (by decide +kernel) rfl)
set_option maxHeartbeats 4000000 in
set_option maxRecDepth 100000 in
theorem k_X12_copyRow_q (l : Launch) (g : va_G) (cI cJ cB cZ cL : ClassId) (rw : Nat) (f0 : Nat → Int32) (ia : Nat) (ib : Nat) (sz : Nat) (h0 : ia ≤ 4) (h1 : ib ≤ 4) : Met l yX12_copyRow v_X12_copyRow_q ({ frames := 0, cells := 0, slots := 0, locals := 0 }) (va_Pc [.ref rw, .int 48, .int (nI ia), .int (nI ib)] (pRW g (tyT cI cJ cB cZ cL) [(rw, .inl (cI, 240, .inl f0))] sz)) (va_Qv (fun (u : Nat → Int32) => match u with | f1 => True) (fun (u : Nat → Int32) (t : State) => bRW g (tyT cI cJ cB cZ cL) (va_A [(rw, .inl (cI, 240, .inl f0))] sz) (match u with | f1 => [(rw, .inl (cI, 240, .inl f1))]) t) (va_A [(rw, .inl (cI, 240, .inl f0))] sz)) 0 0 (va_A [(rw, .inl (cI, 240, .inl f0))] sz) := by
  refine Met.ofW (cc := cX12_copyRow) (maxL := 5) (ret := none) (by decide) rfl ?_
  intro p e s m args below meth c s₁ B hml hv
  obtain ⟨rfl, hsz, hP, hK, hD0⟩ := hv
  have hx := B.exec
  have hb := B.bytes
  have hr := B.returns
  have hts := atoms_spec (ws := v_X12_copyRow_q) B.pre
  have hown : s.vm.findClass RX12 = some m.cls := findClass_of_methodNamed B.named
  have hlocks := B.notSynchronized
  subst hsz
  have hD := hD0.self (sz := s.heap.size)
  generalize hAe : (va_A [(rw, .inl (cI, 240, .inl f0))] s.heap.size) = A at hD ⊢
  have hA : ∀ q : Nat, s.heap.size ≤ q → A q := fun q h => by rw [← hAe]; exact Or.inr h
  have hS : va_S A s.heap s.heap [] := va_S.rf
  have hl := lv_entry ([.ref rw, .int 48, .int (nI ia), .int (nI ib)]) (n := 5) (Nat.le_of_ble_eq_true rfl)
  rw [lg_entry_eq]
  generalize (lg_sl ([.ref rw, .int 48, .int (nI ia), .int (nI ib)]) ++ List.replicate (5 - (lg_sl ([.ref rw, .int 48, .int (nI ia), .int (nI ib)])).length) Slot.unset).toArray = ls at hl ⊢
  have hl : lv_has ls 5 [(0, .ref rw), (1, .int 48), (2, .int (nI ia)), (3, .int (nI ib))] := hl
  have hP : va_P g vwCl [(rw, .inl (cI, 240, .inl f0))] s.heap := hP
  refine lv_iconst (v := 0) hx hb dX12_copyRow_0 (by decide) ?_
  refine lv_istore (lv' := [(4, .int 0), (0, .ref rw), (1, .int 48), (2, .int (nI ia)), (3, .int (nI ib))]) hx hb dX12_copyRow_1 hl (by decide) rfl (fun ls hl => ?_)
  have lp3 : ∀ (n1 : Nat) (i : Nat) (f : Nat → Int32) (H : Heap) (locs : List Loc) (ls : Array Slot), 48 - i < n1 → (i ≤ 48) → va_P g vwCl [(rw, .inl (cI, 240, .inl f))] H → va_D A [(rw, .inl (cI, 240, .inl f))] → va_S A s.heap H locs → lv_has ls 5 [(0, .ref rw), (1, .int 48), (2, .int (nI ia)), (3, .int (nI ib)), (4, .int (nI i))] → W p l e (headSpec v_X12_copyRow_q ({ frames := 0, cells := 0, slots := 0, locals := 0 })).room s m ([.ref rw, .int 48, .int (nI ia), .int (nI ib)] : List Value).toArray below meth c H locs 0 0 (MQ below (va_Qv (fun (u : Nat → Int32) => match u with | f1 => True) (fun (u : Nat → Int32) (t : State) => bRW g (tyT cI cJ cB cZ cL) A (match u with | f1 => [(rw, .inl (cI, 240, .inl f1))]) t) A) ([.ref rw, .int 48, .int (nI ia), .int (nI ib)] : List Value).toArray s 0 0 A) (F0 m 3 ls []) := by
    intro n1
    induction n1 with
    | zero => exact fun i f H locs ls hn => absurd hn (Nat.not_lt_zero _)
    | succ n1 ih2 =>
      intro i f H locs ls hn hi hP hD hS hl
      refine lv_iload hx hb dX12_copyRow_3 (lv_at hl 4 rfl) ?_
      refine lv_iload_n hx hb dX12_copyRow_5 rfl (lv_at hl 1 rfl) ?_
      refine lv_icmp_ge (tgt := 31) hx hb dX12_copyRow_6 (by decide) (fun c4 => ?_) (fun c4 => ?_)
      · have f5 := (show 48 ≤ (i : Int) from z_le rfl (nI_toInt (n := i) (by omega)) c4)
        have hP9 := hP.sub (ws' := [(rw, .inl (cI, 240, .inl f))]) [0] rfl
        have hD9 := hD.sub (ws' := [(rw, .inl (cI, 240, .inl f))]) [0] (by decide) rfl
        exact W.vret hx hb hr (fun t ht hW => ⟨⟨f, rfl, trivial, by rw [ht]; exact hP9, va_K.moved hW.alike hK, hD9⟩, hS.F ht⟩) hS.2.2 dX12_copyRow_31
      · have f5 := (show (i : Int) < 48 from z_nle rfl (nI_toInt (n := i) (by omega)) c4)
        refine lv_aload_n hx hb dX12_copyRow_9 rfl (lv_at hl 0 rfl) ?_
        refine lv_iload_n hx hb dX12_copyRow_10 rfl (lv_at hl 1 rfl) ?_
        refine lv_iload_n hx hb dX12_copyRow_11 rfl (lv_at hl 3 rfl) ?_
        refine lv_imul hx hb dX12_copyRow_12 ?_
        refine lv_topi (nm_r (e' := (nI (48 * ib))) (pk_mul 48 ib) ?_)
        refine lv_iload hx hb dX12_copyRow_13 (lv_at hl 4 rfl) ?_
        refine lv_iadd hx hb dX12_copyRow_15 ?_
        refine lv_topi (nm_r (e' := (nI ((48 * ib) + i))) (nI_add (48 * ib) i) ?_)
        refine lv_aload_n hx hb dX12_copyRow_16 rfl (lv_at hl 0 rfl) ?_
        refine lv_iload_n hx hb dX12_copyRow_17 rfl (lv_at hl 1 rfl) ?_
        refine lv_iload_n hx hb dX12_copyRow_18 rfl (lv_at hl 2 rfl) ?_
        refine lv_imul hx hb dX12_copyRow_19 ?_
        refine lv_topi (nm_r (e' := (nI (48 * ia))) (pk_mul 48 ia) ?_)
        refine lv_iload hx hb dX12_copyRow_20 (lv_at hl 4 rfl) ?_
        refine lv_iadd hx hb dX12_copyRow_22 ?_
        refine lv_topi (nm_r (e' := (nI ((48 * ia) + i))) (nI_add (48 * ia) i) ?_)
        refine va_iald (D := g) hx hb hK hP 0 0 rfl rfl (vp_in_nI (n := (48 * ia) + i) (by omega) (by decide)) dX12_copyRow_23 ?_
        refine lv_topi (nm_r (e' := f ((48 * ia) + i)) (congrArg f (nI_clamp (n := (48 * ia) + i) (by omega))) ?_)
        refine va_iast (D := g) hx hb hK hP hD hS 0 0 rfl rfl (vp_in_nI (n := (48 * ib) + i) (by omega) (by decide)) dX12_copyRow_24 (fun H locs hP hD hS => ?_)
        rw [nI_clamp (n := (48 * ib) + i) (by omega)] at hP hD
        have hP : va_P g vwCl [(rw, .inl (cI, 240, .inl (upd f ((48 * ib) + i) (f ((48 * ia) + i)))))] H := hP
        have hD : va_D A [(rw, .inl (cI, 240, .inl (upd f ((48 * ib) + i) (f ((48 * ia) + i)))))] := hD
        refine lv_iinc (v := (nI (i + 1))) (lv' := [(4, .int (nI (i + 1))), (0, .ref rw), (1, .int 48), (2, .int (nI ia)), (3, .int (nI ib))]) hx hb dX12_copyRow_25 hl (k := 4) rfl (nI_add i 1) (by decide) rfl (fun ls hl => ?_)
        refine lv_goto (tgt := 3) hx hb dX12_copyRow_28 (by decide) ?_
        exact ih2 (i + 1) _ _ _ _ (by omega) (by omega) (hP.sub [0] rfl) (hD.sub [0] (by decide) rfl) hS (lv_sub hl [1, 2, 3, 4, 0] rfl)
  exact lp3 _ 0 f0 _ _ _ (Nat.lt_succ_self _) (Nat.zero_le _) (hP.sub [0] rfl) (hD.sub [0] (by decide) rfl) hS (lv_sub hl [1, 2, 3, 4, 0] rfl)
def v_X12_copyLand_r : List Cond := .code yX12_copyLand cX12_copyLand 4 none :: (([.fieldLink RX12 31 "CardsAtYuleModel" "lines" "[I", .methodLink RX12 267 yX12_copyRow, .static yX12_copyRow, .initialized RX12, .fieldLink RX12 34 "CardsAtYuleModel" "has" "[I", .fieldLink RX12 37 "CardsAtYuleModel" "person" "[I", .fieldLink RX12 40 "CardsAtYuleModel" "pair" "[I", .fieldLink RX12 46 "CardsAtYuleModel" "strikes" "[J", .fieldLink RX12 43 "CardsAtYuleModel" "lost" "[J"] : List Cond) ++ (v_X12_copyRow_x ++ (v_X12_copyRow_h ++ (v_X12_copyRow_p ++ (v_X12_copyRow_q ++ (wsX120 ++ ([] : List Cond)))))))
theorem good_v_X12_copyLand_r : v_X12_copyLand_r.all goodWord = true := ga_c (by decide +kernel) (ga_a (by decide +kernel) (ga_a good_v_X12_copyRow_x (ga_a good_v_X12_copyRow_h (ga_a good_v_X12_copyRow_p (ga_a good_v_X12_copyRow_q (ga_a good_wsX120 rfl))))))
set_option maxHeartbeats 4000000 in
set_option maxRecDepth 100000 in
theorem k_X12_copyLand_r (l : Launch) (g : va_G) (cI cJ cB cZ cL : ClassId) (y : Nat) (a : Nat → Nat) (fh : Nat → Int32) (fs : Nat → Int64) (sz : Nat)  : Met l yX12_copyLand v_X12_copyLand_r ({ frames := 1, cells := 0, slots := 0, locals := 24 }) (va_Pc [.ref y, .int 4, .int 0] (pRW g (tyT cI cJ cB cZ cL) [(y, .inr (11, (mO a).set 13 (.int (-1)))), ((a 16), .inl (cI, 5, .inl (upd (fun _ => 0) 4 0))), ((a 17), .inl (cI, 25, .inl fh)), ((a 18), .inl (cI, 250, .inl (fun _ => 0))), ((a 19), .inl (cI, 240, .inl (fun _ => 0))), ((a 20), .inl (cJ, 160, .inr (.inl (fun _ => 0)))), ((a 21), .inl (cJ, 5, .inr (.inl fs)))] sz)) (va_Qv (fun (u : Unit) => True) (fun (_ : Unit) (t : State) => bRW g (tyT cI cJ cB cZ cL) (va_A [(y, .inr (11, (mO a).set 13 (.int (-1)))), ((a 16), .inl (cI, 5, .inl (upd (fun _ => 0) 4 0))), ((a 17), .inl (cI, 25, .inl fh)), ((a 18), .inl (cI, 250, .inl (fun _ => 0))), ((a 19), .inl (cI, 240, .inl (fun _ => 0))), ((a 20), .inl (cJ, 160, .inr (.inl (fun _ => 0)))), ((a 21), .inl (cJ, 5, .inr (.inl fs)))] sz) [(y, .inr (11, (mO a).set 13 (.int (-1)))), ((a 16), .inl (cI, 5, .inl (upd (upd (fun _ => 0) 4 0) 0 (upd (fun _ => 0) 4 0 4))))] t) (va_A [(y, .inr (11, (mO a).set 13 (.int (-1)))), ((a 16), .inl (cI, 5, .inl (upd (fun _ => 0) 4 0))), ((a 17), .inl (cI, 25, .inl fh)), ((a 18), .inl (cI, 250, .inl (fun _ => 0))), ((a 19), .inl (cI, 240, .inl (fun _ => 0))), ((a 20), .inl (cJ, 160, .inr (.inl (fun _ => 0)))), ((a 21), .inl (cJ, 5, .inr (.inl fs)))] sz)) 0 0 (va_A [(y, .inr (11, (mO a).set 13 (.int (-1)))), ((a 16), .inl (cI, 5, .inl (upd (fun _ => 0) 4 0))), ((a 17), .inl (cI, 25, .inl fh)), ((a 18), .inl (cI, 250, .inl (fun _ => 0))), ((a 19), .inl (cI, 240, .inl (fun _ => 0))), ((a 20), .inl (cJ, 160, .inr (.inl (fun _ => 0)))), ((a 21), .inl (cJ, 5, .inr (.inl fs)))] sz) := by
  refine Met.ofW (cc := cX12_copyLand) (maxL := 4) (ret := none) (by decide) rfl ?_
  intro p e s m args below meth c s₁ B hml hv
  obtain ⟨rfl, hsz, hP, hK, hD0⟩ := hv
  have hx := B.exec
  have hb := B.bytes
  have hr := B.returns
  have hts := atoms_spec (ws := v_X12_copyLand_r) B.pre
  have hown : s.vm.findClass RX12 = some m.cls := findClass_of_methodNamed B.named
  have hlocks := B.notSynchronized
  subst hsz
  have iX12 : ∀ w ∈ wsX120, w ∈ v_X12_copyLand_r := (fun _ h => List.mem_cons_of_mem _ (List.mem_append_right _ (List.mem_append_right _ (List.mem_append_right _ (List.mem_append_right _ (List.mem_append_right _ (List.mem_append_left _ h)))))))
  have hD := hD0.self (sz := s.heap.size)
  generalize hAe : (va_A [(y, .inr (11, (mO a).set 13 (.int (-1)))), ((a 16), .inl (cI, 5, .inl (upd (fun _ => 0) 4 0))), ((a 17), .inl (cI, 25, .inl fh)), ((a 18), .inl (cI, 250, .inl (fun _ => 0))), ((a 19), .inl (cI, 240, .inl (fun _ => 0))), ((a 20), .inl (cJ, 160, .inr (.inl (fun _ => 0)))), ((a 21), .inl (cJ, 5, .inr (.inl fs)))] s.heap.size) = A at hD ⊢
  have hA : ∀ q : Nat, s.heap.size ≤ q → A q := fun q h => by rw [← hAe]; exact Or.inr h
  have hS : va_S A s.heap s.heap [] := va_S.rf
  have hl := lv_entry ([.ref y, .int 4, .int 0]) (n := 4) (Nat.le_of_ble_eq_true rfl)
  rw [lg_entry_eq]
  generalize (lg_sl ([.ref y, .int 4, .int 0]) ++ List.replicate (4 - (lg_sl ([.ref y, .int 4, .int 0])).length) Slot.unset).toArray = ls at hl ⊢
  have hl : lv_has ls 4 [(0, .ref y), (1, .int 4), (2, .int 0)] := hl
  have hP : va_P g vwCl [(y, .inr (11, (mO a).set 13 (.int (-1)))), ((a 16), .inl (cI, 5, .inl (upd (fun _ => 0) 4 0))), ((a 17), .inl (cI, 25, .inl fh)), ((a 18), .inl (cI, 250, .inl (fun _ => 0))), ((a 19), .inl (cI, 240, .inl (fun _ => 0))), ((a 20), .inl (cJ, 160, .inr (.inl (fun _ => 0)))), ((a 21), .inl (cJ, 5, .inr (.inl fs)))] s.heap := hP
  refine lv_aload_n hx hb dX12_copyLand_0 rfl (lv_at hl 0 rfl) ?_
  refine va_get (D := g) (ci := 11) (v := .ref (a 16)) (C := RX12) (T := TX12) (N := 56) hx hb hts iX12 hown hK hP 0 rfl rfl 16 (by decide) (hts (.fieldLink RX12 31 "CardsAtYuleModel" "lines" "[I") (List.mem_cons_of_mem _ (List.mem_append_left _ (List.mem_of_getElem? (i := 0) rfl)))) (fun _ h9 => h9) rfl dX12_copyLand_1 ?_
  refine lv_iconst (v := 1) hx hb dX12_copyLand_4 (by decide) ?_
  refine lv_iload_n hx hb dX12_copyLand_5 rfl (lv_at hl 1 rfl) ?_
  refine lv_iload_n hx hb dX12_copyLand_6 rfl (lv_at hl 2 rfl) ?_
  refine rw_v (wr := [(y, .inr (11, (mO a).set 13 (.int (-1)))), ((a 17), .inl (cI, 25, .inl fh)), ((a 18), .inl (cI, 250, .inl (fun _ => 0))), ((a 19), .inl (cI, 240, .inl (fun _ => 0))), ((a 20), .inl (cJ, 160, .inr (.inl (fun _ => 0)))), ((a 21), .inl (cJ, 5, .inr (.inl fs)))]) (va_runS (As := [.ref (a 16), .int 1, .int 4, .int 0]) (rest := []) ⟨hx, hb, hml, hown, hts⟩ (k_X12_copyRow_x l g cI cJ cB cZ cL (a 16) (upd (fun _ => 0) 4 0) s.heap.size ) (va_cwS 4 hts (goodIn_app (g_3 (List.mem_cons_of_mem _ (List.mem_append_left _ (List.mem_of_getElem? (i := 1) rfl))) (List.mem_cons_of_mem _ (List.mem_append_left _ (List.mem_of_getElem? (i := 2) rfl))) (List.mem_cons_of_mem _ (List.mem_append_left _ (List.mem_of_getElem? (i := 3) rfl))) (by decide +kernel)) (goodIn_sub (fun _ h => List.mem_cons_of_mem _ (List.mem_append_right _ (List.mem_append_left _ h))) good_v_X12_copyRow_x)) rfl rfl rfl (by decide +kernel) ⟨Nat.le_of_ble_eq_true rfl, Nat.le_of_ble_eq_true rfl⟩) (ps_RW (wc := [((a 16), .inl (cI, 5, .inl (upd (fun _ => 0) 4 0)))]) hK hP hD [1] (by decide) rfl) rfl rfl hl.1 rfl (lv_room (Nat.le_of_ble_eq_true rfl)) dX12_copyLand_7 ⟨Nat.le_of_ble_eq_true rfl, Nat.le_of_ble_eq_true rfl⟩) hS hA hP hD [1] [0, 2, 3, 4, 5, 6] rfl rfl (by decide) (by decide) (fun u2 H locs hw3 hP hD hS => ?_)
  have hP : va_P g vwCl [(y, .inr (11, (mO a).set 13 (.int (-1)))), ((a 17), .inl (cI, 25, .inl fh)), ((a 18), .inl (cI, 250, .inl (fun _ => 0))), ((a 19), .inl (cI, 240, .inl (fun _ => 0))), ((a 20), .inl (cJ, 160, .inr (.inl (fun _ => 0)))), ((a 21), .inl (cJ, 5, .inr (.inl fs))), ((a 16), .inl (cI, 5, .inl (upd (upd (fun _ => 0) 4 0) 0 ((upd (fun _ => 0) 4 0) 4))))] H := hP
  have hD : va_D A [(y, .inr (11, (mO a).set 13 (.int (-1)))), ((a 17), .inl (cI, 25, .inl fh)), ((a 18), .inl (cI, 250, .inl (fun _ => 0))), ((a 19), .inl (cI, 240, .inl (fun _ => 0))), ((a 20), .inl (cJ, 160, .inr (.inl (fun _ => 0)))), ((a 21), .inl (cJ, 5, .inr (.inl fs))), ((a 16), .inl (cI, 5, .inl (upd (upd (fun _ => 0) 4 0) 0 ((upd (fun _ => 0) 4 0) 4))))] := hD
  refine lv_aload_n hx hb dX12_copyLand_10 rfl (lv_at hl 0 rfl) ?_
  refine va_get (D := g) (ci := 11) (v := .ref (a 17)) (C := RX12) (T := TX12) (N := 56) hx hb hts iX12 hown hK hP 0 rfl rfl 17 (by decide) (hts (.fieldLink RX12 34 "CardsAtYuleModel" "has" "[I") (List.mem_cons_of_mem _ (List.mem_append_left _ (List.mem_of_getElem? (i := 4) rfl)))) (fun _ h9 => h9) rfl dX12_copyLand_11 ?_
  refine lv_iconst (v := 5) hx hb dX12_copyLand_14 (by decide) ?_
  refine lv_iload_n hx hb dX12_copyLand_15 rfl (lv_at hl 1 rfl) ?_
  refine lv_iload_n hx hb dX12_copyLand_16 rfl (lv_at hl 2 rfl) ?_
  refine rw_v (wr := [(y, .inr (11, (mO a).set 13 (.int (-1)))), ((a 18), .inl (cI, 250, .inl (fun _ => 0))), ((a 19), .inl (cI, 240, .inl (fun _ => 0))), ((a 20), .inl (cJ, 160, .inr (.inl (fun _ => 0)))), ((a 21), .inl (cJ, 5, .inr (.inl fs))), ((a 16), .inl (cI, 5, .inl (upd (upd (fun _ => 0) 4 0) 0 ((upd (fun _ => 0) 4 0) 4))))]) (va_runS (As := [.ref (a 17), .int 5, .int 4, .int 0]) (rest := []) ⟨hx, hb, hml, hown, hts⟩ (k_X12_copyRow_h l g cI cJ cB cZ cL (a 17) fh 4 0 H.size (by omega) (by omega)) (va_cwS 4 hts (goodIn_app (g_3 (List.mem_cons_of_mem _ (List.mem_append_left _ (List.mem_of_getElem? (i := 1) rfl))) (List.mem_cons_of_mem _ (List.mem_append_left _ (List.mem_of_getElem? (i := 2) rfl))) (List.mem_cons_of_mem _ (List.mem_append_left _ (List.mem_of_getElem? (i := 3) rfl))) (by decide +kernel)) (goodIn_sub (fun _ h => List.mem_cons_of_mem _ (List.mem_append_right _ (List.mem_append_right _ (List.mem_append_left _ h)))) good_v_X12_copyRow_h)) rfl rfl rfl (by decide +kernel) ⟨Nat.le_of_ble_eq_true rfl, Nat.le_of_ble_eq_true rfl⟩) (ps_RW (wc := [((a 17), .inl (cI, 25, .inl fh))]) hK hP hD [1] (by decide) rfl) rfl rfl hl.1 rfl (lv_room (Nat.le_of_ble_eq_true rfl)) dX12_copyLand_17 ⟨Nat.le_of_ble_eq_true rfl, Nat.le_of_ble_eq_true rfl⟩) hS hA hP hD [1] [0, 2, 3, 4, 5, 6] rfl rfl (by decide) (by decide) (fun u5 H locs hw6 hP hD hS => ?_)
  generalize u5 = u_f17 at hw6 hP hD
  try dsimp only at hw6
  have hP : va_P g vwCl [(y, .inr (11, (mO a).set 13 (.int (-1)))), ((a 18), .inl (cI, 250, .inl (fun _ => 0))), ((a 19), .inl (cI, 240, .inl (fun _ => 0))), ((a 20), .inl (cJ, 160, .inr (.inl (fun _ => 0)))), ((a 21), .inl (cJ, 5, .inr (.inl fs))), ((a 16), .inl (cI, 5, .inl (upd (upd (fun _ => 0) 4 0) 0 ((upd (fun _ => 0) 4 0) 4)))), ((a 17), .inl (cI, 25, .inl u_f17))] H := hP
  have hD : va_D A [(y, .inr (11, (mO a).set 13 (.int (-1)))), ((a 18), .inl (cI, 250, .inl (fun _ => 0))), ((a 19), .inl (cI, 240, .inl (fun _ => 0))), ((a 20), .inl (cJ, 160, .inr (.inl (fun _ => 0)))), ((a 21), .inl (cJ, 5, .inr (.inl fs))), ((a 16), .inl (cI, 5, .inl (upd (upd (fun _ => 0) 4 0) 0 ((upd (fun _ => 0) 4 0) 4)))), ((a 17), .inl (cI, 25, .inl u_f17))] := hD
  refine lv_aload_n hx hb dX12_copyLand_20 rfl (lv_at hl 0 rfl) ?_
  refine va_get (D := g) (ci := 11) (v := .ref (a 18)) (C := RX12) (T := TX12) (N := 56) hx hb hts iX12 hown hK hP 0 rfl rfl 18 (by decide) (hts (.fieldLink RX12 37 "CardsAtYuleModel" "person" "[I") (List.mem_cons_of_mem _ (List.mem_append_left _ (List.mem_of_getElem? (i := 5) rfl)))) (fun _ h9 => h9) rfl dX12_copyLand_21 ?_
  refine lv_bipush (v := 50) hx hb dX12_copyLand_24 (by decide) ?_
  refine lv_iload_n hx hb dX12_copyLand_26 rfl (lv_at hl 1 rfl) ?_
  refine lv_iload_n hx hb dX12_copyLand_27 rfl (lv_at hl 2 rfl) ?_
  refine rw_v (wr := [(y, .inr (11, (mO a).set 13 (.int (-1)))), ((a 19), .inl (cI, 240, .inl (fun _ => 0))), ((a 20), .inl (cJ, 160, .inr (.inl (fun _ => 0)))), ((a 21), .inl (cJ, 5, .inr (.inl fs))), ((a 16), .inl (cI, 5, .inl (upd (upd (fun _ => 0) 4 0) 0 ((upd (fun _ => 0) 4 0) 4)))), ((a 17), .inl (cI, 25, .inl u_f17))]) (va_runS (As := [.ref (a 18), .int 50, .int 4, .int 0]) (rest := []) ⟨hx, hb, hml, hown, hts⟩ (k_X12_copyRow_p l g cI cJ cB cZ cL (a 18) (fun _ => 0) 4 0 H.size (by omega) (by omega)) (va_cwS 4 hts (goodIn_app (g_3 (List.mem_cons_of_mem _ (List.mem_append_left _ (List.mem_of_getElem? (i := 1) rfl))) (List.mem_cons_of_mem _ (List.mem_append_left _ (List.mem_of_getElem? (i := 2) rfl))) (List.mem_cons_of_mem _ (List.mem_append_left _ (List.mem_of_getElem? (i := 3) rfl))) (by decide +kernel)) (goodIn_sub (fun _ h => List.mem_cons_of_mem _ (List.mem_append_right _ (List.mem_append_right _ (List.mem_append_right _ (List.mem_append_left _ h))))) good_v_X12_copyRow_p)) rfl rfl rfl (by decide +kernel) ⟨Nat.le_of_ble_eq_true rfl, Nat.le_of_ble_eq_true rfl⟩) (ps_RW (wc := [((a 18), .inl (cI, 250, .inl (fun _ => 0)))]) hK hP hD [1] (by decide) rfl) rfl rfl hl.1 rfl (lv_room (Nat.le_of_ble_eq_true rfl)) dX12_copyLand_28 ⟨Nat.le_of_ble_eq_true rfl, Nat.le_of_ble_eq_true rfl⟩) hS hA hP hD [1] [0, 2, 3, 4, 5, 6] rfl rfl (by decide) (by decide) (fun u9 H locs hw10 hP hD hS => ?_)
  generalize u9 = u_f111 at hw10 hP hD
  try dsimp only at hw10
  have hP : va_P g vwCl [(y, .inr (11, (mO a).set 13 (.int (-1)))), ((a 19), .inl (cI, 240, .inl (fun _ => 0))), ((a 20), .inl (cJ, 160, .inr (.inl (fun _ => 0)))), ((a 21), .inl (cJ, 5, .inr (.inl fs))), ((a 16), .inl (cI, 5, .inl (upd (upd (fun _ => 0) 4 0) 0 ((upd (fun _ => 0) 4 0) 4)))), ((a 17), .inl (cI, 25, .inl u_f17)), ((a 18), .inl (cI, 250, .inl u_f111))] H := hP
  have hD : va_D A [(y, .inr (11, (mO a).set 13 (.int (-1)))), ((a 19), .inl (cI, 240, .inl (fun _ => 0))), ((a 20), .inl (cJ, 160, .inr (.inl (fun _ => 0)))), ((a 21), .inl (cJ, 5, .inr (.inl fs))), ((a 16), .inl (cI, 5, .inl (upd (upd (fun _ => 0) 4 0) 0 ((upd (fun _ => 0) 4 0) 4)))), ((a 17), .inl (cI, 25, .inl u_f17)), ((a 18), .inl (cI, 250, .inl u_f111))] := hD
  refine lv_aload_n hx hb dX12_copyLand_31 rfl (lv_at hl 0 rfl) ?_
  refine va_get (D := g) (ci := 11) (v := .ref (a 19)) (C := RX12) (T := TX12) (N := 56) hx hb hts iX12 hown hK hP 0 rfl rfl 19 (by decide) (hts (.fieldLink RX12 40 "CardsAtYuleModel" "pair" "[I") (List.mem_cons_of_mem _ (List.mem_append_left _ (List.mem_of_getElem? (i := 6) rfl)))) (fun _ h9 => h9) rfl dX12_copyLand_32 ?_
  refine lv_bipush (v := 48) hx hb dX12_copyLand_35 (by decide) ?_
  refine lv_iload_n hx hb dX12_copyLand_37 rfl (lv_at hl 1 rfl) ?_
  refine lv_iload_n hx hb dX12_copyLand_38 rfl (lv_at hl 2 rfl) ?_
  refine rw_v (wr := [(y, .inr (11, (mO a).set 13 (.int (-1)))), ((a 20), .inl (cJ, 160, .inr (.inl (fun _ => 0)))), ((a 21), .inl (cJ, 5, .inr (.inl fs))), ((a 16), .inl (cI, 5, .inl (upd (upd (fun _ => 0) 4 0) 0 ((upd (fun _ => 0) 4 0) 4)))), ((a 17), .inl (cI, 25, .inl u_f17)), ((a 18), .inl (cI, 250, .inl u_f111))]) (va_runS (As := [.ref (a 19), .int 48, .int 4, .int 0]) (rest := []) ⟨hx, hb, hml, hown, hts⟩ (k_X12_copyRow_q l g cI cJ cB cZ cL (a 19) (fun _ => 0) 4 0 H.size (by omega) (by omega)) (va_cwS 4 hts (goodIn_app (g_3 (List.mem_cons_of_mem _ (List.mem_append_left _ (List.mem_of_getElem? (i := 1) rfl))) (List.mem_cons_of_mem _ (List.mem_append_left _ (List.mem_of_getElem? (i := 2) rfl))) (List.mem_cons_of_mem _ (List.mem_append_left _ (List.mem_of_getElem? (i := 3) rfl))) (by decide +kernel)) (goodIn_sub (fun _ h => List.mem_cons_of_mem _ (List.mem_append_right _ (List.mem_append_right _ (List.mem_append_right _ (List.mem_append_right _ (List.mem_append_left _ h)))))) good_v_X12_copyRow_q)) rfl rfl rfl (by decide +kernel) ⟨Nat.le_of_ble_eq_true rfl, Nat.le_of_ble_eq_true rfl⟩) (ps_RW (wc := [((a 19), .inl (cI, 240, .inl (fun _ => 0)))]) hK hP hD [1] (by decide) rfl) rfl rfl hl.1 rfl (lv_room (Nat.le_of_ble_eq_true rfl)) dX12_copyLand_39 ⟨Nat.le_of_ble_eq_true rfl, Nat.le_of_ble_eq_true rfl⟩) hS hA hP hD [1] [0, 2, 3, 4, 5, 6] rfl rfl (by decide) (by decide) (fun u13 H locs hw14 hP hD hS => ?_)
  generalize u13 = u_f115 at hw14 hP hD
  try dsimp only at hw14
  have hP : va_P g vwCl [(y, .inr (11, (mO a).set 13 (.int (-1)))), ((a 20), .inl (cJ, 160, .inr (.inl (fun _ => 0)))), ((a 21), .inl (cJ, 5, .inr (.inl fs))), ((a 16), .inl (cI, 5, .inl (upd (upd (fun _ => 0) 4 0) 0 ((upd (fun _ => 0) 4 0) 4)))), ((a 17), .inl (cI, 25, .inl u_f17)), ((a 18), .inl (cI, 250, .inl u_f111)), ((a 19), .inl (cI, 240, .inl u_f115))] H := hP
  have hD : va_D A [(y, .inr (11, (mO a).set 13 (.int (-1)))), ((a 20), .inl (cJ, 160, .inr (.inl (fun _ => 0)))), ((a 21), .inl (cJ, 5, .inr (.inl fs))), ((a 16), .inl (cI, 5, .inl (upd (upd (fun _ => 0) 4 0) 0 ((upd (fun _ => 0) 4 0) 4)))), ((a 17), .inl (cI, 25, .inl u_f17)), ((a 18), .inl (cI, 250, .inl u_f111)), ((a 19), .inl (cI, 240, .inl u_f115))] := hD
  refine lv_iconst (v := 0) hx hb dX12_copyLand_42 (by decide) ?_
  refine lv_istore_n (lv' := [(3, .int 0), (0, .ref y), (1, .int 4), (2, .int 0)]) hx hb dX12_copyLand_43 rfl hl (by decide) rfl (fun ls hl => ?_)
  have lp18 : ∀ (n16 : Nat) (i : Nat) (f : Nat → Int64) (H : Heap) (locs : List Loc) (ls : Array Slot), 32 - i < n16 → (i ≤ 32) → va_P g vwCl [(y, .inr (11, (mO a).set 13 (.int (-1)))), ((a 20), .inl (cJ, 160, .inr (.inl f))), ((a 21), .inl (cJ, 5, .inr (.inl fs))), ((a 16), .inl (cI, 5, .inl (upd (upd (fun _ => 0) 4 0) 0 ((upd (fun _ => 0) 4 0) 4)))), ((a 17), .inl (cI, 25, .inl u_f17)), ((a 18), .inl (cI, 250, .inl u_f111)), ((a 19), .inl (cI, 240, .inl u_f115))] H → va_D A [(y, .inr (11, (mO a).set 13 (.int (-1)))), ((a 20), .inl (cJ, 160, .inr (.inl f))), ((a 21), .inl (cJ, 5, .inr (.inl fs))), ((a 16), .inl (cI, 5, .inl (upd (upd (fun _ => 0) 4 0) 0 ((upd (fun _ => 0) 4 0) 4)))), ((a 17), .inl (cI, 25, .inl u_f17)), ((a 18), .inl (cI, 250, .inl u_f111)), ((a 19), .inl (cI, 240, .inl u_f115))] → va_S A s.heap H locs → lv_has ls 4 [(0, .ref y), (1, .int 4), (2, .int 0), (3, .int (nI i))] → W p l e (headSpec v_X12_copyLand_r ({ frames := 1, cells := 0, slots := 0, locals := 24 })).room s m ([.ref y, .int 4, .int 0] : List Value).toArray below meth c H locs 0 0 (MQ below (va_Qv (fun (u : Unit) => True) (fun (_ : Unit) (t : State) => bRW g (tyT cI cJ cB cZ cL) A [(y, .inr (11, (mO a).set 13 (.int (-1)))), ((a 16), .inl (cI, 5, .inl (upd (upd (fun _ => 0) 4 0) 0 (upd (fun _ => 0) 4 0 4))))] t) A) ([.ref y, .int 4, .int 0] : List Value).toArray s 0 0 A) (F0 m 44 ls []) := by
    intro n16
    induction n16 with
    | zero => exact fun i f H locs ls hn => absurd hn (Nat.not_lt_zero _)
    | succ n16 ih17 =>
      intro i f H locs ls hn hi hP hD hS hl
      refine lv_iload_n hx hb dX12_copyLand_44 rfl (lv_at hl 3 rfl) ?_
      refine lv_bipush (v := 32) hx hb dX12_copyLand_45 (by decide) ?_
      refine lv_icmp_ge (tgt := 78) hx hb dX12_copyLand_47 (by decide) (fun c19 => ?_) (fun c19 => ?_)
      · have f20 := (show 32 ≤ (i : Int) from z_le rfl (nI_toInt (n := i) (by omega)) c19)
        refine lv_aload_n hx hb dX12_copyLand_78 rfl (lv_at hl 0 rfl) ?_
        refine va_get (D := g) (ci := 11) (v := .ref (a 21)) (C := RX12) (T := TX12) (N := 56) hx hb hts iX12 hown hK hP 0 rfl rfl 21 (by decide) (hts (.fieldLink RX12 46 "CardsAtYuleModel" "strikes" "[J") (List.mem_cons_of_mem _ (List.mem_append_left _ (List.mem_of_getElem? (i := 7) rfl)))) (fun _ h9 => h9) rfl dX12_copyLand_79 ?_
        refine lv_iload_n hx hb dX12_copyLand_82 rfl (lv_at hl 2 rfl) ?_
        refine lv_aload_n hx hb dX12_copyLand_83 rfl (lv_at hl 0 rfl) ?_
        refine va_get (D := g) (ci := 11) (v := .ref (a 21)) (C := RX12) (T := TX12) (N := 56) hx hb hts iX12 hown hK hP 0 rfl rfl 21 (by decide) (hts (.fieldLink RX12 46 "CardsAtYuleModel" "strikes" "[J") (List.mem_cons_of_mem _ (List.mem_append_left _ (List.mem_of_getElem? (i := 7) rfl)))) (fun _ h9 => h9) rfl dX12_copyLand_84 ?_
        refine lv_iload_n hx hb dX12_copyLand_87 rfl (lv_at hl 1 rfl) ?_
        refine va_lald (D := g) hx hb hK hP 2 1 rfl rfl (vc_in (by decide)) dX12_copyLand_88 ?_
        refine va_last (D := g) hx hb hK hP hD hS 2 1 rfl rfl (vc_in (by decide)) dX12_copyLand_89 (fun H locs hP hD hS => ?_)
        have hP : va_P g vwCl [(y, .inr (11, (mO a).set 13 (.int (-1)))), ((a 20), .inl (cJ, 160, .inr (.inl f))), ((a 21), .inl (cJ, 5, .inr (.inl (vp_updL fs 0 (fs 4))))), ((a 16), .inl (cI, 5, .inl (upd (upd (fun _ => 0) 4 0) 0 ((upd (fun _ => 0) 4 0) 4)))), ((a 17), .inl (cI, 25, .inl u_f17)), ((a 18), .inl (cI, 250, .inl u_f111)), ((a 19), .inl (cI, 240, .inl u_f115))] H := hP
        have hD : va_D A [(y, .inr (11, (mO a).set 13 (.int (-1)))), ((a 20), .inl (cJ, 160, .inr (.inl f))), ((a 21), .inl (cJ, 5, .inr (.inl (vp_updL fs 0 (fs 4))))), ((a 16), .inl (cI, 5, .inl (upd (upd (fun _ => 0) 4 0) 0 ((upd (fun _ => 0) 4 0) 4)))), ((a 17), .inl (cI, 25, .inl u_f17)), ((a 18), .inl (cI, 250, .inl u_f111)), ((a 19), .inl (cI, 240, .inl u_f115))] := hD
        have hP9 := hP.sub (ws' := [(y, .inr (11, (mO a).set 13 (.int (-1)))), ((a 16), .inl (cI, 5, .inl (upd (upd (fun _ => 0) 4 0) 0 ((upd (fun _ => 0) 4 0) 4))))]) [0, 3] rfl
        have hD9 := hD.sub (ws' := [(y, .inr (11, (mO a).set 13 (.int (-1)))), ((a 16), .inl (cI, 5, .inl (upd (upd (fun _ => 0) 4 0) 0 ((upd (fun _ => 0) 4 0) 4))))]) [0, 3] (by decide) rfl
        exact W.vret hx hb hr (fun t ht hW => ⟨⟨(), rfl, trivial, by rw [ht]; exact hP9, va_K.moved hW.alike hK, hD9⟩, hS.F ht⟩) hS.2.2 dX12_copyLand_90
      · have f20 := (show (i : Int) < 32 from z_nle rfl (nI_toInt (n := i) (by omega)) c19)
        refine lv_aload_n hx hb dX12_copyLand_50 rfl (lv_at hl 0 rfl) ?_
        refine va_get (D := g) (ci := 11) (v := .ref (a 20)) (C := RX12) (T := TX12) (N := 56) hx hb hts iX12 hown hK hP 0 rfl rfl 20 (by decide) (hts (.fieldLink RX12 43 "CardsAtYuleModel" "lost" "[J") (List.mem_cons_of_mem _ (List.mem_append_left _ (List.mem_of_getElem? (i := 8) rfl)))) (fun _ h9 => h9) rfl dX12_copyLand_51 ?_
        refine lv_bipush (v := 32) hx hb dX12_copyLand_54 (by decide) ?_
        refine lv_iload_n hx hb dX12_copyLand_56 rfl (lv_at hl 2 rfl) ?_
        refine lv_imul hx hb dX12_copyLand_57 ?_
        refine lv_topi (nm_r (e' := 0) (by decide) ?_)
        refine lv_iload_n hx hb dX12_copyLand_58 rfl (lv_at hl 3 rfl) ?_
        refine lv_iadd hx hb dX12_copyLand_59 ?_
        refine lv_topi (nm_r (e' := (nI (0 + i))) (nI_add 0 i) ?_)
        refine lv_aload_n hx hb dX12_copyLand_60 rfl (lv_at hl 0 rfl) ?_
        refine va_get (D := g) (ci := 11) (v := .ref (a 20)) (C := RX12) (T := TX12) (N := 56) hx hb hts iX12 hown hK hP 0 rfl rfl 20 (by decide) (hts (.fieldLink RX12 43 "CardsAtYuleModel" "lost" "[J") (List.mem_cons_of_mem _ (List.mem_append_left _ (List.mem_of_getElem? (i := 8) rfl)))) (fun _ h9 => h9) rfl dX12_copyLand_61 ?_
        refine lv_bipush (v := 32) hx hb dX12_copyLand_64 (by decide) ?_
        refine lv_iload_n hx hb dX12_copyLand_66 rfl (lv_at hl 1 rfl) ?_
        refine lv_imul hx hb dX12_copyLand_67 ?_
        refine lv_topi (nm_r (e' := 128) (by decide) ?_)
        refine lv_iload_n hx hb dX12_copyLand_68 rfl (lv_at hl 3 rfl) ?_
        refine lv_iadd hx hb dX12_copyLand_69 ?_
        refine lv_topi (nm_r (e' := (nI (128 + i))) (nI_add 128 i) ?_)
        refine va_lald (D := g) hx hb hK hP 1 1 rfl rfl (vp_in_nI (n := 128 + i) (by omega) (by decide)) dX12_copyLand_70 ?_
        refine lv_topl (nm_r (e' := f (128 + i)) (congrArg f (nI_clamp (n := 128 + i) (by omega))) ?_)
        refine va_last (D := g) hx hb hK hP hD hS 1 1 rfl rfl (vp_in_nI (n := 0 + i) (by omega) (by decide)) dX12_copyLand_71 (fun H locs hP hD hS => ?_)
        rw [nI_clamp (n := 0 + i) (by omega)] at hP hD
        have hP : va_P g vwCl [(y, .inr (11, (mO a).set 13 (.int (-1)))), ((a 20), .inl (cJ, 160, .inr (.inl (vp_updL f (0 + i) (f (128 + i)))))), ((a 21), .inl (cJ, 5, .inr (.inl fs))), ((a 16), .inl (cI, 5, .inl (upd (upd (fun _ => 0) 4 0) 0 ((upd (fun _ => 0) 4 0) 4)))), ((a 17), .inl (cI, 25, .inl u_f17)), ((a 18), .inl (cI, 250, .inl u_f111)), ((a 19), .inl (cI, 240, .inl u_f115))] H := hP
        have hD : va_D A [(y, .inr (11, (mO a).set 13 (.int (-1)))), ((a 20), .inl (cJ, 160, .inr (.inl (vp_updL f (0 + i) (f (128 + i)))))), ((a 21), .inl (cJ, 5, .inr (.inl fs))), ((a 16), .inl (cI, 5, .inl (upd (upd (fun _ => 0) 4 0) 0 ((upd (fun _ => 0) 4 0) 4)))), ((a 17), .inl (cI, 25, .inl u_f17)), ((a 18), .inl (cI, 250, .inl u_f111)), ((a 19), .inl (cI, 240, .inl u_f115))] := hD
        refine lv_iinc (v := (nI (i + 1))) (lv' := [(3, .int (nI (i + 1))), (0, .ref y), (1, .int 4), (2, .int 0)]) hx hb dX12_copyLand_72 hl (k := 3) rfl (nI_add i 1) (by decide) rfl (fun ls hl => ?_)
        refine lv_goto (tgt := 44) hx hb dX12_copyLand_75 (by decide) ?_
        exact ih17 (i + 1) _ _ _ _ (by omega) (by omega) (hP.sub [0, 1, 2, 3, 4, 5, 6] rfl) (hD.sub [0, 1, 2, 3, 4, 5, 6] (by decide) rfl) hS (lv_sub hl [1, 2, 3, 0] rfl)
  exact lp18 _ 0 _ _ _ _ (Nat.lt_succ_self _) (Nat.zero_le _) (hP.sub [0, 1, 2, 3, 4, 5, 6] rfl) (hD.sub [0, 1, 2, 3, 4, 5, 6] (by decide) rfl) hS (lv_sub hl [1, 2, 3, 0] rfl)
def v_X12_copyLand_k : List Cond := .code yX12_copyLand cX12_copyLand 4 none :: (([.fieldLink RX12 31 "CardsAtYuleModel" "lines" "[I", .methodLink RX12 267 yX12_copyRow, .static yX12_copyRow, .initialized RX12, .fieldLink RX12 34 "CardsAtYuleModel" "has" "[I", .fieldLink RX12 37 "CardsAtYuleModel" "person" "[I", .fieldLink RX12 40 "CardsAtYuleModel" "pair" "[I", .fieldLink RX12 46 "CardsAtYuleModel" "strikes" "[J", .fieldLink RX12 43 "CardsAtYuleModel" "lost" "[J"] : List Cond) ++ (v_X12_copyRow_l ++ (v_X12_copyRow_h ++ (v_X12_copyRow_p ++ (v_X12_copyRow_q ++ (wsX120 ++ ([] : List Cond)))))))
theorem good_v_X12_copyLand_k : v_X12_copyLand_k.all goodWord = true := ga_c (by decide +kernel) (ga_a (by decide +kernel) (ga_a good_v_X12_copyRow_l (ga_a good_v_X12_copyRow_h (ga_a good_v_X12_copyRow_p (ga_a good_v_X12_copyRow_q (ga_a good_wsX120 rfl))))))
set_option maxHeartbeats 4000000 in
set_option maxRecDepth 100000 in
theorem k_X12_copyLand_k (l : Launch) (g : va_G) (cI cJ cB cZ cL : ClassId) (y : Nat) (a : Nat → Nat) (fh : Nat → Int32) (fs : Nat → Int64) (jb : Nat) (sz : Nat) (h0 : jb ≤ 4) : Met l yX12_copyLand v_X12_copyLand_k ({ frames := 1, cells := 0, slots := 0, locals := 24 }) (va_Pc [.ref y, .int 0, .int (nI jb)] (pRW g (tyT cI cJ cB cZ cL) [(y, .inr (11, mO a)), ((a 16), .inl (cI, 5, .inl (fun _ => 0))), ((a 17), .inl (cI, 25, .inl fh)), ((a 18), .inl (cI, 250, .inl (fun _ => 0))), ((a 19), .inl (cI, 240, .inl (fun _ => 0))), ((a 20), .inl (cJ, 160, .inr (.inl (fun _ => 0)))), ((a 21), .inl (cJ, 5, .inr (.inl fs)))] sz)) (va_Qv (fun (u : Nat → Int32) => match u with | fl1 => True) (fun (u : Nat → Int32) (t : State) => bRW g (tyT cI cJ cB cZ cL) (va_A [(y, .inr (11, mO a)), ((a 16), .inl (cI, 5, .inl (fun _ => 0))), ((a 17), .inl (cI, 25, .inl fh)), ((a 18), .inl (cI, 250, .inl (fun _ => 0))), ((a 19), .inl (cI, 240, .inl (fun _ => 0))), ((a 20), .inl (cJ, 160, .inr (.inl (fun _ => 0)))), ((a 21), .inl (cJ, 5, .inr (.inl fs)))] sz) (match u with | fl1 => [(y, .inr (11, mO a)), ((a 16), .inl (cI, 5, .inl fl1))]) t) (va_A [(y, .inr (11, mO a)), ((a 16), .inl (cI, 5, .inl (fun _ => 0))), ((a 17), .inl (cI, 25, .inl fh)), ((a 18), .inl (cI, 250, .inl (fun _ => 0))), ((a 19), .inl (cI, 240, .inl (fun _ => 0))), ((a 20), .inl (cJ, 160, .inr (.inl (fun _ => 0)))), ((a 21), .inl (cJ, 5, .inr (.inl fs)))] sz)) 0 0 (va_A [(y, .inr (11, mO a)), ((a 16), .inl (cI, 5, .inl (fun _ => 0))), ((a 17), .inl (cI, 25, .inl fh)), ((a 18), .inl (cI, 250, .inl (fun _ => 0))), ((a 19), .inl (cI, 240, .inl (fun _ => 0))), ((a 20), .inl (cJ, 160, .inr (.inl (fun _ => 0)))), ((a 21), .inl (cJ, 5, .inr (.inl fs)))] sz) := by
  refine Met.ofW (cc := cX12_copyLand) (maxL := 4) (ret := none) (by decide) rfl ?_
  intro p e s m args below meth c s₁ B hml hv
  obtain ⟨rfl, hsz, hP, hK, hD0⟩ := hv
  have hx := B.exec
  have hb := B.bytes
  have hr := B.returns
  have hts := atoms_spec (ws := v_X12_copyLand_k) B.pre
  have hown : s.vm.findClass RX12 = some m.cls := findClass_of_methodNamed B.named
  have hlocks := B.notSynchronized
  subst hsz
  have iX12 : ∀ w ∈ wsX120, w ∈ v_X12_copyLand_k := (fun _ h => List.mem_cons_of_mem _ (List.mem_append_right _ (List.mem_append_right _ (List.mem_append_right _ (List.mem_append_right _ (List.mem_append_right _ (List.mem_append_left _ h)))))))
  have hD := hD0.self (sz := s.heap.size)
  generalize hAe : (va_A [(y, .inr (11, mO a)), ((a 16), .inl (cI, 5, .inl (fun _ => 0))), ((a 17), .inl (cI, 25, .inl fh)), ((a 18), .inl (cI, 250, .inl (fun _ => 0))), ((a 19), .inl (cI, 240, .inl (fun _ => 0))), ((a 20), .inl (cJ, 160, .inr (.inl (fun _ => 0)))), ((a 21), .inl (cJ, 5, .inr (.inl fs)))] s.heap.size) = A at hD ⊢
  have hA : ∀ q : Nat, s.heap.size ≤ q → A q := fun q h => by rw [← hAe]; exact Or.inr h
  have hS : va_S A s.heap s.heap [] := va_S.rf
  have hl := lv_entry ([.ref y, .int 0, .int (nI jb)]) (n := 4) (Nat.le_of_ble_eq_true rfl)
  rw [lg_entry_eq]
  generalize (lg_sl ([.ref y, .int 0, .int (nI jb)]) ++ List.replicate (4 - (lg_sl ([.ref y, .int 0, .int (nI jb)])).length) Slot.unset).toArray = ls at hl ⊢
  have hl : lv_has ls 4 [(0, .ref y), (1, .int 0), (2, .int (nI jb))] := hl
  have hP : va_P g vwCl [(y, .inr (11, mO a)), ((a 16), .inl (cI, 5, .inl (fun _ => 0))), ((a 17), .inl (cI, 25, .inl fh)), ((a 18), .inl (cI, 250, .inl (fun _ => 0))), ((a 19), .inl (cI, 240, .inl (fun _ => 0))), ((a 20), .inl (cJ, 160, .inr (.inl (fun _ => 0)))), ((a 21), .inl (cJ, 5, .inr (.inl fs)))] s.heap := hP
  refine lv_aload_n hx hb dX12_copyLand_0 rfl (lv_at hl 0 rfl) ?_
  refine va_get (D := g) (ci := 11) (v := .ref (a 16)) (C := RX12) (T := TX12) (N := 56) hx hb hts iX12 hown hK hP 0 rfl rfl 16 (by decide) (hts (.fieldLink RX12 31 "CardsAtYuleModel" "lines" "[I") (List.mem_cons_of_mem _ (List.mem_append_left _ (List.mem_of_getElem? (i := 0) rfl)))) (fun _ h9 => h9) rfl dX12_copyLand_1 ?_
  refine lv_iconst (v := 1) hx hb dX12_copyLand_4 (by decide) ?_
  refine lv_iload_n hx hb dX12_copyLand_5 rfl (lv_at hl 1 rfl) ?_
  refine lv_iload_n hx hb dX12_copyLand_6 rfl (lv_at hl 2 rfl) ?_
  refine rw_v (wr := [(y, .inr (11, mO a)), ((a 17), .inl (cI, 25, .inl fh)), ((a 18), .inl (cI, 250, .inl (fun _ => 0))), ((a 19), .inl (cI, 240, .inl (fun _ => 0))), ((a 20), .inl (cJ, 160, .inr (.inl (fun _ => 0)))), ((a 21), .inl (cJ, 5, .inr (.inl fs)))]) (va_runS (As := [.ref (a 16), .int 1, .int 0, .int (nI jb)]) (rest := []) ⟨hx, hb, hml, hown, hts⟩ (k_X12_copyRow_l l g cI cJ cB cZ cL (a 16) (fun _ => 0) 0 jb s.heap.size (by omega) (by omega)) (va_cwS 4 hts (goodIn_app (g_3 (List.mem_cons_of_mem _ (List.mem_append_left _ (List.mem_of_getElem? (i := 1) rfl))) (List.mem_cons_of_mem _ (List.mem_append_left _ (List.mem_of_getElem? (i := 2) rfl))) (List.mem_cons_of_mem _ (List.mem_append_left _ (List.mem_of_getElem? (i := 3) rfl))) (by decide +kernel)) (goodIn_sub (fun _ h => List.mem_cons_of_mem _ (List.mem_append_right _ (List.mem_append_left _ h))) good_v_X12_copyRow_l)) rfl rfl rfl (by decide +kernel) ⟨Nat.le_of_ble_eq_true rfl, Nat.le_of_ble_eq_true rfl⟩) (ps_RW (wc := [((a 16), .inl (cI, 5, .inl (fun _ => 0)))]) hK hP hD [1] (by decide) rfl) rfl rfl hl.1 rfl (lv_room (Nat.le_of_ble_eq_true rfl)) dX12_copyLand_7 ⟨Nat.le_of_ble_eq_true rfl, Nat.le_of_ble_eq_true rfl⟩) hS hA hP hD [1] [0, 2, 3, 4, 5, 6] rfl rfl (by decide) (by decide) (fun u2 H locs hw3 hP hD hS => ?_)
  generalize u2 = u_f14 at hw3 hP hD
  try dsimp only at hw3
  have hP : va_P g vwCl [(y, .inr (11, mO a)), ((a 17), .inl (cI, 25, .inl fh)), ((a 18), .inl (cI, 250, .inl (fun _ => 0))), ((a 19), .inl (cI, 240, .inl (fun _ => 0))), ((a 20), .inl (cJ, 160, .inr (.inl (fun _ => 0)))), ((a 21), .inl (cJ, 5, .inr (.inl fs))), ((a 16), .inl (cI, 5, .inl u_f14))] H := hP
  have hD : va_D A [(y, .inr (11, mO a)), ((a 17), .inl (cI, 25, .inl fh)), ((a 18), .inl (cI, 250, .inl (fun _ => 0))), ((a 19), .inl (cI, 240, .inl (fun _ => 0))), ((a 20), .inl (cJ, 160, .inr (.inl (fun _ => 0)))), ((a 21), .inl (cJ, 5, .inr (.inl fs))), ((a 16), .inl (cI, 5, .inl u_f14))] := hD
  refine lv_aload_n hx hb dX12_copyLand_10 rfl (lv_at hl 0 rfl) ?_
  refine va_get (D := g) (ci := 11) (v := .ref (a 17)) (C := RX12) (T := TX12) (N := 56) hx hb hts iX12 hown hK hP 0 rfl rfl 17 (by decide) (hts (.fieldLink RX12 34 "CardsAtYuleModel" "has" "[I") (List.mem_cons_of_mem _ (List.mem_append_left _ (List.mem_of_getElem? (i := 4) rfl)))) (fun _ h9 => h9) rfl dX12_copyLand_11 ?_
  refine lv_iconst (v := 5) hx hb dX12_copyLand_14 (by decide) ?_
  refine lv_iload_n hx hb dX12_copyLand_15 rfl (lv_at hl 1 rfl) ?_
  refine lv_iload_n hx hb dX12_copyLand_16 rfl (lv_at hl 2 rfl) ?_
  refine rw_v (wr := [(y, .inr (11, mO a)), ((a 18), .inl (cI, 250, .inl (fun _ => 0))), ((a 19), .inl (cI, 240, .inl (fun _ => 0))), ((a 20), .inl (cJ, 160, .inr (.inl (fun _ => 0)))), ((a 21), .inl (cJ, 5, .inr (.inl fs))), ((a 16), .inl (cI, 5, .inl u_f14))]) (va_runS (As := [.ref (a 17), .int 5, .int 0, .int (nI jb)]) (rest := []) ⟨hx, hb, hml, hown, hts⟩ (k_X12_copyRow_h l g cI cJ cB cZ cL (a 17) fh 0 jb H.size (by omega) (by omega)) (va_cwS 4 hts (goodIn_app (g_3 (List.mem_cons_of_mem _ (List.mem_append_left _ (List.mem_of_getElem? (i := 1) rfl))) (List.mem_cons_of_mem _ (List.mem_append_left _ (List.mem_of_getElem? (i := 2) rfl))) (List.mem_cons_of_mem _ (List.mem_append_left _ (List.mem_of_getElem? (i := 3) rfl))) (by decide +kernel)) (goodIn_sub (fun _ h => List.mem_cons_of_mem _ (List.mem_append_right _ (List.mem_append_right _ (List.mem_append_left _ h)))) good_v_X12_copyRow_h)) rfl rfl rfl (by decide +kernel) ⟨Nat.le_of_ble_eq_true rfl, Nat.le_of_ble_eq_true rfl⟩) (ps_RW (wc := [((a 17), .inl (cI, 25, .inl fh))]) hK hP hD [1] (by decide) rfl) rfl rfl hl.1 rfl (lv_room (Nat.le_of_ble_eq_true rfl)) dX12_copyLand_17 ⟨Nat.le_of_ble_eq_true rfl, Nat.le_of_ble_eq_true rfl⟩) hS hA hP hD [1] [0, 2, 3, 4, 5, 6] rfl rfl (by decide) (by decide) (fun u6 H locs hw7 hP hD hS => ?_)
  generalize u6 = u_f18 at hw7 hP hD
  try dsimp only at hw7
  have hP : va_P g vwCl [(y, .inr (11, mO a)), ((a 18), .inl (cI, 250, .inl (fun _ => 0))), ((a 19), .inl (cI, 240, .inl (fun _ => 0))), ((a 20), .inl (cJ, 160, .inr (.inl (fun _ => 0)))), ((a 21), .inl (cJ, 5, .inr (.inl fs))), ((a 16), .inl (cI, 5, .inl u_f14)), ((a 17), .inl (cI, 25, .inl u_f18))] H := hP
  have hD : va_D A [(y, .inr (11, mO a)), ((a 18), .inl (cI, 250, .inl (fun _ => 0))), ((a 19), .inl (cI, 240, .inl (fun _ => 0))), ((a 20), .inl (cJ, 160, .inr (.inl (fun _ => 0)))), ((a 21), .inl (cJ, 5, .inr (.inl fs))), ((a 16), .inl (cI, 5, .inl u_f14)), ((a 17), .inl (cI, 25, .inl u_f18))] := hD
  refine lv_aload_n hx hb dX12_copyLand_20 rfl (lv_at hl 0 rfl) ?_
  refine va_get (D := g) (ci := 11) (v := .ref (a 18)) (C := RX12) (T := TX12) (N := 56) hx hb hts iX12 hown hK hP 0 rfl rfl 18 (by decide) (hts (.fieldLink RX12 37 "CardsAtYuleModel" "person" "[I") (List.mem_cons_of_mem _ (List.mem_append_left _ (List.mem_of_getElem? (i := 5) rfl)))) (fun _ h9 => h9) rfl dX12_copyLand_21 ?_
  refine lv_bipush (v := 50) hx hb dX12_copyLand_24 (by decide) ?_
  refine lv_iload_n hx hb dX12_copyLand_26 rfl (lv_at hl 1 rfl) ?_
  refine lv_iload_n hx hb dX12_copyLand_27 rfl (lv_at hl 2 rfl) ?_
  refine rw_v (wr := [(y, .inr (11, mO a)), ((a 19), .inl (cI, 240, .inl (fun _ => 0))), ((a 20), .inl (cJ, 160, .inr (.inl (fun _ => 0)))), ((a 21), .inl (cJ, 5, .inr (.inl fs))), ((a 16), .inl (cI, 5, .inl u_f14)), ((a 17), .inl (cI, 25, .inl u_f18))]) (va_runS (As := [.ref (a 18), .int 50, .int 0, .int (nI jb)]) (rest := []) ⟨hx, hb, hml, hown, hts⟩ (k_X12_copyRow_p l g cI cJ cB cZ cL (a 18) (fun _ => 0) 0 jb H.size (by omega) (by omega)) (va_cwS 4 hts (goodIn_app (g_3 (List.mem_cons_of_mem _ (List.mem_append_left _ (List.mem_of_getElem? (i := 1) rfl))) (List.mem_cons_of_mem _ (List.mem_append_left _ (List.mem_of_getElem? (i := 2) rfl))) (List.mem_cons_of_mem _ (List.mem_append_left _ (List.mem_of_getElem? (i := 3) rfl))) (by decide +kernel)) (goodIn_sub (fun _ h => List.mem_cons_of_mem _ (List.mem_append_right _ (List.mem_append_right _ (List.mem_append_right _ (List.mem_append_left _ h))))) good_v_X12_copyRow_p)) rfl rfl rfl (by decide +kernel) ⟨Nat.le_of_ble_eq_true rfl, Nat.le_of_ble_eq_true rfl⟩) (ps_RW (wc := [((a 18), .inl (cI, 250, .inl (fun _ => 0)))]) hK hP hD [1] (by decide) rfl) rfl rfl hl.1 rfl (lv_room (Nat.le_of_ble_eq_true rfl)) dX12_copyLand_28 ⟨Nat.le_of_ble_eq_true rfl, Nat.le_of_ble_eq_true rfl⟩) hS hA hP hD [1] [0, 2, 3, 4, 5, 6] rfl rfl (by decide) (by decide) (fun u10 H locs hw11 hP hD hS => ?_)
  generalize u10 = u_f112 at hw11 hP hD
  try dsimp only at hw11
  have hP : va_P g vwCl [(y, .inr (11, mO a)), ((a 19), .inl (cI, 240, .inl (fun _ => 0))), ((a 20), .inl (cJ, 160, .inr (.inl (fun _ => 0)))), ((a 21), .inl (cJ, 5, .inr (.inl fs))), ((a 16), .inl (cI, 5, .inl u_f14)), ((a 17), .inl (cI, 25, .inl u_f18)), ((a 18), .inl (cI, 250, .inl u_f112))] H := hP
  have hD : va_D A [(y, .inr (11, mO a)), ((a 19), .inl (cI, 240, .inl (fun _ => 0))), ((a 20), .inl (cJ, 160, .inr (.inl (fun _ => 0)))), ((a 21), .inl (cJ, 5, .inr (.inl fs))), ((a 16), .inl (cI, 5, .inl u_f14)), ((a 17), .inl (cI, 25, .inl u_f18)), ((a 18), .inl (cI, 250, .inl u_f112))] := hD
  refine lv_aload_n hx hb dX12_copyLand_31 rfl (lv_at hl 0 rfl) ?_
  refine va_get (D := g) (ci := 11) (v := .ref (a 19)) (C := RX12) (T := TX12) (N := 56) hx hb hts iX12 hown hK hP 0 rfl rfl 19 (by decide) (hts (.fieldLink RX12 40 "CardsAtYuleModel" "pair" "[I") (List.mem_cons_of_mem _ (List.mem_append_left _ (List.mem_of_getElem? (i := 6) rfl)))) (fun _ h9 => h9) rfl dX12_copyLand_32 ?_
  refine lv_bipush (v := 48) hx hb dX12_copyLand_35 (by decide) ?_
  refine lv_iload_n hx hb dX12_copyLand_37 rfl (lv_at hl 1 rfl) ?_
  refine lv_iload_n hx hb dX12_copyLand_38 rfl (lv_at hl 2 rfl) ?_
  refine rw_v (wr := [(y, .inr (11, mO a)), ((a 20), .inl (cJ, 160, .inr (.inl (fun _ => 0)))), ((a 21), .inl (cJ, 5, .inr (.inl fs))), ((a 16), .inl (cI, 5, .inl u_f14)), ((a 17), .inl (cI, 25, .inl u_f18)), ((a 18), .inl (cI, 250, .inl u_f112))]) (va_runS (As := [.ref (a 19), .int 48, .int 0, .int (nI jb)]) (rest := []) ⟨hx, hb, hml, hown, hts⟩ (k_X12_copyRow_q l g cI cJ cB cZ cL (a 19) (fun _ => 0) 0 jb H.size (by omega) (by omega)) (va_cwS 4 hts (goodIn_app (g_3 (List.mem_cons_of_mem _ (List.mem_append_left _ (List.mem_of_getElem? (i := 1) rfl))) (List.mem_cons_of_mem _ (List.mem_append_left _ (List.mem_of_getElem? (i := 2) rfl))) (List.mem_cons_of_mem _ (List.mem_append_left _ (List.mem_of_getElem? (i := 3) rfl))) (by decide +kernel)) (goodIn_sub (fun _ h => List.mem_cons_of_mem _ (List.mem_append_right _ (List.mem_append_right _ (List.mem_append_right _ (List.mem_append_right _ (List.mem_append_left _ h)))))) good_v_X12_copyRow_q)) rfl rfl rfl (by decide +kernel) ⟨Nat.le_of_ble_eq_true rfl, Nat.le_of_ble_eq_true rfl⟩) (ps_RW (wc := [((a 19), .inl (cI, 240, .inl (fun _ => 0)))]) hK hP hD [1] (by decide) rfl) rfl rfl hl.1 rfl (lv_room (Nat.le_of_ble_eq_true rfl)) dX12_copyLand_39 ⟨Nat.le_of_ble_eq_true rfl, Nat.le_of_ble_eq_true rfl⟩) hS hA hP hD [1] [0, 2, 3, 4, 5, 6] rfl rfl (by decide) (by decide) (fun u14 H locs hw15 hP hD hS => ?_)
  generalize u14 = u_f116 at hw15 hP hD
  try dsimp only at hw15
  have hP : va_P g vwCl [(y, .inr (11, mO a)), ((a 20), .inl (cJ, 160, .inr (.inl (fun _ => 0)))), ((a 21), .inl (cJ, 5, .inr (.inl fs))), ((a 16), .inl (cI, 5, .inl u_f14)), ((a 17), .inl (cI, 25, .inl u_f18)), ((a 18), .inl (cI, 250, .inl u_f112)), ((a 19), .inl (cI, 240, .inl u_f116))] H := hP
  have hD : va_D A [(y, .inr (11, mO a)), ((a 20), .inl (cJ, 160, .inr (.inl (fun _ => 0)))), ((a 21), .inl (cJ, 5, .inr (.inl fs))), ((a 16), .inl (cI, 5, .inl u_f14)), ((a 17), .inl (cI, 25, .inl u_f18)), ((a 18), .inl (cI, 250, .inl u_f112)), ((a 19), .inl (cI, 240, .inl u_f116))] := hD
  refine lv_iconst (v := 0) hx hb dX12_copyLand_42 (by decide) ?_
  refine lv_istore_n (lv' := [(3, .int 0), (0, .ref y), (1, .int 0), (2, .int (nI jb))]) hx hb dX12_copyLand_43 rfl hl (by decide) rfl (fun ls hl => ?_)
  have lp19 : ∀ (n17 : Nat) (i : Nat) (f : Nat → Int64) (H : Heap) (locs : List Loc) (ls : Array Slot), 32 - i < n17 → (i ≤ 32) → va_P g vwCl [(y, .inr (11, mO a)), ((a 20), .inl (cJ, 160, .inr (.inl f))), ((a 21), .inl (cJ, 5, .inr (.inl fs))), ((a 16), .inl (cI, 5, .inl u_f14)), ((a 17), .inl (cI, 25, .inl u_f18)), ((a 18), .inl (cI, 250, .inl u_f112)), ((a 19), .inl (cI, 240, .inl u_f116))] H → va_D A [(y, .inr (11, mO a)), ((a 20), .inl (cJ, 160, .inr (.inl f))), ((a 21), .inl (cJ, 5, .inr (.inl fs))), ((a 16), .inl (cI, 5, .inl u_f14)), ((a 17), .inl (cI, 25, .inl u_f18)), ((a 18), .inl (cI, 250, .inl u_f112)), ((a 19), .inl (cI, 240, .inl u_f116))] → va_S A s.heap H locs → lv_has ls 4 [(0, .ref y), (1, .int 0), (2, .int (nI jb)), (3, .int (nI i))] → W p l e (headSpec v_X12_copyLand_k ({ frames := 1, cells := 0, slots := 0, locals := 24 })).room s m ([.ref y, .int 0, .int (nI jb)] : List Value).toArray below meth c H locs 0 0 (MQ below (va_Qv (fun (u : Nat → Int32) => match u with | fl1 => True) (fun (u : Nat → Int32) (t : State) => bRW g (tyT cI cJ cB cZ cL) A (match u with | fl1 => [(y, .inr (11, mO a)), ((a 16), .inl (cI, 5, .inl fl1))]) t) A) ([.ref y, .int 0, .int (nI jb)] : List Value).toArray s 0 0 A) (F0 m 44 ls []) := by
    intro n17
    induction n17 with
    | zero => exact fun i f H locs ls hn => absurd hn (Nat.not_lt_zero _)
    | succ n17 ih18 =>
      intro i f H locs ls hn hi hP hD hS hl
      refine lv_iload_n hx hb dX12_copyLand_44 rfl (lv_at hl 3 rfl) ?_
      refine lv_bipush (v := 32) hx hb dX12_copyLand_45 (by decide) ?_
      refine lv_icmp_ge (tgt := 78) hx hb dX12_copyLand_47 (by decide) (fun c20 => ?_) (fun c20 => ?_)
      · have f21 := (show 32 ≤ (i : Int) from z_le rfl (nI_toInt (n := i) (by omega)) c20)
        refine lv_aload_n hx hb dX12_copyLand_78 rfl (lv_at hl 0 rfl) ?_
        refine va_get (D := g) (ci := 11) (v := .ref (a 21)) (C := RX12) (T := TX12) (N := 56) hx hb hts iX12 hown hK hP 0 rfl rfl 21 (by decide) (hts (.fieldLink RX12 46 "CardsAtYuleModel" "strikes" "[J") (List.mem_cons_of_mem _ (List.mem_append_left _ (List.mem_of_getElem? (i := 7) rfl)))) (fun _ h9 => h9) rfl dX12_copyLand_79 ?_
        refine lv_iload_n hx hb dX12_copyLand_82 rfl (lv_at hl 2 rfl) ?_
        refine lv_aload_n hx hb dX12_copyLand_83 rfl (lv_at hl 0 rfl) ?_
        refine va_get (D := g) (ci := 11) (v := .ref (a 21)) (C := RX12) (T := TX12) (N := 56) hx hb hts iX12 hown hK hP 0 rfl rfl 21 (by decide) (hts (.fieldLink RX12 46 "CardsAtYuleModel" "strikes" "[J") (List.mem_cons_of_mem _ (List.mem_append_left _ (List.mem_of_getElem? (i := 7) rfl)))) (fun _ h9 => h9) rfl dX12_copyLand_84 ?_
        refine lv_iload_n hx hb dX12_copyLand_87 rfl (lv_at hl 1 rfl) ?_
        refine va_lald (D := g) hx hb hK hP 2 1 rfl rfl (vc_in (by decide)) dX12_copyLand_88 ?_
        refine va_last (D := g) hx hb hK hP hD hS 2 1 rfl rfl (vp_in_nI (n := jb) (by omega) (by decide)) dX12_copyLand_89 (fun H locs hP hD hS => ?_)
        rw [nI_clamp (n := jb) (by omega)] at hP hD
        have hP : va_P g vwCl [(y, .inr (11, mO a)), ((a 20), .inl (cJ, 160, .inr (.inl f))), ((a 21), .inl (cJ, 5, .inr (.inl (vp_updL fs jb (fs 0))))), ((a 16), .inl (cI, 5, .inl u_f14)), ((a 17), .inl (cI, 25, .inl u_f18)), ((a 18), .inl (cI, 250, .inl u_f112)), ((a 19), .inl (cI, 240, .inl u_f116))] H := hP
        have hD : va_D A [(y, .inr (11, mO a)), ((a 20), .inl (cJ, 160, .inr (.inl f))), ((a 21), .inl (cJ, 5, .inr (.inl (vp_updL fs jb (fs 0))))), ((a 16), .inl (cI, 5, .inl u_f14)), ((a 17), .inl (cI, 25, .inl u_f18)), ((a 18), .inl (cI, 250, .inl u_f112)), ((a 19), .inl (cI, 240, .inl u_f116))] := hD
        have hP9 := hP.sub (ws' := [(y, .inr (11, mO a)), ((a 16), .inl (cI, 5, .inl u_f14))]) [0, 3] rfl
        have hD9 := hD.sub (ws' := [(y, .inr (11, mO a)), ((a 16), .inl (cI, 5, .inl u_f14))]) [0, 3] (by decide) rfl
        exact W.vret hx hb hr (fun t ht hW => ⟨⟨u_f14, rfl, trivial, by rw [ht]; exact hP9, va_K.moved hW.alike hK, hD9⟩, hS.F ht⟩) hS.2.2 dX12_copyLand_90
      · have f21 := (show (i : Int) < 32 from z_nle rfl (nI_toInt (n := i) (by omega)) c20)
        refine lv_aload_n hx hb dX12_copyLand_50 rfl (lv_at hl 0 rfl) ?_
        refine va_get (D := g) (ci := 11) (v := .ref (a 20)) (C := RX12) (T := TX12) (N := 56) hx hb hts iX12 hown hK hP 0 rfl rfl 20 (by decide) (hts (.fieldLink RX12 43 "CardsAtYuleModel" "lost" "[J") (List.mem_cons_of_mem _ (List.mem_append_left _ (List.mem_of_getElem? (i := 8) rfl)))) (fun _ h9 => h9) rfl dX12_copyLand_51 ?_
        refine lv_bipush (v := 32) hx hb dX12_copyLand_54 (by decide) ?_
        refine lv_iload_n hx hb dX12_copyLand_56 rfl (lv_at hl 2 rfl) ?_
        refine lv_imul hx hb dX12_copyLand_57 ?_
        refine lv_topi (nm_r (e' := (nI (32 * jb))) (pk_mul 32 jb) ?_)
        refine lv_iload_n hx hb dX12_copyLand_58 rfl (lv_at hl 3 rfl) ?_
        refine lv_iadd hx hb dX12_copyLand_59 ?_
        refine lv_topi (nm_r (e' := (nI ((32 * jb) + i))) (nI_add (32 * jb) i) ?_)
        refine lv_aload_n hx hb dX12_copyLand_60 rfl (lv_at hl 0 rfl) ?_
        refine va_get (D := g) (ci := 11) (v := .ref (a 20)) (C := RX12) (T := TX12) (N := 56) hx hb hts iX12 hown hK hP 0 rfl rfl 20 (by decide) (hts (.fieldLink RX12 43 "CardsAtYuleModel" "lost" "[J") (List.mem_cons_of_mem _ (List.mem_append_left _ (List.mem_of_getElem? (i := 8) rfl)))) (fun _ h9 => h9) rfl dX12_copyLand_61 ?_
        refine lv_bipush (v := 32) hx hb dX12_copyLand_64 (by decide) ?_
        refine lv_iload_n hx hb dX12_copyLand_66 rfl (lv_at hl 1 rfl) ?_
        refine lv_imul hx hb dX12_copyLand_67 ?_
        refine lv_topi (nm_r (e' := 0) (by decide) ?_)
        refine lv_iload_n hx hb dX12_copyLand_68 rfl (lv_at hl 3 rfl) ?_
        refine lv_iadd hx hb dX12_copyLand_69 ?_
        refine lv_topi (nm_r (e' := (nI (0 + i))) (nI_add 0 i) ?_)
        refine va_lald (D := g) hx hb hK hP 1 1 rfl rfl (vp_in_nI (n := 0 + i) (by omega) (by decide)) dX12_copyLand_70 ?_
        refine lv_topl (nm_r (e' := f (0 + i)) (congrArg f (nI_clamp (n := 0 + i) (by omega))) ?_)
        refine va_last (D := g) hx hb hK hP hD hS 1 1 rfl rfl (vp_in_nI (n := (32 * jb) + i) (by omega) (by decide)) dX12_copyLand_71 (fun H locs hP hD hS => ?_)
        rw [nI_clamp (n := (32 * jb) + i) (by omega)] at hP hD
        have hP : va_P g vwCl [(y, .inr (11, mO a)), ((a 20), .inl (cJ, 160, .inr (.inl (vp_updL f ((32 * jb) + i) (f (0 + i)))))), ((a 21), .inl (cJ, 5, .inr (.inl fs))), ((a 16), .inl (cI, 5, .inl u_f14)), ((a 17), .inl (cI, 25, .inl u_f18)), ((a 18), .inl (cI, 250, .inl u_f112)), ((a 19), .inl (cI, 240, .inl u_f116))] H := hP
        have hD : va_D A [(y, .inr (11, mO a)), ((a 20), .inl (cJ, 160, .inr (.inl (vp_updL f ((32 * jb) + i) (f (0 + i)))))), ((a 21), .inl (cJ, 5, .inr (.inl fs))), ((a 16), .inl (cI, 5, .inl u_f14)), ((a 17), .inl (cI, 25, .inl u_f18)), ((a 18), .inl (cI, 250, .inl u_f112)), ((a 19), .inl (cI, 240, .inl u_f116))] := hD
        refine lv_iinc (v := (nI (i + 1))) (lv' := [(3, .int (nI (i + 1))), (0, .ref y), (1, .int 0), (2, .int (nI jb))]) hx hb dX12_copyLand_72 hl (k := 3) rfl (nI_add i 1) (by decide) rfl (fun ls hl => ?_)
        refine lv_goto (tgt := 44) hx hb dX12_copyLand_75 (by decide) ?_
        exact ih18 (i + 1) _ _ _ _ (by omega) (by omega) (hP.sub [0, 1, 2, 3, 4, 5, 6] rfl) (hD.sub [0, 1, 2, 3, 4, 5, 6] (by decide) rfl) hS (lv_sub hl [1, 2, 3, 0] rfl)
  exact lp19 _ 0 _ _ _ _ (Nat.lt_succ_self _) (Nat.zero_le _) (hP.sub [0, 1, 2, 3, 4, 5, 6] rfl) (hD.sub [0, 1, 2, 3, 4, 5, 6] (by decide) rfl) hS (lv_sub hl [1, 2, 3, 0] rfl)
def v_X12_isByte : List Cond := .code yX12_isByte cX12_isByte 4 (some .boolean) :: (([.fieldLink RX12 124 "CardsAtYuleModel" "taped" "I"] : List Cond) ++ (wsX120 ++ ([] : List Cond)))
theorem good_v_X12_isByte : v_X12_isByte.all goodWord = true := ga_c (by decide +kernel) (ga_a (by decide +kernel) (ga_a good_wsX120 rfl))
set_option maxHeartbeats 4000000 in
set_option maxRecDepth 100000 in
theorem k_X12_isByte (l : Launch) (g : va_G) (cI cJ cB cZ cL : ClassId) (y : Nat) (a : Nat → Nat) (p1 : Int32) (p2 : Int32) (sz : Nat)  : Met l yX12_isByte v_X12_isByte ({ frames := 0, cells := 0, slots := 0, locals := 0 }) (va_Pc [.ref y, .int 0, .int p1, .int p2] (pRO g (tyT cI cJ cB cZ cL) [(y, .inr (11, (mO a).set 13 (.int (-1))))] sz)) (va_Qi (fun (r : Int32) (u : Unit) => r = 0) (fun (_ : Unit) (_ : State) => True) (va_A [] sz)) 0 0 (va_A [] sz) := by
  refine Met.ofW (cc := cX12_isByte) (maxL := 4) (ret := (some .boolean)) (by decide) rfl ?_
  intro p e s m args below meth c s₁ B hml hv
  obtain ⟨rfl, hsz, hP, hK⟩ := hv
  have hx := B.exec
  have hb := B.bytes
  have hr := B.returns
  have hts := atoms_spec (ws := v_X12_isByte) B.pre
  have hown : s.vm.findClass RX12 = some m.cls := findClass_of_methodNamed B.named
  have hlocks := B.notSynchronized
  subst hsz
  have iX12 : ∀ w ∈ wsX120, w ∈ v_X12_isByte := (fun _ h => List.mem_cons_of_mem _ (List.mem_append_right _ (List.mem_append_left _ h)))
  generalize hAe : (va_A [] s.heap.size) = A
  have hA : ∀ q : Nat, s.heap.size ≤ q → A q := fun q h => by rw [← hAe]; exact Or.inr h
  have hS : va_S A s.heap s.heap [] := va_S.rf
  have hl := lv_entry ([.ref y, .int 0, .int p1, .int p2]) (n := 4) (Nat.le_of_ble_eq_true rfl)
  rw [lg_entry_eq]
  generalize (lg_sl ([.ref y, .int 0, .int p1, .int p2]) ++ List.replicate (4 - (lg_sl ([.ref y, .int 0, .int p1, .int p2])).length) Slot.unset).toArray = ls at hl ⊢
  have hl : lv_has ls 4 [(0, .ref y), (1, .int 0), (2, .int p1), (3, .int p2)] := hl
  have hP : va_P g vwCl [(y, .inr (11, (mO a).set 13 (.int (-1))))] s.heap := hP
  refine lv_iload_n hx hb dX12_isByte_0 rfl (lv_at hl 1 rfl) ?_
  refine lv_aload_n hx hb dX12_isByte_1 rfl (lv_at hl 0 rfl) ?_
  refine va_get (D := g) (ci := 11) (v := .int 0) (C := RX12) (T := TX12) (N := 56) hx hb hts iX12 hown hK hP 0 rfl rfl 6 (by decide) (hts (.fieldLink RX12 124 "CardsAtYuleModel" "taped" "I") (List.mem_cons_of_mem _ (List.mem_append_left _ (List.mem_of_getElem? (i := 0) rfl)))) (fun _ h9 => h9) rfl dX12_isByte_2 ?_
  refine lv_icmp_ge (tgt := 32) hx hb dX12_isByte_5 (by decide) (fun _ => ?_) (fun c1 => absurd c1 (by decide))
  refine lv_iconst (v := 0) hx hb dX12_isByte_32 (by decide) ?_
  exact W.zret (v := 0) hx hb hr rfl (fun t ht hW => ⟨⟨0, (), rfl, rfl, trivial⟩, hS.F ht⟩) hS.2.2 dX12_isByte_33
def v_X12_next : List Cond := .code yX12_next cX12_next 2 none :: (([.fieldLink RX12 131 "CardsAtYuleModel" "at" "I", .methodLink RX12 134 yX12_isByte, .instanceMethod yX12_isByte, .selects RX12 yX12_isByte yX12_isByte, .initialized RX12, .fieldLink RX12 138 "CardsAtYuleModel" "place" "I", .fieldLink RX12 141 "CardsAtYuleModel" "value" "I", .fieldLink RX12 144 "CardsAtYuleModel" "word" "J", .fieldLink RX12 124 "CardsAtYuleModel" "taped" "I", .fieldLink RX12 148 "CardsAtYuleModel" "token" "I"] : List Cond) ++ (v_X12_isByte ++ (wsX120 ++ ([] : List Cond))))
theorem good_v_X12_next : v_X12_next.all goodWord = true := ga_c (by decide +kernel) (ga_a (by decide +kernel) (ga_a good_v_X12_isByte (ga_a good_wsX120 rfl)))
set_option maxHeartbeats 4000000 in
set_option maxRecDepth 100000 in
theorem k_X12_next (l : Launch) (g : va_G) (cI cJ cB cZ cL : ClassId) (y : Nat) (a : Nat → Nat) (sz : Nat)  : Met l yX12_next v_X12_next ({ frames := 1, cells := 0, slots := 0, locals := 23 }) (va_Pc [.ref y] (pRW g (tyT cI cJ cB cZ cL) [(y, .inr (11, (mO a).set 13 (.int (-1))))] sz)) (va_Qv (fun (u : Unit) => True) (fun (_ : Unit) (t : State) => bRW g (tyT cI cJ cB cZ cL) (va_A [(y, .inr (11, (mO a).set 13 (.int (-1))))] sz) [(y, .inr (11, (mO a).set 13 (.int (-1))))] t) (va_A [(y, .inr (11, (mO a).set 13 (.int (-1))))] sz)) 0 0 (va_A [(y, .inr (11, (mO a).set 13 (.int (-1))))] sz) := by
  refine Met.ofW (cc := cX12_next) (maxL := 2) (ret := none) (by decide) rfl ?_
  intro p e s m args below meth c s₁ B hml hv
  obtain ⟨rfl, hsz, hP, hK, hD0⟩ := hv
  have hx := B.exec
  have hb := B.bytes
  have hr := B.returns
  have hts := atoms_spec (ws := v_X12_next) B.pre
  have hown : s.vm.findClass RX12 = some m.cls := findClass_of_methodNamed B.named
  have hlocks := B.notSynchronized
  subst hsz
  have iX12 : ∀ w ∈ wsX120, w ∈ v_X12_next := (fun _ h => List.mem_cons_of_mem _ (List.mem_append_right _ (List.mem_append_right _ (List.mem_append_left _ h))))
  have hD := hD0.self (sz := s.heap.size)
  generalize hAe : (va_A [(y, .inr (11, (mO a).set 13 (.int (-1))))] s.heap.size) = A at hD ⊢
  have hA : ∀ q : Nat, s.heap.size ≤ q → A q := fun q h => by rw [← hAe]; exact Or.inr h
  have hS : va_S A s.heap s.heap [] := va_S.rf
  have hl := lv_entry ([.ref y]) (n := 2) (Nat.le_of_ble_eq_true rfl)
  rw [lg_entry_eq]
  generalize (lg_sl ([.ref y]) ++ List.replicate (2 - (lg_sl ([.ref y])).length) Slot.unset).toArray = ls at hl ⊢
  have hl : lv_has ls 2 [(0, .ref y)] := hl
  have hP : va_P g vwCl [(y, .inr (11, (mO a).set 13 (.int (-1))))] s.heap := hP
  refine lv_aload_n hx hb dX12_next_0 rfl (lv_at hl 0 rfl) ?_
  refine lv_aload_n hx hb dX12_next_1 rfl (lv_at hl 0 rfl) ?_
  refine va_get (D := g) (ci := 11) (v := .int 0) (C := RX12) (T := TX12) (N := 56) hx hb hts iX12 hown hK hP 0 rfl rfl 7 (by decide) (hts (.fieldLink RX12 131 "CardsAtYuleModel" "at" "I") (List.mem_cons_of_mem _ (List.mem_append_left _ (List.mem_of_getElem? (i := 0) rfl)))) (fun _ h9 => h9) rfl dX12_next_2 ?_
  refine lv_bipush (v := 32) hx hb dX12_next_5 (by decide) ?_
  refine lv_bipush (v := 32) hx hb dX12_next_7 (by decide) ?_
  refine ro_i (va_runV (As := [.int 0, .int 32, .int 32]) (rest := []) ⟨hx, hb, hml, hown, hts⟩ (k_X12_isByte l g cI cJ cB cZ cL y a 32 32 s.heap.size ) (cwV 3 hts (goodIn_app (g_4 (List.mem_cons_of_mem _ (List.mem_append_left _ (List.mem_of_getElem? (i := 1) rfl))) (List.mem_cons_of_mem _ (List.mem_append_left _ (List.mem_of_getElem? (i := 2) rfl))) (List.mem_cons_of_mem _ (List.mem_append_left _ (List.mem_of_getElem? (i := 3) rfl))) (List.mem_cons_of_mem _ (List.mem_append_left _ (List.mem_of_getElem? (i := 4) rfl))) (by decide +kernel)) (goodIn_sub (fun _ h => List.mem_cons_of_mem _ (List.mem_append_right _ (List.mem_append_left _ h))) good_v_X12_isByte)) rfl rfl rfl (by decide +kernel) ⟨Nat.le_of_ble_eq_true rfl, Nat.le_of_ble_eq_true rfl⟩) (pv_RO (q := (RX12, TX12, 56)) (ci := 11) (q0 := 0) (wc := [(y, .inr (11, (mO a).set 13 (.int (-1))))]) hK hP [0] rfl rfl rfl) rfl rfl hl.1 rfl (lv_room (Nat.le_of_ble_eq_true rfl)) dX12_next_9 ⟨Nat.le_of_ble_eq_true rfl, Nat.le_of_ble_eq_true rfl⟩) hS hA hP (fun r1 u2 H locs hw3 hP hS => ?_)
  subst hw3
  refine lv_if_ne (tgt := 30) hx hb dX12_next_12 (by decide) (fun c4 => absurd c4 (by decide)) (fun _ => ?_)
  refine lv_aload_n hx hb dX12_next_15 rfl (lv_at hl 0 rfl) ?_
  refine lv_aload_n hx hb dX12_next_16 rfl (lv_at hl 0 rfl) ?_
  refine va_get (D := g) (ci := 11) (v := .int 0) (C := RX12) (T := TX12) (N := 56) hx hb hts iX12 hown hK hP 0 rfl rfl 7 (by decide) (hts (.fieldLink RX12 131 "CardsAtYuleModel" "at" "I") (List.mem_cons_of_mem _ (List.mem_append_left _ (List.mem_of_getElem? (i := 0) rfl)))) (fun _ h9 => h9) rfl dX12_next_17 ?_
  refine lv_bipush (v := 10) hx hb dX12_next_20 (by decide) ?_
  refine lv_bipush (v := 10) hx hb dX12_next_22 (by decide) ?_
  refine ro_i (va_runV (As := [.int 0, .int 10, .int 10]) (rest := []) ⟨hx, hb, hml, hown, hts⟩ (k_X12_isByte l g cI cJ cB cZ cL y a 10 10 H.size ) (cwV 3 hts (goodIn_app (g_4 (List.mem_cons_of_mem _ (List.mem_append_left _ (List.mem_of_getElem? (i := 1) rfl))) (List.mem_cons_of_mem _ (List.mem_append_left _ (List.mem_of_getElem? (i := 2) rfl))) (List.mem_cons_of_mem _ (List.mem_append_left _ (List.mem_of_getElem? (i := 3) rfl))) (List.mem_cons_of_mem _ (List.mem_append_left _ (List.mem_of_getElem? (i := 4) rfl))) (by decide +kernel)) (goodIn_sub (fun _ h => List.mem_cons_of_mem _ (List.mem_append_right _ (List.mem_append_left _ h))) good_v_X12_isByte)) rfl rfl rfl (by decide +kernel) ⟨Nat.le_of_ble_eq_true rfl, Nat.le_of_ble_eq_true rfl⟩) (pv_RO (q := (RX12, TX12, 56)) (ci := 11) (q0 := 0) (wc := [(y, .inr (11, (mO a).set 13 (.int (-1))))]) hK hP [0] rfl rfl rfl) rfl rfl hl.1 rfl (lv_room (Nat.le_of_ble_eq_true rfl)) dX12_next_24 ⟨Nat.le_of_ble_eq_true rfl, Nat.le_of_ble_eq_true rfl⟩) hS hA hP (fun r5 u6 H locs hw7 hP hS => ?_)
  subst hw7
  refine lv_if_eq (tgt := 43) hx hb dX12_next_27 (by decide) (fun _ => ?_) (fun c8 => absurd c8 (by decide))
  refine lv_aload_n hx hb dX12_next_43 rfl (lv_at hl 0 rfl) ?_
  refine lv_aload_n hx hb dX12_next_44 rfl (lv_at hl 0 rfl) ?_
  refine va_get (D := g) (ci := 11) (v := .int 0) (C := RX12) (T := TX12) (N := 56) hx hb hts iX12 hown hK hP 0 rfl rfl 7 (by decide) (hts (.fieldLink RX12 131 "CardsAtYuleModel" "at" "I") (List.mem_cons_of_mem _ (List.mem_append_left _ (List.mem_of_getElem? (i := 0) rfl)))) (fun _ h9 => h9) rfl dX12_next_45 ?_
  refine va_put (D := g) (ci := 11) (v := .int 0) (ty := .int) (C := RX12) (T := TX12) (N := 56) hx hb hts iX12 tyX12 tyX12_ok nmX12 hown hK hP hD hS 0 rfl rfl 9 (by decide) (hts (.fieldLink RX12 138 "CardsAtYuleModel" "place" "I") (List.mem_cons_of_mem _ (List.mem_append_left _ (List.mem_of_getElem? (i := 5) rfl)))) (fun _ h9 => h9) rfl (by decide +kernel) rfl rfl (Nat.le_of_ble_eq_true rfl) dX12_next_48 (fun H locs hP hD hS => ?_)
  have hP : va_P g vwCl [(y, .inr (11, (mO a).set 13 (.int (-1))))] H := hP
  have hD : va_D A [(y, .inr (11, (mO a).set 13 (.int (-1))))] := hD
  refine lv_aload_n hx hb dX12_next_51 rfl (lv_at hl 0 rfl) ?_
  refine lv_iconst (v := 0) hx hb dX12_next_52 (by decide) ?_
  refine va_put (D := g) (ci := 11) (v := .int 0) (ty := .int) (C := RX12) (T := TX12) (N := 56) hx hb hts iX12 tyX12 tyX12_ok nmX12 hown hK hP hD hS 0 rfl rfl 10 (by decide) (hts (.fieldLink RX12 141 "CardsAtYuleModel" "value" "I") (List.mem_cons_of_mem _ (List.mem_append_left _ (List.mem_of_getElem? (i := 6) rfl)))) (fun _ h9 => h9) rfl (by decide +kernel) rfl rfl (Nat.le_of_ble_eq_true rfl) dX12_next_53 (fun H locs hP hD hS => ?_)
  have hP : va_P g vwCl [(y, .inr (11, (mO a).set 13 (.int (-1))))] H := hP
  have hD : va_D A [(y, .inr (11, (mO a).set 13 (.int (-1))))] := hD
  refine lv_aload_n hx hb dX12_next_56 rfl (lv_at hl 0 rfl) ?_
  refine lv_lconst (v := 0) hx hb dX12_next_57 (by decide) ?_
  refine va_put (D := g) (ci := 11) (v := .long 0) (ty := .long) (C := RX12) (T := TX12) (N := 56) hx hb hts iX12 tyX12 tyX12_ok nmX12 hown hK hP hD hS 0 rfl rfl 11 (by decide) (hts (.fieldLink RX12 144 "CardsAtYuleModel" "word" "J") (List.mem_cons_of_mem _ (List.mem_append_left _ (List.mem_of_getElem? (i := 7) rfl)))) (fun _ h9 => h9) rfl (by decide +kernel) rfl rfl (Nat.le_of_ble_eq_true rfl) dX12_next_58 (fun H locs hP hD hS => ?_)
  have hP : va_P g vwCl [(y, .inr (11, (mO a).set 13 (.int (-1))))] H := hP
  have hD : va_D A [(y, .inr (11, (mO a).set 13 (.int (-1))))] := hD
  refine lv_aload_n hx hb dX12_next_61 rfl (lv_at hl 0 rfl) ?_
  refine va_get (D := g) (ci := 11) (v := .int 0) (C := RX12) (T := TX12) (N := 56) hx hb hts iX12 hown hK hP 0 rfl rfl 7 (by decide) (hts (.fieldLink RX12 131 "CardsAtYuleModel" "at" "I") (List.mem_cons_of_mem _ (List.mem_append_left _ (List.mem_of_getElem? (i := 0) rfl)))) (fun _ h9 => h9) rfl dX12_next_62 ?_
  refine lv_aload_n hx hb dX12_next_65 rfl (lv_at hl 0 rfl) ?_
  refine va_get (D := g) (ci := 11) (v := .int 0) (C := RX12) (T := TX12) (N := 56) hx hb hts iX12 hown hK hP 0 rfl rfl 6 (by decide) (hts (.fieldLink RX12 124 "CardsAtYuleModel" "taped" "I") (List.mem_cons_of_mem _ (List.mem_append_left _ (List.mem_of_getElem? (i := 8) rfl)))) (fun _ h9 => h9) rfl dX12_next_66 ?_
  refine lv_icmp_ne (tgt := 80) hx hb dX12_next_69 (by decide) (fun c9 => absurd c9 (by decide)) (fun _ => ?_)
  refine lv_aload_n hx hb dX12_next_72 rfl (lv_at hl 0 rfl) ?_
  refine lv_iconst (v := 0) hx hb dX12_next_73 (by decide) ?_
  refine va_put (D := g) (ci := 11) (v := .int 0) (ty := .int) (C := RX12) (T := TX12) (N := 56) hx hb hts iX12 tyX12 tyX12_ok nmX12 hown hK hP hD hS 0 rfl rfl 8 (by decide) (hts (.fieldLink RX12 148 "CardsAtYuleModel" "token" "I") (List.mem_cons_of_mem _ (List.mem_append_left _ (List.mem_of_getElem? (i := 9) rfl)))) (fun _ h9 => h9) rfl (by decide +kernel) rfl rfl (Nat.le_of_ble_eq_true rfl) dX12_next_74 (fun H locs hP hD hS => ?_)
  have hP : va_P g vwCl [(y, .inr (11, (mO a).set 13 (.int (-1))))] H := hP
  have hD : va_D A [(y, .inr (11, (mO a).set 13 (.int (-1))))] := hD
  refine lv_goto (tgt := 307) hx hb dX12_next_77 (by decide) ?_
  have hP9 := hP.sub (ws' := [(y, .inr (11, (mO a).set 13 (.int (-1))))]) [0] rfl
  have hD9 := hD.sub (ws' := [(y, .inr (11, (mO a).set 13 (.int (-1))))]) [0] (by decide) rfl
  exact W.vret hx hb hr (fun t ht hW => ⟨⟨(), rfl, trivial, by rw [ht]; exact hP9, va_K.moved hW.alike hK, hD9⟩, hS.F ht⟩) hS.2.2 dX12_next_307
def v_X12_begins : List Cond := .code yX12_begins cX12_begins 1 none :: (([.fieldLink RX12 159 "CardsAtYuleModel" "bad" "I", .fieldLink RX12 162 "CardsAtYuleModel" "badPlace" "I", .fieldLink RX12 131 "CardsAtYuleModel" "at" "I", .methodLink RX12 169 yX12_next, .instanceMethod yX12_next, .selects RX12 yX12_next yX12_next, .initialized RX12] : List Cond) ++ (v_X12_next ++ (wsX120 ++ ([] : List Cond))))
theorem good_v_X12_begins : v_X12_begins.all goodWord = true := ga_c (by decide +kernel) (ga_a (by decide +kernel) (ga_a good_v_X12_next (ga_a good_wsX120 rfl)))
set_option maxHeartbeats 4000000 in
set_option maxRecDepth 100000 in
theorem k_X12_begins (l : Launch) (g : va_G) (cI cJ cB cZ cL : ClassId) (y : Nat) (a : Nat → Nat) (sz : Nat)  : Met l yX12_begins v_X12_begins ({ frames := 2, cells := 0, slots := 0, locals := 44 }) (va_Pc [.ref y] (pRW g (tyT cI cJ cB cZ cL) [(y, .inr (11, mO a))] sz)) (va_Qv (fun (u : Unit) => True) (fun (_ : Unit) (t : State) => bRW g (tyT cI cJ cB cZ cL) (va_A [(y, .inr (11, mO a))] sz) [(y, .inr (11, (mO a).set 13 (.int (-1))))] t) (va_A [(y, .inr (11, mO a))] sz)) 0 0 (va_A [(y, .inr (11, mO a))] sz) := by
  refine Met.ofW (cc := cX12_begins) (maxL := 1) (ret := none) (by decide) rfl ?_
  intro p e s m args below meth c s₁ B hml hv
  obtain ⟨rfl, hsz, hP, hK, hD0⟩ := hv
  have hx := B.exec
  have hb := B.bytes
  have hr := B.returns
  have hts := atoms_spec (ws := v_X12_begins) B.pre
  have hown : s.vm.findClass RX12 = some m.cls := findClass_of_methodNamed B.named
  have hlocks := B.notSynchronized
  subst hsz
  have iX12 : ∀ w ∈ wsX120, w ∈ v_X12_begins := (fun _ h => List.mem_cons_of_mem _ (List.mem_append_right _ (List.mem_append_right _ (List.mem_append_left _ h))))
  have hD := hD0.self (sz := s.heap.size)
  generalize hAe : (va_A [(y, .inr (11, mO a))] s.heap.size) = A at hD ⊢
  have hA : ∀ q : Nat, s.heap.size ≤ q → A q := fun q h => by rw [← hAe]; exact Or.inr h
  have hS : va_S A s.heap s.heap [] := va_S.rf
  have hl := lv_entry ([.ref y]) (n := 1) (Nat.le_of_ble_eq_true rfl)
  rw [lg_entry_eq]
  generalize (lg_sl ([.ref y]) ++ List.replicate (1 - (lg_sl ([.ref y])).length) Slot.unset).toArray = ls at hl ⊢
  have hl : lv_has ls 1 [(0, .ref y)] := hl
  have hP : va_P g vwCl [(y, .inr (11, mO a))] s.heap := hP
  refine lv_aload_n hx hb dX12_begins_0 rfl (lv_at hl 0 rfl) ?_
  refine lv_iconst (v := 0) hx hb dX12_begins_1 (by decide) ?_
  refine va_put (D := g) (ci := 11) (v := .int 0) (ty := .int) (C := RX12) (T := TX12) (N := 56) hx hb hts iX12 tyX12 tyX12_ok nmX12 hown hK hP hD hS 0 rfl rfl 12 (by decide) (hts (.fieldLink RX12 159 "CardsAtYuleModel" "bad" "I") (List.mem_cons_of_mem _ (List.mem_append_left _ (List.mem_of_getElem? (i := 0) rfl)))) (fun _ h9 => h9) rfl (by decide +kernel) rfl rfl (Nat.le_of_ble_eq_true rfl) dX12_begins_2 (fun H locs hP hD hS => ?_)
  have hP : va_P g vwCl [(y, .inr (11, mO a))] H := hP
  have hD : va_D A [(y, .inr (11, mO a))] := hD
  refine lv_aload_n hx hb dX12_begins_5 rfl (lv_at hl 0 rfl) ?_
  refine lv_iconst (v := (-1)) hx hb dX12_begins_6 (by decide) ?_
  refine va_put (D := g) (ci := 11) (v := .int (-1)) (ty := .int) (C := RX12) (T := TX12) (N := 56) hx hb hts iX12 tyX12 tyX12_ok nmX12 hown hK hP hD hS 0 rfl rfl 13 (by decide) (hts (.fieldLink RX12 162 "CardsAtYuleModel" "badPlace" "I") (List.mem_cons_of_mem _ (List.mem_append_left _ (List.mem_of_getElem? (i := 1) rfl)))) (fun _ h9 => h9) rfl (by decide +kernel) rfl rfl (Nat.le_of_ble_eq_true rfl) dX12_begins_7 (fun H locs hP hD hS => ?_)
  have hP : va_P g vwCl [(y, .inr (11, (mO a).set 13 (.int (-1))))] H := hP
  have hD : va_D A [(y, .inr (11, (mO a).set 13 (.int (-1))))] := hD
  refine lv_aload_n hx hb dX12_begins_10 rfl (lv_at hl 0 rfl) ?_
  refine lv_iconst (v := 0) hx hb dX12_begins_11 (by decide) ?_
  refine va_put (D := g) (ci := 11) (v := .int 0) (ty := .int) (C := RX12) (T := TX12) (N := 56) hx hb hts iX12 tyX12 tyX12_ok nmX12 hown hK hP hD hS 0 rfl rfl 7 (by decide) (hts (.fieldLink RX12 131 "CardsAtYuleModel" "at" "I") (List.mem_cons_of_mem _ (List.mem_append_left _ (List.mem_of_getElem? (i := 2) rfl)))) (fun _ h9 => h9) rfl (by decide +kernel) rfl rfl (Nat.le_of_ble_eq_true rfl) dX12_begins_12 (fun H locs hP hD hS => ?_)
  have hP : va_P g vwCl [(y, .inr (11, (mO a).set 13 (.int (-1))))] H := hP
  have hD : va_D A [(y, .inr (11, (mO a).set 13 (.int (-1))))] := hD
  refine lv_aload_n hx hb dX12_begins_15 rfl (lv_at hl 0 rfl) ?_
  refine rw_v (wr := []) (va_runV (As := []) (rest := []) ⟨hx, hb, hml, hown, hts⟩ (k_X12_next l g cI cJ cB cZ cL y a H.size ) (cwV 0 hts (goodIn_app (g_4 (List.mem_cons_of_mem _ (List.mem_append_left _ (List.mem_of_getElem? (i := 3) rfl))) (List.mem_cons_of_mem _ (List.mem_append_left _ (List.mem_of_getElem? (i := 4) rfl))) (List.mem_cons_of_mem _ (List.mem_append_left _ (List.mem_of_getElem? (i := 5) rfl))) (List.mem_cons_of_mem _ (List.mem_append_left _ (List.mem_of_getElem? (i := 6) rfl))) (by decide +kernel)) (goodIn_sub (fun _ h => List.mem_cons_of_mem _ (List.mem_append_right _ (List.mem_append_left _ h))) good_v_X12_next)) rfl rfl rfl (by decide +kernel) ⟨Nat.le_of_ble_eq_true rfl, Nat.le_of_ble_eq_true rfl⟩) (pv_RW (q := (RX12, TX12, 56)) (ci := 11) (q0 := 0) (wc := [(y, .inr (11, (mO a).set 13 (.int (-1))))]) hK hP hD [0] (by decide) rfl rfl rfl) rfl rfl hl.1 rfl (lv_room (Nat.le_of_ble_eq_true rfl)) dX12_begins_16 ⟨Nat.le_of_ble_eq_true rfl, Nat.le_of_ble_eq_true rfl⟩) hS hA hP hD [0] [] rfl rfl (by decide) (by decide) (fun u2 H locs hw3 hP hD hS => ?_)
  have hP : va_P g vwCl [(y, .inr (11, (mO a).set 13 (.int (-1))))] H := hP
  have hD : va_D A [(y, .inr (11, (mO a).set 13 (.int (-1))))] := hD
  have hP9 := hP.sub (ws' := [(y, .inr (11, (mO a).set 13 (.int (-1))))]) [0] rfl
  have hD9 := hD.sub (ws' := [(y, .inr (11, (mO a).set 13 (.int (-1))))]) [0] (by decide) rfl
  exact W.vret hx hb hr (fun t ht hW => ⟨⟨(), rfl, trivial, by rw [ht]; exact hP9, va_K.moved hW.alike hK, hD9⟩, hS.F ht⟩) hS.2.2 dX12_begins_19
def v_X12_isGood : List Cond := .code yX12_isGood cX12_isGood 1 (some .boolean) :: (([.fieldLink RX12 159 "CardsAtYuleModel" "bad" "I"] : List Cond) ++ (wsX120 ++ ([] : List Cond)))
theorem good_v_X12_isGood : v_X12_isGood.all goodWord = true := ga_c (by decide +kernel) (ga_a (by decide +kernel) (ga_a good_wsX120 rfl))
set_option maxHeartbeats 4000000 in
set_option maxRecDepth 100000 in
theorem k_X12_isGood (l : Launch) (g : va_G) (cI cJ cB cZ cL : ClassId) (y : Nat) (a : Nat → Nat) (sz : Nat)  : Met l yX12_isGood v_X12_isGood ({ frames := 0, cells := 0, slots := 0, locals := 0 }) (va_Pc [.ref y] (pRO g (tyT cI cJ cB cZ cL) [(y, .inr (11, (mO a).set 13 (.int (-1))))] sz)) (va_Qi (fun (r : Int32) (u : Unit) => r = 1) (fun (_ : Unit) (_ : State) => True) (va_A [] sz)) 0 0 (va_A [] sz) := by
  refine Met.ofW (cc := cX12_isGood) (maxL := 1) (ret := (some .boolean)) (by decide) rfl ?_
  intro p e s m args below meth c s₁ B hml hv
  obtain ⟨rfl, hsz, hP, hK⟩ := hv
  have hx := B.exec
  have hb := B.bytes
  have hr := B.returns
  have hts := atoms_spec (ws := v_X12_isGood) B.pre
  have hown : s.vm.findClass RX12 = some m.cls := findClass_of_methodNamed B.named
  have hlocks := B.notSynchronized
  subst hsz
  have iX12 : ∀ w ∈ wsX120, w ∈ v_X12_isGood := (fun _ h => List.mem_cons_of_mem _ (List.mem_append_right _ (List.mem_append_left _ h)))
  generalize hAe : (va_A [] s.heap.size) = A
  have hA : ∀ q : Nat, s.heap.size ≤ q → A q := fun q h => by rw [← hAe]; exact Or.inr h
  have hS : va_S A s.heap s.heap [] := va_S.rf
  have hl := lv_entry ([.ref y]) (n := 1) (Nat.le_of_ble_eq_true rfl)
  rw [lg_entry_eq]
  generalize (lg_sl ([.ref y]) ++ List.replicate (1 - (lg_sl ([.ref y])).length) Slot.unset).toArray = ls at hl ⊢
  have hl : lv_has ls 1 [(0, .ref y)] := hl
  have hP : va_P g vwCl [(y, .inr (11, (mO a).set 13 (.int (-1))))] s.heap := hP
  refine lv_aload_n hx hb dX12_isGood_0 rfl (lv_at hl 0 rfl) ?_
  refine va_get (D := g) (ci := 11) (v := .int 0) (C := RX12) (T := TX12) (N := 56) hx hb hts iX12 hown hK hP 0 rfl rfl 12 (by decide) (hts (.fieldLink RX12 159 "CardsAtYuleModel" "bad" "I") (List.mem_cons_of_mem _ (List.mem_append_left _ (List.mem_of_getElem? (i := 0) rfl)))) (fun _ h9 => h9) rfl dX12_isGood_1 ?_
  refine lv_if_ne (tgt := 11) hx hb dX12_isGood_4 (by decide) (fun c1 => absurd c1 (by decide)) (fun _ => ?_)
  refine lv_iconst (v := 1) hx hb dX12_isGood_7 (by decide) ?_
  refine lv_goto (tgt := 12) hx hb dX12_isGood_8 (by decide) ?_
  exact W.zret (v := 1) hx hb hr rfl (fun t ht hW => ⟨⟨1, (), rfl, rfl, trivial⟩, hS.F ht⟩) hS.2.2 dX12_isGood_12
def v_X12_isOver : List Cond := .code yX12_isOver cX12_isOver 1 none :: (([.fieldLink RX12 124 "CardsAtYuleModel" "taped" "I", .fieldLink RX12 159 "CardsAtYuleModel" "bad" "I", .fieldLink RX12 186 "CardsAtYuleModel" "fault" "I", .fieldLink RX12 27 "CardsAtYuleModel" "faultPlace" "I"] : List Cond) ++ (wsX120 ++ ([] : List Cond)))
theorem good_v_X12_isOver : v_X12_isOver.all goodWord = true := ga_c (by decide +kernel) (ga_a (by decide +kernel) (ga_a good_wsX120 rfl))
set_option maxHeartbeats 4000000 in
set_option maxRecDepth 100000 in
theorem k_X12_isOver (l : Launch) (g : va_G) (cI cJ cB cZ cL : ClassId) (y : Nat) (a : Nat → Nat) (sz : Nat)  : Met l yX12_isOver v_X12_isOver ({ frames := 0, cells := 0, slots := 0, locals := 0 }) (va_Pc [.ref y] (pRW g (tyT cI cJ cB cZ cL) [(y, .inr (11, (mO a).set 13 (.int (-1))))] sz)) (va_Qv (fun (u : Unit) => True) (fun (_ : Unit) (t : State) => bRW g (tyT cI cJ cB cZ cL) (va_A [(y, .inr (11, (mO a).set 13 (.int (-1))))] sz) [(y, .inr (11, (mO a).set 13 (.int (-1))))] t) (va_A [(y, .inr (11, (mO a).set 13 (.int (-1))))] sz)) 0 0 (va_A [(y, .inr (11, (mO a).set 13 (.int (-1))))] sz) := by
  refine Met.ofW (cc := cX12_isOver) (maxL := 1) (ret := none) (by decide) rfl ?_
  intro p e s m args below meth c s₁ B hml hv
  obtain ⟨rfl, hsz, hP, hK, hD0⟩ := hv
  have hx := B.exec
  have hb := B.bytes
  have hr := B.returns
  have hts := atoms_spec (ws := v_X12_isOver) B.pre
  have hown : s.vm.findClass RX12 = some m.cls := findClass_of_methodNamed B.named
  have hlocks := B.notSynchronized
  subst hsz
  have iX12 : ∀ w ∈ wsX120, w ∈ v_X12_isOver := (fun _ h => List.mem_cons_of_mem _ (List.mem_append_right _ (List.mem_append_left _ h)))
  have hD := hD0.self (sz := s.heap.size)
  generalize hAe : (va_A [(y, .inr (11, (mO a).set 13 (.int (-1))))] s.heap.size) = A at hD ⊢
  have hA : ∀ q : Nat, s.heap.size ≤ q → A q := fun q h => by rw [← hAe]; exact Or.inr h
  have hS : va_S A s.heap s.heap [] := va_S.rf
  have hl := lv_entry ([.ref y]) (n := 1) (Nat.le_of_ble_eq_true rfl)
  rw [lg_entry_eq]
  generalize (lg_sl ([.ref y]) ++ List.replicate (1 - (lg_sl ([.ref y])).length) Slot.unset).toArray = ls at hl ⊢
  have hl : lv_has ls 1 [(0, .ref y)] := hl
  have hP : va_P g vwCl [(y, .inr (11, (mO a).set 13 (.int (-1))))] s.heap := hP
  refine lv_aload_n hx hb dX12_isOver_0 rfl (lv_at hl 0 rfl) ?_
  refine lv_iconst (v := 0) hx hb dX12_isOver_1 (by decide) ?_
  refine va_put (D := g) (ci := 11) (v := .int 0) (ty := .int) (C := RX12) (T := TX12) (N := 56) hx hb hts iX12 tyX12 tyX12_ok nmX12 hown hK hP hD hS 0 rfl rfl 6 (by decide) (hts (.fieldLink RX12 124 "CardsAtYuleModel" "taped" "I") (List.mem_cons_of_mem _ (List.mem_append_left _ (List.mem_of_getElem? (i := 0) rfl)))) (fun _ h9 => h9) rfl (by decide +kernel) rfl rfl (Nat.le_of_ble_eq_true rfl) dX12_isOver_2 (fun H locs hP hD hS => ?_)
  have hP : va_P g vwCl [(y, .inr (11, (mO a).set 13 (.int (-1))))] H := hP
  have hD : va_D A [(y, .inr (11, (mO a).set 13 (.int (-1))))] := hD
  refine lv_aload_n hx hb dX12_isOver_5 rfl (lv_at hl 0 rfl) ?_
  refine lv_aload_n hx hb dX12_isOver_6 rfl (lv_at hl 0 rfl) ?_
  refine va_get (D := g) (ci := 11) (v := .int 0) (C := RX12) (T := TX12) (N := 56) hx hb hts iX12 hown hK hP 0 rfl rfl 12 (by decide) (hts (.fieldLink RX12 159 "CardsAtYuleModel" "bad" "I") (List.mem_cons_of_mem _ (List.mem_append_left _ (List.mem_of_getElem? (i := 1) rfl)))) (fun _ h9 => h9) rfl dX12_isOver_7 ?_
  refine va_put (D := g) (ci := 11) (v := .int 0) (ty := .int) (C := RX12) (T := TX12) (N := 56) hx hb hts iX12 tyX12 tyX12_ok nmX12 hown hK hP hD hS 0 rfl rfl 14 (by decide) (hts (.fieldLink RX12 186 "CardsAtYuleModel" "fault" "I") (List.mem_cons_of_mem _ (List.mem_append_left _ (List.mem_of_getElem? (i := 2) rfl)))) (fun _ h9 => h9) rfl (by decide +kernel) rfl rfl (Nat.le_of_ble_eq_true rfl) dX12_isOver_10 (fun H locs hP hD hS => ?_)
  have hP : va_P g vwCl [(y, .inr (11, (mO a).set 13 (.int (-1))))] H := hP
  have hD : va_D A [(y, .inr (11, (mO a).set 13 (.int (-1))))] := hD
  refine lv_aload_n hx hb dX12_isOver_13 rfl (lv_at hl 0 rfl) ?_
  refine lv_aload_n hx hb dX12_isOver_14 rfl (lv_at hl 0 rfl) ?_
  refine va_get (D := g) (ci := 11) (v := .int 0) (C := RX12) (T := TX12) (N := 56) hx hb hts iX12 hown hK hP 0 rfl rfl 12 (by decide) (hts (.fieldLink RX12 159 "CardsAtYuleModel" "bad" "I") (List.mem_cons_of_mem _ (List.mem_append_left _ (List.mem_of_getElem? (i := 1) rfl)))) (fun _ h9 => h9) rfl dX12_isOver_15 ?_
  refine lv_if_ne (tgt := 25) hx hb dX12_isOver_18 (by decide) (fun c1 => absurd c1 (by decide)) (fun _ => ?_)
  refine lv_iconst (v := (-1)) hx hb dX12_isOver_21 (by decide) ?_
  refine lv_goto (tgt := 29) hx hb dX12_isOver_22 (by decide) ?_
  refine va_put (D := g) (ci := 11) (v := .int (-1)) (ty := .int) (C := RX12) (T := TX12) (N := 56) hx hb hts iX12 tyX12 tyX12_ok nmX12 hown hK hP hD hS 0 rfl rfl 15 (by decide) (hts (.fieldLink RX12 27 "CardsAtYuleModel" "faultPlace" "I") (List.mem_cons_of_mem _ (List.mem_append_left _ (List.mem_of_getElem? (i := 3) rfl)))) (fun _ h9 => h9) rfl (by decide +kernel) rfl rfl (Nat.le_of_ble_eq_true rfl) dX12_isOver_29 (fun H locs hP hD hS => ?_)
  have hP : va_P g vwCl [(y, .inr (11, (mO a).set 13 (.int (-1))))] H := hP
  have hD : va_D A [(y, .inr (11, (mO a).set 13 (.int (-1))))] := hD
  have hP9 := hP.sub (ws' := [(y, .inr (11, (mO a).set 13 (.int (-1))))]) [0] rfl
  have hD9 := hD.sub (ws' := [(y, .inr (11, (mO a).set 13 (.int (-1))))]) [0] (by decide) rfl
  exact W.vret hx hb hr (fun t ht hW => ⟨⟨(), rfl, trivial, by rw [ht]; exact hP9, va_K.moved hW.alike hK, hD9⟩, hS.F ht⟩) hS.2.2 dX12_isOver_32
def v_X12_clears : List Cond := .code yX12_clears cX12_clears 2 none :: (([.fieldLink RX12 31 "CardsAtYuleModel" "lines" "[I", .fieldLink RX12 46 "CardsAtYuleModel" "strikes" "[J", .fieldLink RX12 34 "CardsAtYuleModel" "has" "[I"] : List Cond) ++ (wsX120 ++ ([] : List Cond)))
theorem good_v_X12_clears : v_X12_clears.all goodWord = true := ga_c (by decide +kernel) (ga_a (by decide +kernel) (ga_a good_wsX120 rfl))
set_option maxHeartbeats 4000000 in
set_option maxRecDepth 100000 in
theorem k_X12_clears (l : Launch) (g : va_G) (cI cJ cB cZ cL : ClassId) (y : Nat) (a : Nat → Nat) (sz : Nat)  : Met l yX12_clears v_X12_clears ({ frames := 0, cells := 0, slots := 0, locals := 0 }) (va_Pc [.ref y] (pRW g (tyT cI cJ cB cZ cL) [(y, .inr (11, mO a)), ((a 16), .inl (cI, 5, .inl (fun _ => 0))), ((a 21), .inl (cJ, 5, .inr (.inl (fun _ => 0)))), ((a 17), .inl (cI, 25, .inl (fun _ => 0)))] sz)) (va_Qv (fun (u : Unit) => True) (fun (_ : Unit) (t : State) => bRW g (tyT cI cJ cB cZ cL) (va_A [(y, .inr (11, mO a)), ((a 16), .inl (cI, 5, .inl (fun _ => 0))), ((a 21), .inl (cJ, 5, .inr (.inl (fun _ => 0)))), ((a 17), .inl (cI, 25, .inl (fun _ => 0)))] sz) [(y, .inr (11, mO a)), ((a 16), .inl (cI, 5, .inl (upd (fun _ => 0) 4 0))), ((a 21), .inl (cJ, 5, .inr (.inl (vp_updL (fun _ => 0) 4 0)))), ((a 17), .inl (cI, 25, .inl (upd (upd (upd (upd (upd (fun _ => 0) 20 0) 21 0) 22 0) 23 0) 24 0)))] t) (va_A [(y, .inr (11, mO a)), ((a 16), .inl (cI, 5, .inl (fun _ => 0))), ((a 21), .inl (cJ, 5, .inr (.inl (fun _ => 0)))), ((a 17), .inl (cI, 25, .inl (fun _ => 0)))] sz)) 0 0 (va_A [(y, .inr (11, mO a)), ((a 16), .inl (cI, 5, .inl (fun _ => 0))), ((a 21), .inl (cJ, 5, .inr (.inl (fun _ => 0)))), ((a 17), .inl (cI, 25, .inl (fun _ => 0)))] sz) := by
  refine Met.ofW (cc := cX12_clears) (maxL := 2) (ret := none) (by decide) rfl ?_
  intro p e s m args below meth c s₁ B hml hv
  obtain ⟨rfl, hsz, hP, hK, hD0⟩ := hv
  have hx := B.exec
  have hb := B.bytes
  have hr := B.returns
  have hts := atoms_spec (ws := v_X12_clears) B.pre
  have hown : s.vm.findClass RX12 = some m.cls := findClass_of_methodNamed B.named
  have hlocks := B.notSynchronized
  subst hsz
  have iX12 : ∀ w ∈ wsX120, w ∈ v_X12_clears := (fun _ h => List.mem_cons_of_mem _ (List.mem_append_right _ (List.mem_append_left _ h)))
  have hD := hD0.self (sz := s.heap.size)
  generalize hAe : (va_A [(y, .inr (11, mO a)), ((a 16), .inl (cI, 5, .inl (fun _ => 0))), ((a 21), .inl (cJ, 5, .inr (.inl (fun _ => 0)))), ((a 17), .inl (cI, 25, .inl (fun _ => 0)))] s.heap.size) = A at hD ⊢
  have hA : ∀ q : Nat, s.heap.size ≤ q → A q := fun q h => by rw [← hAe]; exact Or.inr h
  have hS : va_S A s.heap s.heap [] := va_S.rf
  have hl := lv_entry ([.ref y]) (n := 2) (Nat.le_of_ble_eq_true rfl)
  rw [lg_entry_eq]
  generalize (lg_sl ([.ref y]) ++ List.replicate (2 - (lg_sl ([.ref y])).length) Slot.unset).toArray = ls at hl ⊢
  have hl : lv_has ls 2 [(0, .ref y)] := hl
  have hP : va_P g vwCl [(y, .inr (11, mO a)), ((a 16), .inl (cI, 5, .inl (fun _ => 0))), ((a 21), .inl (cJ, 5, .inr (.inl (fun _ => 0)))), ((a 17), .inl (cI, 25, .inl (fun _ => 0)))] s.heap := hP
  refine lv_aload_n hx hb dX12_clears_0 rfl (lv_at hl 0 rfl) ?_
  refine va_get (D := g) (ci := 11) (v := .ref (a 16)) (C := RX12) (T := TX12) (N := 56) hx hb hts iX12 hown hK hP 0 rfl rfl 16 (by decide) (hts (.fieldLink RX12 31 "CardsAtYuleModel" "lines" "[I") (List.mem_cons_of_mem _ (List.mem_append_left _ (List.mem_of_getElem? (i := 0) rfl)))) (fun _ h9 => h9) rfl dX12_clears_1 ?_
  refine lv_iconst (v := 4) hx hb dX12_clears_4 (by decide) ?_
  refine lv_iconst (v := 0) hx hb dX12_clears_5 (by decide) ?_
  refine va_iast (D := g) hx hb hK hP hD hS 1 0 rfl rfl (vc_in (by decide)) dX12_clears_6 (fun H locs hP hD hS => ?_)
  have hP : va_P g vwCl [(y, .inr (11, mO a)), ((a 16), .inl (cI, 5, .inl (upd (fun _ => 0) 4 0))), ((a 21), .inl (cJ, 5, .inr (.inl (fun _ => 0)))), ((a 17), .inl (cI, 25, .inl (fun _ => 0)))] H := hP
  have hD : va_D A [(y, .inr (11, mO a)), ((a 16), .inl (cI, 5, .inl (upd (fun _ => 0) 4 0))), ((a 21), .inl (cJ, 5, .inr (.inl (fun _ => 0)))), ((a 17), .inl (cI, 25, .inl (fun _ => 0)))] := hD
  refine lv_aload_n hx hb dX12_clears_7 rfl (lv_at hl 0 rfl) ?_
  refine va_get (D := g) (ci := 11) (v := .ref (a 21)) (C := RX12) (T := TX12) (N := 56) hx hb hts iX12 hown hK hP 0 rfl rfl 21 (by decide) (hts (.fieldLink RX12 46 "CardsAtYuleModel" "strikes" "[J") (List.mem_cons_of_mem _ (List.mem_append_left _ (List.mem_of_getElem? (i := 1) rfl)))) (fun _ h9 => h9) rfl dX12_clears_8 ?_
  refine lv_iconst (v := 4) hx hb dX12_clears_11 (by decide) ?_
  refine lv_lconst (v := 0) hx hb dX12_clears_12 (by decide) ?_
  refine va_last (D := g) hx hb hK hP hD hS 2 1 rfl rfl (vc_in (by decide)) dX12_clears_13 (fun H locs hP hD hS => ?_)
  have hP : va_P g vwCl [(y, .inr (11, mO a)), ((a 16), .inl (cI, 5, .inl (upd (fun _ => 0) 4 0))), ((a 21), .inl (cJ, 5, .inr (.inl (vp_updL (fun _ => 0) 4 0)))), ((a 17), .inl (cI, 25, .inl (fun _ => 0)))] H := hP
  have hD : va_D A [(y, .inr (11, mO a)), ((a 16), .inl (cI, 5, .inl (upd (fun _ => 0) 4 0))), ((a 21), .inl (cJ, 5, .inr (.inl (vp_updL (fun _ => 0) 4 0)))), ((a 17), .inl (cI, 25, .inl (fun _ => 0)))] := hD
  refine lv_iconst (v := 0) hx hb dX12_clears_14 (by decide) ?_
  refine lv_istore_n (lv' := [(1, .int 0), (0, .ref y)]) hx hb dX12_clears_15 rfl hl (by decide) rfl (fun ls hl => ?_)
  refine lv_iload_n hx hb dX12_clears_16 rfl (lv_at hl 0 rfl) ?_
  refine lv_iconst (v := 5) hx hb dX12_clears_17 (by decide) ?_
  refine lv_icmp_ge (tgt := 37) hx hb dX12_clears_18 (by decide) (fun c1 => absurd c1 (by decide)) (fun _ => ?_)
  refine lv_aload_n hx hb dX12_clears_21 rfl (lv_at hl 1 rfl) ?_
  refine va_get (D := g) (ci := 11) (v := .ref (a 17)) (C := RX12) (T := TX12) (N := 56) hx hb hts iX12 hown hK hP 0 rfl rfl 17 (by decide) (hts (.fieldLink RX12 34 "CardsAtYuleModel" "has" "[I") (List.mem_cons_of_mem _ (List.mem_append_left _ (List.mem_of_getElem? (i := 2) rfl)))) (fun _ h9 => h9) rfl dX12_clears_22 ?_
  refine lv_bipush (v := 20) hx hb dX12_clears_25 (by decide) ?_
  refine lv_iload_n hx hb dX12_clears_27 rfl (lv_at hl 0 rfl) ?_
  refine lv_iadd hx hb dX12_clears_28 ?_
  refine lv_topi (nm_r (e' := 20) (by decide) ?_)
  refine lv_iconst (v := 0) hx hb dX12_clears_29 (by decide) ?_
  refine va_iast (D := g) hx hb hK hP hD hS 3 0 rfl rfl (vc_in (by decide)) dX12_clears_30 (fun H locs hP hD hS => ?_)
  have hP : va_P g vwCl [(y, .inr (11, mO a)), ((a 16), .inl (cI, 5, .inl (upd (fun _ => 0) 4 0))), ((a 21), .inl (cJ, 5, .inr (.inl (vp_updL (fun _ => 0) 4 0)))), ((a 17), .inl (cI, 25, .inl (upd (fun _ => 0) 20 0)))] H := hP
  have hD : va_D A [(y, .inr (11, mO a)), ((a 16), .inl (cI, 5, .inl (upd (fun _ => 0) 4 0))), ((a 21), .inl (cJ, 5, .inr (.inl (vp_updL (fun _ => 0) 4 0)))), ((a 17), .inl (cI, 25, .inl (upd (fun _ => 0) 20 0)))] := hD
  refine lv_iinc (v := 1) (lv' := [(1, .int 1), (0, .ref y)]) hx hb dX12_clears_31 hl (k := 0) rfl (by decide) (by decide) rfl (fun ls hl => ?_)
  refine lv_goto (tgt := 16) hx hb dX12_clears_34 (by decide) ?_
  refine lv_iload_n hx hb dX12_clears_16 rfl (lv_at hl 0 rfl) ?_
  refine lv_iconst (v := 5) hx hb dX12_clears_17 (by decide) ?_
  refine lv_icmp_ge (tgt := 37) hx hb dX12_clears_18 (by decide) (fun c2 => absurd c2 (by decide)) (fun _ => ?_)
  refine lv_aload_n hx hb dX12_clears_21 rfl (lv_at hl 1 rfl) ?_
  refine va_get (D := g) (ci := 11) (v := .ref (a 17)) (C := RX12) (T := TX12) (N := 56) hx hb hts iX12 hown hK hP 0 rfl rfl 17 (by decide) (hts (.fieldLink RX12 34 "CardsAtYuleModel" "has" "[I") (List.mem_cons_of_mem _ (List.mem_append_left _ (List.mem_of_getElem? (i := 2) rfl)))) (fun _ h9 => h9) rfl dX12_clears_22 ?_
  refine lv_bipush (v := 20) hx hb dX12_clears_25 (by decide) ?_
  refine lv_iload_n hx hb dX12_clears_27 rfl (lv_at hl 0 rfl) ?_
  refine lv_iadd hx hb dX12_clears_28 ?_
  refine lv_topi (nm_r (e' := 21) (by decide) ?_)
  refine lv_iconst (v := 0) hx hb dX12_clears_29 (by decide) ?_
  refine va_iast (D := g) hx hb hK hP hD hS 3 0 rfl rfl (vc_in (by decide)) dX12_clears_30 (fun H locs hP hD hS => ?_)
  have hP : va_P g vwCl [(y, .inr (11, mO a)), ((a 16), .inl (cI, 5, .inl (upd (fun _ => 0) 4 0))), ((a 21), .inl (cJ, 5, .inr (.inl (vp_updL (fun _ => 0) 4 0)))), ((a 17), .inl (cI, 25, .inl (upd (upd (fun _ => 0) 20 0) 21 0)))] H := hP
  have hD : va_D A [(y, .inr (11, mO a)), ((a 16), .inl (cI, 5, .inl (upd (fun _ => 0) 4 0))), ((a 21), .inl (cJ, 5, .inr (.inl (vp_updL (fun _ => 0) 4 0)))), ((a 17), .inl (cI, 25, .inl (upd (upd (fun _ => 0) 20 0) 21 0)))] := hD
  refine lv_iinc (v := 2) (lv' := [(1, .int 2), (0, .ref y)]) hx hb dX12_clears_31 hl (k := 0) rfl (by decide) (by decide) rfl (fun ls hl => ?_)
  refine lv_goto (tgt := 16) hx hb dX12_clears_34 (by decide) ?_
  refine lv_iload_n hx hb dX12_clears_16 rfl (lv_at hl 0 rfl) ?_
  refine lv_iconst (v := 5) hx hb dX12_clears_17 (by decide) ?_
  refine lv_icmp_ge (tgt := 37) hx hb dX12_clears_18 (by decide) (fun c3 => absurd c3 (by decide)) (fun _ => ?_)
  refine lv_aload_n hx hb dX12_clears_21 rfl (lv_at hl 1 rfl) ?_
  refine va_get (D := g) (ci := 11) (v := .ref (a 17)) (C := RX12) (T := TX12) (N := 56) hx hb hts iX12 hown hK hP 0 rfl rfl 17 (by decide) (hts (.fieldLink RX12 34 "CardsAtYuleModel" "has" "[I") (List.mem_cons_of_mem _ (List.mem_append_left _ (List.mem_of_getElem? (i := 2) rfl)))) (fun _ h9 => h9) rfl dX12_clears_22 ?_
  refine lv_bipush (v := 20) hx hb dX12_clears_25 (by decide) ?_
  refine lv_iload_n hx hb dX12_clears_27 rfl (lv_at hl 0 rfl) ?_
  refine lv_iadd hx hb dX12_clears_28 ?_
  refine lv_topi (nm_r (e' := 22) (by decide) ?_)
  refine lv_iconst (v := 0) hx hb dX12_clears_29 (by decide) ?_
  refine va_iast (D := g) hx hb hK hP hD hS 3 0 rfl rfl (vc_in (by decide)) dX12_clears_30 (fun H locs hP hD hS => ?_)
  have hP : va_P g vwCl [(y, .inr (11, mO a)), ((a 16), .inl (cI, 5, .inl (upd (fun _ => 0) 4 0))), ((a 21), .inl (cJ, 5, .inr (.inl (vp_updL (fun _ => 0) 4 0)))), ((a 17), .inl (cI, 25, .inl (upd (upd (upd (fun _ => 0) 20 0) 21 0) 22 0)))] H := hP
  have hD : va_D A [(y, .inr (11, mO a)), ((a 16), .inl (cI, 5, .inl (upd (fun _ => 0) 4 0))), ((a 21), .inl (cJ, 5, .inr (.inl (vp_updL (fun _ => 0) 4 0)))), ((a 17), .inl (cI, 25, .inl (upd (upd (upd (fun _ => 0) 20 0) 21 0) 22 0)))] := hD
  refine lv_iinc (v := 3) (lv' := [(1, .int 3), (0, .ref y)]) hx hb dX12_clears_31 hl (k := 0) rfl (by decide) (by decide) rfl (fun ls hl => ?_)
  refine lv_goto (tgt := 16) hx hb dX12_clears_34 (by decide) ?_
  refine lv_iload_n hx hb dX12_clears_16 rfl (lv_at hl 0 rfl) ?_
  refine lv_iconst (v := 5) hx hb dX12_clears_17 (by decide) ?_
  refine lv_icmp_ge (tgt := 37) hx hb dX12_clears_18 (by decide) (fun c4 => absurd c4 (by decide)) (fun _ => ?_)
  refine lv_aload_n hx hb dX12_clears_21 rfl (lv_at hl 1 rfl) ?_
  refine va_get (D := g) (ci := 11) (v := .ref (a 17)) (C := RX12) (T := TX12) (N := 56) hx hb hts iX12 hown hK hP 0 rfl rfl 17 (by decide) (hts (.fieldLink RX12 34 "CardsAtYuleModel" "has" "[I") (List.mem_cons_of_mem _ (List.mem_append_left _ (List.mem_of_getElem? (i := 2) rfl)))) (fun _ h9 => h9) rfl dX12_clears_22 ?_
  refine lv_bipush (v := 20) hx hb dX12_clears_25 (by decide) ?_
  refine lv_iload_n hx hb dX12_clears_27 rfl (lv_at hl 0 rfl) ?_
  refine lv_iadd hx hb dX12_clears_28 ?_
  refine lv_topi (nm_r (e' := 23) (by decide) ?_)
  refine lv_iconst (v := 0) hx hb dX12_clears_29 (by decide) ?_
  refine va_iast (D := g) hx hb hK hP hD hS 3 0 rfl rfl (vc_in (by decide)) dX12_clears_30 (fun H locs hP hD hS => ?_)
  have hP : va_P g vwCl [(y, .inr (11, mO a)), ((a 16), .inl (cI, 5, .inl (upd (fun _ => 0) 4 0))), ((a 21), .inl (cJ, 5, .inr (.inl (vp_updL (fun _ => 0) 4 0)))), ((a 17), .inl (cI, 25, .inl (upd (upd (upd (upd (fun _ => 0) 20 0) 21 0) 22 0) 23 0)))] H := hP
  have hD : va_D A [(y, .inr (11, mO a)), ((a 16), .inl (cI, 5, .inl (upd (fun _ => 0) 4 0))), ((a 21), .inl (cJ, 5, .inr (.inl (vp_updL (fun _ => 0) 4 0)))), ((a 17), .inl (cI, 25, .inl (upd (upd (upd (upd (fun _ => 0) 20 0) 21 0) 22 0) 23 0)))] := hD
  refine lv_iinc (v := 4) (lv' := [(1, .int 4), (0, .ref y)]) hx hb dX12_clears_31 hl (k := 0) rfl (by decide) (by decide) rfl (fun ls hl => ?_)
  refine lv_goto (tgt := 16) hx hb dX12_clears_34 (by decide) ?_
  refine lv_iload_n hx hb dX12_clears_16 rfl (lv_at hl 0 rfl) ?_
  refine lv_iconst (v := 5) hx hb dX12_clears_17 (by decide) ?_
  refine lv_icmp_ge (tgt := 37) hx hb dX12_clears_18 (by decide) (fun c5 => absurd c5 (by decide)) (fun _ => ?_)
  refine lv_aload_n hx hb dX12_clears_21 rfl (lv_at hl 1 rfl) ?_
  refine va_get (D := g) (ci := 11) (v := .ref (a 17)) (C := RX12) (T := TX12) (N := 56) hx hb hts iX12 hown hK hP 0 rfl rfl 17 (by decide) (hts (.fieldLink RX12 34 "CardsAtYuleModel" "has" "[I") (List.mem_cons_of_mem _ (List.mem_append_left _ (List.mem_of_getElem? (i := 2) rfl)))) (fun _ h9 => h9) rfl dX12_clears_22 ?_
  refine lv_bipush (v := 20) hx hb dX12_clears_25 (by decide) ?_
  refine lv_iload_n hx hb dX12_clears_27 rfl (lv_at hl 0 rfl) ?_
  refine lv_iadd hx hb dX12_clears_28 ?_
  refine lv_topi (nm_r (e' := 24) (by decide) ?_)
  refine lv_iconst (v := 0) hx hb dX12_clears_29 (by decide) ?_
  refine va_iast (D := g) hx hb hK hP hD hS 3 0 rfl rfl (vc_in (by decide)) dX12_clears_30 (fun H locs hP hD hS => ?_)
  have hP : va_P g vwCl [(y, .inr (11, mO a)), ((a 16), .inl (cI, 5, .inl (upd (fun _ => 0) 4 0))), ((a 21), .inl (cJ, 5, .inr (.inl (vp_updL (fun _ => 0) 4 0)))), ((a 17), .inl (cI, 25, .inl (upd (upd (upd (upd (upd (fun _ => 0) 20 0) 21 0) 22 0) 23 0) 24 0)))] H := hP
  have hD : va_D A [(y, .inr (11, mO a)), ((a 16), .inl (cI, 5, .inl (upd (fun _ => 0) 4 0))), ((a 21), .inl (cJ, 5, .inr (.inl (vp_updL (fun _ => 0) 4 0)))), ((a 17), .inl (cI, 25, .inl (upd (upd (upd (upd (upd (fun _ => 0) 20 0) 21 0) 22 0) 23 0) 24 0)))] := hD
  refine lv_iinc (v := 5) (lv' := [(1, .int 5), (0, .ref y)]) hx hb dX12_clears_31 hl (k := 0) rfl (by decide) (by decide) rfl (fun ls hl => ?_)
  refine lv_goto (tgt := 16) hx hb dX12_clears_34 (by decide) ?_
  refine lv_iload_n hx hb dX12_clears_16 rfl (lv_at hl 0 rfl) ?_
  refine lv_iconst (v := 5) hx hb dX12_clears_17 (by decide) ?_
  refine lv_icmp_ge (tgt := 37) hx hb dX12_clears_18 (by decide) (fun _ => ?_) (fun c6 => absurd c6 (by decide))
  have hP9 := hP.sub (ws' := [(y, .inr (11, mO a)), ((a 16), .inl (cI, 5, .inl (upd (fun _ => 0) 4 0))), ((a 21), .inl (cJ, 5, .inr (.inl (vp_updL (fun _ => 0) 4 0)))), ((a 17), .inl (cI, 25, .inl (upd (upd (upd (upd (upd (fun _ => 0) 20 0) 21 0) 22 0) 23 0) 24 0)))]) [0, 1, 2, 3] rfl
  have hD9 := hD.sub (ws' := [(y, .inr (11, mO a)), ((a 16), .inl (cI, 5, .inl (upd (fun _ => 0) 4 0))), ((a 21), .inl (cJ, 5, .inr (.inl (vp_updL (fun _ => 0) 4 0)))), ((a 17), .inl (cI, 25, .inl (upd (upd (upd (upd (upd (fun _ => 0) 20 0) 21 0) 22 0) 23 0) 24 0)))]) [0, 1, 2, 3] (by decide) rfl
  exact W.vret hx hb hr (fun t ht hW => ⟨⟨(), rfl, trivial, by rw [ht]; exact hP9, va_K.moved hW.alike hK, hD9⟩, hS.F ht⟩) hS.2.2 dX12_clears_37
def v_X12_land : List Cond := .code yX12_land cX12_land 1 (some .int) :: (([.fieldLink RX12 107 "CardsAtYuleModel" "thrown" "I", .methodLink RX12 240 yX12_clears, .instanceMethod yX12_clears, .selects RX12 yX12_clears yX12_clears, .initialized RX12, .methodLink RX12 243 yX12_begins, .instanceMethod yX12_begins, .selects RX12 yX12_begins yX12_begins, .methodLink RX12 198 yX12_isGood, .instanceMethod yX12_isGood, .selects RX12 yX12_isGood yX12_isGood, .fieldLink RX12 148 "CardsAtYuleModel" "token" "I", .methodLink RX12 260 yX12_isOver, .instanceMethod yX12_isOver, .selects RX12 yX12_isOver yX12_isOver, .fieldLink RX12 159 "CardsAtYuleModel" "bad" "I", .methodLink RX12 263 yX12_copyLand, .instanceMethod yX12_copyLand, .selects RX12 yX12_copyLand yX12_copyLand, .fieldLink RX12 31 "CardsAtYuleModel" "lines" "[I"] : List Cond) ++ (v_X12_clears ++ (v_X12_begins ++ (v_X12_isGood ++ (v_X12_isOver ++ (v_X12_copyLand_r ++ (wsX120 ++ ([] : List Cond))))))))
theorem good_v_X12_land : v_X12_land.all goodWord = true := ga_c (by decide +kernel) (ga_a (by decide +kernel) (ga_a good_v_X12_clears (ga_a good_v_X12_begins (ga_a good_v_X12_isGood (ga_a good_v_X12_isOver (ga_a good_v_X12_copyLand_r (ga_a good_wsX120 rfl)))))))
set_option maxHeartbeats 4000000 in
set_option maxRecDepth 100000 in
theorem k_X12_land (l : Launch) (g : va_G) (cI cJ cB cZ cL : ClassId) (y : Nat) (a : Nat → Nat) (sz : Nat)  : Met l yX12_land v_X12_land ({ frames := 3, cells := 0, slots := 0, locals := 64 }) (va_Pc [.ref y] (pRW g (tyT cI cJ cB cZ cL) [(y, .inr (11, mO a)), ((a 16), .inl (cI, 5, .inl (fun _ => 0))), ((a 21), .inl (cJ, 5, .inr (.inl (fun _ => 0)))), ((a 17), .inl (cI, 25, .inl (fun _ => 0))), ((a 18), .inl (cI, 250, .inl (fun _ => 0))), ((a 19), .inl (cI, 240, .inl (fun _ => 0))), ((a 20), .inl (cJ, 160, .inr (.inl (fun _ => 0))))] sz)) (va_Qi (fun (r : Int32) (u : Unit) => r = 0) (fun (_ : Unit) (t : State) => bRW g (tyT cI cJ cB cZ cL) (va_A [(y, .inr (11, mO a)), ((a 16), .inl (cI, 5, .inl (fun _ => 0))), ((a 21), .inl (cJ, 5, .inr (.inl (fun _ => 0)))), ((a 17), .inl (cI, 25, .inl (fun _ => 0))), ((a 18), .inl (cI, 250, .inl (fun _ => 0))), ((a 19), .inl (cI, 240, .inl (fun _ => 0))), ((a 20), .inl (cJ, 160, .inr (.inl (fun _ => 0))))] sz) [] t) (va_A [(y, .inr (11, mO a)), ((a 16), .inl (cI, 5, .inl (fun _ => 0))), ((a 21), .inl (cJ, 5, .inr (.inl (fun _ => 0)))), ((a 17), .inl (cI, 25, .inl (fun _ => 0))), ((a 18), .inl (cI, 250, .inl (fun _ => 0))), ((a 19), .inl (cI, 240, .inl (fun _ => 0))), ((a 20), .inl (cJ, 160, .inr (.inl (fun _ => 0))))] sz)) 0 0 (va_A [(y, .inr (11, mO a)), ((a 16), .inl (cI, 5, .inl (fun _ => 0))), ((a 21), .inl (cJ, 5, .inr (.inl (fun _ => 0)))), ((a 17), .inl (cI, 25, .inl (fun _ => 0))), ((a 18), .inl (cI, 250, .inl (fun _ => 0))), ((a 19), .inl (cI, 240, .inl (fun _ => 0))), ((a 20), .inl (cJ, 160, .inr (.inl (fun _ => 0))))] sz) := by
  refine Met.ofW (cc := cX12_land) (maxL := 1) (ret := (some .int)) (by decide) rfl ?_
  intro p e s m args below meth c s₁ B hml hv
  obtain ⟨rfl, hsz, hP, hK, hD0⟩ := hv
  have hx := B.exec
  have hb := B.bytes
  have hr := B.returns
  have hts := atoms_spec (ws := v_X12_land) B.pre
  have hown : s.vm.findClass RX12 = some m.cls := findClass_of_methodNamed B.named
  have hlocks := B.notSynchronized
  subst hsz
  have iX12 : ∀ w ∈ wsX120, w ∈ v_X12_land := (fun _ h => List.mem_cons_of_mem _ (List.mem_append_right _ (List.mem_append_right _ (List.mem_append_right _ (List.mem_append_right _ (List.mem_append_right _ (List.mem_append_right _ (List.mem_append_left _ h))))))))
  have hD := hD0.self (sz := s.heap.size)
  generalize hAe : (va_A [(y, .inr (11, mO a)), ((a 16), .inl (cI, 5, .inl (fun _ => 0))), ((a 21), .inl (cJ, 5, .inr (.inl (fun _ => 0)))), ((a 17), .inl (cI, 25, .inl (fun _ => 0))), ((a 18), .inl (cI, 250, .inl (fun _ => 0))), ((a 19), .inl (cI, 240, .inl (fun _ => 0))), ((a 20), .inl (cJ, 160, .inr (.inl (fun _ => 0))))] s.heap.size) = A at hD ⊢
  have hA : ∀ q : Nat, s.heap.size ≤ q → A q := fun q h => by rw [← hAe]; exact Or.inr h
  have hS : va_S A s.heap s.heap [] := va_S.rf
  have hl := lv_entry ([.ref y]) (n := 1) (Nat.le_of_ble_eq_true rfl)
  rw [lg_entry_eq]
  generalize (lg_sl ([.ref y]) ++ List.replicate (1 - (lg_sl ([.ref y])).length) Slot.unset).toArray = ls at hl ⊢
  have hl : lv_has ls 1 [(0, .ref y)] := hl
  have hP : va_P g vwCl [(y, .inr (11, mO a)), ((a 16), .inl (cI, 5, .inl (fun _ => 0))), ((a 21), .inl (cJ, 5, .inr (.inl (fun _ => 0)))), ((a 17), .inl (cI, 25, .inl (fun _ => 0))), ((a 18), .inl (cI, 250, .inl (fun _ => 0))), ((a 19), .inl (cI, 240, .inl (fun _ => 0))), ((a 20), .inl (cJ, 160, .inr (.inl (fun _ => 0))))] s.heap := hP
  refine lv_aload_n hx hb dX12_land_0 rfl (lv_at hl 0 rfl) ?_
  refine lv_iconst (v := 0) hx hb dX12_land_1 (by decide) ?_
  refine va_put (D := g) (ci := 11) (v := .int 0) (ty := .int) (C := RX12) (T := TX12) (N := 56) hx hb hts iX12 tyX12 tyX12_ok nmX12 hown hK hP hD hS 0 rfl rfl 0 (by decide) (hts (.fieldLink RX12 107 "CardsAtYuleModel" "thrown" "I") (List.mem_cons_of_mem _ (List.mem_append_left _ (List.mem_of_getElem? (i := 0) rfl)))) (fun _ h9 => h9) rfl (by decide +kernel) rfl rfl (Nat.le_of_ble_eq_true rfl) dX12_land_2 (fun H locs hP hD hS => ?_)
  have hP : va_P g vwCl [(y, .inr (11, mO a)), ((a 16), .inl (cI, 5, .inl (fun _ => 0))), ((a 21), .inl (cJ, 5, .inr (.inl (fun _ => 0)))), ((a 17), .inl (cI, 25, .inl (fun _ => 0))), ((a 18), .inl (cI, 250, .inl (fun _ => 0))), ((a 19), .inl (cI, 240, .inl (fun _ => 0))), ((a 20), .inl (cJ, 160, .inr (.inl (fun _ => 0))))] H := hP
  have hD : va_D A [(y, .inr (11, mO a)), ((a 16), .inl (cI, 5, .inl (fun _ => 0))), ((a 21), .inl (cJ, 5, .inr (.inl (fun _ => 0)))), ((a 17), .inl (cI, 25, .inl (fun _ => 0))), ((a 18), .inl (cI, 250, .inl (fun _ => 0))), ((a 19), .inl (cI, 240, .inl (fun _ => 0))), ((a 20), .inl (cJ, 160, .inr (.inl (fun _ => 0))))] := hD
  refine lv_aload_n hx hb dX12_land_5 rfl (lv_at hl 0 rfl) ?_
  refine rw_v (wr := [((a 18), .inl (cI, 250, .inl (fun _ => 0))), ((a 19), .inl (cI, 240, .inl (fun _ => 0))), ((a 20), .inl (cJ, 160, .inr (.inl (fun _ => 0))))]) (va_runV (As := []) (rest := []) ⟨hx, hb, hml, hown, hts⟩ (k_X12_clears l g cI cJ cB cZ cL y a H.size ) (cwV 0 hts (goodIn_app (g_4 (List.mem_cons_of_mem _ (List.mem_append_left _ (List.mem_of_getElem? (i := 1) rfl))) (List.mem_cons_of_mem _ (List.mem_append_left _ (List.mem_of_getElem? (i := 2) rfl))) (List.mem_cons_of_mem _ (List.mem_append_left _ (List.mem_of_getElem? (i := 3) rfl))) (List.mem_cons_of_mem _ (List.mem_append_left _ (List.mem_of_getElem? (i := 4) rfl))) (by decide +kernel)) (goodIn_sub (fun _ h => List.mem_cons_of_mem _ (List.mem_append_right _ (List.mem_append_left _ h))) good_v_X12_clears)) rfl rfl rfl (by decide +kernel) ⟨Nat.le_of_ble_eq_true rfl, Nat.le_of_ble_eq_true rfl⟩) (pv_RW (q := (RX12, TX12, 56)) (ci := 11) (q0 := 0) (wc := [(y, .inr (11, mO a)), ((a 16), .inl (cI, 5, .inl (fun _ => 0))), ((a 21), .inl (cJ, 5, .inr (.inl (fun _ => 0)))), ((a 17), .inl (cI, 25, .inl (fun _ => 0)))]) hK hP hD [0, 1, 2, 3] (by decide) rfl rfl rfl) rfl rfl hl.1 rfl (lv_room (Nat.le_of_ble_eq_true rfl)) dX12_land_6 ⟨Nat.le_of_ble_eq_true rfl, Nat.le_of_ble_eq_true rfl⟩) hS hA hP hD [0, 1, 2, 3] [4, 5, 6] rfl rfl (by decide) (by decide) (fun u2 H locs hw3 hP hD hS => ?_)
  have hP : va_P g vwCl [((a 18), .inl (cI, 250, .inl (fun _ => 0))), ((a 19), .inl (cI, 240, .inl (fun _ => 0))), ((a 20), .inl (cJ, 160, .inr (.inl (fun _ => 0)))), (y, .inr (11, mO a)), ((a 16), .inl (cI, 5, .inl (upd (fun _ => 0) 4 0))), ((a 21), .inl (cJ, 5, .inr (.inl (vp_updL (fun _ => 0) 4 0)))), ((a 17), .inl (cI, 25, .inl (upd (upd (upd (upd (upd (fun _ => 0) 20 0) 21 0) 22 0) 23 0) 24 0)))] H := hP
  have hD : va_D A [((a 18), .inl (cI, 250, .inl (fun _ => 0))), ((a 19), .inl (cI, 240, .inl (fun _ => 0))), ((a 20), .inl (cJ, 160, .inr (.inl (fun _ => 0)))), (y, .inr (11, mO a)), ((a 16), .inl (cI, 5, .inl (upd (fun _ => 0) 4 0))), ((a 21), .inl (cJ, 5, .inr (.inl (vp_updL (fun _ => 0) 4 0)))), ((a 17), .inl (cI, 25, .inl (upd (upd (upd (upd (upd (fun _ => 0) 20 0) 21 0) 22 0) 23 0) 24 0)))] := hD
  refine lv_aload_n hx hb dX12_land_9 rfl (lv_at hl 0 rfl) ?_
  refine rw_v (wr := [((a 18), .inl (cI, 250, .inl (fun _ => 0))), ((a 19), .inl (cI, 240, .inl (fun _ => 0))), ((a 20), .inl (cJ, 160, .inr (.inl (fun _ => 0)))), ((a 16), .inl (cI, 5, .inl (upd (fun _ => 0) 4 0))), ((a 21), .inl (cJ, 5, .inr (.inl (vp_updL (fun _ => 0) 4 0)))), ((a 17), .inl (cI, 25, .inl (upd (upd (upd (upd (upd (fun _ => 0) 20 0) 21 0) 22 0) 23 0) 24 0)))]) (va_runV (As := []) (rest := []) ⟨hx, hb, hml, hown, hts⟩ (k_X12_begins l g cI cJ cB cZ cL y a H.size ) (cwV 0 hts (goodIn_app (g_4 (List.mem_cons_of_mem _ (List.mem_append_left _ (List.mem_of_getElem? (i := 5) rfl))) (List.mem_cons_of_mem _ (List.mem_append_left _ (List.mem_of_getElem? (i := 6) rfl))) (List.mem_cons_of_mem _ (List.mem_append_left _ (List.mem_of_getElem? (i := 7) rfl))) (List.mem_cons_of_mem _ (List.mem_append_left _ (List.mem_of_getElem? (i := 4) rfl))) (by decide +kernel)) (goodIn_sub (fun _ h => List.mem_cons_of_mem _ (List.mem_append_right _ (List.mem_append_right _ (List.mem_append_left _ h)))) good_v_X12_begins)) rfl rfl rfl (by decide +kernel) ⟨Nat.le_of_ble_eq_true rfl, Nat.le_of_ble_eq_true rfl⟩) (pv_RW (q := (RX12, TX12, 56)) (ci := 11) (q0 := 0) (wc := [(y, .inr (11, mO a))]) hK hP hD [3] (by decide) rfl rfl rfl) rfl rfl hl.1 rfl (lv_room (Nat.le_of_ble_eq_true rfl)) dX12_land_10 ⟨Nat.le_of_ble_eq_true rfl, Nat.le_of_ble_eq_true rfl⟩) hS hA hP hD [3] [0, 1, 2, 4, 5, 6] rfl rfl (by decide) (by decide) (fun u5 H locs hw6 hP hD hS => ?_)
  have hP : va_P g vwCl [((a 18), .inl (cI, 250, .inl (fun _ => 0))), ((a 19), .inl (cI, 240, .inl (fun _ => 0))), ((a 20), .inl (cJ, 160, .inr (.inl (fun _ => 0)))), ((a 16), .inl (cI, 5, .inl (upd (fun _ => 0) 4 0))), ((a 21), .inl (cJ, 5, .inr (.inl (vp_updL (fun _ => 0) 4 0)))), ((a 17), .inl (cI, 25, .inl (upd (upd (upd (upd (upd (fun _ => 0) 20 0) 21 0) 22 0) 23 0) 24 0))), (y, .inr (11, (mO a).set 13 (.int (-1))))] H := hP
  have hD : va_D A [((a 18), .inl (cI, 250, .inl (fun _ => 0))), ((a 19), .inl (cI, 240, .inl (fun _ => 0))), ((a 20), .inl (cJ, 160, .inr (.inl (fun _ => 0)))), ((a 16), .inl (cI, 5, .inl (upd (fun _ => 0) 4 0))), ((a 21), .inl (cJ, 5, .inr (.inl (vp_updL (fun _ => 0) 4 0)))), ((a 17), .inl (cI, 25, .inl (upd (upd (upd (upd (upd (fun _ => 0) 20 0) 21 0) 22 0) 23 0) 24 0))), (y, .inr (11, (mO a).set 13 (.int (-1))))] := hD
  refine lv_aload_n hx hb dX12_land_13 rfl (lv_at hl 0 rfl) ?_
  refine ro_i (va_runV (As := []) (rest := []) ⟨hx, hb, hml, hown, hts⟩ (k_X12_isGood l g cI cJ cB cZ cL y a H.size ) (cwV 0 hts (goodIn_app (g_4 (List.mem_cons_of_mem _ (List.mem_append_left _ (List.mem_of_getElem? (i := 8) rfl))) (List.mem_cons_of_mem _ (List.mem_append_left _ (List.mem_of_getElem? (i := 9) rfl))) (List.mem_cons_of_mem _ (List.mem_append_left _ (List.mem_of_getElem? (i := 10) rfl))) (List.mem_cons_of_mem _ (List.mem_append_left _ (List.mem_of_getElem? (i := 4) rfl))) (by decide +kernel)) (goodIn_sub (fun _ h => List.mem_cons_of_mem _ (List.mem_append_right _ (List.mem_append_right _ (List.mem_append_right _ (List.mem_append_left _ h))))) good_v_X12_isGood)) rfl rfl rfl (by decide +kernel) ⟨Nat.le_of_ble_eq_true rfl, Nat.le_of_ble_eq_true rfl⟩) (pv_RO (q := (RX12, TX12, 56)) (ci := 11) (q0 := 0) (wc := [(y, .inr (11, (mO a).set 13 (.int (-1))))]) hK hP [6] rfl rfl rfl) rfl rfl hl.1 rfl (lv_room (Nat.le_of_ble_eq_true rfl)) dX12_land_14 ⟨Nat.le_of_ble_eq_true rfl, Nat.le_of_ble_eq_true rfl⟩) hS hA hP (fun r7 u8 H locs hw9 hP hS => ?_)
  subst hw9
  refine lv_if_eq (tgt := 125) hx hb dX12_land_17 (by decide) (fun c10 => absurd c10 (by decide)) (fun _ => ?_)
  refine lv_aload_n hx hb dX12_land_20 rfl (lv_at hl 0 rfl) ?_
  refine va_get (D := g) (ci := 11) (v := .int 0) (C := RX12) (T := TX12) (N := 56) hx hb hts iX12 hown hK hP 6 rfl rfl 8 (by decide) (hts (.fieldLink RX12 148 "CardsAtYuleModel" "token" "I") (List.mem_cons_of_mem _ (List.mem_append_left _ (List.mem_of_getElem? (i := 11) rfl)))) (fun _ h9 => h9) rfl dX12_land_21 ?_
  refine lv_if_eq (tgt := 125) hx hb dX12_land_24 (by decide) (fun _ => ?_) (fun c11 => absurd c11 (by decide))
  refine lv_aload_n hx hb dX12_land_125 rfl (lv_at hl 0 rfl) ?_
  refine rw_v (wr := [((a 18), .inl (cI, 250, .inl (fun _ => 0))), ((a 19), .inl (cI, 240, .inl (fun _ => 0))), ((a 20), .inl (cJ, 160, .inr (.inl (fun _ => 0)))), ((a 16), .inl (cI, 5, .inl (upd (fun _ => 0) 4 0))), ((a 21), .inl (cJ, 5, .inr (.inl (vp_updL (fun _ => 0) 4 0)))), ((a 17), .inl (cI, 25, .inl (upd (upd (upd (upd (upd (fun _ => 0) 20 0) 21 0) 22 0) 23 0) 24 0)))]) (va_runV (As := []) (rest := []) ⟨hx, hb, hml, hown, hts⟩ (k_X12_isOver l g cI cJ cB cZ cL y a H.size ) (cwV 0 hts (goodIn_app (g_4 (List.mem_cons_of_mem _ (List.mem_append_left _ (List.mem_of_getElem? (i := 12) rfl))) (List.mem_cons_of_mem _ (List.mem_append_left _ (List.mem_of_getElem? (i := 13) rfl))) (List.mem_cons_of_mem _ (List.mem_append_left _ (List.mem_of_getElem? (i := 14) rfl))) (List.mem_cons_of_mem _ (List.mem_append_left _ (List.mem_of_getElem? (i := 4) rfl))) (by decide +kernel)) (goodIn_sub (fun _ h => List.mem_cons_of_mem _ (List.mem_append_right _ (List.mem_append_right _ (List.mem_append_right _ (List.mem_append_right _ (List.mem_append_left _ h)))))) good_v_X12_isOver)) rfl rfl rfl (by decide +kernel) ⟨Nat.le_of_ble_eq_true rfl, Nat.le_of_ble_eq_true rfl⟩) (pv_RW (q := (RX12, TX12, 56)) (ci := 11) (q0 := 0) (wc := [(y, .inr (11, (mO a).set 13 (.int (-1))))]) hK hP hD [6] (by decide) rfl rfl rfl) rfl rfl hl.1 rfl (lv_room (Nat.le_of_ble_eq_true rfl)) dX12_land_126 ⟨Nat.le_of_ble_eq_true rfl, Nat.le_of_ble_eq_true rfl⟩) hS hA hP hD [6] [0, 1, 2, 3, 4, 5] rfl rfl (by decide) (by decide) (fun u13 H locs hw14 hP hD hS => ?_)
  have hP : va_P g vwCl [((a 18), .inl (cI, 250, .inl (fun _ => 0))), ((a 19), .inl (cI, 240, .inl (fun _ => 0))), ((a 20), .inl (cJ, 160, .inr (.inl (fun _ => 0)))), ((a 16), .inl (cI, 5, .inl (upd (fun _ => 0) 4 0))), ((a 21), .inl (cJ, 5, .inr (.inl (vp_updL (fun _ => 0) 4 0)))), ((a 17), .inl (cI, 25, .inl (upd (upd (upd (upd (upd (fun _ => 0) 20 0) 21 0) 22 0) 23 0) 24 0))), (y, .inr (11, (mO a).set 13 (.int (-1))))] H := hP
  have hD : va_D A [((a 18), .inl (cI, 250, .inl (fun _ => 0))), ((a 19), .inl (cI, 240, .inl (fun _ => 0))), ((a 20), .inl (cJ, 160, .inr (.inl (fun _ => 0)))), ((a 16), .inl (cI, 5, .inl (upd (fun _ => 0) 4 0))), ((a 21), .inl (cJ, 5, .inr (.inl (vp_updL (fun _ => 0) 4 0)))), ((a 17), .inl (cI, 25, .inl (upd (upd (upd (upd (upd (fun _ => 0) 20 0) 21 0) 22 0) 23 0) 24 0))), (y, .inr (11, (mO a).set 13 (.int (-1))))] := hD
  refine lv_aload_n hx hb dX12_land_129 rfl (lv_at hl 0 rfl) ?_
  refine va_get (D := g) (ci := 11) (v := .int 0) (C := RX12) (T := TX12) (N := 56) hx hb hts iX12 hown hK hP 6 rfl rfl 12 (by decide) (hts (.fieldLink RX12 159 "CardsAtYuleModel" "bad" "I") (List.mem_cons_of_mem _ (List.mem_append_left _ (List.mem_of_getElem? (i := 15) rfl)))) (fun _ h9 => h9) rfl dX12_land_130 ?_
  refine lv_if_eq (tgt := 139) hx hb dX12_land_133 (by decide) (fun _ => ?_) (fun c15 => absurd c15 (by decide))
  refine lv_aload_n hx hb dX12_land_139 rfl (lv_at hl 0 rfl) ?_
  refine lv_iconst (v := 4) hx hb dX12_land_140 (by decide) ?_
  refine lv_iconst (v := 0) hx hb dX12_land_141 (by decide) ?_
  refine rw_v (wr := []) (va_runV (As := [.int 4, .int 0]) (rest := []) ⟨hx, hb, hml, hown, hts⟩ (k_X12_copyLand_r l g cI cJ cB cZ cL y a (upd (upd (upd (upd (upd (fun _ => 0) 20 0) 21 0) 22 0) 23 0) 24 0) (vp_updL (fun _ => 0) 4 0) H.size ) (cwV 2 hts (goodIn_app (g_4 (List.mem_cons_of_mem _ (List.mem_append_left _ (List.mem_of_getElem? (i := 16) rfl))) (List.mem_cons_of_mem _ (List.mem_append_left _ (List.mem_of_getElem? (i := 17) rfl))) (List.mem_cons_of_mem _ (List.mem_append_left _ (List.mem_of_getElem? (i := 18) rfl))) (List.mem_cons_of_mem _ (List.mem_append_left _ (List.mem_of_getElem? (i := 4) rfl))) (by decide +kernel)) (goodIn_sub (fun _ h => List.mem_cons_of_mem _ (List.mem_append_right _ (List.mem_append_right _ (List.mem_append_right _ (List.mem_append_right _ (List.mem_append_right _ (List.mem_append_left _ h))))))) good_v_X12_copyLand_r)) rfl rfl rfl (by decide +kernel) ⟨Nat.le_of_ble_eq_true rfl, Nat.le_of_ble_eq_true rfl⟩) (pv_RW (q := (RX12, TX12, 56)) (ci := 11) (q0 := 0) (wc := [(y, .inr (11, (mO a).set 13 (.int (-1)))), ((a 16), .inl (cI, 5, .inl (upd (fun _ => 0) 4 0))), ((a 17), .inl (cI, 25, .inl (upd (upd (upd (upd (upd (fun _ => 0) 20 0) 21 0) 22 0) 23 0) 24 0))), ((a 18), .inl (cI, 250, .inl (fun _ => 0))), ((a 19), .inl (cI, 240, .inl (fun _ => 0))), ((a 20), .inl (cJ, 160, .inr (.inl (fun _ => 0)))), ((a 21), .inl (cJ, 5, .inr (.inl (vp_updL (fun _ => 0) 4 0))))]) hK hP hD [6, 3, 5, 0, 1, 2, 4] (by decide) rfl rfl rfl) rfl rfl hl.1 rfl (lv_room (Nat.le_of_ble_eq_true rfl)) dX12_land_142 ⟨Nat.le_of_ble_eq_true rfl, Nat.le_of_ble_eq_true rfl⟩) hS hA hP hD [6, 3, 5, 0, 1, 2, 4] [] rfl rfl (by decide) (by decide) (fun u17 H locs hw18 hP hD hS => ?_)
  have hP : va_P g vwCl [(y, .inr (11, (mO a).set 13 (.int (-1)))), ((a 16), .inl (cI, 5, .inl (upd (upd (fun _ => 0) 4 0) 0 (upd (fun _ => 0) 4 0 4))))] H := hP
  have hD : va_D A [(y, .inr (11, (mO a).set 13 (.int (-1)))), ((a 16), .inl (cI, 5, .inl (upd (upd (fun _ => 0) 4 0) 0 (upd (fun _ => 0) 4 0 4))))] := hD
  refine lv_aload_n hx hb dX12_land_145 rfl (lv_at hl 0 rfl) ?_
  refine va_get (D := g) (ci := 11) (v := .ref (a 16)) (C := RX12) (T := TX12) (N := 56) hx hb hts iX12 hown hK hP 0 rfl rfl 16 (by decide) (hts (.fieldLink RX12 31 "CardsAtYuleModel" "lines" "[I") (List.mem_cons_of_mem _ (List.mem_append_left _ (List.mem_of_getElem? (i := 19) rfl)))) (fun _ h9 => h9) rfl dX12_land_146 ?_
  refine lv_iconst (v := 0) hx hb dX12_land_149 (by decide) ?_
  refine va_iald (D := g) hx hb hK hP 1 0 rfl rfl (vc_in (by decide)) dX12_land_150 ?_
  refine lv_topi (nm_r (e' := 0) rfl ?_)
  have hP9 := hP.sub (ws' := []) [] rfl
  have hD9 := hD.sub (ws' := []) [] (by decide) rfl
  exact W.iret (v := 0) hx hb hr (fun t ht hW => ⟨⟨0, (), rfl, rfl, by rw [ht]; exact hP9, va_K.moved hW.alike hK, hD9⟩, hS.F ht⟩) hS.2.2 dX12_land_151
def v_X12_keep : List Cond := .code yX12_keep cX12_keep 2 (some .int) :: (([.fieldLink RX12 107 "CardsAtYuleModel" "thrown" "I", .constantLong RX12 284 (2), .methodLink RX12 112 yX12_in, .static yX12_in, .initialized RX12, .methodLink RX12 263 yX12_copyLand, .instanceMethod yX12_copyLand, .selects RX12 yX12_copyLand yX12_copyLand, .fieldLink RX12 49 "CardsAtYuleModel" "isKept" "[Z"] : List Cond) ++ (v_X12_in ++ (v_X12_copyLand_k ++ (wsX120 ++ ([] : List Cond)))))
theorem good_v_X12_keep : v_X12_keep.all goodWord = true := ga_c (by decide +kernel) (ga_a (by decide +kernel) (ga_a good_v_X12_in (ga_a good_v_X12_copyLand_k (ga_a good_wsX120 rfl))))
set_option maxHeartbeats 4000000 in
set_option maxRecDepth 100000 in
theorem k_X12_keep (l : Launch) (g : va_G) (cI cJ cB cZ cL : ClassId) (y : Nat) (a : Nat → Nat) (p0 : Int32) (ip0 : Int) (sz : Nat) (hzp0 : p0.toInt = ip0) : Met l yX12_keep v_X12_keep ({ frames := 2, cells := 0, slots := 0, locals := 47 }) (va_Pc [.ref y, .int p0] (pRW g (tyT cI cJ cB cZ cL) [(y, .inr (11, mO a)), ((a 16), .inl (cI, 5, .inl (fun _ => 0))), ((a 21), .inl (cJ, 5, .inr (.inl (fun _ => 0)))), ((a 17), .inl (cI, 25, .inl (fun _ => 0))), ((a 18), .inl (cI, 250, .inl (fun _ => 0))), ((a 19), .inl (cI, 240, .inl (fun _ => 0))), ((a 20), .inl (cJ, 160, .inr (.inl (fun _ => 0)))), ((a 22), .inl (cZ, 3, .inl (fun _ => 0)))] sz)) (va_Qi (fun (r : Int32) (u : Unit) => (r = 0 ∧ 0 ≤ ip0 ∧ ip0 < 3) ∨ (r = (-2) ∧ ¬ (0 ≤ ip0 ∧ ip0 < 3))) (fun (_ : Unit) (t : State) => bRW g (tyT cI cJ cB cZ cL) (va_A [(y, .inr (11, mO a)), ((a 16), .inl (cI, 5, .inl (fun _ => 0))), ((a 21), .inl (cJ, 5, .inr (.inl (fun _ => 0)))), ((a 17), .inl (cI, 25, .inl (fun _ => 0))), ((a 18), .inl (cI, 250, .inl (fun _ => 0))), ((a 19), .inl (cI, 240, .inl (fun _ => 0))), ((a 20), .inl (cJ, 160, .inr (.inl (fun _ => 0)))), ((a 22), .inl (cZ, 3, .inl (fun _ => 0)))] sz) [] t) (va_A [(y, .inr (11, mO a)), ((a 16), .inl (cI, 5, .inl (fun _ => 0))), ((a 21), .inl (cJ, 5, .inr (.inl (fun _ => 0)))), ((a 17), .inl (cI, 25, .inl (fun _ => 0))), ((a 18), .inl (cI, 250, .inl (fun _ => 0))), ((a 19), .inl (cI, 240, .inl (fun _ => 0))), ((a 20), .inl (cJ, 160, .inr (.inl (fun _ => 0)))), ((a 22), .inl (cZ, 3, .inl (fun _ => 0)))] sz)) 0 0 (va_A [(y, .inr (11, mO a)), ((a 16), .inl (cI, 5, .inl (fun _ => 0))), ((a 21), .inl (cJ, 5, .inr (.inl (fun _ => 0)))), ((a 17), .inl (cI, 25, .inl (fun _ => 0))), ((a 18), .inl (cI, 250, .inl (fun _ => 0))), ((a 19), .inl (cI, 240, .inl (fun _ => 0))), ((a 20), .inl (cJ, 160, .inr (.inl (fun _ => 0)))), ((a 22), .inl (cZ, 3, .inl (fun _ => 0)))] sz) := by
  refine Met.ofW (cc := cX12_keep) (maxL := 2) (ret := (some .int)) (by decide) rfl ?_
  intro p e s m args below meth c s₁ B hml hv
  obtain ⟨rfl, hsz, hP, hK, hD0⟩ := hv
  have hx := B.exec
  have hb := B.bytes
  have hr := B.returns
  have hts := atoms_spec (ws := v_X12_keep) B.pre
  have hown : s.vm.findClass RX12 = some m.cls := findClass_of_methodNamed B.named
  have hlocks := B.notSynchronized
  subst hsz
  have iX12 : ∀ w ∈ wsX120, w ∈ v_X12_keep := (fun _ h => List.mem_cons_of_mem _ (List.mem_append_right _ (List.mem_append_right _ (List.mem_append_right _ (List.mem_append_left _ h)))))
  have hD := hD0.self (sz := s.heap.size)
  generalize hAe : (va_A [(y, .inr (11, mO a)), ((a 16), .inl (cI, 5, .inl (fun _ => 0))), ((a 21), .inl (cJ, 5, .inr (.inl (fun _ => 0)))), ((a 17), .inl (cI, 25, .inl (fun _ => 0))), ((a 18), .inl (cI, 250, .inl (fun _ => 0))), ((a 19), .inl (cI, 240, .inl (fun _ => 0))), ((a 20), .inl (cJ, 160, .inr (.inl (fun _ => 0)))), ((a 22), .inl (cZ, 3, .inl (fun _ => 0)))] s.heap.size) = A at hD ⊢
  have hA : ∀ q : Nat, s.heap.size ≤ q → A q := fun q h => by rw [← hAe]; exact Or.inr h
  have hS : va_S A s.heap s.heap [] := va_S.rf
  have hl := lv_entry ([.ref y, .int p0]) (n := 2) (Nat.le_of_ble_eq_true rfl)
  rw [lg_entry_eq]
  generalize (lg_sl ([.ref y, .int p0]) ++ List.replicate (2 - (lg_sl ([.ref y, .int p0])).length) Slot.unset).toArray = ls at hl ⊢
  have hl : lv_has ls 2 [(0, .ref y), (1, .int p0)] := hl
  have hP : va_P g vwCl [(y, .inr (11, mO a)), ((a 16), .inl (cI, 5, .inl (fun _ => 0))), ((a 21), .inl (cJ, 5, .inr (.inl (fun _ => 0)))), ((a 17), .inl (cI, 25, .inl (fun _ => 0))), ((a 18), .inl (cI, 250, .inl (fun _ => 0))), ((a 19), .inl (cI, 240, .inl (fun _ => 0))), ((a 20), .inl (cJ, 160, .inr (.inl (fun _ => 0)))), ((a 22), .inl (cZ, 3, .inl (fun _ => 0)))] s.heap := hP
  refine lv_aload_n hx hb dX12_keep_0 rfl (lv_at hl 0 rfl) ?_
  refine lv_iconst (v := 0) hx hb dX12_keep_1 (by decide) ?_
  refine va_put (D := g) (ci := 11) (v := .int 0) (ty := .int) (C := RX12) (T := TX12) (N := 56) hx hb hts iX12 tyX12 tyX12_ok nmX12 hown hK hP hD hS 0 rfl rfl 0 (by decide) (hts (.fieldLink RX12 107 "CardsAtYuleModel" "thrown" "I") (List.mem_cons_of_mem _ (List.mem_append_left _ (List.mem_of_getElem? (i := 0) rfl)))) (fun _ h9 => h9) rfl (by decide +kernel) rfl rfl (Nat.le_of_ble_eq_true rfl) dX12_keep_2 (fun H locs hP hD hS => ?_)
  have hP : va_P g vwCl [(y, .inr (11, mO a)), ((a 16), .inl (cI, 5, .inl (fun _ => 0))), ((a 21), .inl (cJ, 5, .inr (.inl (fun _ => 0)))), ((a 17), .inl (cI, 25, .inl (fun _ => 0))), ((a 18), .inl (cI, 250, .inl (fun _ => 0))), ((a 19), .inl (cI, 240, .inl (fun _ => 0))), ((a 20), .inl (cJ, 160, .inr (.inl (fun _ => 0)))), ((a 22), .inl (cZ, 3, .inl (fun _ => 0)))] H := hP
  have hD : va_D A [(y, .inr (11, mO a)), ((a 16), .inl (cI, 5, .inl (fun _ => 0))), ((a 21), .inl (cJ, 5, .inr (.inl (fun _ => 0)))), ((a 17), .inl (cI, 25, .inl (fun _ => 0))), ((a 18), .inl (cI, 250, .inl (fun _ => 0))), ((a 19), .inl (cI, 240, .inl (fun _ => 0))), ((a 20), .inl (cJ, 160, .inr (.inl (fun _ => 0)))), ((a 22), .inl (cZ, 3, .inl (fun _ => 0)))] := hD
  refine lv_iload_n hx hb dX12_keep_5 rfl (lv_at hl 1 rfl) ?_
  refine lv_i2l (v := p0.toInt64) hx hb dX12_keep_6 rfl ?_
  refine lv_lconst (v := 0) hx hb dX12_keep_7 (by decide) ?_
  refine lv_ldc2 (v := 2) hx hb hown (hts (.constantLong RX12 284 (2)) (List.mem_cons_of_mem _ (List.mem_append_left _ (List.mem_of_getElem? (i := 1) rfl)))) dX12_keep_8 ?_
  refine ro_i (va_runS (As := [.long p0.toInt64, .long 0, .long 2]) (rest := []) ⟨hx, hb, hml, hown, hts⟩ (k_X12_in l g cI cJ cB cZ cL p0.toInt64 0 2 ip0 0 2 H.size (z_i2l hzp0) rfl rfl) (va_cwS 3 hts (goodIn_app (g_3 (List.mem_cons_of_mem _ (List.mem_append_left _ (List.mem_of_getElem? (i := 2) rfl))) (List.mem_cons_of_mem _ (List.mem_append_left _ (List.mem_of_getElem? (i := 3) rfl))) (List.mem_cons_of_mem _ (List.mem_append_left _ (List.mem_of_getElem? (i := 4) rfl))) (by decide +kernel)) (goodIn_sub (fun _ h => List.mem_cons_of_mem _ (List.mem_append_right _ (List.mem_append_left _ h))) good_v_X12_in)) rfl rfl rfl (by decide +kernel) ⟨Nat.le_of_ble_eq_true rfl, Nat.le_of_ble_eq_true rfl⟩) (ps_RO (wc := []) hK hP [] rfl) rfl rfl hl.1 rfl (lv_room (Nat.le_of_ble_eq_true rfl)) dX12_keep_11 ⟨Nat.le_of_ble_eq_true rfl, Nat.le_of_ble_eq_true rfl⟩) hS hA hP (fun r1 u2 H locs hw3 hP hS => ?_)
  rcases hw3 with ⟨rfl, hw3_0⟩ | ⟨rfl, hw3_0⟩
  · refine lv_if_ne (tgt := 20) hx hb dX12_keep_14 (by decide) (fun _ => ?_) (fun c4 => absurd c4 (by decide))
    refine lv_aload_n hx hb dX12_keep_20 rfl (lv_at hl 0 rfl) ?_
    refine lv_iconst (v := 0) hx hb dX12_keep_21 (by decide) ?_
    refine lv_iconst (v := 1) hx hb dX12_keep_22 (by decide) ?_
    refine lv_iload_n hx hb dX12_keep_23 rfl (lv_at hl 1 rfl) ?_
    obtain ⟨jk, hjk, rfl⟩ : ∃ jk : Nat, jk < 3 ∧ p0 = nI jk := natz hzp0 (by omega) (by omega) (by decide)
    have hIjk : (jk : Int) = ip0 := by rw [← hzp0]; exact (nI_toInt (by omega)).symm
    refine lv_iadd hx hb dX12_keep_24 ?_
    refine lv_topi (nm_r (e' := (nI (1 + jk))) (nI_add 1 jk) ?_)
    refine rw_v (wr := [((a 22), .inl (cZ, 3, .inl (fun _ => 0)))]) (va_runV (As := [.int 0, .int (nI (1 + jk))]) (rest := []) ⟨hx, hb, hml, hown, hts⟩ (k_X12_copyLand_k l g cI cJ cB cZ cL y a (fun _ => 0) (fun _ => 0) (1 + jk) H.size (by omega)) (cwV 2 hts (goodIn_app (g_4 (List.mem_cons_of_mem _ (List.mem_append_left _ (List.mem_of_getElem? (i := 5) rfl))) (List.mem_cons_of_mem _ (List.mem_append_left _ (List.mem_of_getElem? (i := 6) rfl))) (List.mem_cons_of_mem _ (List.mem_append_left _ (List.mem_of_getElem? (i := 7) rfl))) (List.mem_cons_of_mem _ (List.mem_append_left _ (List.mem_of_getElem? (i := 4) rfl))) (by decide +kernel)) (goodIn_sub (fun _ h => List.mem_cons_of_mem _ (List.mem_append_right _ (List.mem_append_right _ (List.mem_append_left _ h)))) good_v_X12_copyLand_k)) rfl rfl rfl (by decide +kernel) ⟨Nat.le_of_ble_eq_true rfl, Nat.le_of_ble_eq_true rfl⟩) (pv_RW (q := (RX12, TX12, 56)) (ci := 11) (q0 := 0) (wc := [(y, .inr (11, mO a)), ((a 16), .inl (cI, 5, .inl (fun _ => 0))), ((a 17), .inl (cI, 25, .inl (fun _ => 0))), ((a 18), .inl (cI, 250, .inl (fun _ => 0))), ((a 19), .inl (cI, 240, .inl (fun _ => 0))), ((a 20), .inl (cJ, 160, .inr (.inl (fun _ => 0)))), ((a 21), .inl (cJ, 5, .inr (.inl (fun _ => 0))))]) hK hP hD [0, 1, 3, 4, 5, 6, 2] (by decide) rfl rfl rfl) rfl rfl hl.1 rfl (lv_room (Nat.le_of_ble_eq_true rfl)) dX12_keep_25 ⟨Nat.le_of_ble_eq_true rfl, Nat.le_of_ble_eq_true rfl⟩) hS hA hP hD [0, 1, 3, 4, 5, 6, 2] [7] rfl rfl (by decide) (by decide) (fun u6 H locs hw7 hP hD hS => ?_)
    generalize u6 = u_fl18 at hw7 hP hD
    try dsimp only at hw7
    have hP : va_P g vwCl [((a 22), .inl (cZ, 3, .inl (fun _ => 0))), (y, .inr (11, mO a)), ((a 16), .inl (cI, 5, .inl u_fl18))] H := hP
    have hD : va_D A [((a 22), .inl (cZ, 3, .inl (fun _ => 0))), (y, .inr (11, mO a)), ((a 16), .inl (cI, 5, .inl u_fl18))] := hD
    refine lv_aload_n hx hb dX12_keep_28 rfl (lv_at hl 0 rfl) ?_
    refine va_get (D := g) (ci := 11) (v := .ref (a 22)) (C := RX12) (T := TX12) (N := 56) hx hb hts iX12 hown hK hP 1 rfl rfl 22 (by decide) (hts (.fieldLink RX12 49 "CardsAtYuleModel" "isKept" "[Z") (List.mem_cons_of_mem _ (List.mem_append_left _ (List.mem_of_getElem? (i := 8) rfl)))) (fun _ h9 => h9) rfl dX12_keep_29 ?_
    refine lv_iload_n hx hb dX12_keep_32 rfl (lv_at hl 1 rfl) ?_
    refine lv_iconst (v := 1) hx hb dX12_keep_33 (by decide) ?_
    refine va_zast (D := g) hx hb hK hP hD hS 0 3 rfl rfl (vp_in_nI (n := jk) (by omega) (by decide)) dX12_keep_34 (fun H locs hP hD hS => ?_)
    rw [nI_clamp (n := jk) (by omega)] at hP hD
    have hP : va_P g vwCl [((a 22), .inl (cZ, 3, .inl (upd (fun _ => 0) jk 1))), (y, .inr (11, mO a)), ((a 16), .inl (cI, 5, .inl u_fl18))] H := hP
    have hD : va_D A [((a 22), .inl (cZ, 3, .inl (upd (fun _ => 0) jk 1))), (y, .inr (11, mO a)), ((a 16), .inl (cI, 5, .inl u_fl18))] := hD
    refine lv_iconst (v := 0) hx hb dX12_keep_35 (by decide) ?_
    have hP9 := hP.sub (ws' := []) [] rfl
    have hD9 := hD.sub (ws' := []) [] (by decide) rfl
    exact W.iret (v := 0) hx hb hr (fun t ht hW => ⟨⟨0, (), rfl, Or.inl ⟨rfl, by omega, by omega⟩, by rw [ht]; exact hP9, va_K.moved hW.alike hK, hD9⟩, hS.F ht⟩) hS.2.2 dX12_keep_36
  · refine lv_if_ne (tgt := 20) hx hb dX12_keep_14 (by decide) (fun c9 => absurd c9 (by decide)) (fun _ => ?_)
    refine lv_bipush (v := (-2)) hx hb dX12_keep_17 (by decide) ?_
    have hP9 := hP.sub (ws' := []) [] rfl
    have hD9 := hD.sub (ws' := []) [] (by decide) rfl
    exact W.iret (v := (-2)) hx hb hr (fun t ht hW => ⟨⟨(-2), (), rfl, Or.inr ⟨rfl, by omega⟩, by rw [ht]; exact hP9, va_K.moved hW.alike hK, hD9⟩, hS.F ht⟩) hS.2.2 dX12_keep_19
