def v_X11_isBelow : List Cond := .code yX11_isBelow cX11_isBelow 2 (some .boolean) :: (([] : List Cond) ++ ([] : List Cond))
theorem good_v_X11_isBelow : v_X11_isBelow.all goodWord = true := ga_c (by decide +kernel) (ga_a (by decide +kernel) rfl)
set_option maxHeartbeats 4000000 in
set_option maxRecDepth 100000 in
theorem k_X11_isBelow (l : Launch) (g : va_G) (cI cJ cB cZ cL : ClassId) (p0 : Int32) (p1 : Int32) (ip0 : Int) (ip1 : Int) (sz : Nat) (hzp0 : p0.toInt = ip0) (hzp1 : p1.toInt = ip1) : Met l yX11_isBelow v_X11_isBelow ({ frames := 0, cells := 0, slots := 0, locals := 0 }) (va_Pc [.int p0, .int p1] (pRO g (tyT cI cJ cB cZ cL) [] sz)) (va_Qi (fun (r : Int32) (u : Unit) => (r = 1 ∧ 0 ≤ ip0 ∧ ip0 < ip1) ∨ (r = 0 ∧ ¬ (0 ≤ ip0 ∧ ip0 < ip1))) (fun (_ : Unit) (_ : State) => True) (va_A [] sz)) 0 0 (va_A [] sz) := by
  refine Met.ofW (cc := cX11_isBelow) (maxL := 2) (ret := (some .boolean)) (by decide) rfl ?_
  intro p e s m args below meth c s₁ B hml hv
  obtain ⟨rfl, hsz, hP, hK⟩ := hv
  have hx := B.exec
  have hb := B.bytes
  have hr := B.returns
  have hts := atoms_spec (ws := v_X11_isBelow) B.pre
  have hown : s.vm.findClass RX11 = some m.cls := findClass_of_methodNamed B.named
  have hlocks := B.notSynchronized
  subst hsz
  generalize hAe : (va_A [] s.heap.size) = A
  have hA : ∀ q : Nat, s.heap.size ≤ q → A q := fun q h => by rw [← hAe]; exact Or.inr h
  have hS : va_S A s.heap s.heap [] := va_S.rf
  have hl := lv_entry ([.int p0, .int p1]) (n := 2) (Nat.le_of_ble_eq_true rfl)
  rw [lg_entry_eq]
  generalize (lg_sl ([.int p0, .int p1]) ++ List.replicate (2 - (lg_sl ([.int p0, .int p1])).length) Slot.unset).toArray = ls at hl ⊢
  have hl : lv_has ls 2 [(0, .int p0), (1, .int p1)] := hl
  have hP : va_P g vwCl [] s.heap := hP
  refine lv_iload_n hx hb dX11_isBelow_0 rfl (lv_at hl 0 rfl) ?_
  refine lv_if_lt (tgt := 13) hx hb dX11_isBelow_1 (by decide) (fun c1 => ?_) (fun c1 => ?_)
  · have f2 := (show ip0 < 0 from z_lt hzp0 rfl c1)
    refine lv_iconst (v := 0) hx hb dX11_isBelow_13 (by decide) ?_
    exact W.zret (v := 0) hx hb hr rfl (fun t ht hW => ⟨⟨0, (), rfl, Or.inr ⟨rfl, by omega⟩, trivial⟩, hS.F ht⟩) hS.2.2 dX11_isBelow_14
  · have f2 := (show 0 ≤ ip0 from z_nlt hzp0 rfl c1)
    refine lv_iload_n hx hb dX11_isBelow_4 rfl (lv_at hl 0 rfl) ?_
    refine lv_iload_n hx hb dX11_isBelow_5 rfl (lv_at hl 1 rfl) ?_
    refine lv_icmp_ge (tgt := 13) hx hb dX11_isBelow_6 (by decide) (fun c3 => ?_) (fun c3 => ?_)
    · have f4 := (show ip1 ≤ ip0 from z_le hzp1 hzp0 c3)
      refine lv_iconst (v := 0) hx hb dX11_isBelow_13 (by decide) ?_
      exact W.zret (v := 0) hx hb hr rfl (fun t ht hW => ⟨⟨0, (), rfl, Or.inr ⟨rfl, by omega⟩, trivial⟩, hS.F ht⟩) hS.2.2 dX11_isBelow_14
    · have f4 := (show ip0 < ip1 from z_nle hzp1 hzp0 c3)
      refine lv_iconst (v := 1) hx hb dX11_isBelow_9 (by decide) ?_
      refine lv_goto (tgt := 14) hx hb dX11_isBelow_10 (by decide) ?_
      exact W.zret (v := 1) hx hb hr rfl (fun t ht hW => ⟨⟨1, (), rfl, Or.inl ⟨rfl, by omega, by omega⟩, trivial⟩, hS.F ht⟩) hS.2.2 dX11_isBelow_14
def v_X11_isBit : List Cond := .code yX11_isBit cX11_isBit 1 (some .boolean) :: (([] : List Cond) ++ ([] : List Cond))
theorem good_v_X11_isBit : v_X11_isBit.all goodWord = true := ga_c (by decide +kernel) (ga_a (by decide +kernel) rfl)
set_option maxHeartbeats 4000000 in
set_option maxRecDepth 100000 in
theorem k_X11_isBit (l : Launch) (g : va_G) (cI cJ cB cZ cL : ClassId) (p0 : Int32) (ip0 : Int) (sz : Nat) (hzp0 : p0.toInt = ip0) : Met l yX11_isBit v_X11_isBit ({ frames := 0, cells := 0, slots := 0, locals := 0 }) (va_Pc [.int p0] (pRO g (tyT cI cJ cB cZ cL) [] sz)) (va_Qi (fun (r : Int32) (u : Unit) => (r = 1 ∧ (0 ≤ ip0 ∧ ip0 ≤ 1)) ∨ (r = 0 ∧ ¬ (0 ≤ ip0 ∧ ip0 ≤ 1))) (fun (_ : Unit) (_ : State) => True) (va_A [] sz)) 0 0 (va_A [] sz) := by
  refine Met.ofW (cc := cX11_isBit) (maxL := 1) (ret := (some .boolean)) (by decide) rfl ?_
  intro p e s m args below meth c s₁ B hml hv
  obtain ⟨rfl, hsz, hP, hK⟩ := hv
  have hx := B.exec
  have hb := B.bytes
  have hr := B.returns
  have hts := atoms_spec (ws := v_X11_isBit) B.pre
  have hown : s.vm.findClass RX11 = some m.cls := findClass_of_methodNamed B.named
  have hlocks := B.notSynchronized
  subst hsz
  generalize hAe : (va_A [] s.heap.size) = A
  have hA : ∀ q : Nat, s.heap.size ≤ q → A q := fun q h => by rw [← hAe]; exact Or.inr h
  have hS : va_S A s.heap s.heap [] := va_S.rf
  have hl := lv_entry ([.int p0]) (n := 1) (Nat.le_of_ble_eq_true rfl)
  rw [lg_entry_eq]
  generalize (lg_sl ([.int p0]) ++ List.replicate (1 - (lg_sl ([.int p0])).length) Slot.unset).toArray = ls at hl ⊢
  have hl : lv_has ls 1 [(0, .int p0)] := hl
  have hP : va_P g vwCl [] s.heap := hP
  refine lv_iload_n hx hb dX11_isBit_0 rfl (lv_at hl 0 rfl) ?_
  refine lv_if_eq (tgt := 9) hx hb dX11_isBit_1 (by decide) (fun c1 => ?_) (fun c1 => ?_)
  · have f2 := (show ip0 = 0 from z_eq hzp0 rfl c1)
    refine lv_iconst (v := 1) hx hb dX11_isBit_9 (by decide) ?_
    refine lv_goto (tgt := 14) hx hb dX11_isBit_10 (by decide) ?_
    exact W.zret (v := 1) hx hb hr rfl (fun t ht hW => ⟨⟨1, (), rfl, Or.inl ⟨rfl, by omega⟩, trivial⟩, hS.F ht⟩) hS.2.2 dX11_isBit_14
  · have f2 := (show ip0 ≠ 0 from z_ne hzp0 rfl c1)
    refine lv_iload_n hx hb dX11_isBit_4 rfl (lv_at hl 0 rfl) ?_
    refine lv_iconst (v := 1) hx hb dX11_isBit_5 (by decide) ?_
    refine lv_icmp_ne (tgt := 13) hx hb dX11_isBit_6 (by decide) (fun c3 => ?_) (fun c3 => ?_)
    · have f4 := (show ip0 ≠ 1 from z_ne hzp0 rfl c3)
      refine lv_iconst (v := 0) hx hb dX11_isBit_13 (by decide) ?_
      exact W.zret (v := 0) hx hb hr rfl (fun t ht hW => ⟨⟨0, (), rfl, Or.inr ⟨rfl, by omega⟩, trivial⟩, hS.F ht⟩) hS.2.2 dX11_isBit_14
    · have f4 := (show ip0 = 1 from z_eq hzp0 rfl c3)
      refine lv_iconst (v := 1) hx hb dX11_isBit_9 (by decide) ?_
      refine lv_goto (tgt := 14) hx hb dX11_isBit_10 (by decide) ?_
      exact W.zret (v := 1) hx hb hr rfl (fun t ht hW => ⟨⟨1, (), rfl, Or.inl ⟨rfl, by omega⟩, trivial⟩, hS.F ht⟩) hS.2.2 dX11_isBit_14
def v_X11_isSeed : List Cond := .code yX11_isSeed cX11_isSeed 1 (some .boolean) :: (([.constant RX11 411 (2000000000)] : List Cond) ++ ([] : List Cond))
theorem good_v_X11_isSeed : v_X11_isSeed.all goodWord = true := ga_c (by decide +kernel) (ga_a (by decide +kernel) rfl)
set_option maxHeartbeats 4000000 in
set_option maxRecDepth 100000 in
theorem k_X11_isSeed (l : Launch) (g : va_G) (cI cJ cB cZ cL : ClassId) (p0 : Int32) (ip0 : Int) (sz : Nat) (hzp0 : p0.toInt = ip0) : Met l yX11_isSeed v_X11_isSeed ({ frames := 0, cells := 0, slots := 0, locals := 0 }) (va_Pc [.int p0] (pRO g (tyT cI cJ cB cZ cL) [] sz)) (va_Qi (fun (r : Int32) (u : Unit) => (r = 1 ∧ (0 ≤ ip0 ∧ ip0 ≤ 2000000000)) ∨ (r = 0 ∧ ¬ (0 ≤ ip0 ∧ ip0 ≤ 2000000000))) (fun (_ : Unit) (_ : State) => True) (va_A [] sz)) 0 0 (va_A [] sz) := by
  refine Met.ofW (cc := cX11_isSeed) (maxL := 1) (ret := (some .boolean)) (by decide) rfl ?_
  intro p e s m args below meth c s₁ B hml hv
  obtain ⟨rfl, hsz, hP, hK⟩ := hv
  have hx := B.exec
  have hb := B.bytes
  have hr := B.returns
  have hts := atoms_spec (ws := v_X11_isSeed) B.pre
  have hown : s.vm.findClass RX11 = some m.cls := findClass_of_methodNamed B.named
  have hlocks := B.notSynchronized
  subst hsz
  generalize hAe : (va_A [] s.heap.size) = A
  have hA : ∀ q : Nat, s.heap.size ≤ q → A q := fun q h => by rw [← hAe]; exact Or.inr h
  have hS : va_S A s.heap s.heap [] := va_S.rf
  have hl := lv_entry ([.int p0]) (n := 1) (Nat.le_of_ble_eq_true rfl)
  rw [lg_entry_eq]
  generalize (lg_sl ([.int p0]) ++ List.replicate (1 - (lg_sl ([.int p0])).length) Slot.unset).toArray = ls at hl ⊢
  have hl : lv_has ls 1 [(0, .int p0)] := hl
  have hP : va_P g vwCl [] s.heap := hP
  refine lv_iload_n hx hb dX11_isSeed_0 rfl (lv_at hl 0 rfl) ?_
  refine lv_if_lt (tgt := 15) hx hb dX11_isSeed_1 (by decide) (fun c1 => ?_) (fun c1 => ?_)
  · have f2 := (show ip0 < 0 from z_lt hzp0 rfl c1)
    refine lv_iconst (v := 0) hx hb dX11_isSeed_15 (by decide) ?_
    exact W.zret (v := 0) hx hb hr rfl (fun t ht hW => ⟨⟨0, (), rfl, Or.inr ⟨rfl, by omega⟩, trivial⟩, hS.F ht⟩) hS.2.2 dX11_isSeed_16
  · have f2 := (show 0 ≤ ip0 from z_nlt hzp0 rfl c1)
    refine lv_iload_n hx hb dX11_isSeed_4 rfl (lv_at hl 0 rfl) ?_
    refine lv_ldcw (v := 2000000000) hx hb hown (hts (.constant RX11 411 (2000000000)) (List.mem_cons_of_mem _ (List.mem_append_left _ (List.mem_of_getElem? (i := 0) rfl)))) dX11_isSeed_5 ?_
    refine lv_icmp_gt (tgt := 15) hx hb dX11_isSeed_8 (by decide) (fun c3 => ?_) (fun c3 => ?_)
    · have f4 := (show 2000000000 < ip0 from z_lt rfl hzp0 c3)
      refine lv_iconst (v := 0) hx hb dX11_isSeed_15 (by decide) ?_
      exact W.zret (v := 0) hx hb hr rfl (fun t ht hW => ⟨⟨0, (), rfl, Or.inr ⟨rfl, by omega⟩, trivial⟩, hS.F ht⟩) hS.2.2 dX11_isSeed_16
    · have f4 := (show ip0 ≤ 2000000000 from z_nlt rfl hzp0 c3)
      refine lv_iconst (v := 1) hx hb dX11_isSeed_11 (by decide) ?_
      refine lv_goto (tgt := 16) hx hb dX11_isSeed_12 (by decide) ?_
      exact W.zret (v := 1) hx hb hr rfl (fun t ht hW => ⟨⟨1, (), rfl, Or.inl ⟨rfl, by omega⟩, trivial⟩, hS.F ht⟩) hS.2.2 dX11_isSeed_16
def v_X4_hasPerson : List Cond := .code yX4_hasPerson cX4_hasPerson 2 (some .boolean) :: (([.fieldLink RX4 50 "CardsAtYule$Land" "people" "I"] : List Cond) ++ (wsX40 ++ ([] : List Cond)))
theorem good_v_X4_hasPerson : v_X4_hasPerson.all goodWord = true := ga_c (by decide +kernel) (ga_a (by decide +kernel) (ga_a good_wsX40 rfl))
set_option maxHeartbeats 4000000 in
set_option maxRecDepth 100000 in
theorem k_X4_hasPerson (l : Launch) (g : va_G) (cI cJ cB cZ cL : ClassId) (ld : Nat) (lines : Int32) (years : Int32) (card : Int32) (hurt : Int32) (people : Int32) (pairs : Int32) (strikes : Int64) (l1 : Nat) (l2 : Nat) (l3 : Nat) (l4 : Nat) (l5 : Nat) (l6 : Nat) (l7 : Nat) (l8 : Nat) (ipeople : Int) (p0 : Int32) (ip0 : Int) (sz : Nat) (hzpeople : people.toInt = ipeople) (hzp0 : p0.toInt = ip0) : Met l yX4_hasPerson v_X4_hasPerson ({ frames := 0, cells := 0, slots := 0, locals := 0 }) (va_Pc [.ref ld, .int p0] (pRO g (tyT cI cJ cB cZ cL) [(ld, .inr (4, [.int lines, .int years, .int card, .int hurt, .int people, .int pairs, .long strikes, .ref l1, .ref l2, .ref l3, .ref l4, .ref l5, .ref l6, .ref l7, .ref l8]))] sz)) (va_Qi (fun (r : Int32) (u : Unit) => (r = 1 ∧ 0 ≤ ip0 ∧ ip0 < ipeople) ∨ (r = 0 ∧ ¬ (0 ≤ ip0 ∧ ip0 < ipeople))) (fun (_ : Unit) (_ : State) => True) (va_A [] sz)) 0 0 (va_A [] sz) := by
  refine Met.ofW (cc := cX4_hasPerson) (maxL := 2) (ret := (some .boolean)) (by decide) rfl ?_
  intro p e s m args below meth c s₁ B hml hv
  obtain ⟨rfl, hsz, hP, hK⟩ := hv
  have hx := B.exec
  have hb := B.bytes
  have hr := B.returns
  have hts := atoms_spec (ws := v_X4_hasPerson) B.pre
  have hown : s.vm.findClass RX4 = some m.cls := findClass_of_methodNamed B.named
  have hlocks := B.notSynchronized
  subst hsz
  have iX4 : ∀ w ∈ wsX40, w ∈ v_X4_hasPerson := (fun _ h => List.mem_cons_of_mem _ (List.mem_append_right _ (List.mem_append_left _ h)))
  generalize hAe : (va_A [] s.heap.size) = A
  have hA : ∀ q : Nat, s.heap.size ≤ q → A q := fun q h => by rw [← hAe]; exact Or.inr h
  have hS : va_S A s.heap s.heap [] := va_S.rf
  have hl := lv_entry ([.ref ld, .int p0]) (n := 2) (Nat.le_of_ble_eq_true rfl)
  rw [lg_entry_eq]
  generalize (lg_sl ([.ref ld, .int p0]) ++ List.replicate (2 - (lg_sl ([.ref ld, .int p0])).length) Slot.unset).toArray = ls at hl ⊢
  have hl : lv_has ls 2 [(0, .ref ld), (1, .int p0)] := hl
  have hP : va_P g vwCl [(ld, .inr (4, [.int lines, .int years, .int card, .int hurt, .int people, .int pairs, .long strikes, .ref l1, .ref l2, .ref l3, .ref l4, .ref l5, .ref l6, .ref l7, .ref l8]))] s.heap := hP
  refine lv_iload_n hx hb dX4_hasPerson_0 rfl (lv_at hl 1 rfl) ?_
  refine lv_if_lt (tgt := 16) hx hb dX4_hasPerson_1 (by decide) (fun c1 => ?_) (fun c1 => ?_)
  · have f2 := (show ip0 < 0 from z_lt hzp0 rfl c1)
    refine lv_iconst (v := 0) hx hb dX4_hasPerson_16 (by decide) ?_
    exact W.zret (v := 0) hx hb hr rfl (fun t ht hW => ⟨⟨0, (), rfl, Or.inr ⟨rfl, by omega⟩, trivial⟩, hS.F ht⟩) hS.2.2 dX4_hasPerson_17
  · have f2 := (show 0 ≤ ip0 from z_nlt hzp0 rfl c1)
    refine lv_iload_n hx hb dX4_hasPerson_4 rfl (lv_at hl 1 rfl) ?_
    refine lv_aload_n hx hb dX4_hasPerson_5 rfl (lv_at hl 0 rfl) ?_
    refine va_get (D := g) (ci := 4) (v := .int people) (C := RX4) (T := TX4) (N := 15) hx hb hts iX4 hown hK hP 0 rfl rfl 4 (by decide) (hts (.fieldLink RX4 50 "CardsAtYule$Land" "people" "I") (List.mem_cons_of_mem _ (List.mem_append_left _ (List.mem_of_getElem? (i := 0) rfl)))) (fun _ h9 => h9) rfl dX4_hasPerson_6 ?_
    refine lv_icmp_ge (tgt := 16) hx hb dX4_hasPerson_9 (by decide) (fun c3 => ?_) (fun c3 => ?_)
    · have f4 := (show ipeople ≤ ip0 from z_le hzpeople hzp0 c3)
      refine lv_iconst (v := 0) hx hb dX4_hasPerson_16 (by decide) ?_
      exact W.zret (v := 0) hx hb hr rfl (fun t ht hW => ⟨⟨0, (), rfl, Or.inr ⟨rfl, by omega⟩, trivial⟩, hS.F ht⟩) hS.2.2 dX4_hasPerson_17
    · have f4 := (show ip0 < ipeople from z_nle hzpeople hzp0 c3)
      refine lv_iconst (v := 1) hx hb dX4_hasPerson_12 (by decide) ?_
      refine lv_goto (tgt := 17) hx hb dX4_hasPerson_13 (by decide) ?_
      exact W.zret (v := 1) hx hb hr rfl (fun t ht hW => ⟨⟨1, (), rfl, Or.inl ⟨rfl, by omega, by omega⟩, trivial⟩, hS.F ht⟩) hS.2.2 dX4_hasPerson_17
def v_X4_hasPair : List Cond := .code yX4_hasPair cX4_hasPair 2 (some .boolean) :: (([.fieldLink RX4 53 "CardsAtYule$Land" "pairs" "I"] : List Cond) ++ (wsX40 ++ ([] : List Cond)))
theorem good_v_X4_hasPair : v_X4_hasPair.all goodWord = true := ga_c (by decide +kernel) (ga_a (by decide +kernel) (ga_a good_wsX40 rfl))
set_option maxHeartbeats 4000000 in
set_option maxRecDepth 100000 in
theorem k_X4_hasPair (l : Launch) (g : va_G) (cI cJ cB cZ cL : ClassId) (ld : Nat) (lines : Int32) (years : Int32) (card : Int32) (hurt : Int32) (people : Int32) (pairs : Int32) (strikes : Int64) (l1 : Nat) (l2 : Nat) (l3 : Nat) (l4 : Nat) (l5 : Nat) (l6 : Nat) (l7 : Nat) (l8 : Nat) (ipairs : Int) (p0 : Int32) (ip0 : Int) (sz : Nat) (hzpairs : pairs.toInt = ipairs) (hzp0 : p0.toInt = ip0) : Met l yX4_hasPair v_X4_hasPair ({ frames := 0, cells := 0, slots := 0, locals := 0 }) (va_Pc [.ref ld, .int p0] (pRO g (tyT cI cJ cB cZ cL) [(ld, .inr (4, [.int lines, .int years, .int card, .int hurt, .int people, .int pairs, .long strikes, .ref l1, .ref l2, .ref l3, .ref l4, .ref l5, .ref l6, .ref l7, .ref l8]))] sz)) (va_Qi (fun (r : Int32) (u : Unit) => (r = 1 ∧ 0 ≤ ip0 ∧ ip0 < ipairs) ∨ (r = 0 ∧ ¬ (0 ≤ ip0 ∧ ip0 < ipairs))) (fun (_ : Unit) (_ : State) => True) (va_A [] sz)) 0 0 (va_A [] sz) := by
  refine Met.ofW (cc := cX4_hasPair) (maxL := 2) (ret := (some .boolean)) (by decide) rfl ?_
  intro p e s m args below meth c s₁ B hml hv
  obtain ⟨rfl, hsz, hP, hK⟩ := hv
  have hx := B.exec
  have hb := B.bytes
  have hr := B.returns
  have hts := atoms_spec (ws := v_X4_hasPair) B.pre
  have hown : s.vm.findClass RX4 = some m.cls := findClass_of_methodNamed B.named
  have hlocks := B.notSynchronized
  subst hsz
  have iX4 : ∀ w ∈ wsX40, w ∈ v_X4_hasPair := (fun _ h => List.mem_cons_of_mem _ (List.mem_append_right _ (List.mem_append_left _ h)))
  generalize hAe : (va_A [] s.heap.size) = A
  have hA : ∀ q : Nat, s.heap.size ≤ q → A q := fun q h => by rw [← hAe]; exact Or.inr h
  have hS : va_S A s.heap s.heap [] := va_S.rf
  have hl := lv_entry ([.ref ld, .int p0]) (n := 2) (Nat.le_of_ble_eq_true rfl)
  rw [lg_entry_eq]
  generalize (lg_sl ([.ref ld, .int p0]) ++ List.replicate (2 - (lg_sl ([.ref ld, .int p0])).length) Slot.unset).toArray = ls at hl ⊢
  have hl : lv_has ls 2 [(0, .ref ld), (1, .int p0)] := hl
  have hP : va_P g vwCl [(ld, .inr (4, [.int lines, .int years, .int card, .int hurt, .int people, .int pairs, .long strikes, .ref l1, .ref l2, .ref l3, .ref l4, .ref l5, .ref l6, .ref l7, .ref l8]))] s.heap := hP
  refine lv_iload_n hx hb dX4_hasPair_0 rfl (lv_at hl 1 rfl) ?_
  refine lv_if_lt (tgt := 16) hx hb dX4_hasPair_1 (by decide) (fun c1 => ?_) (fun c1 => ?_)
  · have f2 := (show ip0 < 0 from z_lt hzp0 rfl c1)
    refine lv_iconst (v := 0) hx hb dX4_hasPair_16 (by decide) ?_
    exact W.zret (v := 0) hx hb hr rfl (fun t ht hW => ⟨⟨0, (), rfl, Or.inr ⟨rfl, by omega⟩, trivial⟩, hS.F ht⟩) hS.2.2 dX4_hasPair_17
  · have f2 := (show 0 ≤ ip0 from z_nlt hzp0 rfl c1)
    refine lv_iload_n hx hb dX4_hasPair_4 rfl (lv_at hl 1 rfl) ?_
    refine lv_aload_n hx hb dX4_hasPair_5 rfl (lv_at hl 0 rfl) ?_
    refine va_get (D := g) (ci := 4) (v := .int pairs) (C := RX4) (T := TX4) (N := 15) hx hb hts iX4 hown hK hP 0 rfl rfl 5 (by decide) (hts (.fieldLink RX4 53 "CardsAtYule$Land" "pairs" "I") (List.mem_cons_of_mem _ (List.mem_append_left _ (List.mem_of_getElem? (i := 0) rfl)))) (fun _ h9 => h9) rfl dX4_hasPair_6 ?_
    refine lv_icmp_ge (tgt := 16) hx hb dX4_hasPair_9 (by decide) (fun c3 => ?_) (fun c3 => ?_)
    · have f4 := (show ipairs ≤ ip0 from z_le hzpairs hzp0 c3)
      refine lv_iconst (v := 0) hx hb dX4_hasPair_16 (by decide) ?_
      exact W.zret (v := 0) hx hb hr rfl (fun t ht hW => ⟨⟨0, (), rfl, Or.inr ⟨rfl, by omega⟩, trivial⟩, hS.F ht⟩) hS.2.2 dX4_hasPair_17
    · have f4 := (show ip0 < ipairs from z_nle hzpairs hzp0 c3)
      refine lv_iconst (v := 1) hx hb dX4_hasPair_12 (by decide) ?_
      refine lv_goto (tgt := 17) hx hb dX4_hasPair_13 (by decide) ?_
      exact W.zret (v := 1) hx hb hr rfl (fun t ht hW => ⟨⟨1, (), rfl, Or.inl ⟨rfl, by omega, by omega⟩, trivial⟩, hS.F ht⟩) hS.2.2 dX4_hasPair_17
def v_X4_hasYear : List Cond := .code yX4_hasYear cX4_hasYear 2 (some .boolean) :: (([.fieldLink RX4 41 "CardsAtYule$Land" "years" "I"] : List Cond) ++ (wsX40 ++ ([] : List Cond)))
theorem good_v_X4_hasYear : v_X4_hasYear.all goodWord = true := ga_c (by decide +kernel) (ga_a (by decide +kernel) (ga_a good_wsX40 rfl))
set_option maxHeartbeats 4000000 in
set_option maxRecDepth 100000 in
theorem k_X4_hasYear (l : Launch) (g : va_G) (cI cJ cB cZ cL : ClassId) (ld : Nat) (lines : Int32) (years : Int32) (card : Int32) (hurt : Int32) (people : Int32) (pairs : Int32) (strikes : Int64) (l1 : Nat) (l2 : Nat) (l3 : Nat) (l4 : Nat) (l5 : Nat) (l6 : Nat) (l7 : Nat) (l8 : Nat) (iyears : Int) (p0 : Int32) (ip0 : Int) (sz : Nat) (hzyears : years.toInt = iyears) (hzp0 : p0.toInt = ip0) : Met l yX4_hasYear v_X4_hasYear ({ frames := 0, cells := 0, slots := 0, locals := 0 }) (va_Pc [.ref ld, .int p0] (pRO g (tyT cI cJ cB cZ cL) [(ld, .inr (4, [.int lines, .int years, .int card, .int hurt, .int people, .int pairs, .long strikes, .ref l1, .ref l2, .ref l3, .ref l4, .ref l5, .ref l6, .ref l7, .ref l8]))] sz)) (va_Qi (fun (r : Int32) (u : Unit) => (r = 1 ∧ 0 ≤ ip0 ∧ ip0 < iyears) ∨ (r = 0 ∧ ¬ (0 ≤ ip0 ∧ ip0 < iyears))) (fun (_ : Unit) (_ : State) => True) (va_A [] sz)) 0 0 (va_A [] sz) := by
  refine Met.ofW (cc := cX4_hasYear) (maxL := 2) (ret := (some .boolean)) (by decide) rfl ?_
  intro p e s m args below meth c s₁ B hml hv
  obtain ⟨rfl, hsz, hP, hK⟩ := hv
  have hx := B.exec
  have hb := B.bytes
  have hr := B.returns
  have hts := atoms_spec (ws := v_X4_hasYear) B.pre
  have hown : s.vm.findClass RX4 = some m.cls := findClass_of_methodNamed B.named
  have hlocks := B.notSynchronized
  subst hsz
  have iX4 : ∀ w ∈ wsX40, w ∈ v_X4_hasYear := (fun _ h => List.mem_cons_of_mem _ (List.mem_append_right _ (List.mem_append_left _ h)))
  generalize hAe : (va_A [] s.heap.size) = A
  have hA : ∀ q : Nat, s.heap.size ≤ q → A q := fun q h => by rw [← hAe]; exact Or.inr h
  have hS : va_S A s.heap s.heap [] := va_S.rf
  have hl := lv_entry ([.ref ld, .int p0]) (n := 2) (Nat.le_of_ble_eq_true rfl)
  rw [lg_entry_eq]
  generalize (lg_sl ([.ref ld, .int p0]) ++ List.replicate (2 - (lg_sl ([.ref ld, .int p0])).length) Slot.unset).toArray = ls at hl ⊢
  have hl : lv_has ls 2 [(0, .ref ld), (1, .int p0)] := hl
  have hP : va_P g vwCl [(ld, .inr (4, [.int lines, .int years, .int card, .int hurt, .int people, .int pairs, .long strikes, .ref l1, .ref l2, .ref l3, .ref l4, .ref l5, .ref l6, .ref l7, .ref l8]))] s.heap := hP
  refine lv_iload_n hx hb dX4_hasYear_0 rfl (lv_at hl 1 rfl) ?_
  refine lv_if_lt (tgt := 16) hx hb dX4_hasYear_1 (by decide) (fun c1 => ?_) (fun c1 => ?_)
  · have f2 := (show ip0 < 0 from z_lt hzp0 rfl c1)
    refine lv_iconst (v := 0) hx hb dX4_hasYear_16 (by decide) ?_
    exact W.zret (v := 0) hx hb hr rfl (fun t ht hW => ⟨⟨0, (), rfl, Or.inr ⟨rfl, by omega⟩, trivial⟩, hS.F ht⟩) hS.2.2 dX4_hasYear_17
  · have f2 := (show 0 ≤ ip0 from z_nlt hzp0 rfl c1)
    refine lv_iload_n hx hb dX4_hasYear_4 rfl (lv_at hl 1 rfl) ?_
    refine lv_aload_n hx hb dX4_hasYear_5 rfl (lv_at hl 0 rfl) ?_
    refine va_get (D := g) (ci := 4) (v := .int years) (C := RX4) (T := TX4) (N := 15) hx hb hts iX4 hown hK hP 0 rfl rfl 1 (by decide) (hts (.fieldLink RX4 41 "CardsAtYule$Land" "years" "I") (List.mem_cons_of_mem _ (List.mem_append_left _ (List.mem_of_getElem? (i := 0) rfl)))) (fun _ h9 => h9) rfl dX4_hasYear_6 ?_
    refine lv_icmp_ge (tgt := 16) hx hb dX4_hasYear_9 (by decide) (fun c3 => ?_) (fun c3 => ?_)
    · have f4 := (show iyears ≤ ip0 from z_le hzyears hzp0 c3)
      refine lv_iconst (v := 0) hx hb dX4_hasYear_16 (by decide) ?_
      exact W.zret (v := 0) hx hb hr rfl (fun t ht hW => ⟨⟨0, (), rfl, Or.inr ⟨rfl, by omega⟩, trivial⟩, hS.F ht⟩) hS.2.2 dX4_hasYear_17
    · have f4 := (show ip0 < iyears from z_nle hzyears hzp0 c3)
      refine lv_iconst (v := 1) hx hb dX4_hasYear_12 (by decide) ?_
      refine lv_goto (tgt := 17) hx hb dX4_hasYear_13 (by decide) ?_
      exact W.zret (v := 1) hx hb hr rfl (fun t ht hW => ⟨⟨1, (), rfl, Or.inl ⟨rfl, by omega, by omega⟩, trivial⟩, hS.F ht⟩) hS.2.2 dX4_hasYear_17
def v_X4_isThere : List Cond := .code yX4_isThere cX4_isThere 1 (some .boolean) :: (([.fieldLink RX4 37 "CardsAtYule$Land" "lines" "I"] : List Cond) ++ (wsX40 ++ ([] : List Cond)))
theorem good_v_X4_isThere : v_X4_isThere.all goodWord = true := ga_c (by decide +kernel) (ga_a (by decide +kernel) (ga_a good_wsX40 rfl))
set_option maxHeartbeats 4000000 in
set_option maxRecDepth 100000 in
theorem k_X4_isThere (l : Launch) (g : va_G) (cI cJ cB cZ cL : ClassId) (ld : Nat) (lines : Int32) (years : Int32) (card : Int32) (hurt : Int32) (people : Int32) (pairs : Int32) (strikes : Int64) (l1 : Nat) (l2 : Nat) (l3 : Nat) (l4 : Nat) (l5 : Nat) (l6 : Nat) (l7 : Nat) (l8 : Nat) (ilines : Int) (sz : Nat) (hzlines : lines.toInt = ilines) : Met l yX4_isThere v_X4_isThere ({ frames := 0, cells := 0, slots := 0, locals := 0 }) (va_Pc [.ref ld] (pRO g (tyT cI cJ cB cZ cL) [(ld, .inr (4, [.int lines, .int years, .int card, .int hurt, .int people, .int pairs, .long strikes, .ref l1, .ref l2, .ref l3, .ref l4, .ref l5, .ref l6, .ref l7, .ref l8]))] sz)) (va_Qi (fun (r : Int32) (u : Unit) => (r = 1 ∧ 0 < ilines) ∨ (r = 0 ∧ ¬ (0 < ilines))) (fun (_ : Unit) (_ : State) => True) (va_A [] sz)) 0 0 (va_A [] sz) := by
  refine Met.ofW (cc := cX4_isThere) (maxL := 1) (ret := (some .boolean)) (by decide) rfl ?_
  intro p e s m args below meth c s₁ B hml hv
  obtain ⟨rfl, hsz, hP, hK⟩ := hv
  have hx := B.exec
  have hb := B.bytes
  have hr := B.returns
  have hts := atoms_spec (ws := v_X4_isThere) B.pre
  have hown : s.vm.findClass RX4 = some m.cls := findClass_of_methodNamed B.named
  have hlocks := B.notSynchronized
  subst hsz
  have iX4 : ∀ w ∈ wsX40, w ∈ v_X4_isThere := (fun _ h => List.mem_cons_of_mem _ (List.mem_append_right _ (List.mem_append_left _ h)))
  generalize hAe : (va_A [] s.heap.size) = A
  have hA : ∀ q : Nat, s.heap.size ≤ q → A q := fun q h => by rw [← hAe]; exact Or.inr h
  have hS : va_S A s.heap s.heap [] := va_S.rf
  have hl := lv_entry ([.ref ld]) (n := 1) (Nat.le_of_ble_eq_true rfl)
  rw [lg_entry_eq]
  generalize (lg_sl ([.ref ld]) ++ List.replicate (1 - (lg_sl ([.ref ld])).length) Slot.unset).toArray = ls at hl ⊢
  have hl : lv_has ls 1 [(0, .ref ld)] := hl
  have hP : va_P g vwCl [(ld, .inr (4, [.int lines, .int years, .int card, .int hurt, .int people, .int pairs, .long strikes, .ref l1, .ref l2, .ref l3, .ref l4, .ref l5, .ref l6, .ref l7, .ref l8]))] s.heap := hP
  refine lv_aload_n hx hb dX4_isThere_0 rfl (lv_at hl 0 rfl) ?_
  refine va_get (D := g) (ci := 4) (v := .int lines) (C := RX4) (T := TX4) (N := 15) hx hb hts iX4 hown hK hP 0 rfl rfl 0 (by decide) (hts (.fieldLink RX4 37 "CardsAtYule$Land" "lines" "I") (List.mem_cons_of_mem _ (List.mem_append_left _ (List.mem_of_getElem? (i := 0) rfl)))) (fun _ h9 => h9) rfl dX4_isThere_1 ?_
  refine lv_if_le (tgt := 11) hx hb dX4_isThere_4 (by decide) (fun c1 => ?_) (fun c1 => ?_)
  · have f2 := (show ilines ≤ 0 from z_le hzlines rfl c1)
    refine lv_iconst (v := 0) hx hb dX4_isThere_11 (by decide) ?_
    exact W.zret (v := 0) hx hb hr rfl (fun t ht hW => ⟨⟨0, (), rfl, Or.inr ⟨rfl, by omega⟩, trivial⟩, hS.F ht⟩) hS.2.2 dX4_isThere_12
  · have f2 := (show 0 < ilines from z_nle hzlines rfl c1)
    refine lv_iconst (v := 1) hx hb dX4_isThere_7 (by decide) ?_
    refine lv_goto (tgt := 12) hx hb dX4_isThere_8 (by decide) ?_
    exact W.zret (v := 1) hx hb hr rfl (fun t ht hW => ⟨⟨1, (), rfl, Or.inl ⟨rfl, by omega⟩, trivial⟩, hS.F ht⟩) hS.2.2 dX4_isThere_12
def v_X4_hasSet : List Cond := .code yX4_hasSet cX4_hasSet 2 (some .boolean) :: (([.fieldLink RX4 50 "CardsAtYule$Land" "people" "I"] : List Cond) ++ (wsX40 ++ ([] : List Cond)))
theorem good_v_X4_hasSet : v_X4_hasSet.all goodWord = true := ga_c (by decide +kernel) (ga_a (by decide +kernel) (ga_a good_wsX40 rfl))
set_option maxHeartbeats 4000000 in
set_option maxRecDepth 100000 in
theorem k_X4_hasSet (l : Launch) (g : va_G) (cI cJ cB cZ cL : ClassId) (ld : Nat) (l1 : Nat) (l2 : Nat) (l3 : Nat) (l4 : Nat) (l5 : Nat) (l6 : Nat) (l7 : Nat) (l8 : Nat) (p0 : Int32) (ip0 : Int) (sz : Nat) (hzp0 : p0.toInt = ip0) : Met l yX4_hasSet v_X4_hasSet ({ frames := 0, cells := 0, slots := 0, locals := 0 }) (va_Pc [.ref ld, .int p0] (pRO g (tyT cI cJ cB cZ cL) [(ld, .inr (4, [.int 0, .int 0, .int 0, .int 0, .int 0, .int 0, .long 0, .ref l1, .ref l2, .ref l3, .ref l4, .ref l5, .ref l6, .ref l7, .ref l8]))] sz)) (va_Qi (fun (r : Int32) (u : Unit) => r = 0) (fun (_ : Unit) (_ : State) => True) (va_A [] sz)) 0 0 (va_A [] sz) := by
  refine Met.ofW (cc := cX4_hasSet) (maxL := 2) (ret := (some .boolean)) (by decide) rfl ?_
  intro p e s m args below meth c s₁ B hml hv
  obtain ⟨rfl, hsz, hP, hK⟩ := hv
  have hx := B.exec
  have hb := B.bytes
  have hr := B.returns
  have hts := atoms_spec (ws := v_X4_hasSet) B.pre
  have hown : s.vm.findClass RX4 = some m.cls := findClass_of_methodNamed B.named
  have hlocks := B.notSynchronized
  subst hsz
  have iX4 : ∀ w ∈ wsX40, w ∈ v_X4_hasSet := (fun _ h => List.mem_cons_of_mem _ (List.mem_append_right _ (List.mem_append_left _ h)))
  generalize hAe : (va_A [] s.heap.size) = A
  have hA : ∀ q : Nat, s.heap.size ≤ q → A q := fun q h => by rw [← hAe]; exact Or.inr h
  have hS : va_S A s.heap s.heap [] := va_S.rf
  have hl := lv_entry ([.ref ld, .int p0]) (n := 2) (Nat.le_of_ble_eq_true rfl)
  rw [lg_entry_eq]
  generalize (lg_sl ([.ref ld, .int p0]) ++ List.replicate (2 - (lg_sl ([.ref ld, .int p0])).length) Slot.unset).toArray = ls at hl ⊢
  have hl : lv_has ls 2 [(0, .ref ld), (1, .int p0)] := hl
  have hP : va_P g vwCl [(ld, .inr (4, [.int 0, .int 0, .int 0, .int 0, .int 0, .int 0, .long 0, .ref l1, .ref l2, .ref l3, .ref l4, .ref l5, .ref l6, .ref l7, .ref l8]))] s.heap := hP
  refine lv_iload_n hx hb dX4_hasSet_0 rfl (lv_at hl 1 rfl) ?_
  refine lv_if_le (tgt := 18) hx hb dX4_hasSet_1 (by decide) (fun c1 => ?_) (fun c1 => ?_)
  · have f2 := (show ip0 ≤ 0 from z_le hzp0 rfl c1)
    refine lv_iconst (v := 0) hx hb dX4_hasSet_18 (by decide) ?_
    exact W.zret (v := 0) hx hb hr rfl (fun t ht hW => ⟨⟨0, (), rfl, rfl, trivial⟩, hS.F ht⟩) hS.2.2 dX4_hasSet_19
  · have f2 := (show 0 < ip0 from z_nle hzp0 rfl c1)
    refine lv_iload_n hx hb dX4_hasSet_4 rfl (lv_at hl 1 rfl) ?_
    refine lv_iconst (v := 1) hx hb dX4_hasSet_5 (by decide) ?_
    refine lv_aload_n hx hb dX4_hasSet_6 rfl (lv_at hl 0 rfl) ?_
    refine va_get (D := g) (ci := 4) (v := .int 0) (C := RX4) (T := TX4) (N := 15) hx hb hts iX4 hown hK hP 0 rfl rfl 4 (by decide) (hts (.fieldLink RX4 50 "CardsAtYule$Land" "people" "I") (List.mem_cons_of_mem _ (List.mem_append_left _ (List.mem_of_getElem? (i := 0) rfl)))) (fun _ h9 => h9) rfl dX4_hasSet_7 ?_
    refine lv_ishl hx hb dX4_hasSet_10 ?_
    refine lv_topi (nm_r (e' := 1) (by decide) ?_)
    refine lv_icmp_ge (tgt := 18) hx hb dX4_hasSet_11 (by decide) (fun c3 => ?_) (fun c3 => by exfalso; have f4 := (show ip0 < 1 from z_nle rfl hzp0 c3); omega)
    have f4 := (show 1 ≤ ip0 from z_le rfl hzp0 c3)
    refine lv_iconst (v := 0) hx hb dX4_hasSet_18 (by decide) ?_
    exact W.zret (v := 0) hx hb hr rfl (fun t ht hW => ⟨⟨0, (), rfl, rfl, trivial⟩, hS.F ht⟩) hS.2.2 dX4_hasSet_19
def v_X11_hasYearOf : List Cond := .code yX11_hasYearOf cX11_hasYearOf 4 (some .boolean) :: (([.fieldLink RX11 19 "CardsAtYule" "land" "LCardsAtYule$Land;", .methodLink RX11 135 yX4_hasPair, .instanceMethod yX4_hasPair, .selects RX4 yX4_hasPair yX4_hasPair, .initialized RX4] : List Cond) ++ (v_X4_hasPair ++ (wsX110 ++ ([] : List Cond))))
theorem good_v_X11_hasYearOf : v_X11_hasYearOf.all goodWord = true := ga_c (by decide +kernel) (ga_a (by decide +kernel) (ga_a good_v_X4_hasPair (ga_a good_wsX110 rfl)))
set_option maxHeartbeats 4000000 in
set_option maxRecDepth 100000 in
theorem k_X11_hasYearOf (l : Launch) (g : va_G) (cI cJ cB cZ cL : ClassId) (x : Nat) (tp : Nat) (ld : Nat) (im : Nat) (bk : Nat) (co : Nat) (fa : Nat) (ch : Nat) (wi : Nat) (sl : Nat) (se : Nat) (dr : Nat) (l1 : Nat) (l2 : Nat) (l3 : Nat) (l4 : Nat) (l5 : Nat) (l6 : Nat) (l7 : Nat) (l8 : Nat) (p0 : Int32) (p1 : Int32) (p2 : Int32) (ip0 : Int) (ip1 : Int) (ip2 : Int) (sz : Nat) (hzp0 : p0.toInt = ip0) (hzp1 : p1.toInt = ip1) (hzp2 : p2.toInt = ip2) : Met l yX11_hasYearOf v_X11_hasYearOf ({ frames := 1, cells := 0, slots := 0, locals := 21 }) (va_Pc [.ref x, .int p0, .int p1, .int p2] (pRO g (tyT cI cJ cB cZ cL) [(x, .inr (10, [.ref tp, .ref ld, .ref im, .ref bk, .ref co, .ref fa, .ref ch, .ref wi, .ref sl, .ref se, .ref dr])), (ld, .inr (4, [.int 0, .int 0, .int 0, .int 0, .int 0, .int 0, .long 0, .ref l1, .ref l2, .ref l3, .ref l4, .ref l5, .ref l6, .ref l7, .ref l8]))] sz)) (va_Qi (fun (r : Int32) (u : Unit) => r = 0) (fun (_ : Unit) (_ : State) => True) (va_A [] sz)) 0 0 (va_A [] sz) := by
  refine Met.ofW (cc := cX11_hasYearOf) (maxL := 4) (ret := (some .boolean)) (by decide) rfl ?_
  intro p e s m args below meth c s₁ B hml hv
  obtain ⟨rfl, hsz, hP, hK⟩ := hv
  have hx := B.exec
  have hb := B.bytes
  have hr := B.returns
  have hts := atoms_spec (ws := v_X11_hasYearOf) B.pre
  have hown : s.vm.findClass RX11 = some m.cls := findClass_of_methodNamed B.named
  have hlocks := B.notSynchronized
  subst hsz
  have iX11 : ∀ w ∈ wsX110, w ∈ v_X11_hasYearOf := (fun _ h => List.mem_cons_of_mem _ (List.mem_append_right _ (List.mem_append_right _ (List.mem_append_left _ h))))
  generalize hAe : (va_A [] s.heap.size) = A
  have hA : ∀ q : Nat, s.heap.size ≤ q → A q := fun q h => by rw [← hAe]; exact Or.inr h
  have hS : va_S A s.heap s.heap [] := va_S.rf
  have hl := lv_entry ([.ref x, .int p0, .int p1, .int p2]) (n := 4) (Nat.le_of_ble_eq_true rfl)
  rw [lg_entry_eq]
  generalize (lg_sl ([.ref x, .int p0, .int p1, .int p2]) ++ List.replicate (4 - (lg_sl ([.ref x, .int p0, .int p1, .int p2])).length) Slot.unset).toArray = ls at hl ⊢
  have hl : lv_has ls 4 [(0, .ref x), (1, .int p0), (2, .int p1), (3, .int p2)] := hl
  have hP : va_P g vwCl [(x, .inr (10, [.ref tp, .ref ld, .ref im, .ref bk, .ref co, .ref fa, .ref ch, .ref wi, .ref sl, .ref se, .ref dr])), (ld, .inr (4, [.int 0, .int 0, .int 0, .int 0, .int 0, .int 0, .long 0, .ref l1, .ref l2, .ref l3, .ref l4, .ref l5, .ref l6, .ref l7, .ref l8]))] s.heap := hP
  refine lv_aload_n hx hb dX11_hasYearOf_0 rfl (lv_at hl 0 rfl) ?_
  refine va_get (D := g) (ci := 10) (v := .ref ld) (C := RX11) (T := TX11) (N := 11) hx hb hts iX11 hown hK hP 0 rfl rfl 1 (by decide) (hts (.fieldLink RX11 19 "CardsAtYule" "land" "LCardsAtYule$Land;") (List.mem_cons_of_mem _ (List.mem_append_left _ (List.mem_of_getElem? (i := 0) rfl)))) (fun _ h9 => h9) rfl dX11_hasYearOf_1 ?_
  refine lv_iload_n hx hb dX11_hasYearOf_4 rfl (lv_at hl 1 rfl) ?_
  refine ro_i (va_runV (As := [.int p0]) (rest := []) ⟨hx, hb, hml, hown, hts⟩ (k_X4_hasPair l g cI cJ cB cZ cL ld 0 0 0 0 0 0 0 l1 l2 l3 l4 l5 l6 l7 l8 0 p0 ip0 s.heap.size rfl hzp0) (cwV 1 hts (goodIn_app (g_4 (List.mem_cons_of_mem _ (List.mem_append_left _ (List.mem_of_getElem? (i := 1) rfl))) (List.mem_cons_of_mem _ (List.mem_append_left _ (List.mem_of_getElem? (i := 2) rfl))) (List.mem_cons_of_mem _ (List.mem_append_left _ (List.mem_of_getElem? (i := 3) rfl))) (List.mem_cons_of_mem _ (List.mem_append_left _ (List.mem_of_getElem? (i := 4) rfl))) (by decide +kernel)) (goodIn_sub (fun _ h => List.mem_cons_of_mem _ (List.mem_append_right _ (List.mem_append_left _ h))) good_v_X4_hasPair)) rfl rfl rfl (by decide +kernel) ⟨Nat.le_of_ble_eq_true rfl, Nat.le_of_ble_eq_true rfl⟩) (pv_RO (q := (RX4, TX4, 15)) (ci := 4) (q0 := 0) (wc := [(ld, .inr (4, [.int 0, .int 0, .int 0, .int 0, .int 0, .int 0, .long 0, .ref l1, .ref l2, .ref l3, .ref l4, .ref l5, .ref l6, .ref l7, .ref l8]))]) hK hP [1] rfl rfl rfl) rfl rfl hl.1 rfl (lv_room (Nat.le_of_ble_eq_true rfl)) dX11_hasYearOf_5 ⟨Nat.le_of_ble_eq_true rfl, Nat.le_of_ble_eq_true rfl⟩) hS hA hP (fun r1 u2 H locs hw3 hP hS => ?_)
  rcases hw3 with ⟨rfl, hw3_0, hw3_1⟩ | ⟨rfl, hw3_0⟩
  · omega
  · refine lv_if_eq (tgt := 33) hx hb dX11_hasYearOf_8 (by decide) (fun _ => ?_) (fun c4 => absurd c4 (by decide))
    refine lv_iconst (v := 0) hx hb dX11_hasYearOf_33 (by decide) ?_
    exact W.zret (v := 0) hx hb hr rfl (fun t ht hW => ⟨⟨0, (), rfl, rfl, trivial⟩, hS.F ht⟩) hS.2.2 dX11_hasYearOf_34
def v_X11_isChance : List Cond := .code yX11_isChance cX11_isChance 4 (some .boolean) :: (([.fieldLink RX11 19 "CardsAtYule" "land" "LCardsAtYule$Land;", .methodLink RX11 135 yX4_hasPair, .instanceMethod yX4_hasPair, .selects RX4 yX4_hasPair yX4_hasPair, .initialized RX4] : List Cond) ++ (v_X4_hasPair ++ (wsX110 ++ ([] : List Cond))))
theorem good_v_X11_isChance : v_X11_isChance.all goodWord = true := ga_c (by decide +kernel) (ga_a (by decide +kernel) (ga_a good_v_X4_hasPair (ga_a good_wsX110 rfl)))
set_option maxHeartbeats 4000000 in
set_option maxRecDepth 100000 in
theorem k_X11_isChance (l : Launch) (g : va_G) (cI cJ cB cZ cL : ClassId) (x : Nat) (tp : Nat) (ld : Nat) (im : Nat) (bk : Nat) (co : Nat) (fa : Nat) (ch : Nat) (wi : Nat) (sl : Nat) (se : Nat) (dr : Nat) (l1 : Nat) (l2 : Nat) (l3 : Nat) (l4 : Nat) (l5 : Nat) (l6 : Nat) (l7 : Nat) (l8 : Nat) (p0 : Int32) (p1 : Int32) (p2 : Int32) (ip0 : Int) (ip1 : Int) (ip2 : Int) (sz : Nat) (hzp0 : p0.toInt = ip0) (hzp1 : p1.toInt = ip1) (hzp2 : p2.toInt = ip2) : Met l yX11_isChance v_X11_isChance ({ frames := 1, cells := 0, slots := 0, locals := 21 }) (va_Pc [.ref x, .int p0, .int p1, .int p2] (pRO g (tyT cI cJ cB cZ cL) [(x, .inr (10, [.ref tp, .ref ld, .ref im, .ref bk, .ref co, .ref fa, .ref ch, .ref wi, .ref sl, .ref se, .ref dr])), (ld, .inr (4, [.int 0, .int 0, .int 0, .int 0, .int 0, .int 0, .long 0, .ref l1, .ref l2, .ref l3, .ref l4, .ref l5, .ref l6, .ref l7, .ref l8]))] sz)) (va_Qi (fun (r : Int32) (u : Unit) => r = 0) (fun (_ : Unit) (_ : State) => True) (va_A [] sz)) 0 0 (va_A [] sz) := by
  refine Met.ofW (cc := cX11_isChance) (maxL := 4) (ret := (some .boolean)) (by decide) rfl ?_
  intro p e s m args below meth c s₁ B hml hv
  obtain ⟨rfl, hsz, hP, hK⟩ := hv
  have hx := B.exec
  have hb := B.bytes
  have hr := B.returns
  have hts := atoms_spec (ws := v_X11_isChance) B.pre
  have hown : s.vm.findClass RX11 = some m.cls := findClass_of_methodNamed B.named
  have hlocks := B.notSynchronized
  subst hsz
  have iX11 : ∀ w ∈ wsX110, w ∈ v_X11_isChance := (fun _ h => List.mem_cons_of_mem _ (List.mem_append_right _ (List.mem_append_right _ (List.mem_append_left _ h))))
  generalize hAe : (va_A [] s.heap.size) = A
  have hA : ∀ q : Nat, s.heap.size ≤ q → A q := fun q h => by rw [← hAe]; exact Or.inr h
  have hS : va_S A s.heap s.heap [] := va_S.rf
  have hl := lv_entry ([.ref x, .int p0, .int p1, .int p2]) (n := 4) (Nat.le_of_ble_eq_true rfl)
  rw [lg_entry_eq]
  generalize (lg_sl ([.ref x, .int p0, .int p1, .int p2]) ++ List.replicate (4 - (lg_sl ([.ref x, .int p0, .int p1, .int p2])).length) Slot.unset).toArray = ls at hl ⊢
  have hl : lv_has ls 4 [(0, .ref x), (1, .int p0), (2, .int p1), (3, .int p2)] := hl
  have hP : va_P g vwCl [(x, .inr (10, [.ref tp, .ref ld, .ref im, .ref bk, .ref co, .ref fa, .ref ch, .ref wi, .ref sl, .ref se, .ref dr])), (ld, .inr (4, [.int 0, .int 0, .int 0, .int 0, .int 0, .int 0, .long 0, .ref l1, .ref l2, .ref l3, .ref l4, .ref l5, .ref l6, .ref l7, .ref l8]))] s.heap := hP
  refine lv_aload_n hx hb dX11_isChance_0 rfl (lv_at hl 0 rfl) ?_
  refine va_get (D := g) (ci := 10) (v := .ref ld) (C := RX11) (T := TX11) (N := 11) hx hb hts iX11 hown hK hP 0 rfl rfl 1 (by decide) (hts (.fieldLink RX11 19 "CardsAtYule" "land" "LCardsAtYule$Land;") (List.mem_cons_of_mem _ (List.mem_append_left _ (List.mem_of_getElem? (i := 0) rfl)))) (fun _ h9 => h9) rfl dX11_isChance_1 ?_
  refine lv_iload_n hx hb dX11_isChance_4 rfl (lv_at hl 1 rfl) ?_
  refine ro_i (va_runV (As := [.int p0]) (rest := []) ⟨hx, hb, hml, hown, hts⟩ (k_X4_hasPair l g cI cJ cB cZ cL ld 0 0 0 0 0 0 0 l1 l2 l3 l4 l5 l6 l7 l8 0 p0 ip0 s.heap.size rfl hzp0) (cwV 1 hts (goodIn_app (g_4 (List.mem_cons_of_mem _ (List.mem_append_left _ (List.mem_of_getElem? (i := 1) rfl))) (List.mem_cons_of_mem _ (List.mem_append_left _ (List.mem_of_getElem? (i := 2) rfl))) (List.mem_cons_of_mem _ (List.mem_append_left _ (List.mem_of_getElem? (i := 3) rfl))) (List.mem_cons_of_mem _ (List.mem_append_left _ (List.mem_of_getElem? (i := 4) rfl))) (by decide +kernel)) (goodIn_sub (fun _ h => List.mem_cons_of_mem _ (List.mem_append_right _ (List.mem_append_left _ h))) good_v_X4_hasPair)) rfl rfl rfl (by decide +kernel) ⟨Nat.le_of_ble_eq_true rfl, Nat.le_of_ble_eq_true rfl⟩) (pv_RO (q := (RX4, TX4, 15)) (ci := 4) (q0 := 0) (wc := [(ld, .inr (4, [.int 0, .int 0, .int 0, .int 0, .int 0, .int 0, .long 0, .ref l1, .ref l2, .ref l3, .ref l4, .ref l5, .ref l6, .ref l7, .ref l8]))]) hK hP [1] rfl rfl rfl) rfl rfl hl.1 rfl (lv_room (Nat.le_of_ble_eq_true rfl)) dX11_isChance_5 ⟨Nat.le_of_ble_eq_true rfl, Nat.le_of_ble_eq_true rfl⟩) hS hA hP (fun r1 u2 H locs hw3 hP hS => ?_)
  rcases hw3 with ⟨rfl, hw3_0, hw3_1⟩ | ⟨rfl, hw3_0⟩
  · omega
  · refine lv_if_eq (tgt := 32) hx hb dX11_isChance_8 (by decide) (fun _ => ?_) (fun c4 => absurd c4 (by decide))
    refine lv_iconst (v := 0) hx hb dX11_isChance_32 (by decide) ?_
    exact W.zret (v := 0) hx hb hr rfl (fun t ht hW => ⟨⟨0, (), rfl, rfl, trivial⟩, hS.F ht⟩) hS.2.2 dX11_isChance_33
def v_X11_isWill : List Cond := .code yX11_isWill cX11_isWill 4 (some .boolean) :: (([.fieldLink RX11 19 "CardsAtYule" "land" "LCardsAtYule$Land;", .methodLink RX11 135 yX4_hasPair, .instanceMethod yX4_hasPair, .selects RX4 yX4_hasPair yX4_hasPair, .initialized RX4] : List Cond) ++ (v_X4_hasPair ++ (wsX110 ++ ([] : List Cond))))
theorem good_v_X11_isWill : v_X11_isWill.all goodWord = true := ga_c (by decide +kernel) (ga_a (by decide +kernel) (ga_a good_v_X4_hasPair (ga_a good_wsX110 rfl)))
set_option maxHeartbeats 4000000 in
set_option maxRecDepth 100000 in
theorem k_X11_isWill (l : Launch) (g : va_G) (cI cJ cB cZ cL : ClassId) (x : Nat) (tp : Nat) (ld : Nat) (im : Nat) (bk : Nat) (co : Nat) (fa : Nat) (ch : Nat) (wi : Nat) (sl : Nat) (se : Nat) (dr : Nat) (l1 : Nat) (l2 : Nat) (l3 : Nat) (l4 : Nat) (l5 : Nat) (l6 : Nat) (l7 : Nat) (l8 : Nat) (p0 : Int32) (p1 : Int32) (p2 : Int32) (ip0 : Int) (ip1 : Int) (ip2 : Int) (sz : Nat) (hzp0 : p0.toInt = ip0) (hzp1 : p1.toInt = ip1) (hzp2 : p2.toInt = ip2) : Met l yX11_isWill v_X11_isWill ({ frames := 1, cells := 0, slots := 0, locals := 21 }) (va_Pc [.ref x, .int p0, .int p1, .int p2] (pRO g (tyT cI cJ cB cZ cL) [(x, .inr (10, [.ref tp, .ref ld, .ref im, .ref bk, .ref co, .ref fa, .ref ch, .ref wi, .ref sl, .ref se, .ref dr])), (ld, .inr (4, [.int 0, .int 0, .int 0, .int 0, .int 0, .int 0, .long 0, .ref l1, .ref l2, .ref l3, .ref l4, .ref l5, .ref l6, .ref l7, .ref l8]))] sz)) (va_Qi (fun (r : Int32) (u : Unit) => r = 0) (fun (_ : Unit) (_ : State) => True) (va_A [] sz)) 0 0 (va_A [] sz) := by
  refine Met.ofW (cc := cX11_isWill) (maxL := 4) (ret := (some .boolean)) (by decide) rfl ?_
  intro p e s m args below meth c s₁ B hml hv
  obtain ⟨rfl, hsz, hP, hK⟩ := hv
  have hx := B.exec
  have hb := B.bytes
  have hr := B.returns
  have hts := atoms_spec (ws := v_X11_isWill) B.pre
  have hown : s.vm.findClass RX11 = some m.cls := findClass_of_methodNamed B.named
  have hlocks := B.notSynchronized
  subst hsz
  have iX11 : ∀ w ∈ wsX110, w ∈ v_X11_isWill := (fun _ h => List.mem_cons_of_mem _ (List.mem_append_right _ (List.mem_append_right _ (List.mem_append_left _ h))))
  generalize hAe : (va_A [] s.heap.size) = A
  have hA : ∀ q : Nat, s.heap.size ≤ q → A q := fun q h => by rw [← hAe]; exact Or.inr h
  have hS : va_S A s.heap s.heap [] := va_S.rf
  have hl := lv_entry ([.ref x, .int p0, .int p1, .int p2]) (n := 4) (Nat.le_of_ble_eq_true rfl)
  rw [lg_entry_eq]
  generalize (lg_sl ([.ref x, .int p0, .int p1, .int p2]) ++ List.replicate (4 - (lg_sl ([.ref x, .int p0, .int p1, .int p2])).length) Slot.unset).toArray = ls at hl ⊢
  have hl : lv_has ls 4 [(0, .ref x), (1, .int p0), (2, .int p1), (3, .int p2)] := hl
  have hP : va_P g vwCl [(x, .inr (10, [.ref tp, .ref ld, .ref im, .ref bk, .ref co, .ref fa, .ref ch, .ref wi, .ref sl, .ref se, .ref dr])), (ld, .inr (4, [.int 0, .int 0, .int 0, .int 0, .int 0, .int 0, .long 0, .ref l1, .ref l2, .ref l3, .ref l4, .ref l5, .ref l6, .ref l7, .ref l8]))] s.heap := hP
  refine lv_aload_n hx hb dX11_isWill_0 rfl (lv_at hl 0 rfl) ?_
  refine va_get (D := g) (ci := 10) (v := .ref ld) (C := RX11) (T := TX11) (N := 11) hx hb hts iX11 hown hK hP 0 rfl rfl 1 (by decide) (hts (.fieldLink RX11 19 "CardsAtYule" "land" "LCardsAtYule$Land;") (List.mem_cons_of_mem _ (List.mem_append_left _ (List.mem_of_getElem? (i := 0) rfl)))) (fun _ h9 => h9) rfl dX11_isWill_1 ?_
  refine lv_iload_n hx hb dX11_isWill_4 rfl (lv_at hl 1 rfl) ?_
  refine ro_i (va_runV (As := [.int p0]) (rest := []) ⟨hx, hb, hml, hown, hts⟩ (k_X4_hasPair l g cI cJ cB cZ cL ld 0 0 0 0 0 0 0 l1 l2 l3 l4 l5 l6 l7 l8 0 p0 ip0 s.heap.size rfl hzp0) (cwV 1 hts (goodIn_app (g_4 (List.mem_cons_of_mem _ (List.mem_append_left _ (List.mem_of_getElem? (i := 1) rfl))) (List.mem_cons_of_mem _ (List.mem_append_left _ (List.mem_of_getElem? (i := 2) rfl))) (List.mem_cons_of_mem _ (List.mem_append_left _ (List.mem_of_getElem? (i := 3) rfl))) (List.mem_cons_of_mem _ (List.mem_append_left _ (List.mem_of_getElem? (i := 4) rfl))) (by decide +kernel)) (goodIn_sub (fun _ h => List.mem_cons_of_mem _ (List.mem_append_right _ (List.mem_append_left _ h))) good_v_X4_hasPair)) rfl rfl rfl (by decide +kernel) ⟨Nat.le_of_ble_eq_true rfl, Nat.le_of_ble_eq_true rfl⟩) (pv_RO (q := (RX4, TX4, 15)) (ci := 4) (q0 := 0) (wc := [(ld, .inr (4, [.int 0, .int 0, .int 0, .int 0, .int 0, .int 0, .long 0, .ref l1, .ref l2, .ref l3, .ref l4, .ref l5, .ref l6, .ref l7, .ref l8]))]) hK hP [1] rfl rfl rfl) rfl rfl hl.1 rfl (lv_room (Nat.le_of_ble_eq_true rfl)) dX11_isWill_5 ⟨Nat.le_of_ble_eq_true rfl, Nat.le_of_ble_eq_true rfl⟩) hS hA hP (fun r1 u2 H locs hw3 hP hS => ?_)
  rcases hw3 with ⟨rfl, hw3_0, hw3_1⟩ | ⟨rfl, hw3_0⟩
  · omega
  · refine lv_if_eq (tgt := 33) hx hb dX11_isWill_8 (by decide) (fun _ => ?_) (fun c4 => absurd c4 (by decide))
    refine lv_iconst (v := 0) hx hb dX11_isWill_33 (by decide) ?_
    exact W.zret (v := 0) hx hb hr rfl (fun t ht hW => ⟨⟨0, (), rfl, rfl, trivial⟩, hS.F ht⟩) hS.2.2 dX11_isWill_34
def v_X11_readSeen : List Cond := .code yX11_readSeen cX11_readSeen 3 (some .int) :: (([.methodLink RX11 148 yX11_isBelow, .static yX11_isBelow, .initialized RX11, .fieldLink RX11 19 "CardsAtYule" "land" "LCardsAtYule$Land;", .methodLink RX11 135 yX4_hasPair, .instanceMethod yX4_hasPair, .selects RX4 yX4_hasPair yX4_hasPair, .initialized RX4] : List Cond) ++ (v_X11_isBelow ++ (v_X4_hasPair ++ (wsX110 ++ ([] : List Cond)))))
theorem good_v_X11_readSeen : v_X11_readSeen.all goodWord = true := ga_c (by decide +kernel) (ga_a (by decide +kernel) (ga_a good_v_X11_isBelow (ga_a good_v_X4_hasPair (ga_a good_wsX110 rfl))))
set_option maxHeartbeats 4000000 in
set_option maxRecDepth 100000 in
theorem k_X11_readSeen (l : Launch) (g : va_G) (cI cJ cB cZ cL : ClassId) (x : Nat) (tp : Nat) (ld : Nat) (im : Nat) (bk : Nat) (co : Nat) (fa : Nat) (ch : Nat) (wi : Nat) (sl : Nat) (se : Nat) (dr : Nat) (l1 : Nat) (l2 : Nat) (l3 : Nat) (l4 : Nat) (l5 : Nat) (l6 : Nat) (l7 : Nat) (l8 : Nat) (p0 : Int32) (p1 : Int32) (ip0 : Int) (ip1 : Int) (sz : Nat) (hzp0 : p0.toInt = ip0) (hzp1 : p1.toInt = ip1) : Met l yX11_readSeen v_X11_readSeen ({ frames := 1, cells := 0, slots := 0, locals := 21 }) (va_Pc [.ref x, .int p0, .int p1] (pRO g (tyT cI cJ cB cZ cL) [(x, .inr (10, [.ref tp, .ref ld, .ref im, .ref bk, .ref co, .ref fa, .ref ch, .ref wi, .ref sl, .ref se, .ref dr])), (ld, .inr (4, [.int 0, .int 0, .int 0, .int 0, .int 0, .int 0, .long 0, .ref l1, .ref l2, .ref l3, .ref l4, .ref l5, .ref l6, .ref l7, .ref l8]))] sz)) (va_Qi (fun (r : Int32) (u : Unit) => r = (-2)) (fun (_ : Unit) (_ : State) => True) (va_A [] sz)) 0 0 (va_A [] sz) := by
  refine Met.ofW (cc := cX11_readSeen) (maxL := 3) (ret := (some .int)) (by decide) rfl ?_
  intro p e s m args below meth c s₁ B hml hv
  obtain ⟨rfl, hsz, hP, hK⟩ := hv
  have hx := B.exec
  have hb := B.bytes
  have hr := B.returns
  have hts := atoms_spec (ws := v_X11_readSeen) B.pre
  have hown : s.vm.findClass RX11 = some m.cls := findClass_of_methodNamed B.named
  have hlocks := B.notSynchronized
  subst hsz
  have iX11 : ∀ w ∈ wsX110, w ∈ v_X11_readSeen := (fun _ h => List.mem_cons_of_mem _ (List.mem_append_right _ (List.mem_append_right _ (List.mem_append_right _ (List.mem_append_left _ h)))))
  generalize hAe : (va_A [] s.heap.size) = A
  have hA : ∀ q : Nat, s.heap.size ≤ q → A q := fun q h => by rw [← hAe]; exact Or.inr h
  have hS : va_S A s.heap s.heap [] := va_S.rf
  have hl := lv_entry ([.ref x, .int p0, .int p1]) (n := 3) (Nat.le_of_ble_eq_true rfl)
  rw [lg_entry_eq]
  generalize (lg_sl ([.ref x, .int p0, .int p1]) ++ List.replicate (3 - (lg_sl ([.ref x, .int p0, .int p1])).length) Slot.unset).toArray = ls at hl ⊢
  have hl : lv_has ls 3 [(0, .ref x), (1, .int p0), (2, .int p1)] := hl
  have hP : va_P g vwCl [(x, .inr (10, [.ref tp, .ref ld, .ref im, .ref bk, .ref co, .ref fa, .ref ch, .ref wi, .ref sl, .ref se, .ref dr])), (ld, .inr (4, [.int 0, .int 0, .int 0, .int 0, .int 0, .int 0, .long 0, .ref l1, .ref l2, .ref l3, .ref l4, .ref l5, .ref l6, .ref l7, .ref l8]))] s.heap := hP
  refine lv_iload_n hx hb dX11_readSeen_0 rfl (lv_at hl 1 rfl) ?_
  refine lv_iconst (v := 4) hx hb dX11_readSeen_1 (by decide) ?_
  refine ro_i (va_runS (As := [.int p0, .int 4]) (rest := []) ⟨hx, hb, hml, hown, hts⟩ (k_X11_isBelow l g cI cJ cB cZ cL p0 4 ip0 4 s.heap.size hzp0 rfl) (va_cwS 2 hts (goodIn_app (g_3 (List.mem_cons_of_mem _ (List.mem_append_left _ (List.mem_of_getElem? (i := 0) rfl))) (List.mem_cons_of_mem _ (List.mem_append_left _ (List.mem_of_getElem? (i := 1) rfl))) (List.mem_cons_of_mem _ (List.mem_append_left _ (List.mem_of_getElem? (i := 2) rfl))) (by decide +kernel)) (goodIn_sub (fun _ h => List.mem_cons_of_mem _ (List.mem_append_right _ (List.mem_append_left _ h))) good_v_X11_isBelow)) rfl rfl rfl (by decide +kernel) ⟨Nat.le_of_ble_eq_true rfl, Nat.le_of_ble_eq_true rfl⟩) (ps_RO (wc := []) hK hP [] rfl) rfl rfl hl.1 rfl (lv_room (Nat.le_of_ble_eq_true rfl)) dX11_readSeen_2 ⟨Nat.le_of_ble_eq_true rfl, Nat.le_of_ble_eq_true rfl⟩) hS hA hP (fun r1 u2 H locs hw3 hP hS => ?_)
  rcases hw3 with ⟨rfl, hw3_0, hw3_1⟩ | ⟨rfl, hw3_0⟩
  · refine lv_if_eq (tgt := 19) hx hb dX11_readSeen_5 (by decide) (fun c4 => absurd c4 (by decide)) (fun _ => ?_)
    refine lv_aload_n hx hb dX11_readSeen_8 rfl (lv_at hl 0 rfl) ?_
    refine va_get (D := g) (ci := 10) (v := .ref ld) (C := RX11) (T := TX11) (N := 11) hx hb hts iX11 hown hK hP 0 rfl rfl 1 (by decide) (hts (.fieldLink RX11 19 "CardsAtYule" "land" "LCardsAtYule$Land;") (List.mem_cons_of_mem _ (List.mem_append_left _ (List.mem_of_getElem? (i := 3) rfl)))) (fun _ h9 => h9) rfl dX11_readSeen_9 ?_
    refine lv_iload_n hx hb dX11_readSeen_12 rfl (lv_at hl 2 rfl) ?_
    refine ro_i (va_runV (As := [.int p1]) (rest := []) ⟨hx, hb, hml, hown, hts⟩ (k_X4_hasPair l g cI cJ cB cZ cL ld 0 0 0 0 0 0 0 l1 l2 l3 l4 l5 l6 l7 l8 0 p1 ip1 H.size rfl hzp1) (cwV 1 hts (goodIn_app (g_4 (List.mem_cons_of_mem _ (List.mem_append_left _ (List.mem_of_getElem? (i := 4) rfl))) (List.mem_cons_of_mem _ (List.mem_append_left _ (List.mem_of_getElem? (i := 5) rfl))) (List.mem_cons_of_mem _ (List.mem_append_left _ (List.mem_of_getElem? (i := 6) rfl))) (List.mem_cons_of_mem _ (List.mem_append_left _ (List.mem_of_getElem? (i := 7) rfl))) (by decide +kernel)) (goodIn_sub (fun _ h => List.mem_cons_of_mem _ (List.mem_append_right _ (List.mem_append_right _ (List.mem_append_left _ h)))) good_v_X4_hasPair)) rfl rfl rfl (by decide +kernel) ⟨Nat.le_of_ble_eq_true rfl, Nat.le_of_ble_eq_true rfl⟩) (pv_RO (q := (RX4, TX4, 15)) (ci := 4) (q0 := 0) (wc := [(ld, .inr (4, [.int 0, .int 0, .int 0, .int 0, .int 0, .int 0, .long 0, .ref l1, .ref l2, .ref l3, .ref l4, .ref l5, .ref l6, .ref l7, .ref l8]))]) hK hP [1] rfl rfl rfl) rfl rfl hl.1 rfl (lv_room (Nat.le_of_ble_eq_true rfl)) dX11_readSeen_13 ⟨Nat.le_of_ble_eq_true rfl, Nat.le_of_ble_eq_true rfl⟩) hS hA hP (fun r5 u6 H locs hw7 hP hS => ?_)
    rcases hw7 with ⟨rfl, hw7_0, hw7_1⟩ | ⟨rfl, hw7_0⟩
    · omega
    · refine lv_if_ne (tgt := 22) hx hb dX11_readSeen_16 (by decide) (fun c8 => absurd c8 (by decide)) (fun _ => ?_)
      refine lv_bipush (v := (-2)) hx hb dX11_readSeen_19 (by decide) ?_
      exact W.iret (v := (-2)) hx hb hr (fun t ht hW => ⟨⟨(-2), (), rfl, rfl, trivial⟩, hS.F ht⟩) hS.2.2 dX11_readSeen_21
  · refine lv_if_eq (tgt := 19) hx hb dX11_readSeen_5 (by decide) (fun _ => ?_) (fun c9 => absurd c9 (by decide))
    refine lv_bipush (v := (-2)) hx hb dX11_readSeen_19 (by decide) ?_
    exact W.iret (v := (-2)) hx hb hr (fun t ht hW => ⟨⟨(-2), (), rfl, rfl, trivial⟩, hS.F ht⟩) hS.2.2 dX11_readSeen_21
