def v_X11_person : List Cond := .code yX11_person cX11_person 3 (some .int) :: (([.fieldLink RX11 19 "CardsAtYule" "land" "LCardsAtYule$Land;", .methodLink RX11 115 yX4_hasPerson, .instanceMethod yX4_hasPerson, .selects RX4 yX4_hasPerson yX4_hasPerson, .initialized RX4] : List Cond) ++ (v_X4_hasPerson ++ (wsX110 ++ ([] : List Cond))))
theorem good_v_X11_person : v_X11_person.all goodWord = true := ga_c (by decide +kernel) (ga_a (by decide +kernel) (ga_a good_v_X4_hasPerson (ga_a good_wsX110 rfl)))
set_option maxHeartbeats 4000000 in
set_option maxRecDepth 100000 in
theorem k_X11_person (l : Launch) (g : va_G) (cI cJ cB cZ cL : ClassId) (x : Nat) (tp : Nat) (ld : Nat) (im : Nat) (bk : Nat) (co : Nat) (fa : Nat) (ch : Nat) (wi : Nat) (sl : Nat) (se : Nat) (dr : Nat) (l1 : Nat) (l2 : Nat) (l3 : Nat) (l4 : Nat) (l5 : Nat) (l6 : Nat) (l7 : Nat) (l8 : Nat) (p0 : Int32) (p1 : Int32) (ip0 : Int) (ip1 : Int) (sz : Nat) (hzp0 : p0.toInt = ip0) (hzp1 : p1.toInt = ip1) : Met l yX11_person v_X11_person ({ frames := 1, cells := 0, slots := 0, locals := 21 }) (va_Pc [.ref x, .int p0, .int p1] (pRO g (tyT cI cJ cB cZ cL) [(x, .inr (10, [.ref tp, .ref ld, .ref im, .ref bk, .ref co, .ref fa, .ref ch, .ref wi, .ref sl, .ref se, .ref dr])), (ld, .inr (4, [.int 0, .int 0, .int 0, .int 0, .int 0, .int 0, .long 0, .ref l1, .ref l2, .ref l3, .ref l4, .ref l5, .ref l6, .ref l7, .ref l8]))] sz)) (va_Qi (fun (r : Int32) (u : Unit) => r = (-2)) (fun (_ : Unit) (_ : State) => True) (va_A [] sz)) 0 0 (va_A [] sz) := by
  refine Met.ofW (cc := cX11_person) (maxL := 3) (ret := (some .int)) (by decide) rfl ?_
  intro p e s m args below meth c s₁ B hml hv
  obtain ⟨rfl, hsz, hP, hK⟩ := hv
  have hx := B.exec
  have hb := B.bytes
  have hr := B.returns
  have hts := atoms_spec (ws := v_X11_person) B.pre
  have hown : s.vm.findClass RX11 = some m.cls := findClass_of_methodNamed B.named
  have hlocks := B.notSynchronized
  subst hsz
  have iX11 : ∀ w ∈ wsX110, w ∈ v_X11_person := (fun _ h => List.mem_cons_of_mem _ (List.mem_append_right _ (List.mem_append_right _ (List.mem_append_left _ h))))
  generalize hAe : (va_A [] s.heap.size) = A
  have hA : ∀ q : Nat, s.heap.size ≤ q → A q := fun q h => by rw [← hAe]; exact Or.inr h
  have hS : va_S A s.heap s.heap [] := va_S.rf
  have hl := lv_entry ([.ref x, .int p0, .int p1]) (n := 3) (Nat.le_of_ble_eq_true rfl)
  rw [lg_entry_eq]
  generalize (lg_sl ([.ref x, .int p0, .int p1]) ++ List.replicate (3 - (lg_sl ([.ref x, .int p0, .int p1])).length) Slot.unset).toArray = ls at hl ⊢
  have hl : lv_has ls 3 [(0, .ref x), (1, .int p0), (2, .int p1)] := hl
  have hP : va_P g vwCl [(x, .inr (10, [.ref tp, .ref ld, .ref im, .ref bk, .ref co, .ref fa, .ref ch, .ref wi, .ref sl, .ref se, .ref dr])), (ld, .inr (4, [.int 0, .int 0, .int 0, .int 0, .int 0, .int 0, .long 0, .ref l1, .ref l2, .ref l3, .ref l4, .ref l5, .ref l6, .ref l7, .ref l8]))] s.heap := hP
  refine lv_aload_n hx hb dX11_person_0 rfl (lv_at hl 0 rfl) ?_
  refine va_get (D := g) (ci := 10) (v := .ref ld) (C := RX11) (T := TX11) (N := 11) hx hb hts iX11 hown hK hP 0 rfl rfl 1 (by decide) (hts (.fieldLink RX11 19 "CardsAtYule" "land" "LCardsAtYule$Land;") (List.mem_cons_of_mem _ (List.mem_append_left _ (List.mem_of_getElem? (i := 0) rfl)))) (fun _ h9 => h9) rfl dX11_person_1 ?_
  refine lv_iload_n hx hb dX11_person_4 rfl (lv_at hl 1 rfl) ?_
  refine ro_i (va_runV (As := [.int p0]) (rest := []) ⟨hx, hb, hml, hown, hts⟩ (k_X4_hasPerson l g cI cJ cB cZ cL ld 0 0 0 0 0 0 0 l1 l2 l3 l4 l5 l6 l7 l8 0 p0 ip0 s.heap.size rfl hzp0) (cwV 1 hts (goodIn_app (g_4 (List.mem_cons_of_mem _ (List.mem_append_left _ (List.mem_of_getElem? (i := 1) rfl))) (List.mem_cons_of_mem _ (List.mem_append_left _ (List.mem_of_getElem? (i := 2) rfl))) (List.mem_cons_of_mem _ (List.mem_append_left _ (List.mem_of_getElem? (i := 3) rfl))) (List.mem_cons_of_mem _ (List.mem_append_left _ (List.mem_of_getElem? (i := 4) rfl))) (by decide +kernel)) (goodIn_sub (fun _ h => List.mem_cons_of_mem _ (List.mem_append_right _ (List.mem_append_left _ h))) good_v_X4_hasPerson)) rfl rfl rfl (by decide +kernel) ⟨Nat.le_of_ble_eq_true rfl, Nat.le_of_ble_eq_true rfl⟩) (pv_RO (q := (RX4, TX4, 15)) (ci := 4) (q0 := 0) (wc := [(ld, .inr (4, [.int 0, .int 0, .int 0, .int 0, .int 0, .int 0, .long 0, .ref l1, .ref l2, .ref l3, .ref l4, .ref l5, .ref l6, .ref l7, .ref l8]))]) hK hP [1] rfl rfl rfl) rfl rfl hl.1 rfl (lv_room (Nat.le_of_ble_eq_true rfl)) dX11_person_5 ⟨Nat.le_of_ble_eq_true rfl, Nat.le_of_ble_eq_true rfl⟩) hS hA hP (fun r1 u2 H locs hw3 hP hS => ?_)
  rcases hw3 with ⟨rfl, hw3_0, hw3_1⟩ | ⟨rfl, hw3_0⟩
  · omega
  · refine lv_if_ne (tgt := 14) hx hb dX11_person_8 (by decide) (fun c4 => absurd c4 (by decide)) (fun _ => ?_)
    refine lv_bipush (v := (-2)) hx hb dX11_person_11 (by decide) ?_
    exact W.iret (v := (-2)) hx hb hr (fun t ht hW => ⟨⟨(-2), (), rfl, rfl, trivial⟩, hS.F ht⟩) hS.2.2 dX11_person_13
def v_X11_pair : List Cond := .code yX11_pair cX11_pair 3 (some .int) :: (([.fieldLink RX11 19 "CardsAtYule" "land" "LCardsAtYule$Land;", .methodLink RX11 135 yX4_hasPair, .instanceMethod yX4_hasPair, .selects RX4 yX4_hasPair yX4_hasPair, .initialized RX4] : List Cond) ++ (v_X4_hasPair ++ (wsX110 ++ ([] : List Cond))))
theorem good_v_X11_pair : v_X11_pair.all goodWord = true := ga_c (by decide +kernel) (ga_a (by decide +kernel) (ga_a good_v_X4_hasPair (ga_a good_wsX110 rfl)))
set_option maxHeartbeats 4000000 in
set_option maxRecDepth 100000 in
theorem k_X11_pair (l : Launch) (g : va_G) (cI cJ cB cZ cL : ClassId) (x : Nat) (tp : Nat) (ld : Nat) (im : Nat) (bk : Nat) (co : Nat) (fa : Nat) (ch : Nat) (wi : Nat) (sl : Nat) (se : Nat) (dr : Nat) (l1 : Nat) (l2 : Nat) (l3 : Nat) (l4 : Nat) (l5 : Nat) (l6 : Nat) (l7 : Nat) (l8 : Nat) (p0 : Int32) (p1 : Int32) (ip0 : Int) (ip1 : Int) (sz : Nat) (hzp0 : p0.toInt = ip0) (hzp1 : p1.toInt = ip1) : Met l yX11_pair v_X11_pair ({ frames := 1, cells := 0, slots := 0, locals := 21 }) (va_Pc [.ref x, .int p0, .int p1] (pRO g (tyT cI cJ cB cZ cL) [(x, .inr (10, [.ref tp, .ref ld, .ref im, .ref bk, .ref co, .ref fa, .ref ch, .ref wi, .ref sl, .ref se, .ref dr])), (ld, .inr (4, [.int 0, .int 0, .int 0, .int 0, .int 0, .int 0, .long 0, .ref l1, .ref l2, .ref l3, .ref l4, .ref l5, .ref l6, .ref l7, .ref l8]))] sz)) (va_Qi (fun (r : Int32) (u : Unit) => r = (-2)) (fun (_ : Unit) (_ : State) => True) (va_A [] sz)) 0 0 (va_A [] sz) := by
  refine Met.ofW (cc := cX11_pair) (maxL := 3) (ret := (some .int)) (by decide) rfl ?_
  intro p e s m args below meth c s₁ B hml hv
  obtain ⟨rfl, hsz, hP, hK⟩ := hv
  have hx := B.exec
  have hb := B.bytes
  have hr := B.returns
  have hts := atoms_spec (ws := v_X11_pair) B.pre
  have hown : s.vm.findClass RX11 = some m.cls := findClass_of_methodNamed B.named
  have hlocks := B.notSynchronized
  subst hsz
  have iX11 : ∀ w ∈ wsX110, w ∈ v_X11_pair := (fun _ h => List.mem_cons_of_mem _ (List.mem_append_right _ (List.mem_append_right _ (List.mem_append_left _ h))))
  generalize hAe : (va_A [] s.heap.size) = A
  have hA : ∀ q : Nat, s.heap.size ≤ q → A q := fun q h => by rw [← hAe]; exact Or.inr h
  have hS : va_S A s.heap s.heap [] := va_S.rf
  have hl := lv_entry ([.ref x, .int p0, .int p1]) (n := 3) (Nat.le_of_ble_eq_true rfl)
  rw [lg_entry_eq]
  generalize (lg_sl ([.ref x, .int p0, .int p1]) ++ List.replicate (3 - (lg_sl ([.ref x, .int p0, .int p1])).length) Slot.unset).toArray = ls at hl ⊢
  have hl : lv_has ls 3 [(0, .ref x), (1, .int p0), (2, .int p1)] := hl
  have hP : va_P g vwCl [(x, .inr (10, [.ref tp, .ref ld, .ref im, .ref bk, .ref co, .ref fa, .ref ch, .ref wi, .ref sl, .ref se, .ref dr])), (ld, .inr (4, [.int 0, .int 0, .int 0, .int 0, .int 0, .int 0, .long 0, .ref l1, .ref l2, .ref l3, .ref l4, .ref l5, .ref l6, .ref l7, .ref l8]))] s.heap := hP
  refine lv_aload_n hx hb dX11_pair_0 rfl (lv_at hl 0 rfl) ?_
  refine va_get (D := g) (ci := 10) (v := .ref ld) (C := RX11) (T := TX11) (N := 11) hx hb hts iX11 hown hK hP 0 rfl rfl 1 (by decide) (hts (.fieldLink RX11 19 "CardsAtYule" "land" "LCardsAtYule$Land;") (List.mem_cons_of_mem _ (List.mem_append_left _ (List.mem_of_getElem? (i := 0) rfl)))) (fun _ h9 => h9) rfl dX11_pair_1 ?_
  refine lv_iload_n hx hb dX11_pair_4 rfl (lv_at hl 1 rfl) ?_
  refine ro_i (va_runV (As := [.int p0]) (rest := []) ⟨hx, hb, hml, hown, hts⟩ (k_X4_hasPair l g cI cJ cB cZ cL ld 0 0 0 0 0 0 0 l1 l2 l3 l4 l5 l6 l7 l8 0 p0 ip0 s.heap.size rfl hzp0) (cwV 1 hts (goodIn_app (g_4 (List.mem_cons_of_mem _ (List.mem_append_left _ (List.mem_of_getElem? (i := 1) rfl))) (List.mem_cons_of_mem _ (List.mem_append_left _ (List.mem_of_getElem? (i := 2) rfl))) (List.mem_cons_of_mem _ (List.mem_append_left _ (List.mem_of_getElem? (i := 3) rfl))) (List.mem_cons_of_mem _ (List.mem_append_left _ (List.mem_of_getElem? (i := 4) rfl))) (by decide +kernel)) (goodIn_sub (fun _ h => List.mem_cons_of_mem _ (List.mem_append_right _ (List.mem_append_left _ h))) good_v_X4_hasPair)) rfl rfl rfl (by decide +kernel) ⟨Nat.le_of_ble_eq_true rfl, Nat.le_of_ble_eq_true rfl⟩) (pv_RO (q := (RX4, TX4, 15)) (ci := 4) (q0 := 0) (wc := [(ld, .inr (4, [.int 0, .int 0, .int 0, .int 0, .int 0, .int 0, .long 0, .ref l1, .ref l2, .ref l3, .ref l4, .ref l5, .ref l6, .ref l7, .ref l8]))]) hK hP [1] rfl rfl rfl) rfl rfl hl.1 rfl (lv_room (Nat.le_of_ble_eq_true rfl)) dX11_pair_5 ⟨Nat.le_of_ble_eq_true rfl, Nat.le_of_ble_eq_true rfl⟩) hS hA hP (fun r1 u2 H locs hw3 hP hS => ?_)
  rcases hw3 with ⟨rfl, hw3_0, hw3_1⟩ | ⟨rfl, hw3_0⟩
  · omega
  · refine lv_if_ne (tgt := 14) hx hb dX11_pair_8 (by decide) (fun c4 => absurd c4 (by decide)) (fun _ => ?_)
    refine lv_bipush (v := (-2)) hx hb dX11_pair_11 (by decide) ?_
    exact W.iret (v := (-2)) hx hb hr (fun t ht hW => ⟨⟨(-2), (), rfl, rfl, trivial⟩, hS.F ht⟩) hS.2.2 dX11_pair_13
def v_X11_of : List Cond := .code yX11_of cX11_of 3 (some .int) :: (([.fieldLink RX11 19 "CardsAtYule" "land" "LCardsAtYule$Land;", .methodLink RX11 115 yX4_hasPerson, .instanceMethod yX4_hasPerson, .selects RX4 yX4_hasPerson yX4_hasPerson, .initialized RX4] : List Cond) ++ (v_X4_hasPerson ++ (wsX110 ++ ([] : List Cond))))
theorem good_v_X11_of : v_X11_of.all goodWord = true := ga_c (by decide +kernel) (ga_a (by decide +kernel) (ga_a good_v_X4_hasPerson (ga_a good_wsX110 rfl)))
set_option maxHeartbeats 4000000 in
set_option maxRecDepth 100000 in
theorem k_X11_of (l : Launch) (g : va_G) (cI cJ cB cZ cL : ClassId) (x : Nat) (tp : Nat) (ld : Nat) (im : Nat) (bk : Nat) (co : Nat) (fa : Nat) (ch : Nat) (wi : Nat) (sl : Nat) (se : Nat) (dr : Nat) (l1 : Nat) (l2 : Nat) (l3 : Nat) (l4 : Nat) (l5 : Nat) (l6 : Nat) (l7 : Nat) (l8 : Nat) (p0 : Int32) (p1 : Int32) (ip0 : Int) (ip1 : Int) (sz : Nat) (hzp0 : p0.toInt = ip0) (hzp1 : p1.toInt = ip1) : Met l yX11_of v_X11_of ({ frames := 1, cells := 0, slots := 0, locals := 21 }) (va_Pc [.ref x, .int p0, .int p1] (pRO g (tyT cI cJ cB cZ cL) [(x, .inr (10, [.ref tp, .ref ld, .ref im, .ref bk, .ref co, .ref fa, .ref ch, .ref wi, .ref sl, .ref se, .ref dr])), (ld, .inr (4, [.int 0, .int 0, .int 0, .int 0, .int 0, .int 0, .long 0, .ref l1, .ref l2, .ref l3, .ref l4, .ref l5, .ref l6, .ref l7, .ref l8]))] sz)) (va_Qi (fun (r : Int32) (u : Unit) => r = (-2)) (fun (_ : Unit) (_ : State) => True) (va_A [] sz)) 0 0 (va_A [] sz) := by
  refine Met.ofW (cc := cX11_of) (maxL := 3) (ret := (some .int)) (by decide) rfl ?_
  intro p e s m args below meth c s₁ B hml hv
  obtain ⟨rfl, hsz, hP, hK⟩ := hv
  have hx := B.exec
  have hb := B.bytes
  have hr := B.returns
  have hts := atoms_spec (ws := v_X11_of) B.pre
  have hown : s.vm.findClass RX11 = some m.cls := findClass_of_methodNamed B.named
  have hlocks := B.notSynchronized
  subst hsz
  have iX11 : ∀ w ∈ wsX110, w ∈ v_X11_of := (fun _ h => List.mem_cons_of_mem _ (List.mem_append_right _ (List.mem_append_right _ (List.mem_append_left _ h))))
  generalize hAe : (va_A [] s.heap.size) = A
  have hA : ∀ q : Nat, s.heap.size ≤ q → A q := fun q h => by rw [← hAe]; exact Or.inr h
  have hS : va_S A s.heap s.heap [] := va_S.rf
  have hl := lv_entry ([.ref x, .int p0, .int p1]) (n := 3) (Nat.le_of_ble_eq_true rfl)
  rw [lg_entry_eq]
  generalize (lg_sl ([.ref x, .int p0, .int p1]) ++ List.replicate (3 - (lg_sl ([.ref x, .int p0, .int p1])).length) Slot.unset).toArray = ls at hl ⊢
  have hl : lv_has ls 3 [(0, .ref x), (1, .int p0), (2, .int p1)] := hl
  have hP : va_P g vwCl [(x, .inr (10, [.ref tp, .ref ld, .ref im, .ref bk, .ref co, .ref fa, .ref ch, .ref wi, .ref sl, .ref se, .ref dr])), (ld, .inr (4, [.int 0, .int 0, .int 0, .int 0, .int 0, .int 0, .long 0, .ref l1, .ref l2, .ref l3, .ref l4, .ref l5, .ref l6, .ref l7, .ref l8]))] s.heap := hP
  refine lv_aload_n hx hb dX11_of_0 rfl (lv_at hl 0 rfl) ?_
  refine va_get (D := g) (ci := 10) (v := .ref ld) (C := RX11) (T := TX11) (N := 11) hx hb hts iX11 hown hK hP 0 rfl rfl 1 (by decide) (hts (.fieldLink RX11 19 "CardsAtYule" "land" "LCardsAtYule$Land;") (List.mem_cons_of_mem _ (List.mem_append_left _ (List.mem_of_getElem? (i := 0) rfl)))) (fun _ h9 => h9) rfl dX11_of_1 ?_
  refine lv_iload_n hx hb dX11_of_4 rfl (lv_at hl 1 rfl) ?_
  refine ro_i (va_runV (As := [.int p0]) (rest := []) ⟨hx, hb, hml, hown, hts⟩ (k_X4_hasPerson l g cI cJ cB cZ cL ld 0 0 0 0 0 0 0 l1 l2 l3 l4 l5 l6 l7 l8 0 p0 ip0 s.heap.size rfl hzp0) (cwV 1 hts (goodIn_app (g_4 (List.mem_cons_of_mem _ (List.mem_append_left _ (List.mem_of_getElem? (i := 1) rfl))) (List.mem_cons_of_mem _ (List.mem_append_left _ (List.mem_of_getElem? (i := 2) rfl))) (List.mem_cons_of_mem _ (List.mem_append_left _ (List.mem_of_getElem? (i := 3) rfl))) (List.mem_cons_of_mem _ (List.mem_append_left _ (List.mem_of_getElem? (i := 4) rfl))) (by decide +kernel)) (goodIn_sub (fun _ h => List.mem_cons_of_mem _ (List.mem_append_right _ (List.mem_append_left _ h))) good_v_X4_hasPerson)) rfl rfl rfl (by decide +kernel) ⟨Nat.le_of_ble_eq_true rfl, Nat.le_of_ble_eq_true rfl⟩) (pv_RO (q := (RX4, TX4, 15)) (ci := 4) (q0 := 0) (wc := [(ld, .inr (4, [.int 0, .int 0, .int 0, .int 0, .int 0, .int 0, .long 0, .ref l1, .ref l2, .ref l3, .ref l4, .ref l5, .ref l6, .ref l7, .ref l8]))]) hK hP [1] rfl rfl rfl) rfl rfl hl.1 rfl (lv_room (Nat.le_of_ble_eq_true rfl)) dX11_of_5 ⟨Nat.le_of_ble_eq_true rfl, Nat.le_of_ble_eq_true rfl⟩) hS hA hP (fun r1 u2 H locs hw3 hP hS => ?_)
  rcases hw3 with ⟨rfl, hw3_0, hw3_1⟩ | ⟨rfl, hw3_0⟩
  · omega
  · refine lv_if_eq (tgt := 27) hx hb dX11_of_8 (by decide) (fun _ => ?_) (fun c4 => absurd c4 (by decide))
    refine lv_bipush (v := (-2)) hx hb dX11_of_27 (by decide) ?_
    exact W.iret (v := (-2)) hx hb hr (fun t ht hW => ⟨⟨(-2), (), rfl, rfl, trivial⟩, hS.F ht⟩) hS.2.2 dX11_of_29
def v_X11_sends : List Cond := .code yX11_sends cX11_sends 6 (some .int) :: (([.methodLink RX11 155 yX11_hasYearOf, .instanceMethod yX11_hasYearOf, .selects RX11 yX11_hasYearOf yX11_hasYearOf, .initialized RX11] : List Cond) ++ (v_X11_hasYearOf ++ ([] : List Cond)))
theorem good_v_X11_sends : v_X11_sends.all goodWord = true := ga_c (by decide +kernel) (ga_a (by decide +kernel) (ga_a good_v_X11_hasYearOf rfl))
set_option maxHeartbeats 4000000 in
set_option maxRecDepth 100000 in
theorem k_X11_sends (l : Launch) (g : va_G) (cI cJ cB cZ cL : ClassId) (x : Nat) (tp : Nat) (ld : Nat) (im : Nat) (bk : Nat) (co : Nat) (fa : Nat) (ch : Nat) (wi : Nat) (sl : Nat) (se : Nat) (dr : Nat) (l1 : Nat) (l2 : Nat) (l3 : Nat) (l4 : Nat) (l5 : Nat) (l6 : Nat) (l7 : Nat) (l8 : Nat) (p0 : Int32) (p1 : Int32) (p2 : Int32) (ip0 : Int) (ip1 : Int) (ip2 : Int) (sz : Nat) (hzp0 : p0.toInt = ip0) (hzp1 : p1.toInt = ip1) (hzp2 : p2.toInt = ip2) : Met l yX11_sends v_X11_sends ({ frames := 2, cells := 0, slots := 0, locals := 44 }) (va_Pc [.ref x, .int p0, .int p1, .int p2] (pRO g (tyT cI cJ cB cZ cL) [(x, .inr (10, [.ref tp, .ref ld, .ref im, .ref bk, .ref co, .ref fa, .ref ch, .ref wi, .ref sl, .ref se, .ref dr])), (ld, .inr (4, [.int 0, .int 0, .int 0, .int 0, .int 0, .int 0, .long 0, .ref l1, .ref l2, .ref l3, .ref l4, .ref l5, .ref l6, .ref l7, .ref l8]))] sz)) (va_Qi (fun (r : Int32) (u : Unit) => r = (-2)) (fun (_ : Unit) (_ : State) => True) (va_A [] sz)) 0 0 (va_A [] sz) := by
  refine Met.ofW (cc := cX11_sends) (maxL := 6) (ret := (some .int)) (by decide) rfl ?_
  intro p e s m args below meth c s₁ B hml hv
  obtain ⟨rfl, hsz, hP, hK⟩ := hv
  have hx := B.exec
  have hb := B.bytes
  have hr := B.returns
  have hts := atoms_spec (ws := v_X11_sends) B.pre
  have hown : s.vm.findClass RX11 = some m.cls := findClass_of_methodNamed B.named
  have hlocks := B.notSynchronized
  subst hsz
  generalize hAe : (va_A [] s.heap.size) = A
  have hA : ∀ q : Nat, s.heap.size ≤ q → A q := fun q h => by rw [← hAe]; exact Or.inr h
  have hS : va_S A s.heap s.heap [] := va_S.rf
  have hl := lv_entry ([.ref x, .int p0, .int p1, .int p2]) (n := 6) (Nat.le_of_ble_eq_true rfl)
  rw [lg_entry_eq]
  generalize (lg_sl ([.ref x, .int p0, .int p1, .int p2]) ++ List.replicate (6 - (lg_sl ([.ref x, .int p0, .int p1, .int p2])).length) Slot.unset).toArray = ls at hl ⊢
  have hl : lv_has ls 6 [(0, .ref x), (1, .int p0), (2, .int p1), (3, .int p2)] := hl
  have hP : va_P g vwCl [(x, .inr (10, [.ref tp, .ref ld, .ref im, .ref bk, .ref co, .ref fa, .ref ch, .ref wi, .ref sl, .ref se, .ref dr])), (ld, .inr (4, [.int 0, .int 0, .int 0, .int 0, .int 0, .int 0, .long 0, .ref l1, .ref l2, .ref l3, .ref l4, .ref l5, .ref l6, .ref l7, .ref l8]))] s.heap := hP
  refine lv_aload_n hx hb dX11_sends_0 rfl (lv_at hl 0 rfl) ?_
  refine lv_iload_n hx hb dX11_sends_1 rfl (lv_at hl 1 rfl) ?_
  refine lv_iload_n hx hb dX11_sends_2 rfl (lv_at hl 2 rfl) ?_
  refine lv_iload_n hx hb dX11_sends_3 rfl (lv_at hl 3 rfl) ?_
  refine ro_i (va_runV (As := [.int p0, .int p1, .int p2]) (rest := []) ⟨hx, hb, hml, hown, hts⟩ (k_X11_hasYearOf l g cI cJ cB cZ cL x tp ld im bk co fa ch wi sl se dr l1 l2 l3 l4 l5 l6 l7 l8 p0 p1 p2 ip0 ip1 ip2 s.heap.size hzp0 hzp1 hzp2) (cwV 3 hts (goodIn_app (g_4 (List.mem_cons_of_mem _ (List.mem_append_left _ (List.mem_of_getElem? (i := 0) rfl))) (List.mem_cons_of_mem _ (List.mem_append_left _ (List.mem_of_getElem? (i := 1) rfl))) (List.mem_cons_of_mem _ (List.mem_append_left _ (List.mem_of_getElem? (i := 2) rfl))) (List.mem_cons_of_mem _ (List.mem_append_left _ (List.mem_of_getElem? (i := 3) rfl))) (by decide +kernel)) (goodIn_sub (fun _ h => List.mem_cons_of_mem _ (List.mem_append_right _ (List.mem_append_left _ h))) good_v_X11_hasYearOf)) rfl rfl rfl (by decide +kernel) ⟨Nat.le_of_ble_eq_true rfl, Nat.le_of_ble_eq_true rfl⟩) (pv_RO (q := (RX11, TX11, 11)) (ci := 10) (q0 := 0) (wc := [(x, .inr (10, [.ref tp, .ref ld, .ref im, .ref bk, .ref co, .ref fa, .ref ch, .ref wi, .ref sl, .ref se, .ref dr])), (ld, .inr (4, [.int 0, .int 0, .int 0, .int 0, .int 0, .int 0, .long 0, .ref l1, .ref l2, .ref l3, .ref l4, .ref l5, .ref l6, .ref l7, .ref l8]))]) hK hP [0, 1] rfl rfl rfl) rfl rfl hl.1 rfl (lv_room (Nat.le_of_ble_eq_true rfl)) dX11_sends_4 ⟨Nat.le_of_ble_eq_true rfl, Nat.le_of_ble_eq_true rfl⟩) hS hA hP (fun r1 u2 H locs hw3 hP hS => ?_)
  subst hw3
  refine lv_if_ne (tgt := 13) hx hb dX11_sends_7 (by decide) (fun c4 => absurd c4 (by decide)) (fun _ => ?_)
  refine lv_bipush (v := (-2)) hx hb dX11_sends_10 (by decide) ?_
  exact W.iret (v := (-2)) hx hb hr (fun t ht hW => ⟨⟨(-2), (), rfl, rfl, trivial⟩, hS.F ht⟩) hS.2.2 dX11_sends_12
def v_X11_got : List Cond := .code yX11_got cX11_got 4 (some .int) :: (([.methodLink RX11 155 yX11_hasYearOf, .instanceMethod yX11_hasYearOf, .selects RX11 yX11_hasYearOf yX11_hasYearOf, .initialized RX11] : List Cond) ++ (v_X11_hasYearOf ++ ([] : List Cond)))
theorem good_v_X11_got : v_X11_got.all goodWord = true := ga_c (by decide +kernel) (ga_a (by decide +kernel) (ga_a good_v_X11_hasYearOf rfl))
set_option maxHeartbeats 4000000 in
set_option maxRecDepth 100000 in
theorem k_X11_got (l : Launch) (g : va_G) (cI cJ cB cZ cL : ClassId) (x : Nat) (tp : Nat) (ld : Nat) (im : Nat) (bk : Nat) (co : Nat) (fa : Nat) (ch : Nat) (wi : Nat) (sl : Nat) (se : Nat) (dr : Nat) (l1 : Nat) (l2 : Nat) (l3 : Nat) (l4 : Nat) (l5 : Nat) (l6 : Nat) (l7 : Nat) (l8 : Nat) (p0 : Int32) (p1 : Int32) (p2 : Int32) (ip0 : Int) (ip1 : Int) (ip2 : Int) (sz : Nat) (hzp0 : p0.toInt = ip0) (hzp1 : p1.toInt = ip1) (hzp2 : p2.toInt = ip2) : Met l yX11_got v_X11_got ({ frames := 2, cells := 0, slots := 0, locals := 44 }) (va_Pc [.ref x, .int p0, .int p1, .int p2] (pRO g (tyT cI cJ cB cZ cL) [(x, .inr (10, [.ref tp, .ref ld, .ref im, .ref bk, .ref co, .ref fa, .ref ch, .ref wi, .ref sl, .ref se, .ref dr])), (ld, .inr (4, [.int 0, .int 0, .int 0, .int 0, .int 0, .int 0, .long 0, .ref l1, .ref l2, .ref l3, .ref l4, .ref l5, .ref l6, .ref l7, .ref l8]))] sz)) (va_Qi (fun (r : Int32) (u : Unit) => r = (-2)) (fun (_ : Unit) (_ : State) => True) (va_A [] sz)) 0 0 (va_A [] sz) := by
  refine Met.ofW (cc := cX11_got) (maxL := 4) (ret := (some .int)) (by decide) rfl ?_
  intro p e s m args below meth c s₁ B hml hv
  obtain ⟨rfl, hsz, hP, hK⟩ := hv
  have hx := B.exec
  have hb := B.bytes
  have hr := B.returns
  have hts := atoms_spec (ws := v_X11_got) B.pre
  have hown : s.vm.findClass RX11 = some m.cls := findClass_of_methodNamed B.named
  have hlocks := B.notSynchronized
  subst hsz
  generalize hAe : (va_A [] s.heap.size) = A
  have hA : ∀ q : Nat, s.heap.size ≤ q → A q := fun q h => by rw [← hAe]; exact Or.inr h
  have hS : va_S A s.heap s.heap [] := va_S.rf
  have hl := lv_entry ([.ref x, .int p0, .int p1, .int p2]) (n := 4) (Nat.le_of_ble_eq_true rfl)
  rw [lg_entry_eq]
  generalize (lg_sl ([.ref x, .int p0, .int p1, .int p2]) ++ List.replicate (4 - (lg_sl ([.ref x, .int p0, .int p1, .int p2])).length) Slot.unset).toArray = ls at hl ⊢
  have hl : lv_has ls 4 [(0, .ref x), (1, .int p0), (2, .int p1), (3, .int p2)] := hl
  have hP : va_P g vwCl [(x, .inr (10, [.ref tp, .ref ld, .ref im, .ref bk, .ref co, .ref fa, .ref ch, .ref wi, .ref sl, .ref se, .ref dr])), (ld, .inr (4, [.int 0, .int 0, .int 0, .int 0, .int 0, .int 0, .long 0, .ref l1, .ref l2, .ref l3, .ref l4, .ref l5, .ref l6, .ref l7, .ref l8]))] s.heap := hP
  refine lv_aload_n hx hb dX11_got_0 rfl (lv_at hl 0 rfl) ?_
  refine lv_iload_n hx hb dX11_got_1 rfl (lv_at hl 1 rfl) ?_
  refine lv_iload_n hx hb dX11_got_2 rfl (lv_at hl 2 rfl) ?_
  refine lv_iload_n hx hb dX11_got_3 rfl (lv_at hl 3 rfl) ?_
  refine ro_i (va_runV (As := [.int p0, .int p1, .int p2]) (rest := []) ⟨hx, hb, hml, hown, hts⟩ (k_X11_hasYearOf l g cI cJ cB cZ cL x tp ld im bk co fa ch wi sl se dr l1 l2 l3 l4 l5 l6 l7 l8 p0 p1 p2 ip0 ip1 ip2 s.heap.size hzp0 hzp1 hzp2) (cwV 3 hts (goodIn_app (g_4 (List.mem_cons_of_mem _ (List.mem_append_left _ (List.mem_of_getElem? (i := 0) rfl))) (List.mem_cons_of_mem _ (List.mem_append_left _ (List.mem_of_getElem? (i := 1) rfl))) (List.mem_cons_of_mem _ (List.mem_append_left _ (List.mem_of_getElem? (i := 2) rfl))) (List.mem_cons_of_mem _ (List.mem_append_left _ (List.mem_of_getElem? (i := 3) rfl))) (by decide +kernel)) (goodIn_sub (fun _ h => List.mem_cons_of_mem _ (List.mem_append_right _ (List.mem_append_left _ h))) good_v_X11_hasYearOf)) rfl rfl rfl (by decide +kernel) ⟨Nat.le_of_ble_eq_true rfl, Nat.le_of_ble_eq_true rfl⟩) (pv_RO (q := (RX11, TX11, 11)) (ci := 10) (q0 := 0) (wc := [(x, .inr (10, [.ref tp, .ref ld, .ref im, .ref bk, .ref co, .ref fa, .ref ch, .ref wi, .ref sl, .ref se, .ref dr])), (ld, .inr (4, [.int 0, .int 0, .int 0, .int 0, .int 0, .int 0, .long 0, .ref l1, .ref l2, .ref l3, .ref l4, .ref l5, .ref l6, .ref l7, .ref l8]))]) hK hP [0, 1] rfl rfl rfl) rfl rfl hl.1 rfl (lv_room (Nat.le_of_ble_eq_true rfl)) dX11_got_4 ⟨Nat.le_of_ble_eq_true rfl, Nat.le_of_ble_eq_true rfl⟩) hS hA hP (fun r1 u2 H locs hw3 hP hS => ?_)
  subst hw3
  refine lv_if_ne (tgt := 13) hx hb dX11_got_7 (by decide) (fun c4 => absurd c4 (by decide)) (fun _ => ?_)
  refine lv_bipush (v := (-2)) hx hb dX11_got_10 (by decide) ?_
  exact W.iret (v := (-2)) hx hb hr (fun t ht hW => ⟨⟨(-2), (), rfl, rfl, trivial⟩, hS.F ht⟩) hS.2.2 dX11_got_12
def v_X11_state : List Cond := .code yX11_state cX11_state 3 (some .int) :: (([.fieldLink RX11 19 "CardsAtYule" "land" "LCardsAtYule$Land;", .methodLink RX11 135 yX4_hasPair, .instanceMethod yX4_hasPair, .selects RX4 yX4_hasPair yX4_hasPair, .initialized RX4] : List Cond) ++ (v_X4_hasPair ++ (wsX110 ++ ([] : List Cond))))
theorem good_v_X11_state : v_X11_state.all goodWord = true := ga_c (by decide +kernel) (ga_a (by decide +kernel) (ga_a good_v_X4_hasPair (ga_a good_wsX110 rfl)))
set_option maxHeartbeats 4000000 in
set_option maxRecDepth 100000 in
theorem k_X11_state (l : Launch) (g : va_G) (cI cJ cB cZ cL : ClassId) (x : Nat) (tp : Nat) (ld : Nat) (im : Nat) (bk : Nat) (co : Nat) (fa : Nat) (ch : Nat) (wi : Nat) (sl : Nat) (se : Nat) (dr : Nat) (l1 : Nat) (l2 : Nat) (l3 : Nat) (l4 : Nat) (l5 : Nat) (l6 : Nat) (l7 : Nat) (l8 : Nat) (p0 : Int32) (p1 : Int32) (ip0 : Int) (ip1 : Int) (sz : Nat) (hzp0 : p0.toInt = ip0) (hzp1 : p1.toInt = ip1) : Met l yX11_state v_X11_state ({ frames := 1, cells := 0, slots := 0, locals := 21 }) (va_Pc [.ref x, .int p0, .int p1] (pRO g (tyT cI cJ cB cZ cL) [(x, .inr (10, [.ref tp, .ref ld, .ref im, .ref bk, .ref co, .ref fa, .ref ch, .ref wi, .ref sl, .ref se, .ref dr])), (ld, .inr (4, [.int 0, .int 0, .int 0, .int 0, .int 0, .int 0, .long 0, .ref l1, .ref l2, .ref l3, .ref l4, .ref l5, .ref l6, .ref l7, .ref l8]))] sz)) (va_Qi (fun (r : Int32) (u : Unit) => r = (-2)) (fun (_ : Unit) (_ : State) => True) (va_A [] sz)) 0 0 (va_A [] sz) := by
  refine Met.ofW (cc := cX11_state) (maxL := 3) (ret := (some .int)) (by decide) rfl ?_
  intro p e s m args below meth c s₁ B hml hv
  obtain ⟨rfl, hsz, hP, hK⟩ := hv
  have hx := B.exec
  have hb := B.bytes
  have hr := B.returns
  have hts := atoms_spec (ws := v_X11_state) B.pre
  have hown : s.vm.findClass RX11 = some m.cls := findClass_of_methodNamed B.named
  have hlocks := B.notSynchronized
  subst hsz
  have iX11 : ∀ w ∈ wsX110, w ∈ v_X11_state := (fun _ h => List.mem_cons_of_mem _ (List.mem_append_right _ (List.mem_append_right _ (List.mem_append_left _ h))))
  generalize hAe : (va_A [] s.heap.size) = A
  have hA : ∀ q : Nat, s.heap.size ≤ q → A q := fun q h => by rw [← hAe]; exact Or.inr h
  have hS : va_S A s.heap s.heap [] := va_S.rf
  have hl := lv_entry ([.ref x, .int p0, .int p1]) (n := 3) (Nat.le_of_ble_eq_true rfl)
  rw [lg_entry_eq]
  generalize (lg_sl ([.ref x, .int p0, .int p1]) ++ List.replicate (3 - (lg_sl ([.ref x, .int p0, .int p1])).length) Slot.unset).toArray = ls at hl ⊢
  have hl : lv_has ls 3 [(0, .ref x), (1, .int p0), (2, .int p1)] := hl
  have hP : va_P g vwCl [(x, .inr (10, [.ref tp, .ref ld, .ref im, .ref bk, .ref co, .ref fa, .ref ch, .ref wi, .ref sl, .ref se, .ref dr])), (ld, .inr (4, [.int 0, .int 0, .int 0, .int 0, .int 0, .int 0, .long 0, .ref l1, .ref l2, .ref l3, .ref l4, .ref l5, .ref l6, .ref l7, .ref l8]))] s.heap := hP
  refine lv_aload_n hx hb dX11_state_0 rfl (lv_at hl 0 rfl) ?_
  refine va_get (D := g) (ci := 10) (v := .ref ld) (C := RX11) (T := TX11) (N := 11) hx hb hts iX11 hown hK hP 0 rfl rfl 1 (by decide) (hts (.fieldLink RX11 19 "CardsAtYule" "land" "LCardsAtYule$Land;") (List.mem_cons_of_mem _ (List.mem_append_left _ (List.mem_of_getElem? (i := 0) rfl)))) (fun _ h9 => h9) rfl dX11_state_1 ?_
  refine lv_iload_n hx hb dX11_state_4 rfl (lv_at hl 1 rfl) ?_
  refine ro_i (va_runV (As := [.int p0]) (rest := []) ⟨hx, hb, hml, hown, hts⟩ (k_X4_hasPair l g cI cJ cB cZ cL ld 0 0 0 0 0 0 0 l1 l2 l3 l4 l5 l6 l7 l8 0 p0 ip0 s.heap.size rfl hzp0) (cwV 1 hts (goodIn_app (g_4 (List.mem_cons_of_mem _ (List.mem_append_left _ (List.mem_of_getElem? (i := 1) rfl))) (List.mem_cons_of_mem _ (List.mem_append_left _ (List.mem_of_getElem? (i := 2) rfl))) (List.mem_cons_of_mem _ (List.mem_append_left _ (List.mem_of_getElem? (i := 3) rfl))) (List.mem_cons_of_mem _ (List.mem_append_left _ (List.mem_of_getElem? (i := 4) rfl))) (by decide +kernel)) (goodIn_sub (fun _ h => List.mem_cons_of_mem _ (List.mem_append_right _ (List.mem_append_left _ h))) good_v_X4_hasPair)) rfl rfl rfl (by decide +kernel) ⟨Nat.le_of_ble_eq_true rfl, Nat.le_of_ble_eq_true rfl⟩) (pv_RO (q := (RX4, TX4, 15)) (ci := 4) (q0 := 0) (wc := [(ld, .inr (4, [.int 0, .int 0, .int 0, .int 0, .int 0, .int 0, .long 0, .ref l1, .ref l2, .ref l3, .ref l4, .ref l5, .ref l6, .ref l7, .ref l8]))]) hK hP [1] rfl rfl rfl) rfl rfl hl.1 rfl (lv_room (Nat.le_of_ble_eq_true rfl)) dX11_state_5 ⟨Nat.le_of_ble_eq_true rfl, Nat.le_of_ble_eq_true rfl⟩) hS hA hP (fun r1 u2 H locs hw3 hP hS => ?_)
  rcases hw3 with ⟨rfl, hw3_0, hw3_1⟩ | ⟨rfl, hw3_0⟩
  · omega
  · refine lv_if_eq (tgt := 26) hx hb dX11_state_8 (by decide) (fun _ => ?_) (fun c4 => absurd c4 (by decide))
    refine lv_bipush (v := (-2)) hx hb dX11_state_26 (by decide) ?_
    exact W.iret (v := (-2)) hx hb hr (fun t ht hW => ⟨⟨(-2), (), rfl, rfl, trivial⟩, hS.F ht⟩) hS.2.2 dX11_state_28
def v_X11_cards : List Cond := .code yX11_cards cX11_cards 5 (some .int) :: (([.fieldLink RX11 19 "CardsAtYule" "land" "LCardsAtYule$Land;", .methodLink RX11 184 yX4_hasYear, .instanceMethod yX4_hasYear, .selects RX4 yX4_hasYear yX4_hasYear, .initialized RX4] : List Cond) ++ (v_X4_hasYear ++ (wsX110 ++ ([] : List Cond))))
theorem good_v_X11_cards : v_X11_cards.all goodWord = true := ga_c (by decide +kernel) (ga_a (by decide +kernel) (ga_a good_v_X4_hasYear (ga_a good_wsX110 rfl)))
set_option maxHeartbeats 4000000 in
set_option maxRecDepth 100000 in
theorem k_X11_cards (l : Launch) (g : va_G) (cI cJ cB cZ cL : ClassId) (x : Nat) (tp : Nat) (ld : Nat) (im : Nat) (bk : Nat) (co : Nat) (fa : Nat) (ch : Nat) (wi : Nat) (sl : Nat) (se : Nat) (dr : Nat) (l1 : Nat) (l2 : Nat) (l3 : Nat) (l4 : Nat) (l5 : Nat) (l6 : Nat) (l7 : Nat) (l8 : Nat) (p0 : Int32) (p1 : Int32) (ip0 : Int) (ip1 : Int) (sz : Nat) (hzp0 : p0.toInt = ip0) (hzp1 : p1.toInt = ip1) : Met l yX11_cards v_X11_cards ({ frames := 1, cells := 0, slots := 0, locals := 21 }) (va_Pc [.ref x, .int p0, .int p1] (pRO g (tyT cI cJ cB cZ cL) [(x, .inr (10, [.ref tp, .ref ld, .ref im, .ref bk, .ref co, .ref fa, .ref ch, .ref wi, .ref sl, .ref se, .ref dr])), (ld, .inr (4, [.int 0, .int 0, .int 0, .int 0, .int 0, .int 0, .long 0, .ref l1, .ref l2, .ref l3, .ref l4, .ref l5, .ref l6, .ref l7, .ref l8]))] sz)) (va_Qi (fun (r : Int32) (u : Unit) => r = (-2)) (fun (_ : Unit) (_ : State) => True) (va_A [] sz)) 0 0 (va_A [] sz) := by
  refine Met.ofW (cc := cX11_cards) (maxL := 5) (ret := (some .int)) (by decide) rfl ?_
  intro p e s m args below meth c s₁ B hml hv
  obtain ⟨rfl, hsz, hP, hK⟩ := hv
  have hx := B.exec
  have hb := B.bytes
  have hr := B.returns
  have hts := atoms_spec (ws := v_X11_cards) B.pre
  have hown : s.vm.findClass RX11 = some m.cls := findClass_of_methodNamed B.named
  have hlocks := B.notSynchronized
  subst hsz
  have iX11 : ∀ w ∈ wsX110, w ∈ v_X11_cards := (fun _ h => List.mem_cons_of_mem _ (List.mem_append_right _ (List.mem_append_right _ (List.mem_append_left _ h))))
  generalize hAe : (va_A [] s.heap.size) = A
  have hA : ∀ q : Nat, s.heap.size ≤ q → A q := fun q h => by rw [← hAe]; exact Or.inr h
  have hS : va_S A s.heap s.heap [] := va_S.rf
  have hl := lv_entry ([.ref x, .int p0, .int p1]) (n := 5) (Nat.le_of_ble_eq_true rfl)
  rw [lg_entry_eq]
  generalize (lg_sl ([.ref x, .int p0, .int p1]) ++ List.replicate (5 - (lg_sl ([.ref x, .int p0, .int p1])).length) Slot.unset).toArray = ls at hl ⊢
  have hl : lv_has ls 5 [(0, .ref x), (1, .int p0), (2, .int p1)] := hl
  have hP : va_P g vwCl [(x, .inr (10, [.ref tp, .ref ld, .ref im, .ref bk, .ref co, .ref fa, .ref ch, .ref wi, .ref sl, .ref se, .ref dr])), (ld, .inr (4, [.int 0, .int 0, .int 0, .int 0, .int 0, .int 0, .long 0, .ref l1, .ref l2, .ref l3, .ref l4, .ref l5, .ref l6, .ref l7, .ref l8]))] s.heap := hP
  refine lv_aload_n hx hb dX11_cards_0 rfl (lv_at hl 0 rfl) ?_
  refine va_get (D := g) (ci := 10) (v := .ref ld) (C := RX11) (T := TX11) (N := 11) hx hb hts iX11 hown hK hP 0 rfl rfl 1 (by decide) (hts (.fieldLink RX11 19 "CardsAtYule" "land" "LCardsAtYule$Land;") (List.mem_cons_of_mem _ (List.mem_append_left _ (List.mem_of_getElem? (i := 0) rfl)))) (fun _ h9 => h9) rfl dX11_cards_1 ?_
  refine lv_iload_n hx hb dX11_cards_4 rfl (lv_at hl 1 rfl) ?_
  refine ro_i (va_runV (As := [.int p0]) (rest := []) ⟨hx, hb, hml, hown, hts⟩ (k_X4_hasYear l g cI cJ cB cZ cL ld 0 0 0 0 0 0 0 l1 l2 l3 l4 l5 l6 l7 l8 0 p0 ip0 s.heap.size rfl hzp0) (cwV 1 hts (goodIn_app (g_4 (List.mem_cons_of_mem _ (List.mem_append_left _ (List.mem_of_getElem? (i := 1) rfl))) (List.mem_cons_of_mem _ (List.mem_append_left _ (List.mem_of_getElem? (i := 2) rfl))) (List.mem_cons_of_mem _ (List.mem_append_left _ (List.mem_of_getElem? (i := 3) rfl))) (List.mem_cons_of_mem _ (List.mem_append_left _ (List.mem_of_getElem? (i := 4) rfl))) (by decide +kernel)) (goodIn_sub (fun _ h => List.mem_cons_of_mem _ (List.mem_append_right _ (List.mem_append_left _ h))) good_v_X4_hasYear)) rfl rfl rfl (by decide +kernel) ⟨Nat.le_of_ble_eq_true rfl, Nat.le_of_ble_eq_true rfl⟩) (pv_RO (q := (RX4, TX4, 15)) (ci := 4) (q0 := 0) (wc := [(ld, .inr (4, [.int 0, .int 0, .int 0, .int 0, .int 0, .int 0, .long 0, .ref l1, .ref l2, .ref l3, .ref l4, .ref l5, .ref l6, .ref l7, .ref l8]))]) hK hP [1] rfl rfl rfl) rfl rfl hl.1 rfl (lv_room (Nat.le_of_ble_eq_true rfl)) dX11_cards_5 ⟨Nat.le_of_ble_eq_true rfl, Nat.le_of_ble_eq_true rfl⟩) hS hA hP (fun r1 u2 H locs hw3 hP hS => ?_)
  rcases hw3 with ⟨rfl, hw3_0, hw3_1⟩ | ⟨rfl, hw3_0⟩
  · omega
  · refine lv_if_eq (tgt := 19) hx hb dX11_cards_8 (by decide) (fun _ => ?_) (fun c4 => absurd c4 (by decide))
    refine lv_bipush (v := (-2)) hx hb dX11_cards_19 (by decide) ?_
    exact W.iret (v := (-2)) hx hb hr (fun t ht hW => ⟨⟨(-2), (), rfl, rfl, trivial⟩, hS.F ht⟩) hS.2.2 dX11_cards_21
def v_X11_list : List Cond := .code yX11_list cX11_list 6 (some .int) :: (([.fieldLink RX11 19 "CardsAtYule" "land" "LCardsAtYule$Land;", .methodLink RX11 115 yX4_hasPerson, .instanceMethod yX4_hasPerson, .selects RX4 yX4_hasPerson yX4_hasPerson, .initialized RX4] : List Cond) ++ (v_X4_hasPerson ++ (wsX110 ++ ([] : List Cond))))
theorem good_v_X11_list : v_X11_list.all goodWord = true := ga_c (by decide +kernel) (ga_a (by decide +kernel) (ga_a good_v_X4_hasPerson (ga_a good_wsX110 rfl)))
set_option maxHeartbeats 4000000 in
set_option maxRecDepth 100000 in
theorem k_X11_list (l : Launch) (g : va_G) (cI cJ cB cZ cL : ClassId) (x : Nat) (tp : Nat) (ld : Nat) (im : Nat) (bk : Nat) (co : Nat) (fa : Nat) (ch : Nat) (wi : Nat) (sl : Nat) (se : Nat) (dr : Nat) (l1 : Nat) (l2 : Nat) (l3 : Nat) (l4 : Nat) (l5 : Nat) (l6 : Nat) (l7 : Nat) (l8 : Nat) (p0 : Int32) (p1 : Int32) (ip0 : Int) (ip1 : Int) (sz : Nat) (hzp0 : p0.toInt = ip0) (hzp1 : p1.toInt = ip1) : Met l yX11_list v_X11_list ({ frames := 1, cells := 0, slots := 0, locals := 21 }) (va_Pc [.ref x, .int p0, .int p1] (pRO g (tyT cI cJ cB cZ cL) [(x, .inr (10, [.ref tp, .ref ld, .ref im, .ref bk, .ref co, .ref fa, .ref ch, .ref wi, .ref sl, .ref se, .ref dr])), (ld, .inr (4, [.int 0, .int 0, .int 0, .int 0, .int 0, .int 0, .long 0, .ref l1, .ref l2, .ref l3, .ref l4, .ref l5, .ref l6, .ref l7, .ref l8]))] sz)) (va_Qi (fun (r : Int32) (u : Unit) => r = (-2)) (fun (_ : Unit) (_ : State) => True) (va_A [] sz)) 0 0 (va_A [] sz) := by
  refine Met.ofW (cc := cX11_list) (maxL := 6) (ret := (some .int)) (by decide) rfl ?_
  intro p e s m args below meth c s₁ B hml hv
  obtain ⟨rfl, hsz, hP, hK⟩ := hv
  have hx := B.exec
  have hb := B.bytes
  have hr := B.returns
  have hts := atoms_spec (ws := v_X11_list) B.pre
  have hown : s.vm.findClass RX11 = some m.cls := findClass_of_methodNamed B.named
  have hlocks := B.notSynchronized
  subst hsz
  have iX11 : ∀ w ∈ wsX110, w ∈ v_X11_list := (fun _ h => List.mem_cons_of_mem _ (List.mem_append_right _ (List.mem_append_right _ (List.mem_append_left _ h))))
  generalize hAe : (va_A [] s.heap.size) = A
  have hA : ∀ q : Nat, s.heap.size ≤ q → A q := fun q h => by rw [← hAe]; exact Or.inr h
  have hS : va_S A s.heap s.heap [] := va_S.rf
  have hl := lv_entry ([.ref x, .int p0, .int p1]) (n := 6) (Nat.le_of_ble_eq_true rfl)
  rw [lg_entry_eq]
  generalize (lg_sl ([.ref x, .int p0, .int p1]) ++ List.replicate (6 - (lg_sl ([.ref x, .int p0, .int p1])).length) Slot.unset).toArray = ls at hl ⊢
  have hl : lv_has ls 6 [(0, .ref x), (1, .int p0), (2, .int p1)] := hl
  have hP : va_P g vwCl [(x, .inr (10, [.ref tp, .ref ld, .ref im, .ref bk, .ref co, .ref fa, .ref ch, .ref wi, .ref sl, .ref se, .ref dr])), (ld, .inr (4, [.int 0, .int 0, .int 0, .int 0, .int 0, .int 0, .long 0, .ref l1, .ref l2, .ref l3, .ref l4, .ref l5, .ref l6, .ref l7, .ref l8]))] s.heap := hP
  refine lv_aload_n hx hb dX11_list_0 rfl (lv_at hl 0 rfl) ?_
  refine va_get (D := g) (ci := 10) (v := .ref ld) (C := RX11) (T := TX11) (N := 11) hx hb hts iX11 hown hK hP 0 rfl rfl 1 (by decide) (hts (.fieldLink RX11 19 "CardsAtYule" "land" "LCardsAtYule$Land;") (List.mem_cons_of_mem _ (List.mem_append_left _ (List.mem_of_getElem? (i := 0) rfl)))) (fun _ h9 => h9) rfl dX11_list_1 ?_
  refine lv_iload_n hx hb dX11_list_4 rfl (lv_at hl 1 rfl) ?_
  refine ro_i (va_runV (As := [.int p0]) (rest := []) ⟨hx, hb, hml, hown, hts⟩ (k_X4_hasPerson l g cI cJ cB cZ cL ld 0 0 0 0 0 0 0 l1 l2 l3 l4 l5 l6 l7 l8 0 p0 ip0 s.heap.size rfl hzp0) (cwV 1 hts (goodIn_app (g_4 (List.mem_cons_of_mem _ (List.mem_append_left _ (List.mem_of_getElem? (i := 1) rfl))) (List.mem_cons_of_mem _ (List.mem_append_left _ (List.mem_of_getElem? (i := 2) rfl))) (List.mem_cons_of_mem _ (List.mem_append_left _ (List.mem_of_getElem? (i := 3) rfl))) (List.mem_cons_of_mem _ (List.mem_append_left _ (List.mem_of_getElem? (i := 4) rfl))) (by decide +kernel)) (goodIn_sub (fun _ h => List.mem_cons_of_mem _ (List.mem_append_right _ (List.mem_append_left _ h))) good_v_X4_hasPerson)) rfl rfl rfl (by decide +kernel) ⟨Nat.le_of_ble_eq_true rfl, Nat.le_of_ble_eq_true rfl⟩) (pv_RO (q := (RX4, TX4, 15)) (ci := 4) (q0 := 0) (wc := [(ld, .inr (4, [.int 0, .int 0, .int 0, .int 0, .int 0, .int 0, .long 0, .ref l1, .ref l2, .ref l3, .ref l4, .ref l5, .ref l6, .ref l7, .ref l8]))]) hK hP [1] rfl rfl rfl) rfl rfl hl.1 rfl (lv_room (Nat.le_of_ble_eq_true rfl)) dX11_list_5 ⟨Nat.le_of_ble_eq_true rfl, Nat.le_of_ble_eq_true rfl⟩) hS hA hP (fun r1 u2 H locs hw3 hP hS => ?_)
  rcases hw3 with ⟨rfl, hw3_0, hw3_1⟩ | ⟨rfl, hw3_0⟩
  · omega
  · refine lv_if_eq (tgt := 22) hx hb dX11_list_8 (by decide) (fun _ => ?_) (fun c4 => absurd c4 (by decide))
    refine lv_bipush (v := (-2)) hx hb dX11_list_22 (by decide) ?_
    exact W.iret (v := (-2)) hx hb hr (fun t ht hW => ⟨⟨(-2), (), rfl, rfl, trivial⟩, hS.F ht⟩) hS.2.2 dX11_list_24
def v_X11_mantel : List Cond := .code yX11_mantel cX11_mantel 3 (some .int) :: (([.fieldLink RX11 19 "CardsAtYule" "land" "LCardsAtYule$Land;", .methodLink RX11 115 yX4_hasPerson, .instanceMethod yX4_hasPerson, .selects RX4 yX4_hasPerson yX4_hasPerson, .initialized RX4] : List Cond) ++ (v_X4_hasPerson ++ (wsX110 ++ ([] : List Cond))))
theorem good_v_X11_mantel : v_X11_mantel.all goodWord = true := ga_c (by decide +kernel) (ga_a (by decide +kernel) (ga_a good_v_X4_hasPerson (ga_a good_wsX110 rfl)))
set_option maxHeartbeats 4000000 in
set_option maxRecDepth 100000 in
theorem k_X11_mantel (l : Launch) (g : va_G) (cI cJ cB cZ cL : ClassId) (x : Nat) (tp : Nat) (ld : Nat) (im : Nat) (bk : Nat) (co : Nat) (fa : Nat) (ch : Nat) (wi : Nat) (sl : Nat) (se : Nat) (dr : Nat) (l1 : Nat) (l2 : Nat) (l3 : Nat) (l4 : Nat) (l5 : Nat) (l6 : Nat) (l7 : Nat) (l8 : Nat) (p0 : Int32) (p1 : Int32) (ip0 : Int) (ip1 : Int) (sz : Nat) (hzp0 : p0.toInt = ip0) (hzp1 : p1.toInt = ip1) : Met l yX11_mantel v_X11_mantel ({ frames := 1, cells := 0, slots := 0, locals := 21 }) (va_Pc [.ref x, .int p0, .int p1] (pRO g (tyT cI cJ cB cZ cL) [(x, .inr (10, [.ref tp, .ref ld, .ref im, .ref bk, .ref co, .ref fa, .ref ch, .ref wi, .ref sl, .ref se, .ref dr])), (ld, .inr (4, [.int 0, .int 0, .int 0, .int 0, .int 0, .int 0, .long 0, .ref l1, .ref l2, .ref l3, .ref l4, .ref l5, .ref l6, .ref l7, .ref l8]))] sz)) (va_Qi (fun (r : Int32) (u : Unit) => r = (-2)) (fun (_ : Unit) (_ : State) => True) (va_A [] sz)) 0 0 (va_A [] sz) := by
  refine Met.ofW (cc := cX11_mantel) (maxL := 3) (ret := (some .int)) (by decide) rfl ?_
  intro p e s m args below meth c s₁ B hml hv
  obtain ⟨rfl, hsz, hP, hK⟩ := hv
  have hx := B.exec
  have hb := B.bytes
  have hr := B.returns
  have hts := atoms_spec (ws := v_X11_mantel) B.pre
  have hown : s.vm.findClass RX11 = some m.cls := findClass_of_methodNamed B.named
  have hlocks := B.notSynchronized
  subst hsz
  have iX11 : ∀ w ∈ wsX110, w ∈ v_X11_mantel := (fun _ h => List.mem_cons_of_mem _ (List.mem_append_right _ (List.mem_append_right _ (List.mem_append_left _ h))))
  generalize hAe : (va_A [] s.heap.size) = A
  have hA : ∀ q : Nat, s.heap.size ≤ q → A q := fun q h => by rw [← hAe]; exact Or.inr h
  have hS : va_S A s.heap s.heap [] := va_S.rf
  have hl := lv_entry ([.ref x, .int p0, .int p1]) (n := 3) (Nat.le_of_ble_eq_true rfl)
  rw [lg_entry_eq]
  generalize (lg_sl ([.ref x, .int p0, .int p1]) ++ List.replicate (3 - (lg_sl ([.ref x, .int p0, .int p1])).length) Slot.unset).toArray = ls at hl ⊢
  have hl : lv_has ls 3 [(0, .ref x), (1, .int p0), (2, .int p1)] := hl
  have hP : va_P g vwCl [(x, .inr (10, [.ref tp, .ref ld, .ref im, .ref bk, .ref co, .ref fa, .ref ch, .ref wi, .ref sl, .ref se, .ref dr])), (ld, .inr (4, [.int 0, .int 0, .int 0, .int 0, .int 0, .int 0, .long 0, .ref l1, .ref l2, .ref l3, .ref l4, .ref l5, .ref l6, .ref l7, .ref l8]))] s.heap := hP
  refine lv_aload_n hx hb dX11_mantel_0 rfl (lv_at hl 0 rfl) ?_
  refine va_get (D := g) (ci := 10) (v := .ref ld) (C := RX11) (T := TX11) (N := 11) hx hb hts iX11 hown hK hP 0 rfl rfl 1 (by decide) (hts (.fieldLink RX11 19 "CardsAtYule" "land" "LCardsAtYule$Land;") (List.mem_cons_of_mem _ (List.mem_append_left _ (List.mem_of_getElem? (i := 0) rfl)))) (fun _ h9 => h9) rfl dX11_mantel_1 ?_
  refine lv_iload_n hx hb dX11_mantel_4 rfl (lv_at hl 1 rfl) ?_
  refine ro_i (va_runV (As := [.int p0]) (rest := []) ⟨hx, hb, hml, hown, hts⟩ (k_X4_hasPerson l g cI cJ cB cZ cL ld 0 0 0 0 0 0 0 l1 l2 l3 l4 l5 l6 l7 l8 0 p0 ip0 s.heap.size rfl hzp0) (cwV 1 hts (goodIn_app (g_4 (List.mem_cons_of_mem _ (List.mem_append_left _ (List.mem_of_getElem? (i := 1) rfl))) (List.mem_cons_of_mem _ (List.mem_append_left _ (List.mem_of_getElem? (i := 2) rfl))) (List.mem_cons_of_mem _ (List.mem_append_left _ (List.mem_of_getElem? (i := 3) rfl))) (List.mem_cons_of_mem _ (List.mem_append_left _ (List.mem_of_getElem? (i := 4) rfl))) (by decide +kernel)) (goodIn_sub (fun _ h => List.mem_cons_of_mem _ (List.mem_append_right _ (List.mem_append_left _ h))) good_v_X4_hasPerson)) rfl rfl rfl (by decide +kernel) ⟨Nat.le_of_ble_eq_true rfl, Nat.le_of_ble_eq_true rfl⟩) (pv_RO (q := (RX4, TX4, 15)) (ci := 4) (q0 := 0) (wc := [(ld, .inr (4, [.int 0, .int 0, .int 0, .int 0, .int 0, .int 0, .long 0, .ref l1, .ref l2, .ref l3, .ref l4, .ref l5, .ref l6, .ref l7, .ref l8]))]) hK hP [1] rfl rfl rfl) rfl rfl hl.1 rfl (lv_room (Nat.le_of_ble_eq_true rfl)) dX11_mantel_5 ⟨Nat.le_of_ble_eq_true rfl, Nat.le_of_ble_eq_true rfl⟩) hS hA hP (fun r1 u2 H locs hw3 hP hS => ?_)
  rcases hw3 with ⟨rfl, hw3_0, hw3_1⟩ | ⟨rfl, hw3_0⟩
  · omega
  · refine lv_if_eq (tgt := 22) hx hb dX11_mantel_8 (by decide) (fun _ => ?_) (fun c4 => absurd c4 (by decide))
    refine lv_bipush (v := (-2)) hx hb dX11_mantel_22 (by decide) ?_
    exact W.iret (v := (-2)) hx hb hr (fun t ht hW => ⟨⟨(-2), (), rfl, rfl, trivial⟩, hS.F ht⟩) hS.2.2 dX11_mantel_24
def v_X11_whose : List Cond := .code yX11_whose cX11_whose 3 (some .int) :: (([.fieldLink RX11 19 "CardsAtYule" "land" "LCardsAtYule$Land;", .methodLink RX11 115 yX4_hasPerson, .instanceMethod yX4_hasPerson, .selects RX4 yX4_hasPerson yX4_hasPerson, .initialized RX4] : List Cond) ++ (v_X4_hasPerson ++ (wsX110 ++ ([] : List Cond))))
theorem good_v_X11_whose : v_X11_whose.all goodWord = true := ga_c (by decide +kernel) (ga_a (by decide +kernel) (ga_a good_v_X4_hasPerson (ga_a good_wsX110 rfl)))
set_option maxHeartbeats 4000000 in
set_option maxRecDepth 100000 in
theorem k_X11_whose (l : Launch) (g : va_G) (cI cJ cB cZ cL : ClassId) (x : Nat) (tp : Nat) (ld : Nat) (im : Nat) (bk : Nat) (co : Nat) (fa : Nat) (ch : Nat) (wi : Nat) (sl : Nat) (se : Nat) (dr : Nat) (l1 : Nat) (l2 : Nat) (l3 : Nat) (l4 : Nat) (l5 : Nat) (l6 : Nat) (l7 : Nat) (l8 : Nat) (p0 : Int32) (p1 : Int32) (ip0 : Int) (ip1 : Int) (sz : Nat) (hzp0 : p0.toInt = ip0) (hzp1 : p1.toInt = ip1) : Met l yX11_whose v_X11_whose ({ frames := 1, cells := 0, slots := 0, locals := 21 }) (va_Pc [.ref x, .int p0, .int p1] (pRO g (tyT cI cJ cB cZ cL) [(x, .inr (10, [.ref tp, .ref ld, .ref im, .ref bk, .ref co, .ref fa, .ref ch, .ref wi, .ref sl, .ref se, .ref dr])), (ld, .inr (4, [.int 0, .int 0, .int 0, .int 0, .int 0, .int 0, .long 0, .ref l1, .ref l2, .ref l3, .ref l4, .ref l5, .ref l6, .ref l7, .ref l8]))] sz)) (va_Qi (fun (r : Int32) (u : Unit) => r = (-2)) (fun (_ : Unit) (_ : State) => True) (va_A [] sz)) 0 0 (va_A [] sz) := by
  refine Met.ofW (cc := cX11_whose) (maxL := 3) (ret := (some .int)) (by decide) rfl ?_
  intro p e s m args below meth c s₁ B hml hv
  obtain ⟨rfl, hsz, hP, hK⟩ := hv
  have hx := B.exec
  have hb := B.bytes
  have hr := B.returns
  have hts := atoms_spec (ws := v_X11_whose) B.pre
  have hown : s.vm.findClass RX11 = some m.cls := findClass_of_methodNamed B.named
  have hlocks := B.notSynchronized
  subst hsz
  have iX11 : ∀ w ∈ wsX110, w ∈ v_X11_whose := (fun _ h => List.mem_cons_of_mem _ (List.mem_append_right _ (List.mem_append_right _ (List.mem_append_left _ h))))
  generalize hAe : (va_A [] s.heap.size) = A
  have hA : ∀ q : Nat, s.heap.size ≤ q → A q := fun q h => by rw [← hAe]; exact Or.inr h
  have hS : va_S A s.heap s.heap [] := va_S.rf
  have hl := lv_entry ([.ref x, .int p0, .int p1]) (n := 3) (Nat.le_of_ble_eq_true rfl)
  rw [lg_entry_eq]
  generalize (lg_sl ([.ref x, .int p0, .int p1]) ++ List.replicate (3 - (lg_sl ([.ref x, .int p0, .int p1])).length) Slot.unset).toArray = ls at hl ⊢
  have hl : lv_has ls 3 [(0, .ref x), (1, .int p0), (2, .int p1)] := hl
  have hP : va_P g vwCl [(x, .inr (10, [.ref tp, .ref ld, .ref im, .ref bk, .ref co, .ref fa, .ref ch, .ref wi, .ref sl, .ref se, .ref dr])), (ld, .inr (4, [.int 0, .int 0, .int 0, .int 0, .int 0, .int 0, .long 0, .ref l1, .ref l2, .ref l3, .ref l4, .ref l5, .ref l6, .ref l7, .ref l8]))] s.heap := hP
  refine lv_aload_n hx hb dX11_whose_0 rfl (lv_at hl 0 rfl) ?_
  refine va_get (D := g) (ci := 10) (v := .ref ld) (C := RX11) (T := TX11) (N := 11) hx hb hts iX11 hown hK hP 0 rfl rfl 1 (by decide) (hts (.fieldLink RX11 19 "CardsAtYule" "land" "LCardsAtYule$Land;") (List.mem_cons_of_mem _ (List.mem_append_left _ (List.mem_of_getElem? (i := 0) rfl)))) (fun _ h9 => h9) rfl dX11_whose_1 ?_
  refine lv_iload_n hx hb dX11_whose_4 rfl (lv_at hl 1 rfl) ?_
  refine ro_i (va_runV (As := [.int p0]) (rest := []) ⟨hx, hb, hml, hown, hts⟩ (k_X4_hasPerson l g cI cJ cB cZ cL ld 0 0 0 0 0 0 0 l1 l2 l3 l4 l5 l6 l7 l8 0 p0 ip0 s.heap.size rfl hzp0) (cwV 1 hts (goodIn_app (g_4 (List.mem_cons_of_mem _ (List.mem_append_left _ (List.mem_of_getElem? (i := 1) rfl))) (List.mem_cons_of_mem _ (List.mem_append_left _ (List.mem_of_getElem? (i := 2) rfl))) (List.mem_cons_of_mem _ (List.mem_append_left _ (List.mem_of_getElem? (i := 3) rfl))) (List.mem_cons_of_mem _ (List.mem_append_left _ (List.mem_of_getElem? (i := 4) rfl))) (by decide +kernel)) (goodIn_sub (fun _ h => List.mem_cons_of_mem _ (List.mem_append_right _ (List.mem_append_left _ h))) good_v_X4_hasPerson)) rfl rfl rfl (by decide +kernel) ⟨Nat.le_of_ble_eq_true rfl, Nat.le_of_ble_eq_true rfl⟩) (pv_RO (q := (RX4, TX4, 15)) (ci := 4) (q0 := 0) (wc := [(ld, .inr (4, [.int 0, .int 0, .int 0, .int 0, .int 0, .int 0, .long 0, .ref l1, .ref l2, .ref l3, .ref l4, .ref l5, .ref l6, .ref l7, .ref l8]))]) hK hP [1] rfl rfl rfl) rfl rfl hl.1 rfl (lv_room (Nat.le_of_ble_eq_true rfl)) dX11_whose_5 ⟨Nat.le_of_ble_eq_true rfl, Nat.le_of_ble_eq_true rfl⟩) hS hA hP (fun r1 u2 H locs hw3 hP hS => ?_)
  rcases hw3 with ⟨rfl, hw3_0, hw3_1⟩ | ⟨rfl, hw3_0⟩
  · omega
  · refine lv_if_eq (tgt := 22) hx hb dX11_whose_8 (by decide) (fun _ => ?_) (fun c4 => absurd c4 (by decide))
    refine lv_bipush (v := (-2)) hx hb dX11_whose_22 (by decide) ?_
    exact W.iret (v := (-2)) hx hb hr (fun t ht hW => ⟨⟨(-2), (), rfl, rfl, trivial⟩, hS.F ht⟩) hS.2.2 dX11_whose_24
def v_X11_hurts : List Cond := .code yX11_hurts cX11_hurts 10 (some .int) :: (([.fieldLink RX11 19 "CardsAtYule" "land" "LCardsAtYule$Land;", .methodLink RX11 115 yX4_hasPerson, .instanceMethod yX4_hasPerson, .selects RX4 yX4_hasPerson yX4_hasPerson, .initialized RX4] : List Cond) ++ (v_X4_hasPerson ++ (wsX110 ++ ([] : List Cond))))
theorem good_v_X11_hurts : v_X11_hurts.all goodWord = true := ga_c (by decide +kernel) (ga_a (by decide +kernel) (ga_a good_v_X4_hasPerson (ga_a good_wsX110 rfl)))
set_option maxHeartbeats 4000000 in
set_option maxRecDepth 100000 in
theorem k_X11_hurts (l : Launch) (g : va_G) (cI cJ cB cZ cL : ClassId) (x : Nat) (tp : Nat) (ld : Nat) (im : Nat) (bk : Nat) (co : Nat) (fa : Nat) (ch : Nat) (wi : Nat) (sl : Nat) (se : Nat) (dr : Nat) (l1 : Nat) (l2 : Nat) (l3 : Nat) (l4 : Nat) (l5 : Nat) (l6 : Nat) (l7 : Nat) (l8 : Nat) (p0 : Int32) (p1 : Int32) (ip0 : Int) (ip1 : Int) (sz : Nat) (hzp0 : p0.toInt = ip0) (hzp1 : p1.toInt = ip1) : Met l yX11_hurts v_X11_hurts ({ frames := 1, cells := 0, slots := 0, locals := 21 }) (va_Pc [.ref x, .int p0, .int p1] (pRO g (tyT cI cJ cB cZ cL) [(x, .inr (10, [.ref tp, .ref ld, .ref im, .ref bk, .ref co, .ref fa, .ref ch, .ref wi, .ref sl, .ref se, .ref dr])), (ld, .inr (4, [.int 0, .int 0, .int 0, .int 0, .int 0, .int 0, .long 0, .ref l1, .ref l2, .ref l3, .ref l4, .ref l5, .ref l6, .ref l7, .ref l8]))] sz)) (va_Qi (fun (r : Int32) (u : Unit) => r = (-2)) (fun (_ : Unit) (_ : State) => True) (va_A [] sz)) 0 0 (va_A [] sz) := by
  refine Met.ofW (cc := cX11_hurts) (maxL := 10) (ret := (some .int)) (by decide) rfl ?_
  intro p e s m args below meth c s₁ B hml hv
  obtain ⟨rfl, hsz, hP, hK⟩ := hv
  have hx := B.exec
  have hb := B.bytes
  have hr := B.returns
  have hts := atoms_spec (ws := v_X11_hurts) B.pre
  have hown : s.vm.findClass RX11 = some m.cls := findClass_of_methodNamed B.named
  have hlocks := B.notSynchronized
  subst hsz
  have iX11 : ∀ w ∈ wsX110, w ∈ v_X11_hurts := (fun _ h => List.mem_cons_of_mem _ (List.mem_append_right _ (List.mem_append_right _ (List.mem_append_left _ h))))
  generalize hAe : (va_A [] s.heap.size) = A
  have hA : ∀ q : Nat, s.heap.size ≤ q → A q := fun q h => by rw [← hAe]; exact Or.inr h
  have hS : va_S A s.heap s.heap [] := va_S.rf
  have hl := lv_entry ([.ref x, .int p0, .int p1]) (n := 10) (Nat.le_of_ble_eq_true rfl)
  rw [lg_entry_eq]
  generalize (lg_sl ([.ref x, .int p0, .int p1]) ++ List.replicate (10 - (lg_sl ([.ref x, .int p0, .int p1])).length) Slot.unset).toArray = ls at hl ⊢
  have hl : lv_has ls 10 [(0, .ref x), (1, .int p0), (2, .int p1)] := hl
  have hP : va_P g vwCl [(x, .inr (10, [.ref tp, .ref ld, .ref im, .ref bk, .ref co, .ref fa, .ref ch, .ref wi, .ref sl, .ref se, .ref dr])), (ld, .inr (4, [.int 0, .int 0, .int 0, .int 0, .int 0, .int 0, .long 0, .ref l1, .ref l2, .ref l3, .ref l4, .ref l5, .ref l6, .ref l7, .ref l8]))] s.heap := hP
  refine lv_aload_n hx hb dX11_hurts_0 rfl (lv_at hl 0 rfl) ?_
  refine va_get (D := g) (ci := 10) (v := .ref ld) (C := RX11) (T := TX11) (N := 11) hx hb hts iX11 hown hK hP 0 rfl rfl 1 (by decide) (hts (.fieldLink RX11 19 "CardsAtYule" "land" "LCardsAtYule$Land;") (List.mem_cons_of_mem _ (List.mem_append_left _ (List.mem_of_getElem? (i := 0) rfl)))) (fun _ h9 => h9) rfl dX11_hurts_1 ?_
  refine lv_iload_n hx hb dX11_hurts_4 rfl (lv_at hl 1 rfl) ?_
  refine ro_i (va_runV (As := [.int p0]) (rest := []) ⟨hx, hb, hml, hown, hts⟩ (k_X4_hasPerson l g cI cJ cB cZ cL ld 0 0 0 0 0 0 0 l1 l2 l3 l4 l5 l6 l7 l8 0 p0 ip0 s.heap.size rfl hzp0) (cwV 1 hts (goodIn_app (g_4 (List.mem_cons_of_mem _ (List.mem_append_left _ (List.mem_of_getElem? (i := 1) rfl))) (List.mem_cons_of_mem _ (List.mem_append_left _ (List.mem_of_getElem? (i := 2) rfl))) (List.mem_cons_of_mem _ (List.mem_append_left _ (List.mem_of_getElem? (i := 3) rfl))) (List.mem_cons_of_mem _ (List.mem_append_left _ (List.mem_of_getElem? (i := 4) rfl))) (by decide +kernel)) (goodIn_sub (fun _ h => List.mem_cons_of_mem _ (List.mem_append_right _ (List.mem_append_left _ h))) good_v_X4_hasPerson)) rfl rfl rfl (by decide +kernel) ⟨Nat.le_of_ble_eq_true rfl, Nat.le_of_ble_eq_true rfl⟩) (pv_RO (q := (RX4, TX4, 15)) (ci := 4) (q0 := 0) (wc := [(ld, .inr (4, [.int 0, .int 0, .int 0, .int 0, .int 0, .int 0, .long 0, .ref l1, .ref l2, .ref l3, .ref l4, .ref l5, .ref l6, .ref l7, .ref l8]))]) hK hP [1] rfl rfl rfl) rfl rfl hl.1 rfl (lv_room (Nat.le_of_ble_eq_true rfl)) dX11_hurts_5 ⟨Nat.le_of_ble_eq_true rfl, Nat.le_of_ble_eq_true rfl⟩) hS hA hP (fun r1 u2 H locs hw3 hP hS => ?_)
  rcases hw3 with ⟨rfl, hw3_0, hw3_1⟩ | ⟨rfl, hw3_0⟩
  · omega
  · refine lv_if_eq (tgt := 19) hx hb dX11_hurts_8 (by decide) (fun _ => ?_) (fun c4 => absurd c4 (by decide))
    refine lv_bipush (v := (-2)) hx hb dX11_hurts_19 (by decide) ?_
    exact W.iret (v := (-2)) hx hb hr (fun t ht hW => ⟨⟨(-2), (), rfl, rfl, trivial⟩, hS.F ht⟩) hS.2.2 dX11_hurts_21
def v_X11_cost : List Cond := .code yX11_cost cX11_cost 2 (some .int) :: (([.fieldLink RX11 19 "CardsAtYule" "land" "LCardsAtYule$Land;", .methodLink RX11 115 yX4_hasPerson, .instanceMethod yX4_hasPerson, .selects RX4 yX4_hasPerson yX4_hasPerson, .initialized RX4] : List Cond) ++ (v_X4_hasPerson ++ (wsX110 ++ ([] : List Cond))))
theorem good_v_X11_cost : v_X11_cost.all goodWord = true := ga_c (by decide +kernel) (ga_a (by decide +kernel) (ga_a good_v_X4_hasPerson (ga_a good_wsX110 rfl)))
set_option maxHeartbeats 4000000 in
set_option maxRecDepth 100000 in
theorem k_X11_cost (l : Launch) (g : va_G) (cI cJ cB cZ cL : ClassId) (x : Nat) (tp : Nat) (ld : Nat) (im : Nat) (bk : Nat) (co : Nat) (fa : Nat) (ch : Nat) (wi : Nat) (sl : Nat) (se : Nat) (dr : Nat) (l1 : Nat) (l2 : Nat) (l3 : Nat) (l4 : Nat) (l5 : Nat) (l6 : Nat) (l7 : Nat) (l8 : Nat) (p0 : Int32) (ip0 : Int) (sz : Nat) (hzp0 : p0.toInt = ip0) : Met l yX11_cost v_X11_cost ({ frames := 1, cells := 0, slots := 0, locals := 21 }) (va_Pc [.ref x, .int p0] (pRO g (tyT cI cJ cB cZ cL) [(x, .inr (10, [.ref tp, .ref ld, .ref im, .ref bk, .ref co, .ref fa, .ref ch, .ref wi, .ref sl, .ref se, .ref dr])), (ld, .inr (4, [.int 0, .int 0, .int 0, .int 0, .int 0, .int 0, .long 0, .ref l1, .ref l2, .ref l3, .ref l4, .ref l5, .ref l6, .ref l7, .ref l8]))] sz)) (va_Qi (fun (r : Int32) (u : Unit) => r = (-2)) (fun (_ : Unit) (_ : State) => True) (va_A [] sz)) 0 0 (va_A [] sz) := by
  refine Met.ofW (cc := cX11_cost) (maxL := 2) (ret := (some .int)) (by decide) rfl ?_
  intro p e s m args below meth c s₁ B hml hv
  obtain ⟨rfl, hsz, hP, hK⟩ := hv
  have hx := B.exec
  have hb := B.bytes
  have hr := B.returns
  have hts := atoms_spec (ws := v_X11_cost) B.pre
  have hown : s.vm.findClass RX11 = some m.cls := findClass_of_methodNamed B.named
  have hlocks := B.notSynchronized
  subst hsz
  have iX11 : ∀ w ∈ wsX110, w ∈ v_X11_cost := (fun _ h => List.mem_cons_of_mem _ (List.mem_append_right _ (List.mem_append_right _ (List.mem_append_left _ h))))
  generalize hAe : (va_A [] s.heap.size) = A
  have hA : ∀ q : Nat, s.heap.size ≤ q → A q := fun q h => by rw [← hAe]; exact Or.inr h
  have hS : va_S A s.heap s.heap [] := va_S.rf
  have hl := lv_entry ([.ref x, .int p0]) (n := 2) (Nat.le_of_ble_eq_true rfl)
  rw [lg_entry_eq]
  generalize (lg_sl ([.ref x, .int p0]) ++ List.replicate (2 - (lg_sl ([.ref x, .int p0])).length) Slot.unset).toArray = ls at hl ⊢
  have hl : lv_has ls 2 [(0, .ref x), (1, .int p0)] := hl
  have hP : va_P g vwCl [(x, .inr (10, [.ref tp, .ref ld, .ref im, .ref bk, .ref co, .ref fa, .ref ch, .ref wi, .ref sl, .ref se, .ref dr])), (ld, .inr (4, [.int 0, .int 0, .int 0, .int 0, .int 0, .int 0, .long 0, .ref l1, .ref l2, .ref l3, .ref l4, .ref l5, .ref l6, .ref l7, .ref l8]))] s.heap := hP
  refine lv_aload_n hx hb dX11_cost_0 rfl (lv_at hl 0 rfl) ?_
  refine va_get (D := g) (ci := 10) (v := .ref ld) (C := RX11) (T := TX11) (N := 11) hx hb hts iX11 hown hK hP 0 rfl rfl 1 (by decide) (hts (.fieldLink RX11 19 "CardsAtYule" "land" "LCardsAtYule$Land;") (List.mem_cons_of_mem _ (List.mem_append_left _ (List.mem_of_getElem? (i := 0) rfl)))) (fun _ h9 => h9) rfl dX11_cost_1 ?_
  refine lv_iload_n hx hb dX11_cost_4 rfl (lv_at hl 1 rfl) ?_
  refine ro_i (va_runV (As := [.int p0]) (rest := []) ⟨hx, hb, hml, hown, hts⟩ (k_X4_hasPerson l g cI cJ cB cZ cL ld 0 0 0 0 0 0 0 l1 l2 l3 l4 l5 l6 l7 l8 0 p0 ip0 s.heap.size rfl hzp0) (cwV 1 hts (goodIn_app (g_4 (List.mem_cons_of_mem _ (List.mem_append_left _ (List.mem_of_getElem? (i := 1) rfl))) (List.mem_cons_of_mem _ (List.mem_append_left _ (List.mem_of_getElem? (i := 2) rfl))) (List.mem_cons_of_mem _ (List.mem_append_left _ (List.mem_of_getElem? (i := 3) rfl))) (List.mem_cons_of_mem _ (List.mem_append_left _ (List.mem_of_getElem? (i := 4) rfl))) (by decide +kernel)) (goodIn_sub (fun _ h => List.mem_cons_of_mem _ (List.mem_append_right _ (List.mem_append_left _ h))) good_v_X4_hasPerson)) rfl rfl rfl (by decide +kernel) ⟨Nat.le_of_ble_eq_true rfl, Nat.le_of_ble_eq_true rfl⟩) (pv_RO (q := (RX4, TX4, 15)) (ci := 4) (q0 := 0) (wc := [(ld, .inr (4, [.int 0, .int 0, .int 0, .int 0, .int 0, .int 0, .long 0, .ref l1, .ref l2, .ref l3, .ref l4, .ref l5, .ref l6, .ref l7, .ref l8]))]) hK hP [1] rfl rfl rfl) rfl rfl hl.1 rfl (lv_room (Nat.le_of_ble_eq_true rfl)) dX11_cost_5 ⟨Nat.le_of_ble_eq_true rfl, Nat.le_of_ble_eq_true rfl⟩) hS hA hP (fun r1 u2 H locs hw3 hP hS => ?_)
  rcases hw3 with ⟨rfl, hw3_0, hw3_1⟩ | ⟨rfl, hw3_0⟩
  · omega
  · refine lv_if_ne (tgt := 14) hx hb dX11_cost_8 (by decide) (fun c4 => absurd c4 (by decide)) (fun _ => ?_)
    refine lv_bipush (v := (-2)) hx hb dX11_cost_11 (by decide) ?_
    exact W.iret (v := (-2)) hx hb hr (fun t ht hW => ⟨⟨(-2), (), rfl, rfl, trivial⟩, hS.F ht⟩) hS.2.2 dX11_cost_13
def v_X11_dearest : List Cond := .code yX11_dearest cX11_dearest 6 (some .int) :: (([.fieldLink RX11 19 "CardsAtYule" "land" "LCardsAtYule$Land;", .methodLink RX11 220 yX4_isThere, .instanceMethod yX4_isThere, .selects RX4 yX4_isThere yX4_isThere, .initialized RX4] : List Cond) ++ (v_X4_isThere ++ (wsX110 ++ ([] : List Cond))))
theorem good_v_X11_dearest : v_X11_dearest.all goodWord = true := ga_c (by decide +kernel) (ga_a (by decide +kernel) (ga_a good_v_X4_isThere (ga_a good_wsX110 rfl)))
set_option maxHeartbeats 4000000 in
set_option maxRecDepth 100000 in
theorem k_X11_dearest (l : Launch) (g : va_G) (cI cJ cB cZ cL : ClassId) (x : Nat) (tp : Nat) (ld : Nat) (im : Nat) (bk : Nat) (co : Nat) (fa : Nat) (ch : Nat) (wi : Nat) (sl : Nat) (se : Nat) (dr : Nat) (l1 : Nat) (l2 : Nat) (l3 : Nat) (l4 : Nat) (l5 : Nat) (l6 : Nat) (l7 : Nat) (l8 : Nat) (sz : Nat)  : Met l yX11_dearest v_X11_dearest ({ frames := 1, cells := 0, slots := 0, locals := 20 }) (va_Pc [.ref x] (pRO g (tyT cI cJ cB cZ cL) [(x, .inr (10, [.ref tp, .ref ld, .ref im, .ref bk, .ref co, .ref fa, .ref ch, .ref wi, .ref sl, .ref se, .ref dr])), (ld, .inr (4, [.int 0, .int 0, .int 0, .int 0, .int 0, .int 0, .long 0, .ref l1, .ref l2, .ref l3, .ref l4, .ref l5, .ref l6, .ref l7, .ref l8]))] sz)) (va_Qi (fun (r : Int32) (u : Unit) => r = (-2)) (fun (_ : Unit) (_ : State) => True) (va_A [] sz)) 0 0 (va_A [] sz) := by
  refine Met.ofW (cc := cX11_dearest) (maxL := 6) (ret := (some .int)) (by decide) rfl ?_
  intro p e s m args below meth c s₁ B hml hv
  obtain ⟨rfl, hsz, hP, hK⟩ := hv
  have hx := B.exec
  have hb := B.bytes
  have hr := B.returns
  have hts := atoms_spec (ws := v_X11_dearest) B.pre
  have hown : s.vm.findClass RX11 = some m.cls := findClass_of_methodNamed B.named
  have hlocks := B.notSynchronized
  subst hsz
  have iX11 : ∀ w ∈ wsX110, w ∈ v_X11_dearest := (fun _ h => List.mem_cons_of_mem _ (List.mem_append_right _ (List.mem_append_right _ (List.mem_append_left _ h))))
  generalize hAe : (va_A [] s.heap.size) = A
  have hA : ∀ q : Nat, s.heap.size ≤ q → A q := fun q h => by rw [← hAe]; exact Or.inr h
  have hS : va_S A s.heap s.heap [] := va_S.rf
  have hl := lv_entry ([.ref x]) (n := 6) (Nat.le_of_ble_eq_true rfl)
  rw [lg_entry_eq]
  generalize (lg_sl ([.ref x]) ++ List.replicate (6 - (lg_sl ([.ref x])).length) Slot.unset).toArray = ls at hl ⊢
  have hl : lv_has ls 6 [(0, .ref x)] := hl
  have hP : va_P g vwCl [(x, .inr (10, [.ref tp, .ref ld, .ref im, .ref bk, .ref co, .ref fa, .ref ch, .ref wi, .ref sl, .ref se, .ref dr])), (ld, .inr (4, [.int 0, .int 0, .int 0, .int 0, .int 0, .int 0, .long 0, .ref l1, .ref l2, .ref l3, .ref l4, .ref l5, .ref l6, .ref l7, .ref l8]))] s.heap := hP
  refine lv_aload_n hx hb dX11_dearest_0 rfl (lv_at hl 0 rfl) ?_
  refine va_get (D := g) (ci := 10) (v := .ref ld) (C := RX11) (T := TX11) (N := 11) hx hb hts iX11 hown hK hP 0 rfl rfl 1 (by decide) (hts (.fieldLink RX11 19 "CardsAtYule" "land" "LCardsAtYule$Land;") (List.mem_cons_of_mem _ (List.mem_append_left _ (List.mem_of_getElem? (i := 0) rfl)))) (fun _ h9 => h9) rfl dX11_dearest_1 ?_
  refine ro_i (va_runV (As := []) (rest := []) ⟨hx, hb, hml, hown, hts⟩ (k_X4_isThere l g cI cJ cB cZ cL ld 0 0 0 0 0 0 0 l1 l2 l3 l4 l5 l6 l7 l8 0 s.heap.size rfl) (cwV 0 hts (goodIn_app (g_4 (List.mem_cons_of_mem _ (List.mem_append_left _ (List.mem_of_getElem? (i := 1) rfl))) (List.mem_cons_of_mem _ (List.mem_append_left _ (List.mem_of_getElem? (i := 2) rfl))) (List.mem_cons_of_mem _ (List.mem_append_left _ (List.mem_of_getElem? (i := 3) rfl))) (List.mem_cons_of_mem _ (List.mem_append_left _ (List.mem_of_getElem? (i := 4) rfl))) (by decide +kernel)) (goodIn_sub (fun _ h => List.mem_cons_of_mem _ (List.mem_append_right _ (List.mem_append_left _ h))) good_v_X4_isThere)) rfl rfl rfl (by decide +kernel) ⟨Nat.le_of_ble_eq_true rfl, Nat.le_of_ble_eq_true rfl⟩) (pv_RO (q := (RX4, TX4, 15)) (ci := 4) (q0 := 0) (wc := [(ld, .inr (4, [.int 0, .int 0, .int 0, .int 0, .int 0, .int 0, .long 0, .ref l1, .ref l2, .ref l3, .ref l4, .ref l5, .ref l6, .ref l7, .ref l8]))]) hK hP [1] rfl rfl rfl) rfl rfl hl.1 rfl (lv_room (Nat.le_of_ble_eq_true rfl)) dX11_dearest_4 ⟨Nat.le_of_ble_eq_true rfl, Nat.le_of_ble_eq_true rfl⟩) hS hA hP (fun r1 u2 H locs hw3 hP hS => ?_)
  rcases hw3 with ⟨rfl, hw3_0⟩ | ⟨rfl, hw3_0⟩
  · omega
  · refine lv_if_ne (tgt := 13) hx hb dX11_dearest_7 (by decide) (fun c4 => absurd c4 (by decide)) (fun _ => ?_)
    refine lv_bipush (v := (-2)) hx hb dX11_dearest_10 (by decide) ?_
    exact W.iret (v := (-2)) hx hb hr (fun t ht hW => ⟨⟨(-2), (), rfl, rfl, trivial⟩, hS.F ht⟩) hS.2.2 dX11_dearest_12
def v_X11_last : List Cond := .code yX11_last cX11_last 2 (some .int) :: (([.fieldLink RX11 19 "CardsAtYule" "land" "LCardsAtYule$Land;", .methodLink RX11 135 yX4_hasPair, .instanceMethod yX4_hasPair, .selects RX4 yX4_hasPair yX4_hasPair, .initialized RX4] : List Cond) ++ (v_X4_hasPair ++ (wsX110 ++ ([] : List Cond))))
theorem good_v_X11_last : v_X11_last.all goodWord = true := ga_c (by decide +kernel) (ga_a (by decide +kernel) (ga_a good_v_X4_hasPair (ga_a good_wsX110 rfl)))
set_option maxHeartbeats 4000000 in
set_option maxRecDepth 100000 in
theorem k_X11_last (l : Launch) (g : va_G) (cI cJ cB cZ cL : ClassId) (x : Nat) (tp : Nat) (ld : Nat) (im : Nat) (bk : Nat) (co : Nat) (fa : Nat) (ch : Nat) (wi : Nat) (sl : Nat) (se : Nat) (dr : Nat) (l1 : Nat) (l2 : Nat) (l3 : Nat) (l4 : Nat) (l5 : Nat) (l6 : Nat) (l7 : Nat) (l8 : Nat) (p0 : Int32) (ip0 : Int) (sz : Nat) (hzp0 : p0.toInt = ip0) : Met l yX11_last v_X11_last ({ frames := 1, cells := 0, slots := 0, locals := 21 }) (va_Pc [.ref x, .int p0] (pRO g (tyT cI cJ cB cZ cL) [(x, .inr (10, [.ref tp, .ref ld, .ref im, .ref bk, .ref co, .ref fa, .ref ch, .ref wi, .ref sl, .ref se, .ref dr])), (ld, .inr (4, [.int 0, .int 0, .int 0, .int 0, .int 0, .int 0, .long 0, .ref l1, .ref l2, .ref l3, .ref l4, .ref l5, .ref l6, .ref l7, .ref l8]))] sz)) (va_Qi (fun (r : Int32) (u : Unit) => r = (-2)) (fun (_ : Unit) (_ : State) => True) (va_A [] sz)) 0 0 (va_A [] sz) := by
  refine Met.ofW (cc := cX11_last) (maxL := 2) (ret := (some .int)) (by decide) rfl ?_
  intro p e s m args below meth c s₁ B hml hv
  obtain ⟨rfl, hsz, hP, hK⟩ := hv
  have hx := B.exec
  have hb := B.bytes
  have hr := B.returns
  have hts := atoms_spec (ws := v_X11_last) B.pre
  have hown : s.vm.findClass RX11 = some m.cls := findClass_of_methodNamed B.named
  have hlocks := B.notSynchronized
  subst hsz
  have iX11 : ∀ w ∈ wsX110, w ∈ v_X11_last := (fun _ h => List.mem_cons_of_mem _ (List.mem_append_right _ (List.mem_append_right _ (List.mem_append_left _ h))))
  generalize hAe : (va_A [] s.heap.size) = A
  have hA : ∀ q : Nat, s.heap.size ≤ q → A q := fun q h => by rw [← hAe]; exact Or.inr h
  have hS : va_S A s.heap s.heap [] := va_S.rf
  have hl := lv_entry ([.ref x, .int p0]) (n := 2) (Nat.le_of_ble_eq_true rfl)
  rw [lg_entry_eq]
  generalize (lg_sl ([.ref x, .int p0]) ++ List.replicate (2 - (lg_sl ([.ref x, .int p0])).length) Slot.unset).toArray = ls at hl ⊢
  have hl : lv_has ls 2 [(0, .ref x), (1, .int p0)] := hl
  have hP : va_P g vwCl [(x, .inr (10, [.ref tp, .ref ld, .ref im, .ref bk, .ref co, .ref fa, .ref ch, .ref wi, .ref sl, .ref se, .ref dr])), (ld, .inr (4, [.int 0, .int 0, .int 0, .int 0, .int 0, .int 0, .long 0, .ref l1, .ref l2, .ref l3, .ref l4, .ref l5, .ref l6, .ref l7, .ref l8]))] s.heap := hP
  refine lv_aload_n hx hb dX11_last_0 rfl (lv_at hl 0 rfl) ?_
  refine va_get (D := g) (ci := 10) (v := .ref ld) (C := RX11) (T := TX11) (N := 11) hx hb hts iX11 hown hK hP 0 rfl rfl 1 (by decide) (hts (.fieldLink RX11 19 "CardsAtYule" "land" "LCardsAtYule$Land;") (List.mem_cons_of_mem _ (List.mem_append_left _ (List.mem_of_getElem? (i := 0) rfl)))) (fun _ h9 => h9) rfl dX11_last_1 ?_
  refine lv_iload_n hx hb dX11_last_4 rfl (lv_at hl 1 rfl) ?_
  refine ro_i (va_runV (As := [.int p0]) (rest := []) ⟨hx, hb, hml, hown, hts⟩ (k_X4_hasPair l g cI cJ cB cZ cL ld 0 0 0 0 0 0 0 l1 l2 l3 l4 l5 l6 l7 l8 0 p0 ip0 s.heap.size rfl hzp0) (cwV 1 hts (goodIn_app (g_4 (List.mem_cons_of_mem _ (List.mem_append_left _ (List.mem_of_getElem? (i := 1) rfl))) (List.mem_cons_of_mem _ (List.mem_append_left _ (List.mem_of_getElem? (i := 2) rfl))) (List.mem_cons_of_mem _ (List.mem_append_left _ (List.mem_of_getElem? (i := 3) rfl))) (List.mem_cons_of_mem _ (List.mem_append_left _ (List.mem_of_getElem? (i := 4) rfl))) (by decide +kernel)) (goodIn_sub (fun _ h => List.mem_cons_of_mem _ (List.mem_append_right _ (List.mem_append_left _ h))) good_v_X4_hasPair)) rfl rfl rfl (by decide +kernel) ⟨Nat.le_of_ble_eq_true rfl, Nat.le_of_ble_eq_true rfl⟩) (pv_RO (q := (RX4, TX4, 15)) (ci := 4) (q0 := 0) (wc := [(ld, .inr (4, [.int 0, .int 0, .int 0, .int 0, .int 0, .int 0, .long 0, .ref l1, .ref l2, .ref l3, .ref l4, .ref l5, .ref l6, .ref l7, .ref l8]))]) hK hP [1] rfl rfl rfl) rfl rfl hl.1 rfl (lv_room (Nat.le_of_ble_eq_true rfl)) dX11_last_5 ⟨Nat.le_of_ble_eq_true rfl, Nat.le_of_ble_eq_true rfl⟩) hS hA hP (fun r1 u2 H locs hw3 hP hS => ?_)
  rcases hw3 with ⟨rfl, hw3_0, hw3_1⟩ | ⟨rfl, hw3_0⟩
  · omega
  · refine lv_if_ne (tgt := 14) hx hb dX11_last_8 (by decide) (fun c4 => absurd c4 (by decide)) (fun _ => ?_)
    refine lv_bipush (v := (-2)) hx hb dX11_last_11 (by decide) ?_
    exact W.iret (v := (-2)) hx hb hr (fun t ht hW => ⟨⟨(-2), (), rfl, rfl, trivial⟩, hS.F ht⟩) hS.2.2 dX11_last_13
def v_X11_over : List Cond := .code yX11_over cX11_over 4 (some .int) :: (([.fieldLink RX11 19 "CardsAtYule" "land" "LCardsAtYule$Land;", .methodLink RX11 220 yX4_isThere, .instanceMethod yX4_isThere, .selects RX4 yX4_isThere yX4_isThere, .initialized RX4] : List Cond) ++ (v_X4_isThere ++ (wsX110 ++ ([] : List Cond))))
theorem good_v_X11_over : v_X11_over.all goodWord = true := ga_c (by decide +kernel) (ga_a (by decide +kernel) (ga_a good_v_X4_isThere (ga_a good_wsX110 rfl)))
set_option maxHeartbeats 4000000 in
set_option maxRecDepth 100000 in
theorem k_X11_over (l : Launch) (g : va_G) (cI cJ cB cZ cL : ClassId) (x : Nat) (tp : Nat) (ld : Nat) (im : Nat) (bk : Nat) (co : Nat) (fa : Nat) (ch : Nat) (wi : Nat) (sl : Nat) (se : Nat) (dr : Nat) (l1 : Nat) (l2 : Nat) (l3 : Nat) (l4 : Nat) (l5 : Nat) (l6 : Nat) (l7 : Nat) (l8 : Nat) (sz : Nat)  : Met l yX11_over v_X11_over ({ frames := 1, cells := 0, slots := 0, locals := 20 }) (va_Pc [.ref x] (pRO g (tyT cI cJ cB cZ cL) [(x, .inr (10, [.ref tp, .ref ld, .ref im, .ref bk, .ref co, .ref fa, .ref ch, .ref wi, .ref sl, .ref se, .ref dr])), (ld, .inr (4, [.int 0, .int 0, .int 0, .int 0, .int 0, .int 0, .long 0, .ref l1, .ref l2, .ref l3, .ref l4, .ref l5, .ref l6, .ref l7, .ref l8]))] sz)) (va_Qi (fun (r : Int32) (u : Unit) => r = (-2)) (fun (_ : Unit) (_ : State) => True) (va_A [] sz)) 0 0 (va_A [] sz) := by
  refine Met.ofW (cc := cX11_over) (maxL := 4) (ret := (some .int)) (by decide) rfl ?_
  intro p e s m args below meth c s₁ B hml hv
  obtain ⟨rfl, hsz, hP, hK⟩ := hv
  have hx := B.exec
  have hb := B.bytes
  have hr := B.returns
  have hts := atoms_spec (ws := v_X11_over) B.pre
  have hown : s.vm.findClass RX11 = some m.cls := findClass_of_methodNamed B.named
  have hlocks := B.notSynchronized
  subst hsz
  have iX11 : ∀ w ∈ wsX110, w ∈ v_X11_over := (fun _ h => List.mem_cons_of_mem _ (List.mem_append_right _ (List.mem_append_right _ (List.mem_append_left _ h))))
  generalize hAe : (va_A [] s.heap.size) = A
  have hA : ∀ q : Nat, s.heap.size ≤ q → A q := fun q h => by rw [← hAe]; exact Or.inr h
  have hS : va_S A s.heap s.heap [] := va_S.rf
  have hl := lv_entry ([.ref x]) (n := 4) (Nat.le_of_ble_eq_true rfl)
  rw [lg_entry_eq]
  generalize (lg_sl ([.ref x]) ++ List.replicate (4 - (lg_sl ([.ref x])).length) Slot.unset).toArray = ls at hl ⊢
  have hl : lv_has ls 4 [(0, .ref x)] := hl
  have hP : va_P g vwCl [(x, .inr (10, [.ref tp, .ref ld, .ref im, .ref bk, .ref co, .ref fa, .ref ch, .ref wi, .ref sl, .ref se, .ref dr])), (ld, .inr (4, [.int 0, .int 0, .int 0, .int 0, .int 0, .int 0, .long 0, .ref l1, .ref l2, .ref l3, .ref l4, .ref l5, .ref l6, .ref l7, .ref l8]))] s.heap := hP
  refine lv_aload_n hx hb dX11_over_0 rfl (lv_at hl 0 rfl) ?_
  refine va_get (D := g) (ci := 10) (v := .ref ld) (C := RX11) (T := TX11) (N := 11) hx hb hts iX11 hown hK hP 0 rfl rfl 1 (by decide) (hts (.fieldLink RX11 19 "CardsAtYule" "land" "LCardsAtYule$Land;") (List.mem_cons_of_mem _ (List.mem_append_left _ (List.mem_of_getElem? (i := 0) rfl)))) (fun _ h9 => h9) rfl dX11_over_1 ?_
  refine ro_i (va_runV (As := []) (rest := []) ⟨hx, hb, hml, hown, hts⟩ (k_X4_isThere l g cI cJ cB cZ cL ld 0 0 0 0 0 0 0 l1 l2 l3 l4 l5 l6 l7 l8 0 s.heap.size rfl) (cwV 0 hts (goodIn_app (g_4 (List.mem_cons_of_mem _ (List.mem_append_left _ (List.mem_of_getElem? (i := 1) rfl))) (List.mem_cons_of_mem _ (List.mem_append_left _ (List.mem_of_getElem? (i := 2) rfl))) (List.mem_cons_of_mem _ (List.mem_append_left _ (List.mem_of_getElem? (i := 3) rfl))) (List.mem_cons_of_mem _ (List.mem_append_left _ (List.mem_of_getElem? (i := 4) rfl))) (by decide +kernel)) (goodIn_sub (fun _ h => List.mem_cons_of_mem _ (List.mem_append_right _ (List.mem_append_left _ h))) good_v_X4_isThere)) rfl rfl rfl (by decide +kernel) ⟨Nat.le_of_ble_eq_true rfl, Nat.le_of_ble_eq_true rfl⟩) (pv_RO (q := (RX4, TX4, 15)) (ci := 4) (q0 := 0) (wc := [(ld, .inr (4, [.int 0, .int 0, .int 0, .int 0, .int 0, .int 0, .long 0, .ref l1, .ref l2, .ref l3, .ref l4, .ref l5, .ref l6, .ref l7, .ref l8]))]) hK hP [1] rfl rfl rfl) rfl rfl hl.1 rfl (lv_room (Nat.le_of_ble_eq_true rfl)) dX11_over_4 ⟨Nat.le_of_ble_eq_true rfl, Nat.le_of_ble_eq_true rfl⟩) hS hA hP (fun r1 u2 H locs hw3 hP hS => ?_)
  rcases hw3 with ⟨rfl, hw3_0⟩ | ⟨rfl, hw3_0⟩
  · omega
  · refine lv_if_ne (tgt := 13) hx hb dX11_over_7 (by decide) (fun c4 => absurd c4 (by decide)) (fun _ => ?_)
    refine lv_bipush (v := (-2)) hx hb dX11_over_10 (by decide) ?_
    exact W.iret (v := (-2)) hx hb hr (fun t ht hW => ⟨⟨(-2), (), rfl, rfl, trivial⟩, hS.F ht⟩) hS.2.2 dX11_over_12
def v_X11_poorest : List Cond := .code yX11_poorest cX11_poorest 4 (some .int) :: (([.fieldLink RX11 19 "CardsAtYule" "land" "LCardsAtYule$Land;", .methodLink RX11 220 yX4_isThere, .instanceMethod yX4_isThere, .selects RX4 yX4_isThere yX4_isThere, .initialized RX4] : List Cond) ++ (v_X4_isThere ++ (wsX110 ++ ([] : List Cond))))
theorem good_v_X11_poorest : v_X11_poorest.all goodWord = true := ga_c (by decide +kernel) (ga_a (by decide +kernel) (ga_a good_v_X4_isThere (ga_a good_wsX110 rfl)))
set_option maxHeartbeats 4000000 in
set_option maxRecDepth 100000 in
theorem k_X11_poorest (l : Launch) (g : va_G) (cI cJ cB cZ cL : ClassId) (x : Nat) (tp : Nat) (ld : Nat) (im : Nat) (bk : Nat) (co : Nat) (fa : Nat) (ch : Nat) (wi : Nat) (sl : Nat) (se : Nat) (dr : Nat) (l1 : Nat) (l2 : Nat) (l3 : Nat) (l4 : Nat) (l5 : Nat) (l6 : Nat) (l7 : Nat) (l8 : Nat) (sz : Nat)  : Met l yX11_poorest v_X11_poorest ({ frames := 1, cells := 0, slots := 0, locals := 20 }) (va_Pc [.ref x] (pRO g (tyT cI cJ cB cZ cL) [(x, .inr (10, [.ref tp, .ref ld, .ref im, .ref bk, .ref co, .ref fa, .ref ch, .ref wi, .ref sl, .ref se, .ref dr])), (ld, .inr (4, [.int 0, .int 0, .int 0, .int 0, .int 0, .int 0, .long 0, .ref l1, .ref l2, .ref l3, .ref l4, .ref l5, .ref l6, .ref l7, .ref l8]))] sz)) (va_Qi (fun (r : Int32) (u : Unit) => r = (-2)) (fun (_ : Unit) (_ : State) => True) (va_A [] sz)) 0 0 (va_A [] sz) := by
  refine Met.ofW (cc := cX11_poorest) (maxL := 4) (ret := (some .int)) (by decide) rfl ?_
  intro p e s m args below meth c s₁ B hml hv
  obtain ⟨rfl, hsz, hP, hK⟩ := hv
  have hx := B.exec
  have hb := B.bytes
  have hr := B.returns
  have hts := atoms_spec (ws := v_X11_poorest) B.pre
  have hown : s.vm.findClass RX11 = some m.cls := findClass_of_methodNamed B.named
  have hlocks := B.notSynchronized
  subst hsz
  have iX11 : ∀ w ∈ wsX110, w ∈ v_X11_poorest := (fun _ h => List.mem_cons_of_mem _ (List.mem_append_right _ (List.mem_append_right _ (List.mem_append_left _ h))))
  generalize hAe : (va_A [] s.heap.size) = A
  have hA : ∀ q : Nat, s.heap.size ≤ q → A q := fun q h => by rw [← hAe]; exact Or.inr h
  have hS : va_S A s.heap s.heap [] := va_S.rf
  have hl := lv_entry ([.ref x]) (n := 4) (Nat.le_of_ble_eq_true rfl)
  rw [lg_entry_eq]
  generalize (lg_sl ([.ref x]) ++ List.replicate (4 - (lg_sl ([.ref x])).length) Slot.unset).toArray = ls at hl ⊢
  have hl : lv_has ls 4 [(0, .ref x)] := hl
  have hP : va_P g vwCl [(x, .inr (10, [.ref tp, .ref ld, .ref im, .ref bk, .ref co, .ref fa, .ref ch, .ref wi, .ref sl, .ref se, .ref dr])), (ld, .inr (4, [.int 0, .int 0, .int 0, .int 0, .int 0, .int 0, .long 0, .ref l1, .ref l2, .ref l3, .ref l4, .ref l5, .ref l6, .ref l7, .ref l8]))] s.heap := hP
  refine lv_aload_n hx hb dX11_poorest_0 rfl (lv_at hl 0 rfl) ?_
  refine va_get (D := g) (ci := 10) (v := .ref ld) (C := RX11) (T := TX11) (N := 11) hx hb hts iX11 hown hK hP 0 rfl rfl 1 (by decide) (hts (.fieldLink RX11 19 "CardsAtYule" "land" "LCardsAtYule$Land;") (List.mem_cons_of_mem _ (List.mem_append_left _ (List.mem_of_getElem? (i := 0) rfl)))) (fun _ h9 => h9) rfl dX11_poorest_1 ?_
  refine ro_i (va_runV (As := []) (rest := []) ⟨hx, hb, hml, hown, hts⟩ (k_X4_isThere l g cI cJ cB cZ cL ld 0 0 0 0 0 0 0 l1 l2 l3 l4 l5 l6 l7 l8 0 s.heap.size rfl) (cwV 0 hts (goodIn_app (g_4 (List.mem_cons_of_mem _ (List.mem_append_left _ (List.mem_of_getElem? (i := 1) rfl))) (List.mem_cons_of_mem _ (List.mem_append_left _ (List.mem_of_getElem? (i := 2) rfl))) (List.mem_cons_of_mem _ (List.mem_append_left _ (List.mem_of_getElem? (i := 3) rfl))) (List.mem_cons_of_mem _ (List.mem_append_left _ (List.mem_of_getElem? (i := 4) rfl))) (by decide +kernel)) (goodIn_sub (fun _ h => List.mem_cons_of_mem _ (List.mem_append_right _ (List.mem_append_left _ h))) good_v_X4_isThere)) rfl rfl rfl (by decide +kernel) ⟨Nat.le_of_ble_eq_true rfl, Nat.le_of_ble_eq_true rfl⟩) (pv_RO (q := (RX4, TX4, 15)) (ci := 4) (q0 := 0) (wc := [(ld, .inr (4, [.int 0, .int 0, .int 0, .int 0, .int 0, .int 0, .long 0, .ref l1, .ref l2, .ref l3, .ref l4, .ref l5, .ref l6, .ref l7, .ref l8]))]) hK hP [1] rfl rfl rfl) rfl rfl hl.1 rfl (lv_room (Nat.le_of_ble_eq_true rfl)) dX11_poorest_4 ⟨Nat.le_of_ble_eq_true rfl, Nat.le_of_ble_eq_true rfl⟩) hS hA hP (fun r1 u2 H locs hw3 hP hS => ?_)
  rcases hw3 with ⟨rfl, hw3_0⟩ | ⟨rfl, hw3_0⟩
  · omega
  · refine lv_if_ne (tgt := 13) hx hb dX11_poorest_7 (by decide) (fun c4 => absurd c4 (by decide)) (fun _ => ?_)
    refine lv_bipush (v := (-2)) hx hb dX11_poorest_10 (by decide) ?_
    exact W.iret (v := (-2)) hx hb hr (fun t ht hW => ⟨⟨(-2), (), rfl, rfl, trivial⟩, hS.F ht⟩) hS.2.2 dX11_poorest_12
def v_X11_streak : List Cond := .code yX11_streak cX11_streak 10 (some .int) :: (([.fieldLink RX11 19 "CardsAtYule" "land" "LCardsAtYule$Land;", .methodLink RX11 135 yX4_hasPair, .instanceMethod yX4_hasPair, .selects RX4 yX4_hasPair yX4_hasPair, .initialized RX4] : List Cond) ++ (v_X4_hasPair ++ (wsX110 ++ ([] : List Cond))))
theorem good_v_X11_streak : v_X11_streak.all goodWord = true := ga_c (by decide +kernel) (ga_a (by decide +kernel) (ga_a good_v_X4_hasPair (ga_a good_wsX110 rfl)))
set_option maxHeartbeats 4000000 in
set_option maxRecDepth 100000 in
theorem k_X11_streak (l : Launch) (g : va_G) (cI cJ cB cZ cL : ClassId) (x : Nat) (tp : Nat) (ld : Nat) (im : Nat) (bk : Nat) (co : Nat) (fa : Nat) (ch : Nat) (wi : Nat) (sl : Nat) (se : Nat) (dr : Nat) (l1 : Nat) (l2 : Nat) (l3 : Nat) (l4 : Nat) (l5 : Nat) (l6 : Nat) (l7 : Nat) (l8 : Nat) (p0 : Int32) (p1 : Int32) (ip0 : Int) (ip1 : Int) (sz : Nat) (hzp0 : p0.toInt = ip0) (hzp1 : p1.toInt = ip1) : Met l yX11_streak v_X11_streak ({ frames := 1, cells := 0, slots := 0, locals := 21 }) (va_Pc [.ref x, .int p0, .int p1] (pRO g (tyT cI cJ cB cZ cL) [(x, .inr (10, [.ref tp, .ref ld, .ref im, .ref bk, .ref co, .ref fa, .ref ch, .ref wi, .ref sl, .ref se, .ref dr])), (ld, .inr (4, [.int 0, .int 0, .int 0, .int 0, .int 0, .int 0, .long 0, .ref l1, .ref l2, .ref l3, .ref l4, .ref l5, .ref l6, .ref l7, .ref l8]))] sz)) (va_Qi (fun (r : Int32) (u : Unit) => r = (-2)) (fun (_ : Unit) (_ : State) => True) (va_A [] sz)) 0 0 (va_A [] sz) := by
  refine Met.ofW (cc := cX11_streak) (maxL := 10) (ret := (some .int)) (by decide) rfl ?_
  intro p e s m args below meth c s₁ B hml hv
  obtain ⟨rfl, hsz, hP, hK⟩ := hv
  have hx := B.exec
  have hb := B.bytes
  have hr := B.returns
  have hts := atoms_spec (ws := v_X11_streak) B.pre
  have hown : s.vm.findClass RX11 = some m.cls := findClass_of_methodNamed B.named
  have hlocks := B.notSynchronized
  subst hsz
  have iX11 : ∀ w ∈ wsX110, w ∈ v_X11_streak := (fun _ h => List.mem_cons_of_mem _ (List.mem_append_right _ (List.mem_append_right _ (List.mem_append_left _ h))))
  generalize hAe : (va_A [] s.heap.size) = A
  have hA : ∀ q : Nat, s.heap.size ≤ q → A q := fun q h => by rw [← hAe]; exact Or.inr h
  have hS : va_S A s.heap s.heap [] := va_S.rf
  have hl := lv_entry ([.ref x, .int p0, .int p1]) (n := 10) (Nat.le_of_ble_eq_true rfl)
  rw [lg_entry_eq]
  generalize (lg_sl ([.ref x, .int p0, .int p1]) ++ List.replicate (10 - (lg_sl ([.ref x, .int p0, .int p1])).length) Slot.unset).toArray = ls at hl ⊢
  have hl : lv_has ls 10 [(0, .ref x), (1, .int p0), (2, .int p1)] := hl
  have hP : va_P g vwCl [(x, .inr (10, [.ref tp, .ref ld, .ref im, .ref bk, .ref co, .ref fa, .ref ch, .ref wi, .ref sl, .ref se, .ref dr])), (ld, .inr (4, [.int 0, .int 0, .int 0, .int 0, .int 0, .int 0, .long 0, .ref l1, .ref l2, .ref l3, .ref l4, .ref l5, .ref l6, .ref l7, .ref l8]))] s.heap := hP
  refine lv_aload_n hx hb dX11_streak_0 rfl (lv_at hl 0 rfl) ?_
  refine va_get (D := g) (ci := 10) (v := .ref ld) (C := RX11) (T := TX11) (N := 11) hx hb hts iX11 hown hK hP 0 rfl rfl 1 (by decide) (hts (.fieldLink RX11 19 "CardsAtYule" "land" "LCardsAtYule$Land;") (List.mem_cons_of_mem _ (List.mem_append_left _ (List.mem_of_getElem? (i := 0) rfl)))) (fun _ h9 => h9) rfl dX11_streak_1 ?_
  refine lv_iload_n hx hb dX11_streak_4 rfl (lv_at hl 1 rfl) ?_
  refine ro_i (va_runV (As := [.int p0]) (rest := []) ⟨hx, hb, hml, hown, hts⟩ (k_X4_hasPair l g cI cJ cB cZ cL ld 0 0 0 0 0 0 0 l1 l2 l3 l4 l5 l6 l7 l8 0 p0 ip0 s.heap.size rfl hzp0) (cwV 1 hts (goodIn_app (g_4 (List.mem_cons_of_mem _ (List.mem_append_left _ (List.mem_of_getElem? (i := 1) rfl))) (List.mem_cons_of_mem _ (List.mem_append_left _ (List.mem_of_getElem? (i := 2) rfl))) (List.mem_cons_of_mem _ (List.mem_append_left _ (List.mem_of_getElem? (i := 3) rfl))) (List.mem_cons_of_mem _ (List.mem_append_left _ (List.mem_of_getElem? (i := 4) rfl))) (by decide +kernel)) (goodIn_sub (fun _ h => List.mem_cons_of_mem _ (List.mem_append_right _ (List.mem_append_left _ h))) good_v_X4_hasPair)) rfl rfl rfl (by decide +kernel) ⟨Nat.le_of_ble_eq_true rfl, Nat.le_of_ble_eq_true rfl⟩) (pv_RO (q := (RX4, TX4, 15)) (ci := 4) (q0 := 0) (wc := [(ld, .inr (4, [.int 0, .int 0, .int 0, .int 0, .int 0, .int 0, .long 0, .ref l1, .ref l2, .ref l3, .ref l4, .ref l5, .ref l6, .ref l7, .ref l8]))]) hK hP [1] rfl rfl rfl) rfl rfl hl.1 rfl (lv_room (Nat.le_of_ble_eq_true rfl)) dX11_streak_5 ⟨Nat.le_of_ble_eq_true rfl, Nat.le_of_ble_eq_true rfl⟩) hS hA hP (fun r1 u2 H locs hw3 hP hS => ?_)
  rcases hw3 with ⟨rfl, hw3_0, hw3_1⟩ | ⟨rfl, hw3_0⟩
  · omega
  · refine lv_if_eq (tgt := 19) hx hb dX11_streak_8 (by decide) (fun _ => ?_) (fun c4 => absurd c4 (by decide))
    refine lv_bipush (v := (-2)) hx hb dX11_streak_19 (by decide) ?_
    exact W.iret (v := (-2)) hx hb hr (fun t ht hW => ⟨⟨(-2), (), rfl, rfl, trivial⟩, hS.F ht⟩) hS.2.2 dX11_streak_21
def v_X11_goes : List Cond := .code yX11_goes cX11_goes 3 (some .int) :: (([.fieldLink RX11 19 "CardsAtYule" "land" "LCardsAtYule$Land;", .methodLink RX11 135 yX4_hasPair, .instanceMethod yX4_hasPair, .selects RX4 yX4_hasPair yX4_hasPair, .initialized RX4] : List Cond) ++ (v_X4_hasPair ++ (wsX110 ++ ([] : List Cond))))
theorem good_v_X11_goes : v_X11_goes.all goodWord = true := ga_c (by decide +kernel) (ga_a (by decide +kernel) (ga_a good_v_X4_hasPair (ga_a good_wsX110 rfl)))
set_option maxHeartbeats 4000000 in
set_option maxRecDepth 100000 in
theorem k_X11_goes (l : Launch) (g : va_G) (cI cJ cB cZ cL : ClassId) (x : Nat) (tp : Nat) (ld : Nat) (im : Nat) (bk : Nat) (co : Nat) (fa : Nat) (ch : Nat) (wi : Nat) (sl : Nat) (se : Nat) (dr : Nat) (l1 : Nat) (l2 : Nat) (l3 : Nat) (l4 : Nat) (l5 : Nat) (l6 : Nat) (l7 : Nat) (l8 : Nat) (p0 : Int32) (p1 : Int32) (ip0 : Int) (ip1 : Int) (sz : Nat) (hzp0 : p0.toInt = ip0) (hzp1 : p1.toInt = ip1) : Met l yX11_goes v_X11_goes ({ frames := 1, cells := 0, slots := 0, locals := 21 }) (va_Pc [.ref x, .int p0, .int p1] (pRO g (tyT cI cJ cB cZ cL) [(x, .inr (10, [.ref tp, .ref ld, .ref im, .ref bk, .ref co, .ref fa, .ref ch, .ref wi, .ref sl, .ref se, .ref dr])), (ld, .inr (4, [.int 0, .int 0, .int 0, .int 0, .int 0, .int 0, .long 0, .ref l1, .ref l2, .ref l3, .ref l4, .ref l5, .ref l6, .ref l7, .ref l8]))] sz)) (va_Qi (fun (r : Int32) (u : Unit) => r = (-2)) (fun (_ : Unit) (_ : State) => True) (va_A [] sz)) 0 0 (va_A [] sz) := by
  refine Met.ofW (cc := cX11_goes) (maxL := 3) (ret := (some .int)) (by decide) rfl ?_
  intro p e s m args below meth c s₁ B hml hv
  obtain ⟨rfl, hsz, hP, hK⟩ := hv
  have hx := B.exec
  have hb := B.bytes
  have hr := B.returns
  have hts := atoms_spec (ws := v_X11_goes) B.pre
  have hown : s.vm.findClass RX11 = some m.cls := findClass_of_methodNamed B.named
  have hlocks := B.notSynchronized
  subst hsz
  have iX11 : ∀ w ∈ wsX110, w ∈ v_X11_goes := (fun _ h => List.mem_cons_of_mem _ (List.mem_append_right _ (List.mem_append_right _ (List.mem_append_left _ h))))
  generalize hAe : (va_A [] s.heap.size) = A
  have hA : ∀ q : Nat, s.heap.size ≤ q → A q := fun q h => by rw [← hAe]; exact Or.inr h
  have hS : va_S A s.heap s.heap [] := va_S.rf
  have hl := lv_entry ([.ref x, .int p0, .int p1]) (n := 3) (Nat.le_of_ble_eq_true rfl)
  rw [lg_entry_eq]
  generalize (lg_sl ([.ref x, .int p0, .int p1]) ++ List.replicate (3 - (lg_sl ([.ref x, .int p0, .int p1])).length) Slot.unset).toArray = ls at hl ⊢
  have hl : lv_has ls 3 [(0, .ref x), (1, .int p0), (2, .int p1)] := hl
  have hP : va_P g vwCl [(x, .inr (10, [.ref tp, .ref ld, .ref im, .ref bk, .ref co, .ref fa, .ref ch, .ref wi, .ref sl, .ref se, .ref dr])), (ld, .inr (4, [.int 0, .int 0, .int 0, .int 0, .int 0, .int 0, .long 0, .ref l1, .ref l2, .ref l3, .ref l4, .ref l5, .ref l6, .ref l7, .ref l8]))] s.heap := hP
  refine lv_aload_n hx hb dX11_goes_0 rfl (lv_at hl 0 rfl) ?_
  refine va_get (D := g) (ci := 10) (v := .ref ld) (C := RX11) (T := TX11) (N := 11) hx hb hts iX11 hown hK hP 0 rfl rfl 1 (by decide) (hts (.fieldLink RX11 19 "CardsAtYule" "land" "LCardsAtYule$Land;") (List.mem_cons_of_mem _ (List.mem_append_left _ (List.mem_of_getElem? (i := 0) rfl)))) (fun _ h9 => h9) rfl dX11_goes_1 ?_
  refine lv_iload_n hx hb dX11_goes_4 rfl (lv_at hl 1 rfl) ?_
  refine ro_i (va_runV (As := [.int p0]) (rest := []) ⟨hx, hb, hml, hown, hts⟩ (k_X4_hasPair l g cI cJ cB cZ cL ld 0 0 0 0 0 0 0 l1 l2 l3 l4 l5 l6 l7 l8 0 p0 ip0 s.heap.size rfl hzp0) (cwV 1 hts (goodIn_app (g_4 (List.mem_cons_of_mem _ (List.mem_append_left _ (List.mem_of_getElem? (i := 1) rfl))) (List.mem_cons_of_mem _ (List.mem_append_left _ (List.mem_of_getElem? (i := 2) rfl))) (List.mem_cons_of_mem _ (List.mem_append_left _ (List.mem_of_getElem? (i := 3) rfl))) (List.mem_cons_of_mem _ (List.mem_append_left _ (List.mem_of_getElem? (i := 4) rfl))) (by decide +kernel)) (goodIn_sub (fun _ h => List.mem_cons_of_mem _ (List.mem_append_right _ (List.mem_append_left _ h))) good_v_X4_hasPair)) rfl rfl rfl (by decide +kernel) ⟨Nat.le_of_ble_eq_true rfl, Nat.le_of_ble_eq_true rfl⟩) (pv_RO (q := (RX4, TX4, 15)) (ci := 4) (q0 := 0) (wc := [(ld, .inr (4, [.int 0, .int 0, .int 0, .int 0, .int 0, .int 0, .long 0, .ref l1, .ref l2, .ref l3, .ref l4, .ref l5, .ref l6, .ref l7, .ref l8]))]) hK hP [1] rfl rfl rfl) rfl rfl hl.1 rfl (lv_room (Nat.le_of_ble_eq_true rfl)) dX11_goes_5 ⟨Nat.le_of_ble_eq_true rfl, Nat.le_of_ble_eq_true rfl⟩) hS hA hP (fun r1 u2 H locs hw3 hP hS => ?_)
  rcases hw3 with ⟨rfl, hw3_0, hw3_1⟩ | ⟨rfl, hw3_0⟩
  · omega
  · refine lv_if_eq (tgt := 19) hx hb dX11_goes_8 (by decide) (fun _ => ?_) (fun c4 => absurd c4 (by decide))
    refine lv_bipush (v := (-2)) hx hb dX11_goes_19 (by decide) ?_
    exact W.iret (v := (-2)) hx hb hr (fun t ht hW => ⟨⟨(-2), (), rfl, rfl, trivial⟩, hS.F ht⟩) hS.2.2 dX11_goes_21
def v_X11_lost : List Cond := .code yX11_lost cX11_lost 4 (some .int) :: (([.fieldLink RX11 19 "CardsAtYule" "land" "LCardsAtYule$Land;", .methodLink RX11 135 yX4_hasPair, .instanceMethod yX4_hasPair, .selects RX4 yX4_hasPair yX4_hasPair, .initialized RX4] : List Cond) ++ (v_X4_hasPair ++ (wsX110 ++ ([] : List Cond))))
theorem good_v_X11_lost : v_X11_lost.all goodWord = true := ga_c (by decide +kernel) (ga_a (by decide +kernel) (ga_a good_v_X4_hasPair (ga_a good_wsX110 rfl)))
set_option maxHeartbeats 4000000 in
set_option maxRecDepth 100000 in
theorem k_X11_lost (l : Launch) (g : va_G) (cI cJ cB cZ cL : ClassId) (x : Nat) (tp : Nat) (ld : Nat) (im : Nat) (bk : Nat) (co : Nat) (fa : Nat) (ch : Nat) (wi : Nat) (sl : Nat) (se : Nat) (dr : Nat) (l1 : Nat) (l2 : Nat) (l3 : Nat) (l4 : Nat) (l5 : Nat) (l6 : Nat) (l7 : Nat) (l8 : Nat) (p0 : Int32) (p1 : Int32) (p2 : Int32) (ip0 : Int) (ip1 : Int) (ip2 : Int) (sz : Nat) (hzp0 : p0.toInt = ip0) (hzp1 : p1.toInt = ip1) (hzp2 : p2.toInt = ip2) : Met l yX11_lost v_X11_lost ({ frames := 1, cells := 0, slots := 0, locals := 21 }) (va_Pc [.ref x, .int p0, .int p1, .int p2] (pRO g (tyT cI cJ cB cZ cL) [(x, .inr (10, [.ref tp, .ref ld, .ref im, .ref bk, .ref co, .ref fa, .ref ch, .ref wi, .ref sl, .ref se, .ref dr])), (ld, .inr (4, [.int 0, .int 0, .int 0, .int 0, .int 0, .int 0, .long 0, .ref l1, .ref l2, .ref l3, .ref l4, .ref l5, .ref l6, .ref l7, .ref l8]))] sz)) (va_Qi (fun (r : Int32) (u : Unit) => r = (-2)) (fun (_ : Unit) (_ : State) => True) (va_A [] sz)) 0 0 (va_A [] sz) := by
  refine Met.ofW (cc := cX11_lost) (maxL := 4) (ret := (some .int)) (by decide) rfl ?_
  intro p e s m args below meth c s₁ B hml hv
  obtain ⟨rfl, hsz, hP, hK⟩ := hv
  have hx := B.exec
  have hb := B.bytes
  have hr := B.returns
  have hts := atoms_spec (ws := v_X11_lost) B.pre
  have hown : s.vm.findClass RX11 = some m.cls := findClass_of_methodNamed B.named
  have hlocks := B.notSynchronized
  subst hsz
  have iX11 : ∀ w ∈ wsX110, w ∈ v_X11_lost := (fun _ h => List.mem_cons_of_mem _ (List.mem_append_right _ (List.mem_append_right _ (List.mem_append_left _ h))))
  generalize hAe : (va_A [] s.heap.size) = A
  have hA : ∀ q : Nat, s.heap.size ≤ q → A q := fun q h => by rw [← hAe]; exact Or.inr h
  have hS : va_S A s.heap s.heap [] := va_S.rf
  have hl := lv_entry ([.ref x, .int p0, .int p1, .int p2]) (n := 4) (Nat.le_of_ble_eq_true rfl)
  rw [lg_entry_eq]
  generalize (lg_sl ([.ref x, .int p0, .int p1, .int p2]) ++ List.replicate (4 - (lg_sl ([.ref x, .int p0, .int p1, .int p2])).length) Slot.unset).toArray = ls at hl ⊢
  have hl : lv_has ls 4 [(0, .ref x), (1, .int p0), (2, .int p1), (3, .int p2)] := hl
  have hP : va_P g vwCl [(x, .inr (10, [.ref tp, .ref ld, .ref im, .ref bk, .ref co, .ref fa, .ref ch, .ref wi, .ref sl, .ref se, .ref dr])), (ld, .inr (4, [.int 0, .int 0, .int 0, .int 0, .int 0, .int 0, .long 0, .ref l1, .ref l2, .ref l3, .ref l4, .ref l5, .ref l6, .ref l7, .ref l8]))] s.heap := hP
  refine lv_aload_n hx hb dX11_lost_0 rfl (lv_at hl 0 rfl) ?_
  refine va_get (D := g) (ci := 10) (v := .ref ld) (C := RX11) (T := TX11) (N := 11) hx hb hts iX11 hown hK hP 0 rfl rfl 1 (by decide) (hts (.fieldLink RX11 19 "CardsAtYule" "land" "LCardsAtYule$Land;") (List.mem_cons_of_mem _ (List.mem_append_left _ (List.mem_of_getElem? (i := 0) rfl)))) (fun _ h9 => h9) rfl dX11_lost_1 ?_
  refine lv_iload_n hx hb dX11_lost_4 rfl (lv_at hl 1 rfl) ?_
  refine ro_i (va_runV (As := [.int p0]) (rest := []) ⟨hx, hb, hml, hown, hts⟩ (k_X4_hasPair l g cI cJ cB cZ cL ld 0 0 0 0 0 0 0 l1 l2 l3 l4 l5 l6 l7 l8 0 p0 ip0 s.heap.size rfl hzp0) (cwV 1 hts (goodIn_app (g_4 (List.mem_cons_of_mem _ (List.mem_append_left _ (List.mem_of_getElem? (i := 1) rfl))) (List.mem_cons_of_mem _ (List.mem_append_left _ (List.mem_of_getElem? (i := 2) rfl))) (List.mem_cons_of_mem _ (List.mem_append_left _ (List.mem_of_getElem? (i := 3) rfl))) (List.mem_cons_of_mem _ (List.mem_append_left _ (List.mem_of_getElem? (i := 4) rfl))) (by decide +kernel)) (goodIn_sub (fun _ h => List.mem_cons_of_mem _ (List.mem_append_right _ (List.mem_append_left _ h))) good_v_X4_hasPair)) rfl rfl rfl (by decide +kernel) ⟨Nat.le_of_ble_eq_true rfl, Nat.le_of_ble_eq_true rfl⟩) (pv_RO (q := (RX4, TX4, 15)) (ci := 4) (q0 := 0) (wc := [(ld, .inr (4, [.int 0, .int 0, .int 0, .int 0, .int 0, .int 0, .long 0, .ref l1, .ref l2, .ref l3, .ref l4, .ref l5, .ref l6, .ref l7, .ref l8]))]) hK hP [1] rfl rfl rfl) rfl rfl hl.1 rfl (lv_room (Nat.le_of_ble_eq_true rfl)) dX11_lost_5 ⟨Nat.le_of_ble_eq_true rfl, Nat.le_of_ble_eq_true rfl⟩) hS hA hP (fun r1 u2 H locs hw3 hP hS => ?_)
  rcases hw3 with ⟨rfl, hw3_0, hw3_1⟩ | ⟨rfl, hw3_0⟩
  · omega
  · refine lv_if_eq (tgt := 22) hx hb dX11_lost_8 (by decide) (fun _ => ?_) (fun c4 => absurd c4 (by decide))
    refine lv_bipush (v := (-2)) hx hb dX11_lost_22 (by decide) ?_
    exact W.iret (v := (-2)) hx hb hr (fun t ht hW => ⟨⟨(-2), (), rfl, rfl, trivial⟩, hS.F ht⟩) hS.2.2 dX11_lost_24
def v_X11_back : List Cond := .code yX11_back cX11_back 7 (some .int) :: (([.fieldLink RX11 19 "CardsAtYule" "land" "LCardsAtYule$Land;", .methodLink RX11 135 yX4_hasPair, .instanceMethod yX4_hasPair, .selects RX4 yX4_hasPair yX4_hasPair, .initialized RX4] : List Cond) ++ (v_X4_hasPair ++ (wsX110 ++ ([] : List Cond))))
theorem good_v_X11_back : v_X11_back.all goodWord = true := ga_c (by decide +kernel) (ga_a (by decide +kernel) (ga_a good_v_X4_hasPair (ga_a good_wsX110 rfl)))
set_option maxHeartbeats 4000000 in
set_option maxRecDepth 100000 in
theorem k_X11_back (l : Launch) (g : va_G) (cI cJ cB cZ cL : ClassId) (x : Nat) (tp : Nat) (ld : Nat) (im : Nat) (bk : Nat) (co : Nat) (fa : Nat) (ch : Nat) (wi : Nat) (sl : Nat) (se : Nat) (dr : Nat) (l1 : Nat) (l2 : Nat) (l3 : Nat) (l4 : Nat) (l5 : Nat) (l6 : Nat) (l7 : Nat) (l8 : Nat) (p0 : Int32) (p1 : Int32) (ip0 : Int) (ip1 : Int) (sz : Nat) (hzp0 : p0.toInt = ip0) (hzp1 : p1.toInt = ip1) : Met l yX11_back v_X11_back ({ frames := 1, cells := 0, slots := 0, locals := 21 }) (va_Pc [.ref x, .int p0, .int p1] (pRO g (tyT cI cJ cB cZ cL) [(x, .inr (10, [.ref tp, .ref ld, .ref im, .ref bk, .ref co, .ref fa, .ref ch, .ref wi, .ref sl, .ref se, .ref dr])), (ld, .inr (4, [.int 0, .int 0, .int 0, .int 0, .int 0, .int 0, .long 0, .ref l1, .ref l2, .ref l3, .ref l4, .ref l5, .ref l6, .ref l7, .ref l8]))] sz)) (va_Qi (fun (r : Int32) (u : Unit) => r = (-2)) (fun (_ : Unit) (_ : State) => True) (va_A [] sz)) 0 0 (va_A [] sz) := by
  refine Met.ofW (cc := cX11_back) (maxL := 7) (ret := (some .int)) (by decide) rfl ?_
  intro p e s m args below meth c s₁ B hml hv
  obtain ⟨rfl, hsz, hP, hK⟩ := hv
  have hx := B.exec
  have hb := B.bytes
  have hr := B.returns
  have hts := atoms_spec (ws := v_X11_back) B.pre
  have hown : s.vm.findClass RX11 = some m.cls := findClass_of_methodNamed B.named
  have hlocks := B.notSynchronized
  subst hsz
  have iX11 : ∀ w ∈ wsX110, w ∈ v_X11_back := (fun _ h => List.mem_cons_of_mem _ (List.mem_append_right _ (List.mem_append_right _ (List.mem_append_left _ h))))
  generalize hAe : (va_A [] s.heap.size) = A
  have hA : ∀ q : Nat, s.heap.size ≤ q → A q := fun q h => by rw [← hAe]; exact Or.inr h
  have hS : va_S A s.heap s.heap [] := va_S.rf
  have hl := lv_entry ([.ref x, .int p0, .int p1]) (n := 7) (Nat.le_of_ble_eq_true rfl)
  rw [lg_entry_eq]
  generalize (lg_sl ([.ref x, .int p0, .int p1]) ++ List.replicate (7 - (lg_sl ([.ref x, .int p0, .int p1])).length) Slot.unset).toArray = ls at hl ⊢
  have hl : lv_has ls 7 [(0, .ref x), (1, .int p0), (2, .int p1)] := hl
  have hP : va_P g vwCl [(x, .inr (10, [.ref tp, .ref ld, .ref im, .ref bk, .ref co, .ref fa, .ref ch, .ref wi, .ref sl, .ref se, .ref dr])), (ld, .inr (4, [.int 0, .int 0, .int 0, .int 0, .int 0, .int 0, .long 0, .ref l1, .ref l2, .ref l3, .ref l4, .ref l5, .ref l6, .ref l7, .ref l8]))] s.heap := hP
  refine lv_aload_n hx hb dX11_back_0 rfl (lv_at hl 0 rfl) ?_
  refine va_get (D := g) (ci := 10) (v := .ref ld) (C := RX11) (T := TX11) (N := 11) hx hb hts iX11 hown hK hP 0 rfl rfl 1 (by decide) (hts (.fieldLink RX11 19 "CardsAtYule" "land" "LCardsAtYule$Land;") (List.mem_cons_of_mem _ (List.mem_append_left _ (List.mem_of_getElem? (i := 0) rfl)))) (fun _ h9 => h9) rfl dX11_back_1 ?_
  refine lv_iload_n hx hb dX11_back_4 rfl (lv_at hl 1 rfl) ?_
  refine ro_i (va_runV (As := [.int p0]) (rest := []) ⟨hx, hb, hml, hown, hts⟩ (k_X4_hasPair l g cI cJ cB cZ cL ld 0 0 0 0 0 0 0 l1 l2 l3 l4 l5 l6 l7 l8 0 p0 ip0 s.heap.size rfl hzp0) (cwV 1 hts (goodIn_app (g_4 (List.mem_cons_of_mem _ (List.mem_append_left _ (List.mem_of_getElem? (i := 1) rfl))) (List.mem_cons_of_mem _ (List.mem_append_left _ (List.mem_of_getElem? (i := 2) rfl))) (List.mem_cons_of_mem _ (List.mem_append_left _ (List.mem_of_getElem? (i := 3) rfl))) (List.mem_cons_of_mem _ (List.mem_append_left _ (List.mem_of_getElem? (i := 4) rfl))) (by decide +kernel)) (goodIn_sub (fun _ h => List.mem_cons_of_mem _ (List.mem_append_right _ (List.mem_append_left _ h))) good_v_X4_hasPair)) rfl rfl rfl (by decide +kernel) ⟨Nat.le_of_ble_eq_true rfl, Nat.le_of_ble_eq_true rfl⟩) (pv_RO (q := (RX4, TX4, 15)) (ci := 4) (q0 := 0) (wc := [(ld, .inr (4, [.int 0, .int 0, .int 0, .int 0, .int 0, .int 0, .long 0, .ref l1, .ref l2, .ref l3, .ref l4, .ref l5, .ref l6, .ref l7, .ref l8]))]) hK hP [1] rfl rfl rfl) rfl rfl hl.1 rfl (lv_room (Nat.le_of_ble_eq_true rfl)) dX11_back_5 ⟨Nat.le_of_ble_eq_true rfl, Nat.le_of_ble_eq_true rfl⟩) hS hA hP (fun r1 u2 H locs hw3 hP hS => ?_)
  rcases hw3 with ⟨rfl, hw3_0, hw3_1⟩ | ⟨rfl, hw3_0⟩
  · omega
  · refine lv_if_eq (tgt := 18) hx hb dX11_back_8 (by decide) (fun _ => ?_) (fun c4 => absurd c4 (by decide))
    refine lv_bipush (v := (-2)) hx hb dX11_back_18 (by decide) ?_
    exact W.iret (v := (-2)) hx hb hr (fun t ht hW => ⟨⟨(-2), (), rfl, rfl, trivial⟩, hS.F ht⟩) hS.2.2 dX11_back_20
def v_X11_strike : List Cond := .code yX11_strike cX11_strike 2 (some .int) :: (([.fieldLink RX11 19 "CardsAtYule" "land" "LCardsAtYule$Land;", .methodLink RX11 184 yX4_hasYear, .instanceMethod yX4_hasYear, .selects RX4 yX4_hasYear yX4_hasYear, .initialized RX4] : List Cond) ++ (v_X4_hasYear ++ (wsX110 ++ ([] : List Cond))))
theorem good_v_X11_strike : v_X11_strike.all goodWord = true := ga_c (by decide +kernel) (ga_a (by decide +kernel) (ga_a good_v_X4_hasYear (ga_a good_wsX110 rfl)))
set_option maxHeartbeats 4000000 in
set_option maxRecDepth 100000 in
theorem k_X11_strike (l : Launch) (g : va_G) (cI cJ cB cZ cL : ClassId) (x : Nat) (tp : Nat) (ld : Nat) (im : Nat) (bk : Nat) (co : Nat) (fa : Nat) (ch : Nat) (wi : Nat) (sl : Nat) (se : Nat) (dr : Nat) (l1 : Nat) (l2 : Nat) (l3 : Nat) (l4 : Nat) (l5 : Nat) (l6 : Nat) (l7 : Nat) (l8 : Nat) (p0 : Int32) (ip0 : Int) (sz : Nat) (hzp0 : p0.toInt = ip0) : Met l yX11_strike v_X11_strike ({ frames := 1, cells := 0, slots := 0, locals := 21 }) (va_Pc [.ref x, .int p0] (pRO g (tyT cI cJ cB cZ cL) [(x, .inr (10, [.ref tp, .ref ld, .ref im, .ref bk, .ref co, .ref fa, .ref ch, .ref wi, .ref sl, .ref se, .ref dr])), (ld, .inr (4, [.int 0, .int 0, .int 0, .int 0, .int 0, .int 0, .long 0, .ref l1, .ref l2, .ref l3, .ref l4, .ref l5, .ref l6, .ref l7, .ref l8]))] sz)) (va_Qi (fun (r : Int32) (u : Unit) => r = (-2)) (fun (_ : Unit) (_ : State) => True) (va_A [] sz)) 0 0 (va_A [] sz) := by
  refine Met.ofW (cc := cX11_strike) (maxL := 2) (ret := (some .int)) (by decide) rfl ?_
  intro p e s m args below meth c s₁ B hml hv
  obtain ⟨rfl, hsz, hP, hK⟩ := hv
  have hx := B.exec
  have hb := B.bytes
  have hr := B.returns
  have hts := atoms_spec (ws := v_X11_strike) B.pre
  have hown : s.vm.findClass RX11 = some m.cls := findClass_of_methodNamed B.named
  have hlocks := B.notSynchronized
  subst hsz
  have iX11 : ∀ w ∈ wsX110, w ∈ v_X11_strike := (fun _ h => List.mem_cons_of_mem _ (List.mem_append_right _ (List.mem_append_right _ (List.mem_append_left _ h))))
  generalize hAe : (va_A [] s.heap.size) = A
  have hA : ∀ q : Nat, s.heap.size ≤ q → A q := fun q h => by rw [← hAe]; exact Or.inr h
  have hS : va_S A s.heap s.heap [] := va_S.rf
  have hl := lv_entry ([.ref x, .int p0]) (n := 2) (Nat.le_of_ble_eq_true rfl)
  rw [lg_entry_eq]
  generalize (lg_sl ([.ref x, .int p0]) ++ List.replicate (2 - (lg_sl ([.ref x, .int p0])).length) Slot.unset).toArray = ls at hl ⊢
  have hl : lv_has ls 2 [(0, .ref x), (1, .int p0)] := hl
  have hP : va_P g vwCl [(x, .inr (10, [.ref tp, .ref ld, .ref im, .ref bk, .ref co, .ref fa, .ref ch, .ref wi, .ref sl, .ref se, .ref dr])), (ld, .inr (4, [.int 0, .int 0, .int 0, .int 0, .int 0, .int 0, .long 0, .ref l1, .ref l2, .ref l3, .ref l4, .ref l5, .ref l6, .ref l7, .ref l8]))] s.heap := hP
  refine lv_aload_n hx hb dX11_strike_0 rfl (lv_at hl 0 rfl) ?_
  refine va_get (D := g) (ci := 10) (v := .ref ld) (C := RX11) (T := TX11) (N := 11) hx hb hts iX11 hown hK hP 0 rfl rfl 1 (by decide) (hts (.fieldLink RX11 19 "CardsAtYule" "land" "LCardsAtYule$Land;") (List.mem_cons_of_mem _ (List.mem_append_left _ (List.mem_of_getElem? (i := 0) rfl)))) (fun _ h9 => h9) rfl dX11_strike_1 ?_
  refine lv_iload_n hx hb dX11_strike_4 rfl (lv_at hl 1 rfl) ?_
  refine ro_i (va_runV (As := [.int p0]) (rest := []) ⟨hx, hb, hml, hown, hts⟩ (k_X4_hasYear l g cI cJ cB cZ cL ld 0 0 0 0 0 0 0 l1 l2 l3 l4 l5 l6 l7 l8 0 p0 ip0 s.heap.size rfl hzp0) (cwV 1 hts (goodIn_app (g_4 (List.mem_cons_of_mem _ (List.mem_append_left _ (List.mem_of_getElem? (i := 1) rfl))) (List.mem_cons_of_mem _ (List.mem_append_left _ (List.mem_of_getElem? (i := 2) rfl))) (List.mem_cons_of_mem _ (List.mem_append_left _ (List.mem_of_getElem? (i := 3) rfl))) (List.mem_cons_of_mem _ (List.mem_append_left _ (List.mem_of_getElem? (i := 4) rfl))) (by decide +kernel)) (goodIn_sub (fun _ h => List.mem_cons_of_mem _ (List.mem_append_right _ (List.mem_append_left _ h))) good_v_X4_hasYear)) rfl rfl rfl (by decide +kernel) ⟨Nat.le_of_ble_eq_true rfl, Nat.le_of_ble_eq_true rfl⟩) (pv_RO (q := (RX4, TX4, 15)) (ci := 4) (q0 := 0) (wc := [(ld, .inr (4, [.int 0, .int 0, .int 0, .int 0, .int 0, .int 0, .long 0, .ref l1, .ref l2, .ref l3, .ref l4, .ref l5, .ref l6, .ref l7, .ref l8]))]) hK hP [1] rfl rfl rfl) rfl rfl hl.1 rfl (lv_room (Nat.le_of_ble_eq_true rfl)) dX11_strike_5 ⟨Nat.le_of_ble_eq_true rfl, Nat.le_of_ble_eq_true rfl⟩) hS hA hP (fun r1 u2 H locs hw3 hP hS => ?_)
  rcases hw3 with ⟨rfl, hw3_0, hw3_1⟩ | ⟨rfl, hw3_0⟩
  · omega
  · refine lv_if_eq (tgt := 20) hx hb dX11_strike_8 (by decide) (fun _ => ?_) (fun c4 => absurd c4 (by decide))
    refine lv_bipush (v := (-2)) hx hb dX11_strike_20 (by decide) ?_
    exact W.iret (v := (-2)) hx hb hr (fun t ht hW => ⟨⟨(-2), (), rfl, rfl, trivial⟩, hS.F ht⟩) hS.2.2 dX11_strike_22
def v_X11_saves : List Cond := .code yX11_saves cX11_saves 2 (some .int) :: (([.fieldLink RX11 19 "CardsAtYule" "land" "LCardsAtYule$Land;", .methodLink RX11 184 yX4_hasYear, .instanceMethod yX4_hasYear, .selects RX4 yX4_hasYear yX4_hasYear, .initialized RX4] : List Cond) ++ (v_X4_hasYear ++ (wsX110 ++ ([] : List Cond))))
theorem good_v_X11_saves : v_X11_saves.all goodWord = true := ga_c (by decide +kernel) (ga_a (by decide +kernel) (ga_a good_v_X4_hasYear (ga_a good_wsX110 rfl)))
set_option maxHeartbeats 4000000 in
set_option maxRecDepth 100000 in
theorem k_X11_saves (l : Launch) (g : va_G) (cI cJ cB cZ cL : ClassId) (x : Nat) (tp : Nat) (ld : Nat) (im : Nat) (bk : Nat) (co : Nat) (fa : Nat) (ch : Nat) (wi : Nat) (sl : Nat) (se : Nat) (dr : Nat) (l1 : Nat) (l2 : Nat) (l3 : Nat) (l4 : Nat) (l5 : Nat) (l6 : Nat) (l7 : Nat) (l8 : Nat) (p0 : Int32) (ip0 : Int) (sz : Nat) (hzp0 : p0.toInt = ip0) : Met l yX11_saves v_X11_saves ({ frames := 1, cells := 0, slots := 0, locals := 21 }) (va_Pc [.ref x, .int p0] (pRO g (tyT cI cJ cB cZ cL) [(x, .inr (10, [.ref tp, .ref ld, .ref im, .ref bk, .ref co, .ref fa, .ref ch, .ref wi, .ref sl, .ref se, .ref dr])), (ld, .inr (4, [.int 0, .int 0, .int 0, .int 0, .int 0, .int 0, .long 0, .ref l1, .ref l2, .ref l3, .ref l4, .ref l5, .ref l6, .ref l7, .ref l8]))] sz)) (va_Qi (fun (r : Int32) (u : Unit) => r = (-2)) (fun (_ : Unit) (_ : State) => True) (va_A [] sz)) 0 0 (va_A [] sz) := by
  refine Met.ofW (cc := cX11_saves) (maxL := 2) (ret := (some .int)) (by decide) rfl ?_
  intro p e s m args below meth c s₁ B hml hv
  obtain ⟨rfl, hsz, hP, hK⟩ := hv
  have hx := B.exec
  have hb := B.bytes
  have hr := B.returns
  have hts := atoms_spec (ws := v_X11_saves) B.pre
  have hown : s.vm.findClass RX11 = some m.cls := findClass_of_methodNamed B.named
  have hlocks := B.notSynchronized
  subst hsz
  have iX11 : ∀ w ∈ wsX110, w ∈ v_X11_saves := (fun _ h => List.mem_cons_of_mem _ (List.mem_append_right _ (List.mem_append_right _ (List.mem_append_left _ h))))
  generalize hAe : (va_A [] s.heap.size) = A
  have hA : ∀ q : Nat, s.heap.size ≤ q → A q := fun q h => by rw [← hAe]; exact Or.inr h
  have hS : va_S A s.heap s.heap [] := va_S.rf
  have hl := lv_entry ([.ref x, .int p0]) (n := 2) (Nat.le_of_ble_eq_true rfl)
  rw [lg_entry_eq]
  generalize (lg_sl ([.ref x, .int p0]) ++ List.replicate (2 - (lg_sl ([.ref x, .int p0])).length) Slot.unset).toArray = ls at hl ⊢
  have hl : lv_has ls 2 [(0, .ref x), (1, .int p0)] := hl
  have hP : va_P g vwCl [(x, .inr (10, [.ref tp, .ref ld, .ref im, .ref bk, .ref co, .ref fa, .ref ch, .ref wi, .ref sl, .ref se, .ref dr])), (ld, .inr (4, [.int 0, .int 0, .int 0, .int 0, .int 0, .int 0, .long 0, .ref l1, .ref l2, .ref l3, .ref l4, .ref l5, .ref l6, .ref l7, .ref l8]))] s.heap := hP
  refine lv_aload_n hx hb dX11_saves_0 rfl (lv_at hl 0 rfl) ?_
  refine va_get (D := g) (ci := 10) (v := .ref ld) (C := RX11) (T := TX11) (N := 11) hx hb hts iX11 hown hK hP 0 rfl rfl 1 (by decide) (hts (.fieldLink RX11 19 "CardsAtYule" "land" "LCardsAtYule$Land;") (List.mem_cons_of_mem _ (List.mem_append_left _ (List.mem_of_getElem? (i := 0) rfl)))) (fun _ h9 => h9) rfl dX11_saves_1 ?_
  refine lv_iload_n hx hb dX11_saves_4 rfl (lv_at hl 1 rfl) ?_
  refine ro_i (va_runV (As := [.int p0]) (rest := []) ⟨hx, hb, hml, hown, hts⟩ (k_X4_hasYear l g cI cJ cB cZ cL ld 0 0 0 0 0 0 0 l1 l2 l3 l4 l5 l6 l7 l8 0 p0 ip0 s.heap.size rfl hzp0) (cwV 1 hts (goodIn_app (g_4 (List.mem_cons_of_mem _ (List.mem_append_left _ (List.mem_of_getElem? (i := 1) rfl))) (List.mem_cons_of_mem _ (List.mem_append_left _ (List.mem_of_getElem? (i := 2) rfl))) (List.mem_cons_of_mem _ (List.mem_append_left _ (List.mem_of_getElem? (i := 3) rfl))) (List.mem_cons_of_mem _ (List.mem_append_left _ (List.mem_of_getElem? (i := 4) rfl))) (by decide +kernel)) (goodIn_sub (fun _ h => List.mem_cons_of_mem _ (List.mem_append_right _ (List.mem_append_left _ h))) good_v_X4_hasYear)) rfl rfl rfl (by decide +kernel) ⟨Nat.le_of_ble_eq_true rfl, Nat.le_of_ble_eq_true rfl⟩) (pv_RO (q := (RX4, TX4, 15)) (ci := 4) (q0 := 0) (wc := [(ld, .inr (4, [.int 0, .int 0, .int 0, .int 0, .int 0, .int 0, .long 0, .ref l1, .ref l2, .ref l3, .ref l4, .ref l5, .ref l6, .ref l7, .ref l8]))]) hK hP [1] rfl rfl rfl) rfl rfl hl.1 rfl (lv_room (Nat.le_of_ble_eq_true rfl)) dX11_saves_5 ⟨Nat.le_of_ble_eq_true rfl, Nat.le_of_ble_eq_true rfl⟩) hS hA hP (fun r1 u2 H locs hw3 hP hS => ?_)
  rcases hw3 with ⟨rfl, hw3_0, hw3_1⟩ | ⟨rfl, hw3_0⟩
  · omega
  · refine lv_if_eq (tgt := 20) hx hb dX11_saves_8 (by decide) (fun _ => ?_) (fun c4 => absurd c4 (by decide))
    refine lv_bipush (v := (-2)) hx hb dX11_saves_20 (by decide) ?_
    exact W.iret (v := (-2)) hx hb hr (fun t ht hW => ⟨⟨(-2), (), rfl, rfl, trivial⟩, hS.F ht⟩) hS.2.2 dX11_saves_22
def v_X11_mildest : List Cond := .code yX11_mildest cX11_mildest 5 (some .int) :: (([.fieldLink RX11 19 "CardsAtYule" "land" "LCardsAtYule$Land;", .methodLink RX11 220 yX4_isThere, .instanceMethod yX4_isThere, .selects RX4 yX4_isThere yX4_isThere, .initialized RX4] : List Cond) ++ (v_X4_isThere ++ (wsX110 ++ ([] : List Cond))))
theorem good_v_X11_mildest : v_X11_mildest.all goodWord = true := ga_c (by decide +kernel) (ga_a (by decide +kernel) (ga_a good_v_X4_isThere (ga_a good_wsX110 rfl)))
set_option maxHeartbeats 4000000 in
set_option maxRecDepth 100000 in
theorem k_X11_mildest (l : Launch) (g : va_G) (cI cJ cB cZ cL : ClassId) (x : Nat) (tp : Nat) (ld : Nat) (im : Nat) (bk : Nat) (co : Nat) (fa : Nat) (ch : Nat) (wi : Nat) (sl : Nat) (se : Nat) (dr : Nat) (l1 : Nat) (l2 : Nat) (l3 : Nat) (l4 : Nat) (l5 : Nat) (l6 : Nat) (l7 : Nat) (l8 : Nat) (sz : Nat)  : Met l yX11_mildest v_X11_mildest ({ frames := 1, cells := 0, slots := 0, locals := 20 }) (va_Pc [.ref x] (pRO g (tyT cI cJ cB cZ cL) [(x, .inr (10, [.ref tp, .ref ld, .ref im, .ref bk, .ref co, .ref fa, .ref ch, .ref wi, .ref sl, .ref se, .ref dr])), (ld, .inr (4, [.int 0, .int 0, .int 0, .int 0, .int 0, .int 0, .long 0, .ref l1, .ref l2, .ref l3, .ref l4, .ref l5, .ref l6, .ref l7, .ref l8]))] sz)) (va_Qi (fun (r : Int32) (u : Unit) => r = (-2)) (fun (_ : Unit) (_ : State) => True) (va_A [] sz)) 0 0 (va_A [] sz) := by
  refine Met.ofW (cc := cX11_mildest) (maxL := 5) (ret := (some .int)) (by decide) rfl ?_
  intro p e s m args below meth c s₁ B hml hv
  obtain ⟨rfl, hsz, hP, hK⟩ := hv
  have hx := B.exec
  have hb := B.bytes
  have hr := B.returns
  have hts := atoms_spec (ws := v_X11_mildest) B.pre
  have hown : s.vm.findClass RX11 = some m.cls := findClass_of_methodNamed B.named
  have hlocks := B.notSynchronized
  subst hsz
  have iX11 : ∀ w ∈ wsX110, w ∈ v_X11_mildest := (fun _ h => List.mem_cons_of_mem _ (List.mem_append_right _ (List.mem_append_right _ (List.mem_append_left _ h))))
  generalize hAe : (va_A [] s.heap.size) = A
  have hA : ∀ q : Nat, s.heap.size ≤ q → A q := fun q h => by rw [← hAe]; exact Or.inr h
  have hS : va_S A s.heap s.heap [] := va_S.rf
  have hl := lv_entry ([.ref x]) (n := 5) (Nat.le_of_ble_eq_true rfl)
  rw [lg_entry_eq]
  generalize (lg_sl ([.ref x]) ++ List.replicate (5 - (lg_sl ([.ref x])).length) Slot.unset).toArray = ls at hl ⊢
  have hl : lv_has ls 5 [(0, .ref x)] := hl
  have hP : va_P g vwCl [(x, .inr (10, [.ref tp, .ref ld, .ref im, .ref bk, .ref co, .ref fa, .ref ch, .ref wi, .ref sl, .ref se, .ref dr])), (ld, .inr (4, [.int 0, .int 0, .int 0, .int 0, .int 0, .int 0, .long 0, .ref l1, .ref l2, .ref l3, .ref l4, .ref l5, .ref l6, .ref l7, .ref l8]))] s.heap := hP
  refine lv_aload_n hx hb dX11_mildest_0 rfl (lv_at hl 0 rfl) ?_
  refine va_get (D := g) (ci := 10) (v := .ref ld) (C := RX11) (T := TX11) (N := 11) hx hb hts iX11 hown hK hP 0 rfl rfl 1 (by decide) (hts (.fieldLink RX11 19 "CardsAtYule" "land" "LCardsAtYule$Land;") (List.mem_cons_of_mem _ (List.mem_append_left _ (List.mem_of_getElem? (i := 0) rfl)))) (fun _ h9 => h9) rfl dX11_mildest_1 ?_
  refine ro_i (va_runV (As := []) (rest := []) ⟨hx, hb, hml, hown, hts⟩ (k_X4_isThere l g cI cJ cB cZ cL ld 0 0 0 0 0 0 0 l1 l2 l3 l4 l5 l6 l7 l8 0 s.heap.size rfl) (cwV 0 hts (goodIn_app (g_4 (List.mem_cons_of_mem _ (List.mem_append_left _ (List.mem_of_getElem? (i := 1) rfl))) (List.mem_cons_of_mem _ (List.mem_append_left _ (List.mem_of_getElem? (i := 2) rfl))) (List.mem_cons_of_mem _ (List.mem_append_left _ (List.mem_of_getElem? (i := 3) rfl))) (List.mem_cons_of_mem _ (List.mem_append_left _ (List.mem_of_getElem? (i := 4) rfl))) (by decide +kernel)) (goodIn_sub (fun _ h => List.mem_cons_of_mem _ (List.mem_append_right _ (List.mem_append_left _ h))) good_v_X4_isThere)) rfl rfl rfl (by decide +kernel) ⟨Nat.le_of_ble_eq_true rfl, Nat.le_of_ble_eq_true rfl⟩) (pv_RO (q := (RX4, TX4, 15)) (ci := 4) (q0 := 0) (wc := [(ld, .inr (4, [.int 0, .int 0, .int 0, .int 0, .int 0, .int 0, .long 0, .ref l1, .ref l2, .ref l3, .ref l4, .ref l5, .ref l6, .ref l7, .ref l8]))]) hK hP [1] rfl rfl rfl) rfl rfl hl.1 rfl (lv_room (Nat.le_of_ble_eq_true rfl)) dX11_mildest_4 ⟨Nat.le_of_ble_eq_true rfl, Nat.le_of_ble_eq_true rfl⟩) hS hA hP (fun r1 u2 H locs hw3 hP hS => ?_)
  rcases hw3 with ⟨rfl, hw3_0⟩ | ⟨rfl, hw3_0⟩
  · omega
  · refine lv_if_ne (tgt := 13) hx hb dX11_mildest_7 (by decide) (fun c4 => absurd c4 (by decide)) (fun _ => ?_)
    refine lv_bipush (v := (-2)) hx hb dX11_mildest_10 (by decide) ?_
    exact W.iret (v := (-2)) hx hb hr (fun t ht hW => ⟨⟨(-2), (), rfl, rfl, trivial⟩, hS.F ht⟩) hS.2.2 dX11_mildest_12
def v_X11_ending : List Cond := .code yX11_ending cX11_ending 4 (some .int) :: (([.methodLink RX11 295 yX11_isWill, .instanceMethod yX11_isWill, .selects RX11 yX11_isWill yX11_isWill, .initialized RX11] : List Cond) ++ (v_X11_isWill ++ ([] : List Cond)))
theorem good_v_X11_ending : v_X11_ending.all goodWord = true := ga_c (by decide +kernel) (ga_a (by decide +kernel) (ga_a good_v_X11_isWill rfl))
set_option maxHeartbeats 4000000 in
set_option maxRecDepth 100000 in
theorem k_X11_ending (l : Launch) (g : va_G) (cI cJ cB cZ cL : ClassId) (x : Nat) (tp : Nat) (ld : Nat) (im : Nat) (bk : Nat) (co : Nat) (fa : Nat) (ch : Nat) (wi : Nat) (sl : Nat) (se : Nat) (dr : Nat) (l1 : Nat) (l2 : Nat) (l3 : Nat) (l4 : Nat) (l5 : Nat) (l6 : Nat) (l7 : Nat) (l8 : Nat) (p0 : Int32) (p1 : Int32) (p2 : Int32) (ip0 : Int) (ip1 : Int) (ip2 : Int) (sz : Nat) (hzp0 : p0.toInt = ip0) (hzp1 : p1.toInt = ip1) (hzp2 : p2.toInt = ip2) : Met l yX11_ending v_X11_ending ({ frames := 2, cells := 0, slots := 0, locals := 44 }) (va_Pc [.ref x, .int p0, .int p1, .int p2] (pRO g (tyT cI cJ cB cZ cL) [(x, .inr (10, [.ref tp, .ref ld, .ref im, .ref bk, .ref co, .ref fa, .ref ch, .ref wi, .ref sl, .ref se, .ref dr])), (ld, .inr (4, [.int 0, .int 0, .int 0, .int 0, .int 0, .int 0, .long 0, .ref l1, .ref l2, .ref l3, .ref l4, .ref l5, .ref l6, .ref l7, .ref l8]))] sz)) (va_Qi (fun (r : Int32) (u : Unit) => r = (-2)) (fun (_ : Unit) (_ : State) => True) (va_A [] sz)) 0 0 (va_A [] sz) := by
  refine Met.ofW (cc := cX11_ending) (maxL := 4) (ret := (some .int)) (by decide) rfl ?_
  intro p e s m args below meth c s₁ B hml hv
  obtain ⟨rfl, hsz, hP, hK⟩ := hv
  have hx := B.exec
  have hb := B.bytes
  have hr := B.returns
  have hts := atoms_spec (ws := v_X11_ending) B.pre
  have hown : s.vm.findClass RX11 = some m.cls := findClass_of_methodNamed B.named
  have hlocks := B.notSynchronized
  subst hsz
  generalize hAe : (va_A [] s.heap.size) = A
  have hA : ∀ q : Nat, s.heap.size ≤ q → A q := fun q h => by rw [← hAe]; exact Or.inr h
  have hS : va_S A s.heap s.heap [] := va_S.rf
  have hl := lv_entry ([.ref x, .int p0, .int p1, .int p2]) (n := 4) (Nat.le_of_ble_eq_true rfl)
  rw [lg_entry_eq]
  generalize (lg_sl ([.ref x, .int p0, .int p1, .int p2]) ++ List.replicate (4 - (lg_sl ([.ref x, .int p0, .int p1, .int p2])).length) Slot.unset).toArray = ls at hl ⊢
  have hl : lv_has ls 4 [(0, .ref x), (1, .int p0), (2, .int p1), (3, .int p2)] := hl
  have hP : va_P g vwCl [(x, .inr (10, [.ref tp, .ref ld, .ref im, .ref bk, .ref co, .ref fa, .ref ch, .ref wi, .ref sl, .ref se, .ref dr])), (ld, .inr (4, [.int 0, .int 0, .int 0, .int 0, .int 0, .int 0, .long 0, .ref l1, .ref l2, .ref l3, .ref l4, .ref l5, .ref l6, .ref l7, .ref l8]))] s.heap := hP
  refine lv_aload_n hx hb dX11_ending_0 rfl (lv_at hl 0 rfl) ?_
  refine lv_iload_n hx hb dX11_ending_1 rfl (lv_at hl 1 rfl) ?_
  refine lv_iload_n hx hb dX11_ending_2 rfl (lv_at hl 2 rfl) ?_
  refine lv_iload_n hx hb dX11_ending_3 rfl (lv_at hl 3 rfl) ?_
  refine ro_i (va_runV (As := [.int p0, .int p1, .int p2]) (rest := []) ⟨hx, hb, hml, hown, hts⟩ (k_X11_isWill l g cI cJ cB cZ cL x tp ld im bk co fa ch wi sl se dr l1 l2 l3 l4 l5 l6 l7 l8 p0 p1 p2 ip0 ip1 ip2 s.heap.size hzp0 hzp1 hzp2) (cwV 3 hts (goodIn_app (g_4 (List.mem_cons_of_mem _ (List.mem_append_left _ (List.mem_of_getElem? (i := 0) rfl))) (List.mem_cons_of_mem _ (List.mem_append_left _ (List.mem_of_getElem? (i := 1) rfl))) (List.mem_cons_of_mem _ (List.mem_append_left _ (List.mem_of_getElem? (i := 2) rfl))) (List.mem_cons_of_mem _ (List.mem_append_left _ (List.mem_of_getElem? (i := 3) rfl))) (by decide +kernel)) (goodIn_sub (fun _ h => List.mem_cons_of_mem _ (List.mem_append_right _ (List.mem_append_left _ h))) good_v_X11_isWill)) rfl rfl rfl (by decide +kernel) ⟨Nat.le_of_ble_eq_true rfl, Nat.le_of_ble_eq_true rfl⟩) (pv_RO (q := (RX11, TX11, 11)) (ci := 10) (q0 := 0) (wc := [(x, .inr (10, [.ref tp, .ref ld, .ref im, .ref bk, .ref co, .ref fa, .ref ch, .ref wi, .ref sl, .ref se, .ref dr])), (ld, .inr (4, [.int 0, .int 0, .int 0, .int 0, .int 0, .int 0, .long 0, .ref l1, .ref l2, .ref l3, .ref l4, .ref l5, .ref l6, .ref l7, .ref l8]))]) hK hP [0, 1] rfl rfl rfl) rfl rfl hl.1 rfl (lv_room (Nat.le_of_ble_eq_true rfl)) dX11_ending_4 ⟨Nat.le_of_ble_eq_true rfl, Nat.le_of_ble_eq_true rfl⟩) hS hA hP (fun r1 u2 H locs hw3 hP hS => ?_)
  subst hw3
  refine lv_if_ne (tgt := 13) hx hb dX11_ending_7 (by decide) (fun c4 => absurd c4 (by decide)) (fun _ => ?_)
  refine lv_bipush (v := (-2)) hx hb dX11_ending_10 (by decide) ?_
  exact W.iret (v := (-2)) hx hb hr (fun t ht hW => ⟨⟨(-2), (), rfl, rfl, trivial⟩, hS.F ht⟩) hS.2.2 dX11_ending_12
def v_X11_step : List Cond := .code yX11_step cX11_step 5 (some .int) :: (([.methodLink RX11 295 yX11_isWill, .instanceMethod yX11_isWill, .selects RX11 yX11_isWill yX11_isWill, .initialized RX11] : List Cond) ++ (v_X11_isWill ++ ([] : List Cond)))
theorem good_v_X11_step : v_X11_step.all goodWord = true := ga_c (by decide +kernel) (ga_a (by decide +kernel) (ga_a good_v_X11_isWill rfl))
set_option maxHeartbeats 4000000 in
set_option maxRecDepth 100000 in
theorem k_X11_step (l : Launch) (g : va_G) (cI cJ cB cZ cL : ClassId) (x : Nat) (tp : Nat) (ld : Nat) (im : Nat) (bk : Nat) (co : Nat) (fa : Nat) (ch : Nat) (wi : Nat) (sl : Nat) (se : Nat) (dr : Nat) (l1 : Nat) (l2 : Nat) (l3 : Nat) (l4 : Nat) (l5 : Nat) (l6 : Nat) (l7 : Nat) (l8 : Nat) (p0 : Int32) (p1 : Int32) (p2 : Int32) (p3 : Int32) (ip0 : Int) (ip1 : Int) (ip2 : Int) (ip3 : Int) (sz : Nat) (hzp0 : p0.toInt = ip0) (hzp1 : p1.toInt = ip1) (hzp2 : p2.toInt = ip2) (hzp3 : p3.toInt = ip3) : Met l yX11_step v_X11_step ({ frames := 2, cells := 0, slots := 0, locals := 44 }) (va_Pc [.ref x, .int p0, .int p1, .int p2, .int p3] (pRO g (tyT cI cJ cB cZ cL) [(x, .inr (10, [.ref tp, .ref ld, .ref im, .ref bk, .ref co, .ref fa, .ref ch, .ref wi, .ref sl, .ref se, .ref dr])), (ld, .inr (4, [.int 0, .int 0, .int 0, .int 0, .int 0, .int 0, .long 0, .ref l1, .ref l2, .ref l3, .ref l4, .ref l5, .ref l6, .ref l7, .ref l8]))] sz)) (va_Qi (fun (r : Int32) (u : Unit) => r = (-2)) (fun (_ : Unit) (_ : State) => True) (va_A [] sz)) 0 0 (va_A [] sz) := by
  refine Met.ofW (cc := cX11_step) (maxL := 5) (ret := (some .int)) (by decide) rfl ?_
  intro p e s m args below meth c s₁ B hml hv
  obtain ⟨rfl, hsz, hP, hK⟩ := hv
  have hx := B.exec
  have hb := B.bytes
  have hr := B.returns
  have hts := atoms_spec (ws := v_X11_step) B.pre
  have hown : s.vm.findClass RX11 = some m.cls := findClass_of_methodNamed B.named
  have hlocks := B.notSynchronized
  subst hsz
  generalize hAe : (va_A [] s.heap.size) = A
  have hA : ∀ q : Nat, s.heap.size ≤ q → A q := fun q h => by rw [← hAe]; exact Or.inr h
  have hS : va_S A s.heap s.heap [] := va_S.rf
  have hl := lv_entry ([.ref x, .int p0, .int p1, .int p2, .int p3]) (n := 5) (Nat.le_of_ble_eq_true rfl)
  rw [lg_entry_eq]
  generalize (lg_sl ([.ref x, .int p0, .int p1, .int p2, .int p3]) ++ List.replicate (5 - (lg_sl ([.ref x, .int p0, .int p1, .int p2, .int p3])).length) Slot.unset).toArray = ls at hl ⊢
  have hl : lv_has ls 5 [(0, .ref x), (1, .int p0), (2, .int p1), (3, .int p2), (4, .int p3)] := hl
  have hP : va_P g vwCl [(x, .inr (10, [.ref tp, .ref ld, .ref im, .ref bk, .ref co, .ref fa, .ref ch, .ref wi, .ref sl, .ref se, .ref dr])), (ld, .inr (4, [.int 0, .int 0, .int 0, .int 0, .int 0, .int 0, .long 0, .ref l1, .ref l2, .ref l3, .ref l4, .ref l5, .ref l6, .ref l7, .ref l8]))] s.heap := hP
  refine lv_aload_n hx hb dX11_step_0 rfl (lv_at hl 0 rfl) ?_
  refine lv_iload_n hx hb dX11_step_1 rfl (lv_at hl 1 rfl) ?_
  refine lv_iload_n hx hb dX11_step_2 rfl (lv_at hl 2 rfl) ?_
  refine lv_iload_n hx hb dX11_step_3 rfl (lv_at hl 3 rfl) ?_
  refine ro_i (va_runV (As := [.int p0, .int p1, .int p2]) (rest := []) ⟨hx, hb, hml, hown, hts⟩ (k_X11_isWill l g cI cJ cB cZ cL x tp ld im bk co fa ch wi sl se dr l1 l2 l3 l4 l5 l6 l7 l8 p0 p1 p2 ip0 ip1 ip2 s.heap.size hzp0 hzp1 hzp2) (cwV 3 hts (goodIn_app (g_4 (List.mem_cons_of_mem _ (List.mem_append_left _ (List.mem_of_getElem? (i := 0) rfl))) (List.mem_cons_of_mem _ (List.mem_append_left _ (List.mem_of_getElem? (i := 1) rfl))) (List.mem_cons_of_mem _ (List.mem_append_left _ (List.mem_of_getElem? (i := 2) rfl))) (List.mem_cons_of_mem _ (List.mem_append_left _ (List.mem_of_getElem? (i := 3) rfl))) (by decide +kernel)) (goodIn_sub (fun _ h => List.mem_cons_of_mem _ (List.mem_append_right _ (List.mem_append_left _ h))) good_v_X11_isWill)) rfl rfl rfl (by decide +kernel) ⟨Nat.le_of_ble_eq_true rfl, Nat.le_of_ble_eq_true rfl⟩) (pv_RO (q := (RX11, TX11, 11)) (ci := 10) (q0 := 0) (wc := [(x, .inr (10, [.ref tp, .ref ld, .ref im, .ref bk, .ref co, .ref fa, .ref ch, .ref wi, .ref sl, .ref se, .ref dr])), (ld, .inr (4, [.int 0, .int 0, .int 0, .int 0, .int 0, .int 0, .long 0, .ref l1, .ref l2, .ref l3, .ref l4, .ref l5, .ref l6, .ref l7, .ref l8]))]) hK hP [0, 1] rfl rfl rfl) rfl rfl hl.1 rfl (lv_room (Nat.le_of_ble_eq_true rfl)) dX11_step_4 ⟨Nat.le_of_ble_eq_true rfl, Nat.le_of_ble_eq_true rfl⟩) hS hA hP (fun r1 u2 H locs hw3 hP hS => ?_)
  subst hw3
  refine lv_if_eq (tgt := 19) hx hb dX11_step_7 (by decide) (fun _ => ?_) (fun c4 => absurd c4 (by decide))
  refine lv_bipush (v := (-2)) hx hb dX11_step_19 (by decide) ?_
  exact W.iret (v := (-2)) hx hb hr (fun t ht hW => ⟨⟨(-2), (), rfl, rfl, trivial⟩, hS.F ht⟩) hS.2.2 dX11_step_21
def v_X11_keeping : List Cond := .code yX11_keeping cX11_keeping 4 (some .int) :: (([.methodLink RX11 295 yX11_isWill, .instanceMethod yX11_isWill, .selects RX11 yX11_isWill yX11_isWill, .initialized RX11] : List Cond) ++ (v_X11_isWill ++ ([] : List Cond)))
theorem good_v_X11_keeping : v_X11_keeping.all goodWord = true := ga_c (by decide +kernel) (ga_a (by decide +kernel) (ga_a good_v_X11_isWill rfl))
set_option maxHeartbeats 4000000 in
set_option maxRecDepth 100000 in
theorem k_X11_keeping (l : Launch) (g : va_G) (cI cJ cB cZ cL : ClassId) (x : Nat) (tp : Nat) (ld : Nat) (im : Nat) (bk : Nat) (co : Nat) (fa : Nat) (ch : Nat) (wi : Nat) (sl : Nat) (se : Nat) (dr : Nat) (l1 : Nat) (l2 : Nat) (l3 : Nat) (l4 : Nat) (l5 : Nat) (l6 : Nat) (l7 : Nat) (l8 : Nat) (p0 : Int32) (p1 : Int32) (p2 : Int32) (ip0 : Int) (ip1 : Int) (ip2 : Int) (sz : Nat) (hzp0 : p0.toInt = ip0) (hzp1 : p1.toInt = ip1) (hzp2 : p2.toInt = ip2) : Met l yX11_keeping v_X11_keeping ({ frames := 2, cells := 0, slots := 0, locals := 44 }) (va_Pc [.ref x, .int p0, .int p1, .int p2] (pRO g (tyT cI cJ cB cZ cL) [(x, .inr (10, [.ref tp, .ref ld, .ref im, .ref bk, .ref co, .ref fa, .ref ch, .ref wi, .ref sl, .ref se, .ref dr])), (ld, .inr (4, [.int 0, .int 0, .int 0, .int 0, .int 0, .int 0, .long 0, .ref l1, .ref l2, .ref l3, .ref l4, .ref l5, .ref l6, .ref l7, .ref l8]))] sz)) (va_Qi (fun (r : Int32) (u : Unit) => r = (-2)) (fun (_ : Unit) (_ : State) => True) (va_A [] sz)) 0 0 (va_A [] sz) := by
  refine Met.ofW (cc := cX11_keeping) (maxL := 4) (ret := (some .int)) (by decide) rfl ?_
  intro p e s m args below meth c s₁ B hml hv
  obtain ⟨rfl, hsz, hP, hK⟩ := hv
  have hx := B.exec
  have hb := B.bytes
  have hr := B.returns
  have hts := atoms_spec (ws := v_X11_keeping) B.pre
  have hown : s.vm.findClass RX11 = some m.cls := findClass_of_methodNamed B.named
  have hlocks := B.notSynchronized
  subst hsz
  generalize hAe : (va_A [] s.heap.size) = A
  have hA : ∀ q : Nat, s.heap.size ≤ q → A q := fun q h => by rw [← hAe]; exact Or.inr h
  have hS : va_S A s.heap s.heap [] := va_S.rf
  have hl := lv_entry ([.ref x, .int p0, .int p1, .int p2]) (n := 4) (Nat.le_of_ble_eq_true rfl)
  rw [lg_entry_eq]
  generalize (lg_sl ([.ref x, .int p0, .int p1, .int p2]) ++ List.replicate (4 - (lg_sl ([.ref x, .int p0, .int p1, .int p2])).length) Slot.unset).toArray = ls at hl ⊢
  have hl : lv_has ls 4 [(0, .ref x), (1, .int p0), (2, .int p1), (3, .int p2)] := hl
  have hP : va_P g vwCl [(x, .inr (10, [.ref tp, .ref ld, .ref im, .ref bk, .ref co, .ref fa, .ref ch, .ref wi, .ref sl, .ref se, .ref dr])), (ld, .inr (4, [.int 0, .int 0, .int 0, .int 0, .int 0, .int 0, .long 0, .ref l1, .ref l2, .ref l3, .ref l4, .ref l5, .ref l6, .ref l7, .ref l8]))] s.heap := hP
  refine lv_aload_n hx hb dX11_keeping_0 rfl (lv_at hl 0 rfl) ?_
  refine lv_iload_n hx hb dX11_keeping_1 rfl (lv_at hl 1 rfl) ?_
  refine lv_iload_n hx hb dX11_keeping_2 rfl (lv_at hl 2 rfl) ?_
  refine lv_iload_n hx hb dX11_keeping_3 rfl (lv_at hl 3 rfl) ?_
  refine ro_i (va_runV (As := [.int p0, .int p1, .int p2]) (rest := []) ⟨hx, hb, hml, hown, hts⟩ (k_X11_isWill l g cI cJ cB cZ cL x tp ld im bk co fa ch wi sl se dr l1 l2 l3 l4 l5 l6 l7 l8 p0 p1 p2 ip0 ip1 ip2 s.heap.size hzp0 hzp1 hzp2) (cwV 3 hts (goodIn_app (g_4 (List.mem_cons_of_mem _ (List.mem_append_left _ (List.mem_of_getElem? (i := 0) rfl))) (List.mem_cons_of_mem _ (List.mem_append_left _ (List.mem_of_getElem? (i := 1) rfl))) (List.mem_cons_of_mem _ (List.mem_append_left _ (List.mem_of_getElem? (i := 2) rfl))) (List.mem_cons_of_mem _ (List.mem_append_left _ (List.mem_of_getElem? (i := 3) rfl))) (by decide +kernel)) (goodIn_sub (fun _ h => List.mem_cons_of_mem _ (List.mem_append_right _ (List.mem_append_left _ h))) good_v_X11_isWill)) rfl rfl rfl (by decide +kernel) ⟨Nat.le_of_ble_eq_true rfl, Nat.le_of_ble_eq_true rfl⟩) (pv_RO (q := (RX11, TX11, 11)) (ci := 10) (q0 := 0) (wc := [(x, .inr (10, [.ref tp, .ref ld, .ref im, .ref bk, .ref co, .ref fa, .ref ch, .ref wi, .ref sl, .ref se, .ref dr])), (ld, .inr (4, [.int 0, .int 0, .int 0, .int 0, .int 0, .int 0, .long 0, .ref l1, .ref l2, .ref l3, .ref l4, .ref l5, .ref l6, .ref l7, .ref l8]))]) hK hP [0, 1] rfl rfl rfl) rfl rfl hl.1 rfl (lv_room (Nat.le_of_ble_eq_true rfl)) dX11_keeping_4 ⟨Nat.le_of_ble_eq_true rfl, Nat.le_of_ble_eq_true rfl⟩) hS hA hP (fun r1 u2 H locs hw3 hP hS => ?_)
  subst hw3
  refine lv_if_ne (tgt := 13) hx hb dX11_keeping_7 (by decide) (fun c4 => absurd c4 (by decide)) (fun _ => ?_)
  refine lv_bipush (v := (-2)) hx hb dX11_keeping_10 (by decide) ?_
  exact W.iret (v := (-2)) hx hb hr (fun t ht hW => ⟨⟨(-2), (), rfl, rfl, trivial⟩, hS.F ht⟩) hS.2.2 dX11_keeping_12
def v_X11_pen : List Cond := .code yX11_pen cX11_pen 5 (some .int) :: (([.methodLink RX11 295 yX11_isWill, .instanceMethod yX11_isWill, .selects RX11 yX11_isWill yX11_isWill, .initialized RX11] : List Cond) ++ (v_X11_isWill ++ ([] : List Cond)))
theorem good_v_X11_pen : v_X11_pen.all goodWord = true := ga_c (by decide +kernel) (ga_a (by decide +kernel) (ga_a good_v_X11_isWill rfl))
set_option maxHeartbeats 4000000 in
set_option maxRecDepth 100000 in
theorem k_X11_pen (l : Launch) (g : va_G) (cI cJ cB cZ cL : ClassId) (x : Nat) (tp : Nat) (ld : Nat) (im : Nat) (bk : Nat) (co : Nat) (fa : Nat) (ch : Nat) (wi : Nat) (sl : Nat) (se : Nat) (dr : Nat) (l1 : Nat) (l2 : Nat) (l3 : Nat) (l4 : Nat) (l5 : Nat) (l6 : Nat) (l7 : Nat) (l8 : Nat) (p0 : Int32) (p1 : Int32) (p2 : Int32) (p3 : Int32) (ip0 : Int) (ip1 : Int) (ip2 : Int) (ip3 : Int) (sz : Nat) (hzp0 : p0.toInt = ip0) (hzp1 : p1.toInt = ip1) (hzp2 : p2.toInt = ip2) (hzp3 : p3.toInt = ip3) : Met l yX11_pen v_X11_pen ({ frames := 2, cells := 0, slots := 0, locals := 44 }) (va_Pc [.ref x, .int p0, .int p1, .int p2, .int p3] (pRO g (tyT cI cJ cB cZ cL) [(x, .inr (10, [.ref tp, .ref ld, .ref im, .ref bk, .ref co, .ref fa, .ref ch, .ref wi, .ref sl, .ref se, .ref dr])), (ld, .inr (4, [.int 0, .int 0, .int 0, .int 0, .int 0, .int 0, .long 0, .ref l1, .ref l2, .ref l3, .ref l4, .ref l5, .ref l6, .ref l7, .ref l8]))] sz)) (va_Qi (fun (r : Int32) (u : Unit) => r = (-2)) (fun (_ : Unit) (_ : State) => True) (va_A [] sz)) 0 0 (va_A [] sz) := by
  refine Met.ofW (cc := cX11_pen) (maxL := 5) (ret := (some .int)) (by decide) rfl ?_
  intro p e s m args below meth c s₁ B hml hv
  obtain ⟨rfl, hsz, hP, hK⟩ := hv
  have hx := B.exec
  have hb := B.bytes
  have hr := B.returns
  have hts := atoms_spec (ws := v_X11_pen) B.pre
  have hown : s.vm.findClass RX11 = some m.cls := findClass_of_methodNamed B.named
  have hlocks := B.notSynchronized
  subst hsz
  generalize hAe : (va_A [] s.heap.size) = A
  have hA : ∀ q : Nat, s.heap.size ≤ q → A q := fun q h => by rw [← hAe]; exact Or.inr h
  have hS : va_S A s.heap s.heap [] := va_S.rf
  have hl := lv_entry ([.ref x, .int p0, .int p1, .int p2, .int p3]) (n := 5) (Nat.le_of_ble_eq_true rfl)
  rw [lg_entry_eq]
  generalize (lg_sl ([.ref x, .int p0, .int p1, .int p2, .int p3]) ++ List.replicate (5 - (lg_sl ([.ref x, .int p0, .int p1, .int p2, .int p3])).length) Slot.unset).toArray = ls at hl ⊢
  have hl : lv_has ls 5 [(0, .ref x), (1, .int p0), (2, .int p1), (3, .int p2), (4, .int p3)] := hl
  have hP : va_P g vwCl [(x, .inr (10, [.ref tp, .ref ld, .ref im, .ref bk, .ref co, .ref fa, .ref ch, .ref wi, .ref sl, .ref se, .ref dr])), (ld, .inr (4, [.int 0, .int 0, .int 0, .int 0, .int 0, .int 0, .long 0, .ref l1, .ref l2, .ref l3, .ref l4, .ref l5, .ref l6, .ref l7, .ref l8]))] s.heap := hP
  refine lv_aload_n hx hb dX11_pen_0 rfl (lv_at hl 0 rfl) ?_
  refine lv_iload_n hx hb dX11_pen_1 rfl (lv_at hl 1 rfl) ?_
  refine lv_iload_n hx hb dX11_pen_2 rfl (lv_at hl 2 rfl) ?_
  refine lv_iload_n hx hb dX11_pen_3 rfl (lv_at hl 3 rfl) ?_
  refine ro_i (va_runV (As := [.int p0, .int p1, .int p2]) (rest := []) ⟨hx, hb, hml, hown, hts⟩ (k_X11_isWill l g cI cJ cB cZ cL x tp ld im bk co fa ch wi sl se dr l1 l2 l3 l4 l5 l6 l7 l8 p0 p1 p2 ip0 ip1 ip2 s.heap.size hzp0 hzp1 hzp2) (cwV 3 hts (goodIn_app (g_4 (List.mem_cons_of_mem _ (List.mem_append_left _ (List.mem_of_getElem? (i := 0) rfl))) (List.mem_cons_of_mem _ (List.mem_append_left _ (List.mem_of_getElem? (i := 1) rfl))) (List.mem_cons_of_mem _ (List.mem_append_left _ (List.mem_of_getElem? (i := 2) rfl))) (List.mem_cons_of_mem _ (List.mem_append_left _ (List.mem_of_getElem? (i := 3) rfl))) (by decide +kernel)) (goodIn_sub (fun _ h => List.mem_cons_of_mem _ (List.mem_append_right _ (List.mem_append_left _ h))) good_v_X11_isWill)) rfl rfl rfl (by decide +kernel) ⟨Nat.le_of_ble_eq_true rfl, Nat.le_of_ble_eq_true rfl⟩) (pv_RO (q := (RX11, TX11, 11)) (ci := 10) (q0 := 0) (wc := [(x, .inr (10, [.ref tp, .ref ld, .ref im, .ref bk, .ref co, .ref fa, .ref ch, .ref wi, .ref sl, .ref se, .ref dr])), (ld, .inr (4, [.int 0, .int 0, .int 0, .int 0, .int 0, .int 0, .long 0, .ref l1, .ref l2, .ref l3, .ref l4, .ref l5, .ref l6, .ref l7, .ref l8]))]) hK hP [0, 1] rfl rfl rfl) rfl rfl hl.1 rfl (lv_room (Nat.le_of_ble_eq_true rfl)) dX11_pen_4 ⟨Nat.le_of_ble_eq_true rfl, Nat.le_of_ble_eq_true rfl⟩) hS hA hP (fun r1 u2 H locs hw3 hP hS => ?_)
  subst hw3
  refine lv_if_eq (tgt := 19) hx hb dX11_pen_7 (by decide) (fun _ => ?_) (fun c4 => absurd c4 (by decide))
  refine lv_bipush (v := (-2)) hx hb dX11_pen_19 (by decide) ?_
  exact W.iret (v := (-2)) hx hb hr (fun t ht hW => ⟨⟨(-2), (), rfl, rfl, trivial⟩, hS.F ht⟩) hS.2.2 dX11_pen_21
def v_X11_quit : List Cond := .code yX11_quit cX11_quit 4 (some .int) :: (([.methodLink RX11 155 yX11_hasYearOf, .instanceMethod yX11_hasYearOf, .selects RX11 yX11_hasYearOf yX11_hasYearOf, .initialized RX11] : List Cond) ++ (v_X11_hasYearOf ++ ([] : List Cond)))
theorem good_v_X11_quit : v_X11_quit.all goodWord = true := ga_c (by decide +kernel) (ga_a (by decide +kernel) (ga_a good_v_X11_hasYearOf rfl))
set_option maxHeartbeats 4000000 in
set_option maxRecDepth 100000 in
theorem k_X11_quit (l : Launch) (g : va_G) (cI cJ cB cZ cL : ClassId) (x : Nat) (tp : Nat) (ld : Nat) (im : Nat) (bk : Nat) (co : Nat) (fa : Nat) (ch : Nat) (wi : Nat) (sl : Nat) (se : Nat) (dr : Nat) (l1 : Nat) (l2 : Nat) (l3 : Nat) (l4 : Nat) (l5 : Nat) (l6 : Nat) (l7 : Nat) (l8 : Nat) (p0 : Int32) (p1 : Int32) (p2 : Int32) (ip0 : Int) (ip1 : Int) (ip2 : Int) (sz : Nat) (hzp0 : p0.toInt = ip0) (hzp1 : p1.toInt = ip1) (hzp2 : p2.toInt = ip2) : Met l yX11_quit v_X11_quit ({ frames := 2, cells := 0, slots := 0, locals := 44 }) (va_Pc [.ref x, .int p0, .int p1, .int p2] (pRO g (tyT cI cJ cB cZ cL) [(x, .inr (10, [.ref tp, .ref ld, .ref im, .ref bk, .ref co, .ref fa, .ref ch, .ref wi, .ref sl, .ref se, .ref dr])), (ld, .inr (4, [.int 0, .int 0, .int 0, .int 0, .int 0, .int 0, .long 0, .ref l1, .ref l2, .ref l3, .ref l4, .ref l5, .ref l6, .ref l7, .ref l8]))] sz)) (va_Qi (fun (r : Int32) (u : Unit) => r = (-2)) (fun (_ : Unit) (_ : State) => True) (va_A [] sz)) 0 0 (va_A [] sz) := by
  refine Met.ofW (cc := cX11_quit) (maxL := 4) (ret := (some .int)) (by decide) rfl ?_
  intro p e s m args below meth c s₁ B hml hv
  obtain ⟨rfl, hsz, hP, hK⟩ := hv
  have hx := B.exec
  have hb := B.bytes
  have hr := B.returns
  have hts := atoms_spec (ws := v_X11_quit) B.pre
  have hown : s.vm.findClass RX11 = some m.cls := findClass_of_methodNamed B.named
  have hlocks := B.notSynchronized
  subst hsz
  generalize hAe : (va_A [] s.heap.size) = A
  have hA : ∀ q : Nat, s.heap.size ≤ q → A q := fun q h => by rw [← hAe]; exact Or.inr h
  have hS : va_S A s.heap s.heap [] := va_S.rf
  have hl := lv_entry ([.ref x, .int p0, .int p1, .int p2]) (n := 4) (Nat.le_of_ble_eq_true rfl)
  rw [lg_entry_eq]
  generalize (lg_sl ([.ref x, .int p0, .int p1, .int p2]) ++ List.replicate (4 - (lg_sl ([.ref x, .int p0, .int p1, .int p2])).length) Slot.unset).toArray = ls at hl ⊢
  have hl : lv_has ls 4 [(0, .ref x), (1, .int p0), (2, .int p1), (3, .int p2)] := hl
  have hP : va_P g vwCl [(x, .inr (10, [.ref tp, .ref ld, .ref im, .ref bk, .ref co, .ref fa, .ref ch, .ref wi, .ref sl, .ref se, .ref dr])), (ld, .inr (4, [.int 0, .int 0, .int 0, .int 0, .int 0, .int 0, .long 0, .ref l1, .ref l2, .ref l3, .ref l4, .ref l5, .ref l6, .ref l7, .ref l8]))] s.heap := hP
  refine lv_aload_n hx hb dX11_quit_0 rfl (lv_at hl 0 rfl) ?_
  refine lv_iload_n hx hb dX11_quit_1 rfl (lv_at hl 1 rfl) ?_
  refine lv_iload_n hx hb dX11_quit_2 rfl (lv_at hl 2 rfl) ?_
  refine lv_iload_n hx hb dX11_quit_3 rfl (lv_at hl 3 rfl) ?_
  refine ro_i (va_runV (As := [.int p0, .int p1, .int p2]) (rest := []) ⟨hx, hb, hml, hown, hts⟩ (k_X11_hasYearOf l g cI cJ cB cZ cL x tp ld im bk co fa ch wi sl se dr l1 l2 l3 l4 l5 l6 l7 l8 p0 p1 p2 ip0 ip1 ip2 s.heap.size hzp0 hzp1 hzp2) (cwV 3 hts (goodIn_app (g_4 (List.mem_cons_of_mem _ (List.mem_append_left _ (List.mem_of_getElem? (i := 0) rfl))) (List.mem_cons_of_mem _ (List.mem_append_left _ (List.mem_of_getElem? (i := 1) rfl))) (List.mem_cons_of_mem _ (List.mem_append_left _ (List.mem_of_getElem? (i := 2) rfl))) (List.mem_cons_of_mem _ (List.mem_append_left _ (List.mem_of_getElem? (i := 3) rfl))) (by decide +kernel)) (goodIn_sub (fun _ h => List.mem_cons_of_mem _ (List.mem_append_right _ (List.mem_append_left _ h))) good_v_X11_hasYearOf)) rfl rfl rfl (by decide +kernel) ⟨Nat.le_of_ble_eq_true rfl, Nat.le_of_ble_eq_true rfl⟩) (pv_RO (q := (RX11, TX11, 11)) (ci := 10) (q0 := 0) (wc := [(x, .inr (10, [.ref tp, .ref ld, .ref im, .ref bk, .ref co, .ref fa, .ref ch, .ref wi, .ref sl, .ref se, .ref dr])), (ld, .inr (4, [.int 0, .int 0, .int 0, .int 0, .int 0, .int 0, .long 0, .ref l1, .ref l2, .ref l3, .ref l4, .ref l5, .ref l6, .ref l7, .ref l8]))]) hK hP [0, 1] rfl rfl rfl) rfl rfl hl.1 rfl (lv_room (Nat.le_of_ble_eq_true rfl)) dX11_quit_4 ⟨Nat.le_of_ble_eq_true rfl, Nat.le_of_ble_eq_true rfl⟩) hS hA hP (fun r1 u2 H locs hw3 hP hS => ?_)
  subst hw3
  refine lv_if_ne (tgt := 13) hx hb dX11_quit_7 (by decide) (fun c4 => absurd c4 (by decide)) (fun _ => ?_)
  refine lv_bipush (v := (-2)) hx hb dX11_quit_10 (by decide) ?_
  exact W.iret (v := (-2)) hx hb hr (fun t ht hW => ⟨⟨(-2), (), rfl, rfl, trivial⟩, hS.F ht⟩) hS.2.2 dX11_quit_12
def v_X11_when : List Cond := .code yX11_when cX11_when 7 (some .int) :: (([.fieldLink RX11 19 "CardsAtYule" "land" "LCardsAtYule$Land;", .methodLink RX11 135 yX4_hasPair, .instanceMethod yX4_hasPair, .selects RX4 yX4_hasPair yX4_hasPair, .initialized RX4] : List Cond) ++ (v_X4_hasPair ++ (wsX110 ++ ([] : List Cond))))
theorem good_v_X11_when : v_X11_when.all goodWord = true := ga_c (by decide +kernel) (ga_a (by decide +kernel) (ga_a good_v_X4_hasPair (ga_a good_wsX110 rfl)))
set_option maxHeartbeats 4000000 in
set_option maxRecDepth 100000 in
theorem k_X11_when (l : Launch) (g : va_G) (cI cJ cB cZ cL : ClassId) (x : Nat) (tp : Nat) (ld : Nat) (im : Nat) (bk : Nat) (co : Nat) (fa : Nat) (ch : Nat) (wi : Nat) (sl : Nat) (se : Nat) (dr : Nat) (l1 : Nat) (l2 : Nat) (l3 : Nat) (l4 : Nat) (l5 : Nat) (l6 : Nat) (l7 : Nat) (l8 : Nat) (p0 : Int32) (p1 : Int32) (ip0 : Int) (ip1 : Int) (sz : Nat) (hzp0 : p0.toInt = ip0) (hzp1 : p1.toInt = ip1) : Met l yX11_when v_X11_when ({ frames := 1, cells := 0, slots := 0, locals := 21 }) (va_Pc [.ref x, .int p0, .int p1] (pRO g (tyT cI cJ cB cZ cL) [(x, .inr (10, [.ref tp, .ref ld, .ref im, .ref bk, .ref co, .ref fa, .ref ch, .ref wi, .ref sl, .ref se, .ref dr])), (ld, .inr (4, [.int 0, .int 0, .int 0, .int 0, .int 0, .int 0, .long 0, .ref l1, .ref l2, .ref l3, .ref l4, .ref l5, .ref l6, .ref l7, .ref l8]))] sz)) (va_Qi (fun (r : Int32) (u : Unit) => r = (-2)) (fun (_ : Unit) (_ : State) => True) (va_A [] sz)) 0 0 (va_A [] sz) := by
  refine Met.ofW (cc := cX11_when) (maxL := 7) (ret := (some .int)) (by decide) rfl ?_
  intro p e s m args below meth c s₁ B hml hv
  obtain ⟨rfl, hsz, hP, hK⟩ := hv
  have hx := B.exec
  have hb := B.bytes
  have hr := B.returns
  have hts := atoms_spec (ws := v_X11_when) B.pre
  have hown : s.vm.findClass RX11 = some m.cls := findClass_of_methodNamed B.named
  have hlocks := B.notSynchronized
  subst hsz
  have iX11 : ∀ w ∈ wsX110, w ∈ v_X11_when := (fun _ h => List.mem_cons_of_mem _ (List.mem_append_right _ (List.mem_append_right _ (List.mem_append_left _ h))))
  generalize hAe : (va_A [] s.heap.size) = A
  have hA : ∀ q : Nat, s.heap.size ≤ q → A q := fun q h => by rw [← hAe]; exact Or.inr h
  have hS : va_S A s.heap s.heap [] := va_S.rf
  have hl := lv_entry ([.ref x, .int p0, .int p1]) (n := 7) (Nat.le_of_ble_eq_true rfl)
  rw [lg_entry_eq]
  generalize (lg_sl ([.ref x, .int p0, .int p1]) ++ List.replicate (7 - (lg_sl ([.ref x, .int p0, .int p1])).length) Slot.unset).toArray = ls at hl ⊢
  have hl : lv_has ls 7 [(0, .ref x), (1, .int p0), (2, .int p1)] := hl
  have hP : va_P g vwCl [(x, .inr (10, [.ref tp, .ref ld, .ref im, .ref bk, .ref co, .ref fa, .ref ch, .ref wi, .ref sl, .ref se, .ref dr])), (ld, .inr (4, [.int 0, .int 0, .int 0, .int 0, .int 0, .int 0, .long 0, .ref l1, .ref l2, .ref l3, .ref l4, .ref l5, .ref l6, .ref l7, .ref l8]))] s.heap := hP
  refine lv_aload_n hx hb dX11_when_0 rfl (lv_at hl 0 rfl) ?_
  refine va_get (D := g) (ci := 10) (v := .ref ld) (C := RX11) (T := TX11) (N := 11) hx hb hts iX11 hown hK hP 0 rfl rfl 1 (by decide) (hts (.fieldLink RX11 19 "CardsAtYule" "land" "LCardsAtYule$Land;") (List.mem_cons_of_mem _ (List.mem_append_left _ (List.mem_of_getElem? (i := 0) rfl)))) (fun _ h9 => h9) rfl dX11_when_1 ?_
  refine lv_iload_n hx hb dX11_when_4 rfl (lv_at hl 1 rfl) ?_
  refine ro_i (va_runV (As := [.int p0]) (rest := []) ⟨hx, hb, hml, hown, hts⟩ (k_X4_hasPair l g cI cJ cB cZ cL ld 0 0 0 0 0 0 0 l1 l2 l3 l4 l5 l6 l7 l8 0 p0 ip0 s.heap.size rfl hzp0) (cwV 1 hts (goodIn_app (g_4 (List.mem_cons_of_mem _ (List.mem_append_left _ (List.mem_of_getElem? (i := 1) rfl))) (List.mem_cons_of_mem _ (List.mem_append_left _ (List.mem_of_getElem? (i := 2) rfl))) (List.mem_cons_of_mem _ (List.mem_append_left _ (List.mem_of_getElem? (i := 3) rfl))) (List.mem_cons_of_mem _ (List.mem_append_left _ (List.mem_of_getElem? (i := 4) rfl))) (by decide +kernel)) (goodIn_sub (fun _ h => List.mem_cons_of_mem _ (List.mem_append_right _ (List.mem_append_left _ h))) good_v_X4_hasPair)) rfl rfl rfl (by decide +kernel) ⟨Nat.le_of_ble_eq_true rfl, Nat.le_of_ble_eq_true rfl⟩) (pv_RO (q := (RX4, TX4, 15)) (ci := 4) (q0 := 0) (wc := [(ld, .inr (4, [.int 0, .int 0, .int 0, .int 0, .int 0, .int 0, .long 0, .ref l1, .ref l2, .ref l3, .ref l4, .ref l5, .ref l6, .ref l7, .ref l8]))]) hK hP [1] rfl rfl rfl) rfl rfl hl.1 rfl (lv_room (Nat.le_of_ble_eq_true rfl)) dX11_when_5 ⟨Nat.le_of_ble_eq_true rfl, Nat.le_of_ble_eq_true rfl⟩) hS hA hP (fun r1 u2 H locs hw3 hP hS => ?_)
  rcases hw3 with ⟨rfl, hw3_0, hw3_1⟩ | ⟨rfl, hw3_0⟩
  · omega
  · refine lv_if_eq (tgt := 18) hx hb dX11_when_8 (by decide) (fun _ => ?_) (fun c4 => absurd c4 (by decide))
    refine lv_bipush (v := (-2)) hx hb dX11_when_18 (by decide) ?_
    exact W.iret (v := (-2)) hx hb hr (fun t ht hW => ⟨⟨(-2), (), rfl, rfl, trivial⟩, hS.F ht⟩) hS.2.2 dX11_when_20
def v_X11_best : List Cond := .code yX11_best cX11_best 2 (some .int) :: (([.fieldLink RX11 19 "CardsAtYule" "land" "LCardsAtYule$Land;", .methodLink RX11 115 yX4_hasPerson, .instanceMethod yX4_hasPerson, .selects RX4 yX4_hasPerson yX4_hasPerson, .initialized RX4] : List Cond) ++ (v_X4_hasPerson ++ (wsX110 ++ ([] : List Cond))))
theorem good_v_X11_best : v_X11_best.all goodWord = true := ga_c (by decide +kernel) (ga_a (by decide +kernel) (ga_a good_v_X4_hasPerson (ga_a good_wsX110 rfl)))
set_option maxHeartbeats 4000000 in
set_option maxRecDepth 100000 in
theorem k_X11_best (l : Launch) (g : va_G) (cI cJ cB cZ cL : ClassId) (x : Nat) (tp : Nat) (ld : Nat) (im : Nat) (bk : Nat) (co : Nat) (fa : Nat) (ch : Nat) (wi : Nat) (sl : Nat) (se : Nat) (dr : Nat) (l1 : Nat) (l2 : Nat) (l3 : Nat) (l4 : Nat) (l5 : Nat) (l6 : Nat) (l7 : Nat) (l8 : Nat) (p0 : Int32) (ip0 : Int) (sz : Nat) (hzp0 : p0.toInt = ip0) : Met l yX11_best v_X11_best ({ frames := 1, cells := 0, slots := 0, locals := 21 }) (va_Pc [.ref x, .int p0] (pRO g (tyT cI cJ cB cZ cL) [(x, .inr (10, [.ref tp, .ref ld, .ref im, .ref bk, .ref co, .ref fa, .ref ch, .ref wi, .ref sl, .ref se, .ref dr])), (ld, .inr (4, [.int 0, .int 0, .int 0, .int 0, .int 0, .int 0, .long 0, .ref l1, .ref l2, .ref l3, .ref l4, .ref l5, .ref l6, .ref l7, .ref l8]))] sz)) (va_Qi (fun (r : Int32) (u : Unit) => r = (-2)) (fun (_ : Unit) (_ : State) => True) (va_A [] sz)) 0 0 (va_A [] sz) := by
  refine Met.ofW (cc := cX11_best) (maxL := 2) (ret := (some .int)) (by decide) rfl ?_
  intro p e s m args below meth c s₁ B hml hv
  obtain ⟨rfl, hsz, hP, hK⟩ := hv
  have hx := B.exec
  have hb := B.bytes
  have hr := B.returns
  have hts := atoms_spec (ws := v_X11_best) B.pre
  have hown : s.vm.findClass RX11 = some m.cls := findClass_of_methodNamed B.named
  have hlocks := B.notSynchronized
  subst hsz
  have iX11 : ∀ w ∈ wsX110, w ∈ v_X11_best := (fun _ h => List.mem_cons_of_mem _ (List.mem_append_right _ (List.mem_append_right _ (List.mem_append_left _ h))))
  generalize hAe : (va_A [] s.heap.size) = A
  have hA : ∀ q : Nat, s.heap.size ≤ q → A q := fun q h => by rw [← hAe]; exact Or.inr h
  have hS : va_S A s.heap s.heap [] := va_S.rf
  have hl := lv_entry ([.ref x, .int p0]) (n := 2) (Nat.le_of_ble_eq_true rfl)
  rw [lg_entry_eq]
  generalize (lg_sl ([.ref x, .int p0]) ++ List.replicate (2 - (lg_sl ([.ref x, .int p0])).length) Slot.unset).toArray = ls at hl ⊢
  have hl : lv_has ls 2 [(0, .ref x), (1, .int p0)] := hl
  have hP : va_P g vwCl [(x, .inr (10, [.ref tp, .ref ld, .ref im, .ref bk, .ref co, .ref fa, .ref ch, .ref wi, .ref sl, .ref se, .ref dr])), (ld, .inr (4, [.int 0, .int 0, .int 0, .int 0, .int 0, .int 0, .long 0, .ref l1, .ref l2, .ref l3, .ref l4, .ref l5, .ref l6, .ref l7, .ref l8]))] s.heap := hP
  refine lv_aload_n hx hb dX11_best_0 rfl (lv_at hl 0 rfl) ?_
  refine va_get (D := g) (ci := 10) (v := .ref ld) (C := RX11) (T := TX11) (N := 11) hx hb hts iX11 hown hK hP 0 rfl rfl 1 (by decide) (hts (.fieldLink RX11 19 "CardsAtYule" "land" "LCardsAtYule$Land;") (List.mem_cons_of_mem _ (List.mem_append_left _ (List.mem_of_getElem? (i := 0) rfl)))) (fun _ h9 => h9) rfl dX11_best_1 ?_
  refine lv_iload_n hx hb dX11_best_4 rfl (lv_at hl 1 rfl) ?_
  refine ro_i (va_runV (As := [.int p0]) (rest := []) ⟨hx, hb, hml, hown, hts⟩ (k_X4_hasPerson l g cI cJ cB cZ cL ld 0 0 0 0 0 0 0 l1 l2 l3 l4 l5 l6 l7 l8 0 p0 ip0 s.heap.size rfl hzp0) (cwV 1 hts (goodIn_app (g_4 (List.mem_cons_of_mem _ (List.mem_append_left _ (List.mem_of_getElem? (i := 1) rfl))) (List.mem_cons_of_mem _ (List.mem_append_left _ (List.mem_of_getElem? (i := 2) rfl))) (List.mem_cons_of_mem _ (List.mem_append_left _ (List.mem_of_getElem? (i := 3) rfl))) (List.mem_cons_of_mem _ (List.mem_append_left _ (List.mem_of_getElem? (i := 4) rfl))) (by decide +kernel)) (goodIn_sub (fun _ h => List.mem_cons_of_mem _ (List.mem_append_right _ (List.mem_append_left _ h))) good_v_X4_hasPerson)) rfl rfl rfl (by decide +kernel) ⟨Nat.le_of_ble_eq_true rfl, Nat.le_of_ble_eq_true rfl⟩) (pv_RO (q := (RX4, TX4, 15)) (ci := 4) (q0 := 0) (wc := [(ld, .inr (4, [.int 0, .int 0, .int 0, .int 0, .int 0, .int 0, .long 0, .ref l1, .ref l2, .ref l3, .ref l4, .ref l5, .ref l6, .ref l7, .ref l8]))]) hK hP [1] rfl rfl rfl) rfl rfl hl.1 rfl (lv_room (Nat.le_of_ble_eq_true rfl)) dX11_best_5 ⟨Nat.le_of_ble_eq_true rfl, Nat.le_of_ble_eq_true rfl⟩) hS hA hP (fun r1 u2 H locs hw3 hP hS => ?_)
  rcases hw3 with ⟨rfl, hw3_0, hw3_1⟩ | ⟨rfl, hw3_0⟩
  · omega
  · refine lv_if_eq (tgt := 21) hx hb dX11_best_8 (by decide) (fun _ => ?_) (fun c4 => absurd c4 (by decide))
    refine lv_bipush (v := (-2)) hx hb dX11_best_21 (by decide) ?_
    exact W.iret (v := (-2)) hx hb hr (fun t ht hW => ⟨⟨(-2), (), rfl, rfl, trivial⟩, hS.F ht⟩) hS.2.2 dX11_best_23
def v_X11_bestCost : List Cond := .code yX11_bestCost cX11_bestCost 2 (some .int) :: (([.fieldLink RX11 19 "CardsAtYule" "land" "LCardsAtYule$Land;", .methodLink RX11 115 yX4_hasPerson, .instanceMethod yX4_hasPerson, .selects RX4 yX4_hasPerson yX4_hasPerson, .initialized RX4] : List Cond) ++ (v_X4_hasPerson ++ (wsX110 ++ ([] : List Cond))))
theorem good_v_X11_bestCost : v_X11_bestCost.all goodWord = true := ga_c (by decide +kernel) (ga_a (by decide +kernel) (ga_a good_v_X4_hasPerson (ga_a good_wsX110 rfl)))
set_option maxHeartbeats 4000000 in
set_option maxRecDepth 100000 in
theorem k_X11_bestCost (l : Launch) (g : va_G) (cI cJ cB cZ cL : ClassId) (x : Nat) (tp : Nat) (ld : Nat) (im : Nat) (bk : Nat) (co : Nat) (fa : Nat) (ch : Nat) (wi : Nat) (sl : Nat) (se : Nat) (dr : Nat) (l1 : Nat) (l2 : Nat) (l3 : Nat) (l4 : Nat) (l5 : Nat) (l6 : Nat) (l7 : Nat) (l8 : Nat) (p0 : Int32) (ip0 : Int) (sz : Nat) (hzp0 : p0.toInt = ip0) : Met l yX11_bestCost v_X11_bestCost ({ frames := 1, cells := 0, slots := 0, locals := 21 }) (va_Pc [.ref x, .int p0] (pRO g (tyT cI cJ cB cZ cL) [(x, .inr (10, [.ref tp, .ref ld, .ref im, .ref bk, .ref co, .ref fa, .ref ch, .ref wi, .ref sl, .ref se, .ref dr])), (ld, .inr (4, [.int 0, .int 0, .int 0, .int 0, .int 0, .int 0, .long 0, .ref l1, .ref l2, .ref l3, .ref l4, .ref l5, .ref l6, .ref l7, .ref l8]))] sz)) (va_Qi (fun (r : Int32) (u : Unit) => r = (-2)) (fun (_ : Unit) (_ : State) => True) (va_A [] sz)) 0 0 (va_A [] sz) := by
  refine Met.ofW (cc := cX11_bestCost) (maxL := 2) (ret := (some .int)) (by decide) rfl ?_
  intro p e s m args below meth c s₁ B hml hv
  obtain ⟨rfl, hsz, hP, hK⟩ := hv
  have hx := B.exec
  have hb := B.bytes
  have hr := B.returns
  have hts := atoms_spec (ws := v_X11_bestCost) B.pre
  have hown : s.vm.findClass RX11 = some m.cls := findClass_of_methodNamed B.named
  have hlocks := B.notSynchronized
  subst hsz
  have iX11 : ∀ w ∈ wsX110, w ∈ v_X11_bestCost := (fun _ h => List.mem_cons_of_mem _ (List.mem_append_right _ (List.mem_append_right _ (List.mem_append_left _ h))))
  generalize hAe : (va_A [] s.heap.size) = A
  have hA : ∀ q : Nat, s.heap.size ≤ q → A q := fun q h => by rw [← hAe]; exact Or.inr h
  have hS : va_S A s.heap s.heap [] := va_S.rf
  have hl := lv_entry ([.ref x, .int p0]) (n := 2) (Nat.le_of_ble_eq_true rfl)
  rw [lg_entry_eq]
  generalize (lg_sl ([.ref x, .int p0]) ++ List.replicate (2 - (lg_sl ([.ref x, .int p0])).length) Slot.unset).toArray = ls at hl ⊢
  have hl : lv_has ls 2 [(0, .ref x), (1, .int p0)] := hl
  have hP : va_P g vwCl [(x, .inr (10, [.ref tp, .ref ld, .ref im, .ref bk, .ref co, .ref fa, .ref ch, .ref wi, .ref sl, .ref se, .ref dr])), (ld, .inr (4, [.int 0, .int 0, .int 0, .int 0, .int 0, .int 0, .long 0, .ref l1, .ref l2, .ref l3, .ref l4, .ref l5, .ref l6, .ref l7, .ref l8]))] s.heap := hP
  refine lv_aload_n hx hb dX11_bestCost_0 rfl (lv_at hl 0 rfl) ?_
  refine va_get (D := g) (ci := 10) (v := .ref ld) (C := RX11) (T := TX11) (N := 11) hx hb hts iX11 hown hK hP 0 rfl rfl 1 (by decide) (hts (.fieldLink RX11 19 "CardsAtYule" "land" "LCardsAtYule$Land;") (List.mem_cons_of_mem _ (List.mem_append_left _ (List.mem_of_getElem? (i := 0) rfl)))) (fun _ h9 => h9) rfl dX11_bestCost_1 ?_
  refine lv_iload_n hx hb dX11_bestCost_4 rfl (lv_at hl 1 rfl) ?_
  refine ro_i (va_runV (As := [.int p0]) (rest := []) ⟨hx, hb, hml, hown, hts⟩ (k_X4_hasPerson l g cI cJ cB cZ cL ld 0 0 0 0 0 0 0 l1 l2 l3 l4 l5 l6 l7 l8 0 p0 ip0 s.heap.size rfl hzp0) (cwV 1 hts (goodIn_app (g_4 (List.mem_cons_of_mem _ (List.mem_append_left _ (List.mem_of_getElem? (i := 1) rfl))) (List.mem_cons_of_mem _ (List.mem_append_left _ (List.mem_of_getElem? (i := 2) rfl))) (List.mem_cons_of_mem _ (List.mem_append_left _ (List.mem_of_getElem? (i := 3) rfl))) (List.mem_cons_of_mem _ (List.mem_append_left _ (List.mem_of_getElem? (i := 4) rfl))) (by decide +kernel)) (goodIn_sub (fun _ h => List.mem_cons_of_mem _ (List.mem_append_right _ (List.mem_append_left _ h))) good_v_X4_hasPerson)) rfl rfl rfl (by decide +kernel) ⟨Nat.le_of_ble_eq_true rfl, Nat.le_of_ble_eq_true rfl⟩) (pv_RO (q := (RX4, TX4, 15)) (ci := 4) (q0 := 0) (wc := [(ld, .inr (4, [.int 0, .int 0, .int 0, .int 0, .int 0, .int 0, .long 0, .ref l1, .ref l2, .ref l3, .ref l4, .ref l5, .ref l6, .ref l7, .ref l8]))]) hK hP [1] rfl rfl rfl) rfl rfl hl.1 rfl (lv_room (Nat.le_of_ble_eq_true rfl)) dX11_bestCost_5 ⟨Nat.le_of_ble_eq_true rfl, Nat.le_of_ble_eq_true rfl⟩) hS hA hP (fun r1 u2 H locs hw3 hP hS => ?_)
  rcases hw3 with ⟨rfl, hw3_0, hw3_1⟩ | ⟨rfl, hw3_0⟩
  · omega
  · refine lv_if_eq (tgt := 28) hx hb dX11_bestCost_8 (by decide) (fun _ => ?_) (fun c4 => absurd c4 (by decide))
    refine lv_bipush (v := (-2)) hx hb dX11_bestCost_28 (by decide) ?_
    exact W.iret (v := (-2)) hx hb hr (fun t ht hW => ⟨⟨(-2), (), rfl, rfl, trivial⟩, hS.F ht⟩) hS.2.2 dX11_bestCost_30
def v_X11_family : List Cond := .code yX11_family cX11_family 2 (some .int) :: (([.fieldLink RX11 19 "CardsAtYule" "land" "LCardsAtYule$Land;", .methodLink RX11 322 yX4_hasSet, .instanceMethod yX4_hasSet, .selects RX4 yX4_hasSet yX4_hasSet, .initialized RX4] : List Cond) ++ (v_X4_hasSet ++ (wsX110 ++ ([] : List Cond))))
theorem good_v_X11_family : v_X11_family.all goodWord = true := ga_c (by decide +kernel) (ga_a (by decide +kernel) (ga_a good_v_X4_hasSet (ga_a good_wsX110 rfl)))
set_option maxHeartbeats 4000000 in
set_option maxRecDepth 100000 in
theorem k_X11_family (l : Launch) (g : va_G) (cI cJ cB cZ cL : ClassId) (x : Nat) (tp : Nat) (ld : Nat) (im : Nat) (bk : Nat) (co : Nat) (fa : Nat) (ch : Nat) (wi : Nat) (sl : Nat) (se : Nat) (dr : Nat) (l1 : Nat) (l2 : Nat) (l3 : Nat) (l4 : Nat) (l5 : Nat) (l6 : Nat) (l7 : Nat) (l8 : Nat) (p0 : Int32) (ip0 : Int) (sz : Nat) (hzp0 : p0.toInt = ip0) : Met l yX11_family v_X11_family ({ frames := 1, cells := 0, slots := 0, locals := 21 }) (va_Pc [.ref x, .int p0] (pRO g (tyT cI cJ cB cZ cL) [(x, .inr (10, [.ref tp, .ref ld, .ref im, .ref bk, .ref co, .ref fa, .ref ch, .ref wi, .ref sl, .ref se, .ref dr])), (ld, .inr (4, [.int 0, .int 0, .int 0, .int 0, .int 0, .int 0, .long 0, .ref l1, .ref l2, .ref l3, .ref l4, .ref l5, .ref l6, .ref l7, .ref l8]))] sz)) (va_Qi (fun (r : Int32) (u : Unit) => r = (-2)) (fun (_ : Unit) (_ : State) => True) (va_A [] sz)) 0 0 (va_A [] sz) := by
  refine Met.ofW (cc := cX11_family) (maxL := 2) (ret := (some .int)) (by decide) rfl ?_
  intro p e s m args below meth c s₁ B hml hv
  obtain ⟨rfl, hsz, hP, hK⟩ := hv
  have hx := B.exec
  have hb := B.bytes
  have hr := B.returns
  have hts := atoms_spec (ws := v_X11_family) B.pre
  have hown : s.vm.findClass RX11 = some m.cls := findClass_of_methodNamed B.named
  have hlocks := B.notSynchronized
  subst hsz
  have iX11 : ∀ w ∈ wsX110, w ∈ v_X11_family := (fun _ h => List.mem_cons_of_mem _ (List.mem_append_right _ (List.mem_append_right _ (List.mem_append_left _ h))))
  generalize hAe : (va_A [] s.heap.size) = A
  have hA : ∀ q : Nat, s.heap.size ≤ q → A q := fun q h => by rw [← hAe]; exact Or.inr h
  have hS : va_S A s.heap s.heap [] := va_S.rf
  have hl := lv_entry ([.ref x, .int p0]) (n := 2) (Nat.le_of_ble_eq_true rfl)
  rw [lg_entry_eq]
  generalize (lg_sl ([.ref x, .int p0]) ++ List.replicate (2 - (lg_sl ([.ref x, .int p0])).length) Slot.unset).toArray = ls at hl ⊢
  have hl : lv_has ls 2 [(0, .ref x), (1, .int p0)] := hl
  have hP : va_P g vwCl [(x, .inr (10, [.ref tp, .ref ld, .ref im, .ref bk, .ref co, .ref fa, .ref ch, .ref wi, .ref sl, .ref se, .ref dr])), (ld, .inr (4, [.int 0, .int 0, .int 0, .int 0, .int 0, .int 0, .long 0, .ref l1, .ref l2, .ref l3, .ref l4, .ref l5, .ref l6, .ref l7, .ref l8]))] s.heap := hP
  refine lv_aload_n hx hb dX11_family_0 rfl (lv_at hl 0 rfl) ?_
  refine va_get (D := g) (ci := 10) (v := .ref ld) (C := RX11) (T := TX11) (N := 11) hx hb hts iX11 hown hK hP 0 rfl rfl 1 (by decide) (hts (.fieldLink RX11 19 "CardsAtYule" "land" "LCardsAtYule$Land;") (List.mem_cons_of_mem _ (List.mem_append_left _ (List.mem_of_getElem? (i := 0) rfl)))) (fun _ h9 => h9) rfl dX11_family_1 ?_
  refine lv_iload_n hx hb dX11_family_4 rfl (lv_at hl 1 rfl) ?_
  refine ro_i (va_runV (As := [.int p0]) (rest := []) ⟨hx, hb, hml, hown, hts⟩ (k_X4_hasSet l g cI cJ cB cZ cL ld l1 l2 l3 l4 l5 l6 l7 l8 p0 ip0 s.heap.size hzp0) (cwV 1 hts (goodIn_app (g_4 (List.mem_cons_of_mem _ (List.mem_append_left _ (List.mem_of_getElem? (i := 1) rfl))) (List.mem_cons_of_mem _ (List.mem_append_left _ (List.mem_of_getElem? (i := 2) rfl))) (List.mem_cons_of_mem _ (List.mem_append_left _ (List.mem_of_getElem? (i := 3) rfl))) (List.mem_cons_of_mem _ (List.mem_append_left _ (List.mem_of_getElem? (i := 4) rfl))) (by decide +kernel)) (goodIn_sub (fun _ h => List.mem_cons_of_mem _ (List.mem_append_right _ (List.mem_append_left _ h))) good_v_X4_hasSet)) rfl rfl rfl (by decide +kernel) ⟨Nat.le_of_ble_eq_true rfl, Nat.le_of_ble_eq_true rfl⟩) (pv_RO (q := (RX4, TX4, 15)) (ci := 4) (q0 := 0) (wc := [(ld, .inr (4, [.int 0, .int 0, .int 0, .int 0, .int 0, .int 0, .long 0, .ref l1, .ref l2, .ref l3, .ref l4, .ref l5, .ref l6, .ref l7, .ref l8]))]) hK hP [1] rfl rfl rfl) rfl rfl hl.1 rfl (lv_room (Nat.le_of_ble_eq_true rfl)) dX11_family_5 ⟨Nat.le_of_ble_eq_true rfl, Nat.le_of_ble_eq_true rfl⟩) hS hA hP (fun r1 u2 H locs hw3 hP hS => ?_)
  subst hw3
  refine lv_if_eq (tgt := 19) hx hb dX11_family_8 (by decide) (fun _ => ?_) (fun c4 => absurd c4 (by decide))
  refine lv_bipush (v := (-2)) hx hb dX11_family_19 (by decide) ?_
  exact W.iret (v := (-2)) hx hb hr (fun t ht hW => ⟨⟨(-2), (), rfl, rfl, trivial⟩, hS.F ht⟩) hS.2.2 dX11_family_21
def v_X11_together : List Cond := .code yX11_together cX11_together 2 (some .int) :: (([.fieldLink RX11 19 "CardsAtYule" "land" "LCardsAtYule$Land;", .methodLink RX11 322 yX4_hasSet, .instanceMethod yX4_hasSet, .selects RX4 yX4_hasSet yX4_hasSet, .initialized RX4] : List Cond) ++ (v_X4_hasSet ++ (wsX110 ++ ([] : List Cond))))
theorem good_v_X11_together : v_X11_together.all goodWord = true := ga_c (by decide +kernel) (ga_a (by decide +kernel) (ga_a good_v_X4_hasSet (ga_a good_wsX110 rfl)))
set_option maxHeartbeats 4000000 in
set_option maxRecDepth 100000 in
theorem k_X11_together (l : Launch) (g : va_G) (cI cJ cB cZ cL : ClassId) (x : Nat) (tp : Nat) (ld : Nat) (im : Nat) (bk : Nat) (co : Nat) (fa : Nat) (ch : Nat) (wi : Nat) (sl : Nat) (se : Nat) (dr : Nat) (l1 : Nat) (l2 : Nat) (l3 : Nat) (l4 : Nat) (l5 : Nat) (l6 : Nat) (l7 : Nat) (l8 : Nat) (p0 : Int32) (ip0 : Int) (sz : Nat) (hzp0 : p0.toInt = ip0) : Met l yX11_together v_X11_together ({ frames := 1, cells := 0, slots := 0, locals := 21 }) (va_Pc [.ref x, .int p0] (pRO g (tyT cI cJ cB cZ cL) [(x, .inr (10, [.ref tp, .ref ld, .ref im, .ref bk, .ref co, .ref fa, .ref ch, .ref wi, .ref sl, .ref se, .ref dr])), (ld, .inr (4, [.int 0, .int 0, .int 0, .int 0, .int 0, .int 0, .long 0, .ref l1, .ref l2, .ref l3, .ref l4, .ref l5, .ref l6, .ref l7, .ref l8]))] sz)) (va_Qi (fun (r : Int32) (u : Unit) => r = (-2)) (fun (_ : Unit) (_ : State) => True) (va_A [] sz)) 0 0 (va_A [] sz) := by
  refine Met.ofW (cc := cX11_together) (maxL := 2) (ret := (some .int)) (by decide) rfl ?_
  intro p e s m args below meth c s₁ B hml hv
  obtain ⟨rfl, hsz, hP, hK⟩ := hv
  have hx := B.exec
  have hb := B.bytes
  have hr := B.returns
  have hts := atoms_spec (ws := v_X11_together) B.pre
  have hown : s.vm.findClass RX11 = some m.cls := findClass_of_methodNamed B.named
  have hlocks := B.notSynchronized
  subst hsz
  have iX11 : ∀ w ∈ wsX110, w ∈ v_X11_together := (fun _ h => List.mem_cons_of_mem _ (List.mem_append_right _ (List.mem_append_right _ (List.mem_append_left _ h))))
  generalize hAe : (va_A [] s.heap.size) = A
  have hA : ∀ q : Nat, s.heap.size ≤ q → A q := fun q h => by rw [← hAe]; exact Or.inr h
  have hS : va_S A s.heap s.heap [] := va_S.rf
  have hl := lv_entry ([.ref x, .int p0]) (n := 2) (Nat.le_of_ble_eq_true rfl)
  rw [lg_entry_eq]
  generalize (lg_sl ([.ref x, .int p0]) ++ List.replicate (2 - (lg_sl ([.ref x, .int p0])).length) Slot.unset).toArray = ls at hl ⊢
  have hl : lv_has ls 2 [(0, .ref x), (1, .int p0)] := hl
  have hP : va_P g vwCl [(x, .inr (10, [.ref tp, .ref ld, .ref im, .ref bk, .ref co, .ref fa, .ref ch, .ref wi, .ref sl, .ref se, .ref dr])), (ld, .inr (4, [.int 0, .int 0, .int 0, .int 0, .int 0, .int 0, .long 0, .ref l1, .ref l2, .ref l3, .ref l4, .ref l5, .ref l6, .ref l7, .ref l8]))] s.heap := hP
  refine lv_aload_n hx hb dX11_together_0 rfl (lv_at hl 0 rfl) ?_
  refine va_get (D := g) (ci := 10) (v := .ref ld) (C := RX11) (T := TX11) (N := 11) hx hb hts iX11 hown hK hP 0 rfl rfl 1 (by decide) (hts (.fieldLink RX11 19 "CardsAtYule" "land" "LCardsAtYule$Land;") (List.mem_cons_of_mem _ (List.mem_append_left _ (List.mem_of_getElem? (i := 0) rfl)))) (fun _ h9 => h9) rfl dX11_together_1 ?_
  refine lv_iload_n hx hb dX11_together_4 rfl (lv_at hl 1 rfl) ?_
  refine ro_i (va_runV (As := [.int p0]) (rest := []) ⟨hx, hb, hml, hown, hts⟩ (k_X4_hasSet l g cI cJ cB cZ cL ld l1 l2 l3 l4 l5 l6 l7 l8 p0 ip0 s.heap.size hzp0) (cwV 1 hts (goodIn_app (g_4 (List.mem_cons_of_mem _ (List.mem_append_left _ (List.mem_of_getElem? (i := 1) rfl))) (List.mem_cons_of_mem _ (List.mem_append_left _ (List.mem_of_getElem? (i := 2) rfl))) (List.mem_cons_of_mem _ (List.mem_append_left _ (List.mem_of_getElem? (i := 3) rfl))) (List.mem_cons_of_mem _ (List.mem_append_left _ (List.mem_of_getElem? (i := 4) rfl))) (by decide +kernel)) (goodIn_sub (fun _ h => List.mem_cons_of_mem _ (List.mem_append_right _ (List.mem_append_left _ h))) good_v_X4_hasSet)) rfl rfl rfl (by decide +kernel) ⟨Nat.le_of_ble_eq_true rfl, Nat.le_of_ble_eq_true rfl⟩) (pv_RO (q := (RX4, TX4, 15)) (ci := 4) (q0 := 0) (wc := [(ld, .inr (4, [.int 0, .int 0, .int 0, .int 0, .int 0, .int 0, .long 0, .ref l1, .ref l2, .ref l3, .ref l4, .ref l5, .ref l6, .ref l7, .ref l8]))]) hK hP [1] rfl rfl rfl) rfl rfl hl.1 rfl (lv_room (Nat.le_of_ble_eq_true rfl)) dX11_together_5 ⟨Nat.le_of_ble_eq_true rfl, Nat.le_of_ble_eq_true rfl⟩) hS hA hP (fun r1 u2 H locs hw3 hP hS => ?_)
  subst hw3
  refine lv_if_eq (tgt := 24) hx hb dX11_together_8 (by decide) (fun _ => ?_) (fun c4 => absurd c4 (by decide))
  refine lv_bipush (v := (-2)) hx hb dX11_together_24 (by decide) ?_
  exact W.iret (v := (-2)) hx hb hr (fun t ht hW => ⟨⟨(-2), (), rfl, rfl, trivial⟩, hS.F ht⟩) hS.2.2 dX11_together_26
def v_X11_fits : List Cond := .code yX11_fits cX11_fits 7 (some .int) :: (([.methodLink RX11 325 yX11_readSeen, .instanceMethod yX11_readSeen, .selects RX11 yX11_readSeen yX11_readSeen, .initialized RX11] : List Cond) ++ (v_X11_readSeen ++ ([] : List Cond)))
theorem good_v_X11_fits : v_X11_fits.all goodWord = true := ga_c (by decide +kernel) (ga_a (by decide +kernel) (ga_a good_v_X11_readSeen rfl))
set_option maxHeartbeats 4000000 in
set_option maxRecDepth 100000 in
theorem k_X11_fits (l : Launch) (g : va_G) (cI cJ cB cZ cL : ClassId) (x : Nat) (tp : Nat) (ld : Nat) (im : Nat) (bk : Nat) (co : Nat) (fa : Nat) (ch : Nat) (wi : Nat) (sl : Nat) (se : Nat) (dr : Nat) (l1 : Nat) (l2 : Nat) (l3 : Nat) (l4 : Nat) (l5 : Nat) (l6 : Nat) (l7 : Nat) (l8 : Nat) (p0 : Int32) (p1 : Int32) (ip0 : Int) (ip1 : Int) (sz : Nat) (hzp0 : p0.toInt = ip0) (hzp1 : p1.toInt = ip1) : Met l yX11_fits v_X11_fits ({ frames := 2, cells := 0, slots := 0, locals := 43 }) (va_Pc [.ref x, .int p0, .int p1] (pRO g (tyT cI cJ cB cZ cL) [(x, .inr (10, [.ref tp, .ref ld, .ref im, .ref bk, .ref co, .ref fa, .ref ch, .ref wi, .ref sl, .ref se, .ref dr])), (ld, .inr (4, [.int 0, .int 0, .int 0, .int 0, .int 0, .int 0, .long 0, .ref l1, .ref l2, .ref l3, .ref l4, .ref l5, .ref l6, .ref l7, .ref l8]))] sz)) (va_Qi (fun (r : Int32) (u : Unit) => r = (-2)) (fun (_ : Unit) (_ : State) => True) (va_A [] sz)) 0 0 (va_A [] sz) := by
  refine Met.ofW (cc := cX11_fits) (maxL := 7) (ret := (some .int)) (by decide) rfl ?_
  intro p e s m args below meth c s₁ B hml hv
  obtain ⟨rfl, hsz, hP, hK⟩ := hv
  have hx := B.exec
  have hb := B.bytes
  have hr := B.returns
  have hts := atoms_spec (ws := v_X11_fits) B.pre
  have hown : s.vm.findClass RX11 = some m.cls := findClass_of_methodNamed B.named
  have hlocks := B.notSynchronized
  subst hsz
  generalize hAe : (va_A [] s.heap.size) = A
  have hA : ∀ q : Nat, s.heap.size ≤ q → A q := fun q h => by rw [← hAe]; exact Or.inr h
  have hS : va_S A s.heap s.heap [] := va_S.rf
  have hl := lv_entry ([.ref x, .int p0, .int p1]) (n := 7) (Nat.le_of_ble_eq_true rfl)
  rw [lg_entry_eq]
  generalize (lg_sl ([.ref x, .int p0, .int p1]) ++ List.replicate (7 - (lg_sl ([.ref x, .int p0, .int p1])).length) Slot.unset).toArray = ls at hl ⊢
  have hl : lv_has ls 7 [(0, .ref x), (1, .int p0), (2, .int p1)] := hl
  have hP : va_P g vwCl [(x, .inr (10, [.ref tp, .ref ld, .ref im, .ref bk, .ref co, .ref fa, .ref ch, .ref wi, .ref sl, .ref se, .ref dr])), (ld, .inr (4, [.int 0, .int 0, .int 0, .int 0, .int 0, .int 0, .long 0, .ref l1, .ref l2, .ref l3, .ref l4, .ref l5, .ref l6, .ref l7, .ref l8]))] s.heap := hP
  refine lv_aload_n hx hb dX11_fits_0 rfl (lv_at hl 0 rfl) ?_
  refine lv_iload_n hx hb dX11_fits_1 rfl (lv_at hl 1 rfl) ?_
  refine lv_iload_n hx hb dX11_fits_2 rfl (lv_at hl 2 rfl) ?_
  refine ro_i (va_runV (As := [.int p0, .int p1]) (rest := []) ⟨hx, hb, hml, hown, hts⟩ (k_X11_readSeen l g cI cJ cB cZ cL x tp ld im bk co fa ch wi sl se dr l1 l2 l3 l4 l5 l6 l7 l8 p0 p1 ip0 ip1 s.heap.size hzp0 hzp1) (cwV 2 hts (goodIn_app (g_4 (List.mem_cons_of_mem _ (List.mem_append_left _ (List.mem_of_getElem? (i := 0) rfl))) (List.mem_cons_of_mem _ (List.mem_append_left _ (List.mem_of_getElem? (i := 1) rfl))) (List.mem_cons_of_mem _ (List.mem_append_left _ (List.mem_of_getElem? (i := 2) rfl))) (List.mem_cons_of_mem _ (List.mem_append_left _ (List.mem_of_getElem? (i := 3) rfl))) (by decide +kernel)) (goodIn_sub (fun _ h => List.mem_cons_of_mem _ (List.mem_append_right _ (List.mem_append_left _ h))) good_v_X11_readSeen)) rfl rfl rfl (by decide +kernel) ⟨Nat.le_of_ble_eq_true rfl, Nat.le_of_ble_eq_true rfl⟩) (pv_RO (q := (RX11, TX11, 11)) (ci := 10) (q0 := 0) (wc := [(x, .inr (10, [.ref tp, .ref ld, .ref im, .ref bk, .ref co, .ref fa, .ref ch, .ref wi, .ref sl, .ref se, .ref dr])), (ld, .inr (4, [.int 0, .int 0, .int 0, .int 0, .int 0, .int 0, .long 0, .ref l1, .ref l2, .ref l3, .ref l4, .ref l5, .ref l6, .ref l7, .ref l8]))]) hK hP [0, 1] rfl rfl rfl) rfl rfl hl.1 rfl (lv_room (Nat.le_of_ble_eq_true rfl)) dX11_fits_3 ⟨Nat.le_of_ble_eq_true rfl, Nat.le_of_ble_eq_true rfl⟩) hS hA hP (fun r1 u2 H locs hw3 hP hS => ?_)
  subst hw3
  refine lv_istore_n (lv' := [(3, .int (-2)), (0, .ref x), (1, .int p0), (2, .int p1)]) hx hb dX11_fits_6 rfl hl (by decide) rfl (fun ls hl => ?_)
  refine lv_iload_n hx hb dX11_fits_7 rfl (lv_at hl 0 rfl) ?_
  refine lv_if_eq (tgt := 13) hx hb dX11_fits_8 (by decide) (fun c4 => absurd c4 (by decide)) (fun _ => ?_)
  refine lv_iload_n hx hb dX11_fits_11 rfl (lv_at hl 0 rfl) ?_
  exact W.iret (v := (-2)) hx hb hr (fun t ht hW => ⟨⟨(-2), (), rfl, rfl, trivial⟩, hS.F ht⟩) hS.2.2 dX11_fits_12
def v_X11_begun : List Cond := .code yX11_begun cX11_begun 6 (some .int) :: (([.methodLink RX11 325 yX11_readSeen, .instanceMethod yX11_readSeen, .selects RX11 yX11_readSeen yX11_readSeen, .initialized RX11] : List Cond) ++ (v_X11_readSeen ++ ([] : List Cond)))
theorem good_v_X11_begun : v_X11_begun.all goodWord = true := ga_c (by decide +kernel) (ga_a (by decide +kernel) (ga_a good_v_X11_readSeen rfl))
set_option maxHeartbeats 4000000 in
set_option maxRecDepth 100000 in
theorem k_X11_begun (l : Launch) (g : va_G) (cI cJ cB cZ cL : ClassId) (x : Nat) (tp : Nat) (ld : Nat) (im : Nat) (bk : Nat) (co : Nat) (fa : Nat) (ch : Nat) (wi : Nat) (sl : Nat) (se : Nat) (dr : Nat) (l1 : Nat) (l2 : Nat) (l3 : Nat) (l4 : Nat) (l5 : Nat) (l6 : Nat) (l7 : Nat) (l8 : Nat) (p0 : Int32) (p1 : Int32) (ip0 : Int) (ip1 : Int) (sz : Nat) (hzp0 : p0.toInt = ip0) (hzp1 : p1.toInt = ip1) : Met l yX11_begun v_X11_begun ({ frames := 2, cells := 0, slots := 0, locals := 43 }) (va_Pc [.ref x, .int p0, .int p1] (pRO g (tyT cI cJ cB cZ cL) [(x, .inr (10, [.ref tp, .ref ld, .ref im, .ref bk, .ref co, .ref fa, .ref ch, .ref wi, .ref sl, .ref se, .ref dr])), (ld, .inr (4, [.int 0, .int 0, .int 0, .int 0, .int 0, .int 0, .long 0, .ref l1, .ref l2, .ref l3, .ref l4, .ref l5, .ref l6, .ref l7, .ref l8]))] sz)) (va_Qi (fun (r : Int32) (u : Unit) => r = (-2)) (fun (_ : Unit) (_ : State) => True) (va_A [] sz)) 0 0 (va_A [] sz) := by
  refine Met.ofW (cc := cX11_begun) (maxL := 6) (ret := (some .int)) (by decide) rfl ?_
  intro p e s m args below meth c s₁ B hml hv
  obtain ⟨rfl, hsz, hP, hK⟩ := hv
  have hx := B.exec
  have hb := B.bytes
  have hr := B.returns
  have hts := atoms_spec (ws := v_X11_begun) B.pre
  have hown : s.vm.findClass RX11 = some m.cls := findClass_of_methodNamed B.named
  have hlocks := B.notSynchronized
  subst hsz
  generalize hAe : (va_A [] s.heap.size) = A
  have hA : ∀ q : Nat, s.heap.size ≤ q → A q := fun q h => by rw [← hAe]; exact Or.inr h
  have hS : va_S A s.heap s.heap [] := va_S.rf
  have hl := lv_entry ([.ref x, .int p0, .int p1]) (n := 6) (Nat.le_of_ble_eq_true rfl)
  rw [lg_entry_eq]
  generalize (lg_sl ([.ref x, .int p0, .int p1]) ++ List.replicate (6 - (lg_sl ([.ref x, .int p0, .int p1])).length) Slot.unset).toArray = ls at hl ⊢
  have hl : lv_has ls 6 [(0, .ref x), (1, .int p0), (2, .int p1)] := hl
  have hP : va_P g vwCl [(x, .inr (10, [.ref tp, .ref ld, .ref im, .ref bk, .ref co, .ref fa, .ref ch, .ref wi, .ref sl, .ref se, .ref dr])), (ld, .inr (4, [.int 0, .int 0, .int 0, .int 0, .int 0, .int 0, .long 0, .ref l1, .ref l2, .ref l3, .ref l4, .ref l5, .ref l6, .ref l7, .ref l8]))] s.heap := hP
  refine lv_aload_n hx hb dX11_begun_0 rfl (lv_at hl 0 rfl) ?_
  refine lv_iload_n hx hb dX11_begun_1 rfl (lv_at hl 1 rfl) ?_
  refine lv_iload_n hx hb dX11_begun_2 rfl (lv_at hl 2 rfl) ?_
  refine ro_i (va_runV (As := [.int p0, .int p1]) (rest := []) ⟨hx, hb, hml, hown, hts⟩ (k_X11_readSeen l g cI cJ cB cZ cL x tp ld im bk co fa ch wi sl se dr l1 l2 l3 l4 l5 l6 l7 l8 p0 p1 ip0 ip1 s.heap.size hzp0 hzp1) (cwV 2 hts (goodIn_app (g_4 (List.mem_cons_of_mem _ (List.mem_append_left _ (List.mem_of_getElem? (i := 0) rfl))) (List.mem_cons_of_mem _ (List.mem_append_left _ (List.mem_of_getElem? (i := 1) rfl))) (List.mem_cons_of_mem _ (List.mem_append_left _ (List.mem_of_getElem? (i := 2) rfl))) (List.mem_cons_of_mem _ (List.mem_append_left _ (List.mem_of_getElem? (i := 3) rfl))) (by decide +kernel)) (goodIn_sub (fun _ h => List.mem_cons_of_mem _ (List.mem_append_right _ (List.mem_append_left _ h))) good_v_X11_readSeen)) rfl rfl rfl (by decide +kernel) ⟨Nat.le_of_ble_eq_true rfl, Nat.le_of_ble_eq_true rfl⟩) (pv_RO (q := (RX11, TX11, 11)) (ci := 10) (q0 := 0) (wc := [(x, .inr (10, [.ref tp, .ref ld, .ref im, .ref bk, .ref co, .ref fa, .ref ch, .ref wi, .ref sl, .ref se, .ref dr])), (ld, .inr (4, [.int 0, .int 0, .int 0, .int 0, .int 0, .int 0, .long 0, .ref l1, .ref l2, .ref l3, .ref l4, .ref l5, .ref l6, .ref l7, .ref l8]))]) hK hP [0, 1] rfl rfl rfl) rfl rfl hl.1 rfl (lv_room (Nat.le_of_ble_eq_true rfl)) dX11_begun_3 ⟨Nat.le_of_ble_eq_true rfl, Nat.le_of_ble_eq_true rfl⟩) hS hA hP (fun r1 u2 H locs hw3 hP hS => ?_)
  subst hw3
  refine lv_istore_n (lv' := [(3, .int (-2)), (0, .ref x), (1, .int p0), (2, .int p1)]) hx hb dX11_begun_6 rfl hl (by decide) rfl (fun ls hl => ?_)
  refine lv_iload_n hx hb dX11_begun_7 rfl (lv_at hl 0 rfl) ?_
  refine lv_if_eq (tgt := 13) hx hb dX11_begun_8 (by decide) (fun c4 => absurd c4 (by decide)) (fun _ => ?_)
  refine lv_iload_n hx hb dX11_begun_11 rfl (lv_at hl 0 rfl) ?_
  exact W.iret (v := (-2)) hx hb hr (fun t ht hW => ⟨⟨(-2), (), rfl, rfl, trivial⟩, hS.F ht⟩) hS.2.2 dX11_begun_12
def v_X11_odd : List Cond := .code yX11_odd cX11_odd 9 (some .int) :: (([.methodLink RX11 325 yX11_readSeen, .instanceMethod yX11_readSeen, .selects RX11 yX11_readSeen yX11_readSeen, .initialized RX11] : List Cond) ++ (v_X11_readSeen ++ ([] : List Cond)))
theorem good_v_X11_odd : v_X11_odd.all goodWord = true := ga_c (by decide +kernel) (ga_a (by decide +kernel) (ga_a good_v_X11_readSeen rfl))
set_option maxHeartbeats 4000000 in
set_option maxRecDepth 100000 in
theorem k_X11_odd (l : Launch) (g : va_G) (cI cJ cB cZ cL : ClassId) (x : Nat) (tp : Nat) (ld : Nat) (im : Nat) (bk : Nat) (co : Nat) (fa : Nat) (ch : Nat) (wi : Nat) (sl : Nat) (se : Nat) (dr : Nat) (l1 : Nat) (l2 : Nat) (l3 : Nat) (l4 : Nat) (l5 : Nat) (l6 : Nat) (l7 : Nat) (l8 : Nat) (p0 : Int32) (p1 : Int32) (ip0 : Int) (ip1 : Int) (sz : Nat) (hzp0 : p0.toInt = ip0) (hzp1 : p1.toInt = ip1) : Met l yX11_odd v_X11_odd ({ frames := 2, cells := 0, slots := 0, locals := 43 }) (va_Pc [.ref x, .int p0, .int p1] (pRO g (tyT cI cJ cB cZ cL) [(x, .inr (10, [.ref tp, .ref ld, .ref im, .ref bk, .ref co, .ref fa, .ref ch, .ref wi, .ref sl, .ref se, .ref dr])), (ld, .inr (4, [.int 0, .int 0, .int 0, .int 0, .int 0, .int 0, .long 0, .ref l1, .ref l2, .ref l3, .ref l4, .ref l5, .ref l6, .ref l7, .ref l8]))] sz)) (va_Qi (fun (r : Int32) (u : Unit) => r = (-2)) (fun (_ : Unit) (_ : State) => True) (va_A [] sz)) 0 0 (va_A [] sz) := by
  refine Met.ofW (cc := cX11_odd) (maxL := 9) (ret := (some .int)) (by decide) rfl ?_
  intro p e s m args below meth c s₁ B hml hv
  obtain ⟨rfl, hsz, hP, hK⟩ := hv
  have hx := B.exec
  have hb := B.bytes
  have hr := B.returns
  have hts := atoms_spec (ws := v_X11_odd) B.pre
  have hown : s.vm.findClass RX11 = some m.cls := findClass_of_methodNamed B.named
  have hlocks := B.notSynchronized
  subst hsz
  generalize hAe : (va_A [] s.heap.size) = A
  have hA : ∀ q : Nat, s.heap.size ≤ q → A q := fun q h => by rw [← hAe]; exact Or.inr h
  have hS : va_S A s.heap s.heap [] := va_S.rf
  have hl := lv_entry ([.ref x, .int p0, .int p1]) (n := 9) (Nat.le_of_ble_eq_true rfl)
  rw [lg_entry_eq]
  generalize (lg_sl ([.ref x, .int p0, .int p1]) ++ List.replicate (9 - (lg_sl ([.ref x, .int p0, .int p1])).length) Slot.unset).toArray = ls at hl ⊢
  have hl : lv_has ls 9 [(0, .ref x), (1, .int p0), (2, .int p1)] := hl
  have hP : va_P g vwCl [(x, .inr (10, [.ref tp, .ref ld, .ref im, .ref bk, .ref co, .ref fa, .ref ch, .ref wi, .ref sl, .ref se, .ref dr])), (ld, .inr (4, [.int 0, .int 0, .int 0, .int 0, .int 0, .int 0, .long 0, .ref l1, .ref l2, .ref l3, .ref l4, .ref l5, .ref l6, .ref l7, .ref l8]))] s.heap := hP
  refine lv_aload_n hx hb dX11_odd_0 rfl (lv_at hl 0 rfl) ?_
  refine lv_iload_n hx hb dX11_odd_1 rfl (lv_at hl 1 rfl) ?_
  refine lv_iload_n hx hb dX11_odd_2 rfl (lv_at hl 2 rfl) ?_
  refine ro_i (va_runV (As := [.int p0, .int p1]) (rest := []) ⟨hx, hb, hml, hown, hts⟩ (k_X11_readSeen l g cI cJ cB cZ cL x tp ld im bk co fa ch wi sl se dr l1 l2 l3 l4 l5 l6 l7 l8 p0 p1 ip0 ip1 s.heap.size hzp0 hzp1) (cwV 2 hts (goodIn_app (g_4 (List.mem_cons_of_mem _ (List.mem_append_left _ (List.mem_of_getElem? (i := 0) rfl))) (List.mem_cons_of_mem _ (List.mem_append_left _ (List.mem_of_getElem? (i := 1) rfl))) (List.mem_cons_of_mem _ (List.mem_append_left _ (List.mem_of_getElem? (i := 2) rfl))) (List.mem_cons_of_mem _ (List.mem_append_left _ (List.mem_of_getElem? (i := 3) rfl))) (by decide +kernel)) (goodIn_sub (fun _ h => List.mem_cons_of_mem _ (List.mem_append_right _ (List.mem_append_left _ h))) good_v_X11_readSeen)) rfl rfl rfl (by decide +kernel) ⟨Nat.le_of_ble_eq_true rfl, Nat.le_of_ble_eq_true rfl⟩) (pv_RO (q := (RX11, TX11, 11)) (ci := 10) (q0 := 0) (wc := [(x, .inr (10, [.ref tp, .ref ld, .ref im, .ref bk, .ref co, .ref fa, .ref ch, .ref wi, .ref sl, .ref se, .ref dr])), (ld, .inr (4, [.int 0, .int 0, .int 0, .int 0, .int 0, .int 0, .long 0, .ref l1, .ref l2, .ref l3, .ref l4, .ref l5, .ref l6, .ref l7, .ref l8]))]) hK hP [0, 1] rfl rfl rfl) rfl rfl hl.1 rfl (lv_room (Nat.le_of_ble_eq_true rfl)) dX11_odd_3 ⟨Nat.le_of_ble_eq_true rfl, Nat.le_of_ble_eq_true rfl⟩) hS hA hP (fun r1 u2 H locs hw3 hP hS => ?_)
  subst hw3
  refine lv_istore_n (lv' := [(3, .int (-2)), (0, .ref x), (1, .int p0), (2, .int p1)]) hx hb dX11_odd_6 rfl hl (by decide) rfl (fun ls hl => ?_)
  refine lv_iload_n hx hb dX11_odd_7 rfl (lv_at hl 0 rfl) ?_
  refine lv_if_eq (tgt := 13) hx hb dX11_odd_8 (by decide) (fun c4 => absurd c4 (by decide)) (fun _ => ?_)
  refine lv_iload_n hx hb dX11_odd_11 rfl (lv_at hl 0 rfl) ?_
  exact W.iret (v := (-2)) hx hb hr (fun t ht hW => ⟨⟨(-2), (), rfl, rfl, trivial⟩, hS.F ht⟩) hS.2.2 dX11_odd_12
def v_X11_life : List Cond := .code yX11_life cX11_life 3 (some .int) :: (([.fieldLink RX11 19 "CardsAtYule" "land" "LCardsAtYule$Land;", .methodLink RX11 220 yX4_isThere, .instanceMethod yX4_isThere, .selects RX4 yX4_isThere yX4_isThere, .initialized RX4] : List Cond) ++ (v_X4_isThere ++ (wsX110 ++ ([] : List Cond))))
theorem good_v_X11_life : v_X11_life.all goodWord = true := ga_c (by decide +kernel) (ga_a (by decide +kernel) (ga_a good_v_X4_isThere (ga_a good_wsX110 rfl)))
set_option maxHeartbeats 4000000 in
set_option maxRecDepth 100000 in
theorem k_X11_life (l : Launch) (g : va_G) (cI cJ cB cZ cL : ClassId) (x : Nat) (tp : Nat) (ld : Nat) (im : Nat) (bk : Nat) (co : Nat) (fa : Nat) (ch : Nat) (wi : Nat) (sl : Nat) (se : Nat) (dr : Nat) (l1 : Nat) (l2 : Nat) (l3 : Nat) (l4 : Nat) (l5 : Nat) (l6 : Nat) (l7 : Nat) (l8 : Nat) (p0 : Int32) (p1 : Int32) (ip0 : Int) (ip1 : Int) (sz : Nat) (hzp0 : p0.toInt = ip0) (hzp1 : p1.toInt = ip1) : Met l yX11_life v_X11_life ({ frames := 1, cells := 0, slots := 0, locals := 20 }) (va_Pc [.ref x, .int p0, .int p1] (pRO g (tyT cI cJ cB cZ cL) [(x, .inr (10, [.ref tp, .ref ld, .ref im, .ref bk, .ref co, .ref fa, .ref ch, .ref wi, .ref sl, .ref se, .ref dr])), (ld, .inr (4, [.int 0, .int 0, .int 0, .int 0, .int 0, .int 0, .long 0, .ref l1, .ref l2, .ref l3, .ref l4, .ref l5, .ref l6, .ref l7, .ref l8]))] sz)) (va_Qi (fun (r : Int32) (u : Unit) => r = (-2)) (fun (_ : Unit) (_ : State) => True) (va_A [] sz)) 0 0 (va_A [] sz) := by
  refine Met.ofW (cc := cX11_life) (maxL := 3) (ret := (some .int)) (by decide) rfl ?_
  intro p e s m args below meth c s₁ B hml hv
  obtain ⟨rfl, hsz, hP, hK⟩ := hv
  have hx := B.exec
  have hb := B.bytes
  have hr := B.returns
  have hts := atoms_spec (ws := v_X11_life) B.pre
  have hown : s.vm.findClass RX11 = some m.cls := findClass_of_methodNamed B.named
  have hlocks := B.notSynchronized
  subst hsz
  have iX11 : ∀ w ∈ wsX110, w ∈ v_X11_life := (fun _ h => List.mem_cons_of_mem _ (List.mem_append_right _ (List.mem_append_right _ (List.mem_append_left _ h))))
  generalize hAe : (va_A [] s.heap.size) = A
  have hA : ∀ q : Nat, s.heap.size ≤ q → A q := fun q h => by rw [← hAe]; exact Or.inr h
  have hS : va_S A s.heap s.heap [] := va_S.rf
  have hl := lv_entry ([.ref x, .int p0, .int p1]) (n := 3) (Nat.le_of_ble_eq_true rfl)
  rw [lg_entry_eq]
  generalize (lg_sl ([.ref x, .int p0, .int p1]) ++ List.replicate (3 - (lg_sl ([.ref x, .int p0, .int p1])).length) Slot.unset).toArray = ls at hl ⊢
  have hl : lv_has ls 3 [(0, .ref x), (1, .int p0), (2, .int p1)] := hl
  have hP : va_P g vwCl [(x, .inr (10, [.ref tp, .ref ld, .ref im, .ref bk, .ref co, .ref fa, .ref ch, .ref wi, .ref sl, .ref se, .ref dr])), (ld, .inr (4, [.int 0, .int 0, .int 0, .int 0, .int 0, .int 0, .long 0, .ref l1, .ref l2, .ref l3, .ref l4, .ref l5, .ref l6, .ref l7, .ref l8]))] s.heap := hP
  refine lv_aload_n hx hb dX11_life_0 rfl (lv_at hl 0 rfl) ?_
  refine va_get (D := g) (ci := 10) (v := .ref ld) (C := RX11) (T := TX11) (N := 11) hx hb hts iX11 hown hK hP 0 rfl rfl 1 (by decide) (hts (.fieldLink RX11 19 "CardsAtYule" "land" "LCardsAtYule$Land;") (List.mem_cons_of_mem _ (List.mem_append_left _ (List.mem_of_getElem? (i := 0) rfl)))) (fun _ h9 => h9) rfl dX11_life_1 ?_
  refine ro_i (va_runV (As := []) (rest := []) ⟨hx, hb, hml, hown, hts⟩ (k_X4_isThere l g cI cJ cB cZ cL ld 0 0 0 0 0 0 0 l1 l2 l3 l4 l5 l6 l7 l8 0 s.heap.size rfl) (cwV 0 hts (goodIn_app (g_4 (List.mem_cons_of_mem _ (List.mem_append_left _ (List.mem_of_getElem? (i := 1) rfl))) (List.mem_cons_of_mem _ (List.mem_append_left _ (List.mem_of_getElem? (i := 2) rfl))) (List.mem_cons_of_mem _ (List.mem_append_left _ (List.mem_of_getElem? (i := 3) rfl))) (List.mem_cons_of_mem _ (List.mem_append_left _ (List.mem_of_getElem? (i := 4) rfl))) (by decide +kernel)) (goodIn_sub (fun _ h => List.mem_cons_of_mem _ (List.mem_append_right _ (List.mem_append_left _ h))) good_v_X4_isThere)) rfl rfl rfl (by decide +kernel) ⟨Nat.le_of_ble_eq_true rfl, Nat.le_of_ble_eq_true rfl⟩) (pv_RO (q := (RX4, TX4, 15)) (ci := 4) (q0 := 0) (wc := [(ld, .inr (4, [.int 0, .int 0, .int 0, .int 0, .int 0, .int 0, .long 0, .ref l1, .ref l2, .ref l3, .ref l4, .ref l5, .ref l6, .ref l7, .ref l8]))]) hK hP [1] rfl rfl rfl) rfl rfl hl.1 rfl (lv_room (Nat.le_of_ble_eq_true rfl)) dX11_life_4 ⟨Nat.le_of_ble_eq_true rfl, Nat.le_of_ble_eq_true rfl⟩) hS hA hP (fun r1 u2 H locs hw3 hP hS => ?_)
  rcases hw3 with ⟨rfl, hw3_0⟩ | ⟨rfl, hw3_0⟩
  · omega
  · refine lv_if_eq (tgt := 25) hx hb dX11_life_7 (by decide) (fun _ => ?_) (fun c4 => absurd c4 (by decide))
    refine lv_bipush (v := (-2)) hx hb dX11_life_25 (by decide) ?_
    exact W.iret (v := (-2)) hx hb hr (fun t ht hW => ⟨⟨(-2), (), rfl, rfl, trivial⟩, hS.F ht⟩) hS.2.2 dX11_life_27
def v_X11_lives : List Cond := .code yX11_lives cX11_lives 3 (some .int) :: (([.fieldLink RX11 19 "CardsAtYule" "land" "LCardsAtYule$Land;", .methodLink RX11 135 yX4_hasPair, .instanceMethod yX4_hasPair, .selects RX4 yX4_hasPair yX4_hasPair, .initialized RX4] : List Cond) ++ (v_X4_hasPair ++ (wsX110 ++ ([] : List Cond))))
theorem good_v_X11_lives : v_X11_lives.all goodWord = true := ga_c (by decide +kernel) (ga_a (by decide +kernel) (ga_a good_v_X4_hasPair (ga_a good_wsX110 rfl)))
set_option maxHeartbeats 4000000 in
set_option maxRecDepth 100000 in
theorem k_X11_lives (l : Launch) (g : va_G) (cI cJ cB cZ cL : ClassId) (x : Nat) (tp : Nat) (ld : Nat) (im : Nat) (bk : Nat) (co : Nat) (fa : Nat) (ch : Nat) (wi : Nat) (sl : Nat) (se : Nat) (dr : Nat) (l1 : Nat) (l2 : Nat) (l3 : Nat) (l4 : Nat) (l5 : Nat) (l6 : Nat) (l7 : Nat) (l8 : Nat) (p0 : Int32) (p1 : Int32) (ip0 : Int) (ip1 : Int) (sz : Nat) (hzp0 : p0.toInt = ip0) (hzp1 : p1.toInt = ip1) : Met l yX11_lives v_X11_lives ({ frames := 1, cells := 0, slots := 0, locals := 21 }) (va_Pc [.ref x, .int p0, .int p1] (pRO g (tyT cI cJ cB cZ cL) [(x, .inr (10, [.ref tp, .ref ld, .ref im, .ref bk, .ref co, .ref fa, .ref ch, .ref wi, .ref sl, .ref se, .ref dr])), (ld, .inr (4, [.int 0, .int 0, .int 0, .int 0, .int 0, .int 0, .long 0, .ref l1, .ref l2, .ref l3, .ref l4, .ref l5, .ref l6, .ref l7, .ref l8]))] sz)) (va_Qi (fun (r : Int32) (u : Unit) => r = (-2)) (fun (_ : Unit) (_ : State) => True) (va_A [] sz)) 0 0 (va_A [] sz) := by
  refine Met.ofW (cc := cX11_lives) (maxL := 3) (ret := (some .int)) (by decide) rfl ?_
  intro p e s m args below meth c s₁ B hml hv
  obtain ⟨rfl, hsz, hP, hK⟩ := hv
  have hx := B.exec
  have hb := B.bytes
  have hr := B.returns
  have hts := atoms_spec (ws := v_X11_lives) B.pre
  have hown : s.vm.findClass RX11 = some m.cls := findClass_of_methodNamed B.named
  have hlocks := B.notSynchronized
  subst hsz
  have iX11 : ∀ w ∈ wsX110, w ∈ v_X11_lives := (fun _ h => List.mem_cons_of_mem _ (List.mem_append_right _ (List.mem_append_right _ (List.mem_append_left _ h))))
  generalize hAe : (va_A [] s.heap.size) = A
  have hA : ∀ q : Nat, s.heap.size ≤ q → A q := fun q h => by rw [← hAe]; exact Or.inr h
  have hS : va_S A s.heap s.heap [] := va_S.rf
  have hl := lv_entry ([.ref x, .int p0, .int p1]) (n := 3) (Nat.le_of_ble_eq_true rfl)
  rw [lg_entry_eq]
  generalize (lg_sl ([.ref x, .int p0, .int p1]) ++ List.replicate (3 - (lg_sl ([.ref x, .int p0, .int p1])).length) Slot.unset).toArray = ls at hl ⊢
  have hl : lv_has ls 3 [(0, .ref x), (1, .int p0), (2, .int p1)] := hl
  have hP : va_P g vwCl [(x, .inr (10, [.ref tp, .ref ld, .ref im, .ref bk, .ref co, .ref fa, .ref ch, .ref wi, .ref sl, .ref se, .ref dr])), (ld, .inr (4, [.int 0, .int 0, .int 0, .int 0, .int 0, .int 0, .long 0, .ref l1, .ref l2, .ref l3, .ref l4, .ref l5, .ref l6, .ref l7, .ref l8]))] s.heap := hP
  refine lv_aload_n hx hb dX11_lives_0 rfl (lv_at hl 0 rfl) ?_
  refine va_get (D := g) (ci := 10) (v := .ref ld) (C := RX11) (T := TX11) (N := 11) hx hb hts iX11 hown hK hP 0 rfl rfl 1 (by decide) (hts (.fieldLink RX11 19 "CardsAtYule" "land" "LCardsAtYule$Land;") (List.mem_cons_of_mem _ (List.mem_append_left _ (List.mem_of_getElem? (i := 0) rfl)))) (fun _ h9 => h9) rfl dX11_lives_1 ?_
  refine lv_iload_n hx hb dX11_lives_4 rfl (lv_at hl 2 rfl) ?_
  refine ro_i (va_runV (As := [.int p1]) (rest := []) ⟨hx, hb, hml, hown, hts⟩ (k_X4_hasPair l g cI cJ cB cZ cL ld 0 0 0 0 0 0 0 l1 l2 l3 l4 l5 l6 l7 l8 0 p1 ip1 s.heap.size rfl hzp1) (cwV 1 hts (goodIn_app (g_4 (List.mem_cons_of_mem _ (List.mem_append_left _ (List.mem_of_getElem? (i := 1) rfl))) (List.mem_cons_of_mem _ (List.mem_append_left _ (List.mem_of_getElem? (i := 2) rfl))) (List.mem_cons_of_mem _ (List.mem_append_left _ (List.mem_of_getElem? (i := 3) rfl))) (List.mem_cons_of_mem _ (List.mem_append_left _ (List.mem_of_getElem? (i := 4) rfl))) (by decide +kernel)) (goodIn_sub (fun _ h => List.mem_cons_of_mem _ (List.mem_append_right _ (List.mem_append_left _ h))) good_v_X4_hasPair)) rfl rfl rfl (by decide +kernel) ⟨Nat.le_of_ble_eq_true rfl, Nat.le_of_ble_eq_true rfl⟩) (pv_RO (q := (RX4, TX4, 15)) (ci := 4) (q0 := 0) (wc := [(ld, .inr (4, [.int 0, .int 0, .int 0, .int 0, .int 0, .int 0, .long 0, .ref l1, .ref l2, .ref l3, .ref l4, .ref l5, .ref l6, .ref l7, .ref l8]))]) hK hP [1] rfl rfl rfl) rfl rfl hl.1 rfl (lv_room (Nat.le_of_ble_eq_true rfl)) dX11_lives_5 ⟨Nat.le_of_ble_eq_true rfl, Nat.le_of_ble_eq_true rfl⟩) hS hA hP (fun r1 u2 H locs hw3 hP hS => ?_)
  rcases hw3 with ⟨rfl, hw3_0, hw3_1⟩ | ⟨rfl, hw3_0⟩
  · omega
  · refine lv_if_eq (tgt := 18) hx hb dX11_lives_8 (by decide) (fun _ => ?_) (fun c4 => absurd c4 (by decide))
    refine lv_bipush (v := (-2)) hx hb dX11_lives_18 (by decide) ?_
    exact W.iret (v := (-2)) hx hb hr (fun t ht hW => ⟨⟨(-2), (), rfl, rfl, trivial⟩, hS.F ht⟩) hS.2.2 dX11_lives_20
def v_X11_lasts : List Cond := .code yX11_lasts cX11_lasts 6 (some .int) :: (([.fieldLink RX11 19 "CardsAtYule" "land" "LCardsAtYule$Land;", .methodLink RX11 135 yX4_hasPair, .instanceMethod yX4_hasPair, .selects RX4 yX4_hasPair yX4_hasPair, .initialized RX4] : List Cond) ++ (v_X4_hasPair ++ (wsX110 ++ ([] : List Cond))))
theorem good_v_X11_lasts : v_X11_lasts.all goodWord = true := ga_c (by decide +kernel) (ga_a (by decide +kernel) (ga_a good_v_X4_hasPair (ga_a good_wsX110 rfl)))
set_option maxHeartbeats 4000000 in
set_option maxRecDepth 100000 in
theorem k_X11_lasts (l : Launch) (g : va_G) (cI cJ cB cZ cL : ClassId) (x : Nat) (tp : Nat) (ld : Nat) (im : Nat) (bk : Nat) (co : Nat) (fa : Nat) (ch : Nat) (wi : Nat) (sl : Nat) (se : Nat) (dr : Nat) (l1 : Nat) (l2 : Nat) (l3 : Nat) (l4 : Nat) (l5 : Nat) (l6 : Nat) (l7 : Nat) (l8 : Nat) (p0 : Int32) (p1 : Int32) (p2 : Int32) (ip0 : Int) (ip1 : Int) (ip2 : Int) (sz : Nat) (hzp0 : p0.toInt = ip0) (hzp1 : p1.toInt = ip1) (hzp2 : p2.toInt = ip2) : Met l yX11_lasts v_X11_lasts ({ frames := 1, cells := 0, slots := 0, locals := 21 }) (va_Pc [.ref x, .int p0, .int p1, .int p2] (pRO g (tyT cI cJ cB cZ cL) [(x, .inr (10, [.ref tp, .ref ld, .ref im, .ref bk, .ref co, .ref fa, .ref ch, .ref wi, .ref sl, .ref se, .ref dr])), (ld, .inr (4, [.int 0, .int 0, .int 0, .int 0, .int 0, .int 0, .long 0, .ref l1, .ref l2, .ref l3, .ref l4, .ref l5, .ref l6, .ref l7, .ref l8]))] sz)) (va_Qi (fun (r : Int32) (u : Unit) => r = (-2)) (fun (_ : Unit) (_ : State) => True) (va_A [] sz)) 0 0 (va_A [] sz) := by
  refine Met.ofW (cc := cX11_lasts) (maxL := 6) (ret := (some .int)) (by decide) rfl ?_
  intro p e s m args below meth c s₁ B hml hv
  obtain ⟨rfl, hsz, hP, hK⟩ := hv
  have hx := B.exec
  have hb := B.bytes
  have hr := B.returns
  have hts := atoms_spec (ws := v_X11_lasts) B.pre
  have hown : s.vm.findClass RX11 = some m.cls := findClass_of_methodNamed B.named
  have hlocks := B.notSynchronized
  subst hsz
  have iX11 : ∀ w ∈ wsX110, w ∈ v_X11_lasts := (fun _ h => List.mem_cons_of_mem _ (List.mem_append_right _ (List.mem_append_right _ (List.mem_append_left _ h))))
  generalize hAe : (va_A [] s.heap.size) = A
  have hA : ∀ q : Nat, s.heap.size ≤ q → A q := fun q h => by rw [← hAe]; exact Or.inr h
  have hS : va_S A s.heap s.heap [] := va_S.rf
  have hl := lv_entry ([.ref x, .int p0, .int p1, .int p2]) (n := 6) (Nat.le_of_ble_eq_true rfl)
  rw [lg_entry_eq]
  generalize (lg_sl ([.ref x, .int p0, .int p1, .int p2]) ++ List.replicate (6 - (lg_sl ([.ref x, .int p0, .int p1, .int p2])).length) Slot.unset).toArray = ls at hl ⊢
  have hl : lv_has ls 6 [(0, .ref x), (1, .int p0), (2, .int p1), (3, .int p2)] := hl
  have hP : va_P g vwCl [(x, .inr (10, [.ref tp, .ref ld, .ref im, .ref bk, .ref co, .ref fa, .ref ch, .ref wi, .ref sl, .ref se, .ref dr])), (ld, .inr (4, [.int 0, .int 0, .int 0, .int 0, .int 0, .int 0, .long 0, .ref l1, .ref l2, .ref l3, .ref l4, .ref l5, .ref l6, .ref l7, .ref l8]))] s.heap := hP
  refine lv_aload_n hx hb dX11_lasts_0 rfl (lv_at hl 0 rfl) ?_
  refine va_get (D := g) (ci := 10) (v := .ref ld) (C := RX11) (T := TX11) (N := 11) hx hb hts iX11 hown hK hP 0 rfl rfl 1 (by decide) (hts (.fieldLink RX11 19 "CardsAtYule" "land" "LCardsAtYule$Land;") (List.mem_cons_of_mem _ (List.mem_append_left _ (List.mem_of_getElem? (i := 0) rfl)))) (fun _ h9 => h9) rfl dX11_lasts_1 ?_
  refine lv_iload_n hx hb dX11_lasts_4 rfl (lv_at hl 3 rfl) ?_
  refine ro_i (va_runV (As := [.int p2]) (rest := []) ⟨hx, hb, hml, hown, hts⟩ (k_X4_hasPair l g cI cJ cB cZ cL ld 0 0 0 0 0 0 0 l1 l2 l3 l4 l5 l6 l7 l8 0 p2 ip2 s.heap.size rfl hzp2) (cwV 1 hts (goodIn_app (g_4 (List.mem_cons_of_mem _ (List.mem_append_left _ (List.mem_of_getElem? (i := 1) rfl))) (List.mem_cons_of_mem _ (List.mem_append_left _ (List.mem_of_getElem? (i := 2) rfl))) (List.mem_cons_of_mem _ (List.mem_append_left _ (List.mem_of_getElem? (i := 3) rfl))) (List.mem_cons_of_mem _ (List.mem_append_left _ (List.mem_of_getElem? (i := 4) rfl))) (by decide +kernel)) (goodIn_sub (fun _ h => List.mem_cons_of_mem _ (List.mem_append_right _ (List.mem_append_left _ h))) good_v_X4_hasPair)) rfl rfl rfl (by decide +kernel) ⟨Nat.le_of_ble_eq_true rfl, Nat.le_of_ble_eq_true rfl⟩) (pv_RO (q := (RX4, TX4, 15)) (ci := 4) (q0 := 0) (wc := [(ld, .inr (4, [.int 0, .int 0, .int 0, .int 0, .int 0, .int 0, .long 0, .ref l1, .ref l2, .ref l3, .ref l4, .ref l5, .ref l6, .ref l7, .ref l8]))]) hK hP [1] rfl rfl rfl) rfl rfl hl.1 rfl (lv_room (Nat.le_of_ble_eq_true rfl)) dX11_lasts_5 ⟨Nat.le_of_ble_eq_true rfl, Nat.le_of_ble_eq_true rfl⟩) hS hA hP (fun r1 u2 H locs hw3 hP hS => ?_)
  rcases hw3 with ⟨rfl, hw3_0, hw3_1⟩ | ⟨rfl, hw3_0⟩
  · omega
  · refine lv_if_eq (tgt := 29) hx hb dX11_lasts_8 (by decide) (fun _ => ?_) (fun c4 => absurd c4 (by decide))
    refine lv_bipush (v := (-2)) hx hb dX11_lasts_29 (by decide) ?_
    exact W.iret (v := (-2)) hx hb hr (fun t ht hW => ⟨⟨(-2), (), rfl, rfl, trivial⟩, hS.F ht⟩) hS.2.2 dX11_lasts_31
def v_X11_train : List Cond := .code yX11_train cX11_train 4 (some .int) :: (([.fieldLink RX11 19 "CardsAtYule" "land" "LCardsAtYule$Land;", .methodLink RX11 115 yX4_hasPerson, .instanceMethod yX4_hasPerson, .selects RX4 yX4_hasPerson yX4_hasPerson, .initialized RX4] : List Cond) ++ (v_X4_hasPerson ++ (wsX110 ++ ([] : List Cond))))
theorem good_v_X11_train : v_X11_train.all goodWord = true := ga_c (by decide +kernel) (ga_a (by decide +kernel) (ga_a good_v_X4_hasPerson (ga_a good_wsX110 rfl)))
set_option maxHeartbeats 4000000 in
set_option maxRecDepth 100000 in
theorem k_X11_train (l : Launch) (g : va_G) (cI cJ cB cZ cL : ClassId) (x : Nat) (tp : Nat) (ld : Nat) (im : Nat) (bk : Nat) (co : Nat) (fa : Nat) (ch : Nat) (wi : Nat) (sl : Nat) (se : Nat) (dr : Nat) (l1 : Nat) (l2 : Nat) (l3 : Nat) (l4 : Nat) (l5 : Nat) (l6 : Nat) (l7 : Nat) (l8 : Nat) (p0 : Int32) (p1 : Int32) (p2 : Int32) (ip0 : Int) (ip1 : Int) (ip2 : Int) (sz : Nat) (hzp0 : p0.toInt = ip0) (hzp1 : p1.toInt = ip1) (hzp2 : p2.toInt = ip2) : Met l yX11_train v_X11_train ({ frames := 1, cells := 0, slots := 0, locals := 21 }) (va_Pc [.ref x, .int p0, .int p1, .int p2] (pRO g (tyT cI cJ cB cZ cL) [(x, .inr (10, [.ref tp, .ref ld, .ref im, .ref bk, .ref co, .ref fa, .ref ch, .ref wi, .ref sl, .ref se, .ref dr])), (ld, .inr (4, [.int 0, .int 0, .int 0, .int 0, .int 0, .int 0, .long 0, .ref l1, .ref l2, .ref l3, .ref l4, .ref l5, .ref l6, .ref l7, .ref l8]))] sz)) (va_Qi (fun (r : Int32) (u : Unit) => r = (-2)) (fun (_ : Unit) (_ : State) => True) (va_A [] sz)) 0 0 (va_A [] sz) := by
  refine Met.ofW (cc := cX11_train) (maxL := 4) (ret := (some .int)) (by decide) rfl ?_
  intro p e s m args below meth c s₁ B hml hv
  obtain ⟨rfl, hsz, hP, hK⟩ := hv
  have hx := B.exec
  have hb := B.bytes
  have hr := B.returns
  have hts := atoms_spec (ws := v_X11_train) B.pre
  have hown : s.vm.findClass RX11 = some m.cls := findClass_of_methodNamed B.named
  have hlocks := B.notSynchronized
  subst hsz
  have iX11 : ∀ w ∈ wsX110, w ∈ v_X11_train := (fun _ h => List.mem_cons_of_mem _ (List.mem_append_right _ (List.mem_append_right _ (List.mem_append_left _ h))))
  generalize hAe : (va_A [] s.heap.size) = A
  have hA : ∀ q : Nat, s.heap.size ≤ q → A q := fun q h => by rw [← hAe]; exact Or.inr h
  have hS : va_S A s.heap s.heap [] := va_S.rf
  have hl := lv_entry ([.ref x, .int p0, .int p1, .int p2]) (n := 4) (Nat.le_of_ble_eq_true rfl)
  rw [lg_entry_eq]
  generalize (lg_sl ([.ref x, .int p0, .int p1, .int p2]) ++ List.replicate (4 - (lg_sl ([.ref x, .int p0, .int p1, .int p2])).length) Slot.unset).toArray = ls at hl ⊢
  have hl : lv_has ls 4 [(0, .ref x), (1, .int p0), (2, .int p1), (3, .int p2)] := hl
  have hP : va_P g vwCl [(x, .inr (10, [.ref tp, .ref ld, .ref im, .ref bk, .ref co, .ref fa, .ref ch, .ref wi, .ref sl, .ref se, .ref dr])), (ld, .inr (4, [.int 0, .int 0, .int 0, .int 0, .int 0, .int 0, .long 0, .ref l1, .ref l2, .ref l3, .ref l4, .ref l5, .ref l6, .ref l7, .ref l8]))] s.heap := hP
  refine lv_aload_n hx hb dX11_train_0 rfl (lv_at hl 0 rfl) ?_
  refine va_get (D := g) (ci := 10) (v := .ref ld) (C := RX11) (T := TX11) (N := 11) hx hb hts iX11 hown hK hP 0 rfl rfl 1 (by decide) (hts (.fieldLink RX11 19 "CardsAtYule" "land" "LCardsAtYule$Land;") (List.mem_cons_of_mem _ (List.mem_append_left _ (List.mem_of_getElem? (i := 0) rfl)))) (fun _ h9 => h9) rfl dX11_train_1 ?_
  refine lv_iload_n hx hb dX11_train_4 rfl (lv_at hl 1 rfl) ?_
  refine ro_i (va_runV (As := [.int p0]) (rest := []) ⟨hx, hb, hml, hown, hts⟩ (k_X4_hasPerson l g cI cJ cB cZ cL ld 0 0 0 0 0 0 0 l1 l2 l3 l4 l5 l6 l7 l8 0 p0 ip0 s.heap.size rfl hzp0) (cwV 1 hts (goodIn_app (g_4 (List.mem_cons_of_mem _ (List.mem_append_left _ (List.mem_of_getElem? (i := 1) rfl))) (List.mem_cons_of_mem _ (List.mem_append_left _ (List.mem_of_getElem? (i := 2) rfl))) (List.mem_cons_of_mem _ (List.mem_append_left _ (List.mem_of_getElem? (i := 3) rfl))) (List.mem_cons_of_mem _ (List.mem_append_left _ (List.mem_of_getElem? (i := 4) rfl))) (by decide +kernel)) (goodIn_sub (fun _ h => List.mem_cons_of_mem _ (List.mem_append_right _ (List.mem_append_left _ h))) good_v_X4_hasPerson)) rfl rfl rfl (by decide +kernel) ⟨Nat.le_of_ble_eq_true rfl, Nat.le_of_ble_eq_true rfl⟩) (pv_RO (q := (RX4, TX4, 15)) (ci := 4) (q0 := 0) (wc := [(ld, .inr (4, [.int 0, .int 0, .int 0, .int 0, .int 0, .int 0, .long 0, .ref l1, .ref l2, .ref l3, .ref l4, .ref l5, .ref l6, .ref l7, .ref l8]))]) hK hP [1] rfl rfl rfl) rfl rfl hl.1 rfl (lv_room (Nat.le_of_ble_eq_true rfl)) dX11_train_5 ⟨Nat.le_of_ble_eq_true rfl, Nat.le_of_ble_eq_true rfl⟩) hS hA hP (fun r1 u2 H locs hw3 hP hS => ?_)
  rcases hw3 with ⟨rfl, hw3_0, hw3_1⟩ | ⟨rfl, hw3_0⟩
  · omega
  · refine lv_if_ne (tgt := 14) hx hb dX11_train_8 (by decide) (fun c4 => absurd c4 (by decide)) (fun _ => ?_)
    refine lv_bipush (v := (-2)) hx hb dX11_train_11 (by decide) ?_
    exact W.iret (v := (-2)) hx hb hr (fun t ht hW => ⟨⟨(-2), (), rfl, rfl, trivial⟩, hS.F ht⟩) hS.2.2 dX11_train_13
def v_X11_begin : List Cond := .code yX11_begin cX11_begin 3 (some .int) :: (([.fieldLink RX11 19 "CardsAtYule" "land" "LCardsAtYule$Land;", .methodLink RX11 135 yX4_hasPair, .instanceMethod yX4_hasPair, .selects RX4 yX4_hasPair yX4_hasPair, .initialized RX4] : List Cond) ++ (v_X4_hasPair ++ (wsX110 ++ ([] : List Cond))))
theorem good_v_X11_begin : v_X11_begin.all goodWord = true := ga_c (by decide +kernel) (ga_a (by decide +kernel) (ga_a good_v_X4_hasPair (ga_a good_wsX110 rfl)))
set_option maxHeartbeats 4000000 in
set_option maxRecDepth 100000 in
theorem k_X11_begin (l : Launch) (g : va_G) (cI cJ cB cZ cL : ClassId) (x : Nat) (tp : Nat) (ld : Nat) (im : Nat) (bk : Nat) (co : Nat) (fa : Nat) (ch : Nat) (wi : Nat) (sl : Nat) (se : Nat) (dr : Nat) (l1 : Nat) (l2 : Nat) (l3 : Nat) (l4 : Nat) (l5 : Nat) (l6 : Nat) (l7 : Nat) (l8 : Nat) (p0 : Int32) (p1 : Int32) (ip0 : Int) (ip1 : Int) (sz : Nat) (hzp0 : p0.toInt = ip0) (hzp1 : p1.toInt = ip1) : Met l yX11_begin v_X11_begin ({ frames := 1, cells := 0, slots := 0, locals := 21 }) (va_Pc [.ref x, .int p0, .int p1] (pRO g (tyT cI cJ cB cZ cL) [(x, .inr (10, [.ref tp, .ref ld, .ref im, .ref bk, .ref co, .ref fa, .ref ch, .ref wi, .ref sl, .ref se, .ref dr])), (ld, .inr (4, [.int 0, .int 0, .int 0, .int 0, .int 0, .int 0, .long 0, .ref l1, .ref l2, .ref l3, .ref l4, .ref l5, .ref l6, .ref l7, .ref l8]))] sz)) (va_Qi (fun (r : Int32) (u : Unit) => r = (-2)) (fun (_ : Unit) (_ : State) => True) (va_A [] sz)) 0 0 (va_A [] sz) := by
  refine Met.ofW (cc := cX11_begin) (maxL := 3) (ret := (some .int)) (by decide) rfl ?_
  intro p e s m args below meth c s₁ B hml hv
  obtain ⟨rfl, hsz, hP, hK⟩ := hv
  have hx := B.exec
  have hb := B.bytes
  have hr := B.returns
  have hts := atoms_spec (ws := v_X11_begin) B.pre
  have hown : s.vm.findClass RX11 = some m.cls := findClass_of_methodNamed B.named
  have hlocks := B.notSynchronized
  subst hsz
  have iX11 : ∀ w ∈ wsX110, w ∈ v_X11_begin := (fun _ h => List.mem_cons_of_mem _ (List.mem_append_right _ (List.mem_append_right _ (List.mem_append_left _ h))))
  generalize hAe : (va_A [] s.heap.size) = A
  have hA : ∀ q : Nat, s.heap.size ≤ q → A q := fun q h => by rw [← hAe]; exact Or.inr h
  have hS : va_S A s.heap s.heap [] := va_S.rf
  have hl := lv_entry ([.ref x, .int p0, .int p1]) (n := 3) (Nat.le_of_ble_eq_true rfl)
  rw [lg_entry_eq]
  generalize (lg_sl ([.ref x, .int p0, .int p1]) ++ List.replicate (3 - (lg_sl ([.ref x, .int p0, .int p1])).length) Slot.unset).toArray = ls at hl ⊢
  have hl : lv_has ls 3 [(0, .ref x), (1, .int p0), (2, .int p1)] := hl
  have hP : va_P g vwCl [(x, .inr (10, [.ref tp, .ref ld, .ref im, .ref bk, .ref co, .ref fa, .ref ch, .ref wi, .ref sl, .ref se, .ref dr])), (ld, .inr (4, [.int 0, .int 0, .int 0, .int 0, .int 0, .int 0, .long 0, .ref l1, .ref l2, .ref l3, .ref l4, .ref l5, .ref l6, .ref l7, .ref l8]))] s.heap := hP
  refine lv_aload_n hx hb dX11_begin_0 rfl (lv_at hl 0 rfl) ?_
  refine va_get (D := g) (ci := 10) (v := .ref ld) (C := RX11) (T := TX11) (N := 11) hx hb hts iX11 hown hK hP 0 rfl rfl 1 (by decide) (hts (.fieldLink RX11 19 "CardsAtYule" "land" "LCardsAtYule$Land;") (List.mem_cons_of_mem _ (List.mem_append_left _ (List.mem_of_getElem? (i := 0) rfl)))) (fun _ h9 => h9) rfl dX11_begin_1 ?_
  refine lv_iload_n hx hb dX11_begin_4 rfl (lv_at hl 1 rfl) ?_
  refine ro_i (va_runV (As := [.int p0]) (rest := []) ⟨hx, hb, hml, hown, hts⟩ (k_X4_hasPair l g cI cJ cB cZ cL ld 0 0 0 0 0 0 0 l1 l2 l3 l4 l5 l6 l7 l8 0 p0 ip0 s.heap.size rfl hzp0) (cwV 1 hts (goodIn_app (g_4 (List.mem_cons_of_mem _ (List.mem_append_left _ (List.mem_of_getElem? (i := 1) rfl))) (List.mem_cons_of_mem _ (List.mem_append_left _ (List.mem_of_getElem? (i := 2) rfl))) (List.mem_cons_of_mem _ (List.mem_append_left _ (List.mem_of_getElem? (i := 3) rfl))) (List.mem_cons_of_mem _ (List.mem_append_left _ (List.mem_of_getElem? (i := 4) rfl))) (by decide +kernel)) (goodIn_sub (fun _ h => List.mem_cons_of_mem _ (List.mem_append_right _ (List.mem_append_left _ h))) good_v_X4_hasPair)) rfl rfl rfl (by decide +kernel) ⟨Nat.le_of_ble_eq_true rfl, Nat.le_of_ble_eq_true rfl⟩) (pv_RO (q := (RX4, TX4, 15)) (ci := 4) (q0 := 0) (wc := [(ld, .inr (4, [.int 0, .int 0, .int 0, .int 0, .int 0, .int 0, .long 0, .ref l1, .ref l2, .ref l3, .ref l4, .ref l5, .ref l6, .ref l7, .ref l8]))]) hK hP [1] rfl rfl rfl) rfl rfl hl.1 rfl (lv_room (Nat.le_of_ble_eq_true rfl)) dX11_begin_5 ⟨Nat.le_of_ble_eq_true rfl, Nat.le_of_ble_eq_true rfl⟩) hS hA hP (fun r1 u2 H locs hw3 hP hS => ?_)
  rcases hw3 with ⟨rfl, hw3_0, hw3_1⟩ | ⟨rfl, hw3_0⟩
  · omega
  · refine lv_if_ne (tgt := 14) hx hb dX11_begin_8 (by decide) (fun c4 => absurd c4 (by decide)) (fun _ => ?_)
    refine lv_bipush (v := (-2)) hx hb dX11_begin_11 (by decide) ?_
    exact W.iret (v := (-2)) hx hb hr (fun t ht hW => ⟨⟨(-2), (), rfl, rfl, trivial⟩, hS.F ht⟩) hS.2.2 dX11_begin_13
def v_X11_lose : List Cond := .code yX11_lose cX11_lose 7 (some .int) :: (([.methodLink RX11 155 yX11_hasYearOf, .instanceMethod yX11_hasYearOf, .selects RX11 yX11_hasYearOf yX11_hasYearOf, .initialized RX11] : List Cond) ++ (v_X11_hasYearOf ++ ([] : List Cond)))
theorem good_v_X11_lose : v_X11_lose.all goodWord = true := ga_c (by decide +kernel) (ga_a (by decide +kernel) (ga_a good_v_X11_hasYearOf rfl))
set_option maxHeartbeats 4000000 in
set_option maxRecDepth 100000 in
theorem k_X11_lose (l : Launch) (g : va_G) (cI cJ cB cZ cL : ClassId) (x : Nat) (tp : Nat) (ld : Nat) (im : Nat) (bk : Nat) (co : Nat) (fa : Nat) (ch : Nat) (wi : Nat) (sl : Nat) (se : Nat) (dr : Nat) (l1 : Nat) (l2 : Nat) (l3 : Nat) (l4 : Nat) (l5 : Nat) (l6 : Nat) (l7 : Nat) (l8 : Nat) (p0 : Int32) (p1 : Int32) (p2 : Int32) (p3 : Int32) (ip0 : Int) (ip1 : Int) (ip2 : Int) (ip3 : Int) (sz : Nat) (hzp0 : p0.toInt = ip0) (hzp1 : p1.toInt = ip1) (hzp2 : p2.toInt = ip2) (hzp3 : p3.toInt = ip3) : Met l yX11_lose v_X11_lose ({ frames := 2, cells := 0, slots := 0, locals := 44 }) (va_Pc [.ref x, .int p0, .int p1, .int p2, .int p3] (pRO g (tyT cI cJ cB cZ cL) [(x, .inr (10, [.ref tp, .ref ld, .ref im, .ref bk, .ref co, .ref fa, .ref ch, .ref wi, .ref sl, .ref se, .ref dr])), (ld, .inr (4, [.int 0, .int 0, .int 0, .int 0, .int 0, .int 0, .long 0, .ref l1, .ref l2, .ref l3, .ref l4, .ref l5, .ref l6, .ref l7, .ref l8]))] sz)) (va_Qi (fun (r : Int32) (u : Unit) => r = (-2)) (fun (_ : Unit) (_ : State) => True) (va_A [] sz)) 0 0 (va_A [] sz) := by
  refine Met.ofW (cc := cX11_lose) (maxL := 7) (ret := (some .int)) (by decide) rfl ?_
  intro p e s m args below meth c s₁ B hml hv
  obtain ⟨rfl, hsz, hP, hK⟩ := hv
  have hx := B.exec
  have hb := B.bytes
  have hr := B.returns
  have hts := atoms_spec (ws := v_X11_lose) B.pre
  have hown : s.vm.findClass RX11 = some m.cls := findClass_of_methodNamed B.named
  have hlocks := B.notSynchronized
  subst hsz
  generalize hAe : (va_A [] s.heap.size) = A
  have hA : ∀ q : Nat, s.heap.size ≤ q → A q := fun q h => by rw [← hAe]; exact Or.inr h
  have hS : va_S A s.heap s.heap [] := va_S.rf
  have hl := lv_entry ([.ref x, .int p0, .int p1, .int p2, .int p3]) (n := 7) (Nat.le_of_ble_eq_true rfl)
  rw [lg_entry_eq]
  generalize (lg_sl ([.ref x, .int p0, .int p1, .int p2, .int p3]) ++ List.replicate (7 - (lg_sl ([.ref x, .int p0, .int p1, .int p2, .int p3])).length) Slot.unset).toArray = ls at hl ⊢
  have hl : lv_has ls 7 [(0, .ref x), (1, .int p0), (2, .int p1), (3, .int p2), (4, .int p3)] := hl
  have hP : va_P g vwCl [(x, .inr (10, [.ref tp, .ref ld, .ref im, .ref bk, .ref co, .ref fa, .ref ch, .ref wi, .ref sl, .ref se, .ref dr])), (ld, .inr (4, [.int 0, .int 0, .int 0, .int 0, .int 0, .int 0, .long 0, .ref l1, .ref l2, .ref l3, .ref l4, .ref l5, .ref l6, .ref l7, .ref l8]))] s.heap := hP
  refine lv_aload_n hx hb dX11_lose_0 rfl (lv_at hl 0 rfl) ?_
  refine lv_iload_n hx hb dX11_lose_1 rfl (lv_at hl 1 rfl) ?_
  refine lv_iload_n hx hb dX11_lose_2 rfl (lv_at hl 2 rfl) ?_
  refine lv_iload_n hx hb dX11_lose_3 rfl (lv_at hl 3 rfl) ?_
  refine ro_i (va_runV (As := [.int p0, .int p1, .int p2]) (rest := []) ⟨hx, hb, hml, hown, hts⟩ (k_X11_hasYearOf l g cI cJ cB cZ cL x tp ld im bk co fa ch wi sl se dr l1 l2 l3 l4 l5 l6 l7 l8 p0 p1 p2 ip0 ip1 ip2 s.heap.size hzp0 hzp1 hzp2) (cwV 3 hts (goodIn_app (g_4 (List.mem_cons_of_mem _ (List.mem_append_left _ (List.mem_of_getElem? (i := 0) rfl))) (List.mem_cons_of_mem _ (List.mem_append_left _ (List.mem_of_getElem? (i := 1) rfl))) (List.mem_cons_of_mem _ (List.mem_append_left _ (List.mem_of_getElem? (i := 2) rfl))) (List.mem_cons_of_mem _ (List.mem_append_left _ (List.mem_of_getElem? (i := 3) rfl))) (by decide +kernel)) (goodIn_sub (fun _ h => List.mem_cons_of_mem _ (List.mem_append_right _ (List.mem_append_left _ h))) good_v_X11_hasYearOf)) rfl rfl rfl (by decide +kernel) ⟨Nat.le_of_ble_eq_true rfl, Nat.le_of_ble_eq_true rfl⟩) (pv_RO (q := (RX11, TX11, 11)) (ci := 10) (q0 := 0) (wc := [(x, .inr (10, [.ref tp, .ref ld, .ref im, .ref bk, .ref co, .ref fa, .ref ch, .ref wi, .ref sl, .ref se, .ref dr])), (ld, .inr (4, [.int 0, .int 0, .int 0, .int 0, .int 0, .int 0, .long 0, .ref l1, .ref l2, .ref l3, .ref l4, .ref l5, .ref l6, .ref l7, .ref l8]))]) hK hP [0, 1] rfl rfl rfl) rfl rfl hl.1 rfl (lv_room (Nat.le_of_ble_eq_true rfl)) dX11_lose_4 ⟨Nat.le_of_ble_eq_true rfl, Nat.le_of_ble_eq_true rfl⟩) hS hA hP (fun r1 u2 H locs hw3 hP hS => ?_)
  subst hw3
  refine lv_if_eq (tgt := 18) hx hb dX11_lose_7 (by decide) (fun _ => ?_) (fun c4 => absurd c4 (by decide))
  refine lv_bipush (v := (-2)) hx hb dX11_lose_18 (by decide) ?_
  exact W.iret (v := (-2)) hx hb hr (fun t ht hW => ⟨⟨(-2), (), rfl, rfl, trivial⟩, hS.F ht⟩) hS.2.2 dX11_lose_20
def v_X11_calls : List Cond := .code yX11_calls cX11_calls 4 (some .int) :: (([.fieldLink RX11 19 "CardsAtYule" "land" "LCardsAtYule$Land;", .methodLink RX11 184 yX4_hasYear, .instanceMethod yX4_hasYear, .selects RX4 yX4_hasYear yX4_hasYear, .initialized RX4] : List Cond) ++ (v_X4_hasYear ++ (wsX110 ++ ([] : List Cond))))
theorem good_v_X11_calls : v_X11_calls.all goodWord = true := ga_c (by decide +kernel) (ga_a (by decide +kernel) (ga_a good_v_X4_hasYear (ga_a good_wsX110 rfl)))
set_option maxHeartbeats 4000000 in
set_option maxRecDepth 100000 in
theorem k_X11_calls (l : Launch) (g : va_G) (cI cJ cB cZ cL : ClassId) (x : Nat) (tp : Nat) (ld : Nat) (im : Nat) (bk : Nat) (co : Nat) (fa : Nat) (ch : Nat) (wi : Nat) (sl : Nat) (se : Nat) (dr : Nat) (l1 : Nat) (l2 : Nat) (l3 : Nat) (l4 : Nat) (l5 : Nat) (l6 : Nat) (l7 : Nat) (l8 : Nat) (p0 : Int32) (p1 : Int32) (ip0 : Int) (ip1 : Int) (sz : Nat) (hzp0 : p0.toInt = ip0) (hzp1 : p1.toInt = ip1) : Met l yX11_calls v_X11_calls ({ frames := 1, cells := 0, slots := 0, locals := 21 }) (va_Pc [.ref x, .int p0, .int p1] (pRO g (tyT cI cJ cB cZ cL) [(x, .inr (10, [.ref tp, .ref ld, .ref im, .ref bk, .ref co, .ref fa, .ref ch, .ref wi, .ref sl, .ref se, .ref dr])), (ld, .inr (4, [.int 0, .int 0, .int 0, .int 0, .int 0, .int 0, .long 0, .ref l1, .ref l2, .ref l3, .ref l4, .ref l5, .ref l6, .ref l7, .ref l8]))] sz)) (va_Qi (fun (r : Int32) (u : Unit) => r = (-2)) (fun (_ : Unit) (_ : State) => True) (va_A [] sz)) 0 0 (va_A [] sz) := by
  refine Met.ofW (cc := cX11_calls) (maxL := 4) (ret := (some .int)) (by decide) rfl ?_
  intro p e s m args below meth c s₁ B hml hv
  obtain ⟨rfl, hsz, hP, hK⟩ := hv
  have hx := B.exec
  have hb := B.bytes
  have hr := B.returns
  have hts := atoms_spec (ws := v_X11_calls) B.pre
  have hown : s.vm.findClass RX11 = some m.cls := findClass_of_methodNamed B.named
  have hlocks := B.notSynchronized
  subst hsz
  have iX11 : ∀ w ∈ wsX110, w ∈ v_X11_calls := (fun _ h => List.mem_cons_of_mem _ (List.mem_append_right _ (List.mem_append_right _ (List.mem_append_left _ h))))
  generalize hAe : (va_A [] s.heap.size) = A
  have hA : ∀ q : Nat, s.heap.size ≤ q → A q := fun q h => by rw [← hAe]; exact Or.inr h
  have hS : va_S A s.heap s.heap [] := va_S.rf
  have hl := lv_entry ([.ref x, .int p0, .int p1]) (n := 4) (Nat.le_of_ble_eq_true rfl)
  rw [lg_entry_eq]
  generalize (lg_sl ([.ref x, .int p0, .int p1]) ++ List.replicate (4 - (lg_sl ([.ref x, .int p0, .int p1])).length) Slot.unset).toArray = ls at hl ⊢
  have hl : lv_has ls 4 [(0, .ref x), (1, .int p0), (2, .int p1)] := hl
  have hP : va_P g vwCl [(x, .inr (10, [.ref tp, .ref ld, .ref im, .ref bk, .ref co, .ref fa, .ref ch, .ref wi, .ref sl, .ref se, .ref dr])), (ld, .inr (4, [.int 0, .int 0, .int 0, .int 0, .int 0, .int 0, .long 0, .ref l1, .ref l2, .ref l3, .ref l4, .ref l5, .ref l6, .ref l7, .ref l8]))] s.heap := hP
  refine lv_aload_n hx hb dX11_calls_0 rfl (lv_at hl 0 rfl) ?_
  refine va_get (D := g) (ci := 10) (v := .ref ld) (C := RX11) (T := TX11) (N := 11) hx hb hts iX11 hown hK hP 0 rfl rfl 1 (by decide) (hts (.fieldLink RX11 19 "CardsAtYule" "land" "LCardsAtYule$Land;") (List.mem_cons_of_mem _ (List.mem_append_left _ (List.mem_of_getElem? (i := 0) rfl)))) (fun _ h9 => h9) rfl dX11_calls_1 ?_
  refine lv_iload_n hx hb dX11_calls_4 rfl (lv_at hl 1 rfl) ?_
  refine ro_i (va_runV (As := [.int p0]) (rest := []) ⟨hx, hb, hml, hown, hts⟩ (k_X4_hasYear l g cI cJ cB cZ cL ld 0 0 0 0 0 0 0 l1 l2 l3 l4 l5 l6 l7 l8 0 p0 ip0 s.heap.size rfl hzp0) (cwV 1 hts (goodIn_app (g_4 (List.mem_cons_of_mem _ (List.mem_append_left _ (List.mem_of_getElem? (i := 1) rfl))) (List.mem_cons_of_mem _ (List.mem_append_left _ (List.mem_of_getElem? (i := 2) rfl))) (List.mem_cons_of_mem _ (List.mem_append_left _ (List.mem_of_getElem? (i := 3) rfl))) (List.mem_cons_of_mem _ (List.mem_append_left _ (List.mem_of_getElem? (i := 4) rfl))) (by decide +kernel)) (goodIn_sub (fun _ h => List.mem_cons_of_mem _ (List.mem_append_right _ (List.mem_append_left _ h))) good_v_X4_hasYear)) rfl rfl rfl (by decide +kernel) ⟨Nat.le_of_ble_eq_true rfl, Nat.le_of_ble_eq_true rfl⟩) (pv_RO (q := (RX4, TX4, 15)) (ci := 4) (q0 := 0) (wc := [(ld, .inr (4, [.int 0, .int 0, .int 0, .int 0, .int 0, .int 0, .long 0, .ref l1, .ref l2, .ref l3, .ref l4, .ref l5, .ref l6, .ref l7, .ref l8]))]) hK hP [1] rfl rfl rfl) rfl rfl hl.1 rfl (lv_room (Nat.le_of_ble_eq_true rfl)) dX11_calls_5 ⟨Nat.le_of_ble_eq_true rfl, Nat.le_of_ble_eq_true rfl⟩) hS hA hP (fun r1 u2 H locs hw3 hP hS => ?_)
  rcases hw3 with ⟨rfl, hw3_0, hw3_1⟩ | ⟨rfl, hw3_0⟩
  · omega
  · refine lv_if_eq (tgt := 18) hx hb dX11_calls_8 (by decide) (fun _ => ?_) (fun c4 => absurd c4 (by decide))
    refine lv_bipush (v := (-2)) hx hb dX11_calls_18 (by decide) ?_
    exact W.iret (v := (-2)) hx hb hr (fun t ht hW => ⟨⟨(-2), (), rfl, rfl, trivial⟩, hS.F ht⟩) hS.2.2 dX11_calls_20
def v_X11_odds : List Cond := .code yX11_odds cX11_odds 3 (some .int) :: (([.fieldLink RX11 19 "CardsAtYule" "land" "LCardsAtYule$Land;", .methodLink RX11 135 yX4_hasPair, .instanceMethod yX4_hasPair, .selects RX4 yX4_hasPair yX4_hasPair, .initialized RX4] : List Cond) ++ (v_X4_hasPair ++ (wsX110 ++ ([] : List Cond))))
theorem good_v_X11_odds : v_X11_odds.all goodWord = true := ga_c (by decide +kernel) (ga_a (by decide +kernel) (ga_a good_v_X4_hasPair (ga_a good_wsX110 rfl)))
set_option maxHeartbeats 4000000 in
set_option maxRecDepth 100000 in
theorem k_X11_odds (l : Launch) (g : va_G) (cI cJ cB cZ cL : ClassId) (x : Nat) (tp : Nat) (ld : Nat) (im : Nat) (bk : Nat) (co : Nat) (fa : Nat) (ch : Nat) (wi : Nat) (sl : Nat) (se : Nat) (dr : Nat) (l1 : Nat) (l2 : Nat) (l3 : Nat) (l4 : Nat) (l5 : Nat) (l6 : Nat) (l7 : Nat) (l8 : Nat) (p0 : Int32) (ip0 : Int) (sz : Nat) (hzp0 : p0.toInt = ip0) : Met l yX11_odds v_X11_odds ({ frames := 1, cells := 0, slots := 0, locals := 21 }) (va_Pc [.ref x, .int p0] (pRO g (tyT cI cJ cB cZ cL) [(x, .inr (10, [.ref tp, .ref ld, .ref im, .ref bk, .ref co, .ref fa, .ref ch, .ref wi, .ref sl, .ref se, .ref dr])), (ld, .inr (4, [.int 0, .int 0, .int 0, .int 0, .int 0, .int 0, .long 0, .ref l1, .ref l2, .ref l3, .ref l4, .ref l5, .ref l6, .ref l7, .ref l8]))] sz)) (va_Qi (fun (r : Int32) (u : Unit) => r = (-100)) (fun (_ : Unit) (_ : State) => True) (va_A [] sz)) 0 0 (va_A [] sz) := by
  refine Met.ofW (cc := cX11_odds) (maxL := 3) (ret := (some .int)) (by decide) rfl ?_
  intro p e s m args below meth c s₁ B hml hv
  obtain ⟨rfl, hsz, hP, hK⟩ := hv
  have hx := B.exec
  have hb := B.bytes
  have hr := B.returns
  have hts := atoms_spec (ws := v_X11_odds) B.pre
  have hown : s.vm.findClass RX11 = some m.cls := findClass_of_methodNamed B.named
  have hlocks := B.notSynchronized
  subst hsz
  have iX11 : ∀ w ∈ wsX110, w ∈ v_X11_odds := (fun _ h => List.mem_cons_of_mem _ (List.mem_append_right _ (List.mem_append_right _ (List.mem_append_left _ h))))
  generalize hAe : (va_A [] s.heap.size) = A
  have hA : ∀ q : Nat, s.heap.size ≤ q → A q := fun q h => by rw [← hAe]; exact Or.inr h
  have hS : va_S A s.heap s.heap [] := va_S.rf
  have hl := lv_entry ([.ref x, .int p0]) (n := 3) (Nat.le_of_ble_eq_true rfl)
  rw [lg_entry_eq]
  generalize (lg_sl ([.ref x, .int p0]) ++ List.replicate (3 - (lg_sl ([.ref x, .int p0])).length) Slot.unset).toArray = ls at hl ⊢
  have hl : lv_has ls 3 [(0, .ref x), (1, .int p0)] := hl
  have hP : va_P g vwCl [(x, .inr (10, [.ref tp, .ref ld, .ref im, .ref bk, .ref co, .ref fa, .ref ch, .ref wi, .ref sl, .ref se, .ref dr])), (ld, .inr (4, [.int 0, .int 0, .int 0, .int 0, .int 0, .int 0, .long 0, .ref l1, .ref l2, .ref l3, .ref l4, .ref l5, .ref l6, .ref l7, .ref l8]))] s.heap := hP
  refine lv_aload_n hx hb dX11_odds_0 rfl (lv_at hl 0 rfl) ?_
  refine va_get (D := g) (ci := 10) (v := .ref ld) (C := RX11) (T := TX11) (N := 11) hx hb hts iX11 hown hK hP 0 rfl rfl 1 (by decide) (hts (.fieldLink RX11 19 "CardsAtYule" "land" "LCardsAtYule$Land;") (List.mem_cons_of_mem _ (List.mem_append_left _ (List.mem_of_getElem? (i := 0) rfl)))) (fun _ h9 => h9) rfl dX11_odds_1 ?_
  refine lv_iload_n hx hb dX11_odds_4 rfl (lv_at hl 1 rfl) ?_
  refine ro_i (va_runV (As := [.int p0]) (rest := []) ⟨hx, hb, hml, hown, hts⟩ (k_X4_hasPair l g cI cJ cB cZ cL ld 0 0 0 0 0 0 0 l1 l2 l3 l4 l5 l6 l7 l8 0 p0 ip0 s.heap.size rfl hzp0) (cwV 1 hts (goodIn_app (g_4 (List.mem_cons_of_mem _ (List.mem_append_left _ (List.mem_of_getElem? (i := 1) rfl))) (List.mem_cons_of_mem _ (List.mem_append_left _ (List.mem_of_getElem? (i := 2) rfl))) (List.mem_cons_of_mem _ (List.mem_append_left _ (List.mem_of_getElem? (i := 3) rfl))) (List.mem_cons_of_mem _ (List.mem_append_left _ (List.mem_of_getElem? (i := 4) rfl))) (by decide +kernel)) (goodIn_sub (fun _ h => List.mem_cons_of_mem _ (List.mem_append_right _ (List.mem_append_left _ h))) good_v_X4_hasPair)) rfl rfl rfl (by decide +kernel) ⟨Nat.le_of_ble_eq_true rfl, Nat.le_of_ble_eq_true rfl⟩) (pv_RO (q := (RX4, TX4, 15)) (ci := 4) (q0 := 0) (wc := [(ld, .inr (4, [.int 0, .int 0, .int 0, .int 0, .int 0, .int 0, .long 0, .ref l1, .ref l2, .ref l3, .ref l4, .ref l5, .ref l6, .ref l7, .ref l8]))]) hK hP [1] rfl rfl rfl) rfl rfl hl.1 rfl (lv_room (Nat.le_of_ble_eq_true rfl)) dX11_odds_5 ⟨Nat.le_of_ble_eq_true rfl, Nat.le_of_ble_eq_true rfl⟩) hS hA hP (fun r1 u2 H locs hw3 hP hS => ?_)
  rcases hw3 with ⟨rfl, hw3_0, hw3_1⟩ | ⟨rfl, hw3_0⟩
  · omega
  · refine lv_if_ne (tgt := 14) hx hb dX11_odds_8 (by decide) (fun c4 => absurd c4 (by decide)) (fun _ => ?_)
    refine lv_bipush (v := (-100)) hx hb dX11_odds_11 (by decide) ?_
    exact W.iret (v := (-100)) hx hb hr (fun t ht hW => ⟨⟨(-100), (), rfl, rfl, trivial⟩, hS.F ht⟩) hS.2.2 dX11_odds_13
def v_X11_alive : List Cond := .code yX11_alive cX11_alive 4 (some .long) :: (([.methodLink RX11 272 yX11_isChance, .instanceMethod yX11_isChance, .selects RX11 yX11_isChance yX11_isChance, .initialized RX11, .constantLong RX11 275 (-2)] : List Cond) ++ (v_X11_isChance ++ ([] : List Cond)))
theorem good_v_X11_alive : v_X11_alive.all goodWord = true := ga_c (by decide +kernel) (ga_a (by decide +kernel) (ga_a good_v_X11_isChance rfl))
set_option maxHeartbeats 4000000 in
set_option maxRecDepth 100000 in
theorem k_X11_alive (l : Launch) (g : va_G) (cI cJ cB cZ cL : ClassId) (x : Nat) (tp : Nat) (ld : Nat) (im : Nat) (bk : Nat) (co : Nat) (fa : Nat) (ch : Nat) (wi : Nat) (sl : Nat) (se : Nat) (dr : Nat) (l1 : Nat) (l2 : Nat) (l3 : Nat) (l4 : Nat) (l5 : Nat) (l6 : Nat) (l7 : Nat) (l8 : Nat) (p0 : Int32) (p1 : Int32) (p2 : Int32) (ip0 : Int) (ip1 : Int) (ip2 : Int) (sz : Nat) (hzp0 : p0.toInt = ip0) (hzp1 : p1.toInt = ip1) (hzp2 : p2.toInt = ip2) : Met l yX11_alive v_X11_alive ({ frames := 2, cells := 0, slots := 0, locals := 44 }) (va_Pc [.ref x, .int p0, .int p1, .int p2] (pRO g (tyT cI cJ cB cZ cL) [(x, .inr (10, [.ref tp, .ref ld, .ref im, .ref bk, .ref co, .ref fa, .ref ch, .ref wi, .ref sl, .ref se, .ref dr])), (ld, .inr (4, [.int 0, .int 0, .int 0, .int 0, .int 0, .int 0, .long 0, .ref l1, .ref l2, .ref l3, .ref l4, .ref l5, .ref l6, .ref l7, .ref l8]))] sz)) (va_Ql (fun (r : Int64) (u : Unit) => r = (-2)) (fun (_ : Unit) (_ : State) => True) (va_A [] sz)) 0 0 (va_A [] sz) := by
  refine Met.ofW (cc := cX11_alive) (maxL := 4) (ret := (some .long)) (by decide) rfl ?_
  intro p e s m args below meth c s₁ B hml hv
  obtain ⟨rfl, hsz, hP, hK⟩ := hv
  have hx := B.exec
  have hb := B.bytes
  have hr := B.returns
  have hts := atoms_spec (ws := v_X11_alive) B.pre
  have hown : s.vm.findClass RX11 = some m.cls := findClass_of_methodNamed B.named
  have hlocks := B.notSynchronized
  subst hsz
  generalize hAe : (va_A [] s.heap.size) = A
  have hA : ∀ q : Nat, s.heap.size ≤ q → A q := fun q h => by rw [← hAe]; exact Or.inr h
  have hS : va_S A s.heap s.heap [] := va_S.rf
  have hl := lv_entry ([.ref x, .int p0, .int p1, .int p2]) (n := 4) (Nat.le_of_ble_eq_true rfl)
  rw [lg_entry_eq]
  generalize (lg_sl ([.ref x, .int p0, .int p1, .int p2]) ++ List.replicate (4 - (lg_sl ([.ref x, .int p0, .int p1, .int p2])).length) Slot.unset).toArray = ls at hl ⊢
  have hl : lv_has ls 4 [(0, .ref x), (1, .int p0), (2, .int p1), (3, .int p2)] := hl
  have hP : va_P g vwCl [(x, .inr (10, [.ref tp, .ref ld, .ref im, .ref bk, .ref co, .ref fa, .ref ch, .ref wi, .ref sl, .ref se, .ref dr])), (ld, .inr (4, [.int 0, .int 0, .int 0, .int 0, .int 0, .int 0, .long 0, .ref l1, .ref l2, .ref l3, .ref l4, .ref l5, .ref l6, .ref l7, .ref l8]))] s.heap := hP
  refine lv_aload_n hx hb dX11_alive_0 rfl (lv_at hl 0 rfl) ?_
  refine lv_iload_n hx hb dX11_alive_1 rfl (lv_at hl 1 rfl) ?_
  refine lv_iload_n hx hb dX11_alive_2 rfl (lv_at hl 2 rfl) ?_
  refine lv_iload_n hx hb dX11_alive_3 rfl (lv_at hl 3 rfl) ?_
  refine ro_i (va_runV (As := [.int p0, .int p1, .int p2]) (rest := []) ⟨hx, hb, hml, hown, hts⟩ (k_X11_isChance l g cI cJ cB cZ cL x tp ld im bk co fa ch wi sl se dr l1 l2 l3 l4 l5 l6 l7 l8 p0 p1 p2 ip0 ip1 ip2 s.heap.size hzp0 hzp1 hzp2) (cwV 3 hts (goodIn_app (g_4 (List.mem_cons_of_mem _ (List.mem_append_left _ (List.mem_of_getElem? (i := 0) rfl))) (List.mem_cons_of_mem _ (List.mem_append_left _ (List.mem_of_getElem? (i := 1) rfl))) (List.mem_cons_of_mem _ (List.mem_append_left _ (List.mem_of_getElem? (i := 2) rfl))) (List.mem_cons_of_mem _ (List.mem_append_left _ (List.mem_of_getElem? (i := 3) rfl))) (by decide +kernel)) (goodIn_sub (fun _ h => List.mem_cons_of_mem _ (List.mem_append_right _ (List.mem_append_left _ h))) good_v_X11_isChance)) rfl rfl rfl (by decide +kernel) ⟨Nat.le_of_ble_eq_true rfl, Nat.le_of_ble_eq_true rfl⟩) (pv_RO (q := (RX11, TX11, 11)) (ci := 10) (q0 := 0) (wc := [(x, .inr (10, [.ref tp, .ref ld, .ref im, .ref bk, .ref co, .ref fa, .ref ch, .ref wi, .ref sl, .ref se, .ref dr])), (ld, .inr (4, [.int 0, .int 0, .int 0, .int 0, .int 0, .int 0, .long 0, .ref l1, .ref l2, .ref l3, .ref l4, .ref l5, .ref l6, .ref l7, .ref l8]))]) hK hP [0, 1] rfl rfl rfl) rfl rfl hl.1 rfl (lv_room (Nat.le_of_ble_eq_true rfl)) dX11_alive_4 ⟨Nat.le_of_ble_eq_true rfl, Nat.le_of_ble_eq_true rfl⟩) hS hA hP (fun r1 u2 H locs hw3 hP hS => ?_)
  subst hw3
  refine lv_if_ne (tgt := 14) hx hb dX11_alive_7 (by decide) (fun c4 => absurd c4 (by decide)) (fun _ => ?_)
  refine lv_ldc2 (v := (-2)) hx hb hown (hts (.constantLong RX11 275 (-2)) (List.mem_cons_of_mem _ (List.mem_append_left _ (List.mem_of_getElem? (i := 4) rfl)))) dX11_alive_10 ?_
  exact W.lret (v := (-2)) hx hb hr (fun t ht hW => ⟨⟨(-2), (), rfl, rfl, trivial⟩, hS.F ht⟩) hS.2.2 dX11_alive_13
def v_X11_both : List Cond := .code yX11_both cX11_both 4 (some .long) :: (([.methodLink RX11 272 yX11_isChance, .instanceMethod yX11_isChance, .selects RX11 yX11_isChance yX11_isChance, .initialized RX11, .constantLong RX11 275 (-2)] : List Cond) ++ (v_X11_isChance ++ ([] : List Cond)))
theorem good_v_X11_both : v_X11_both.all goodWord = true := ga_c (by decide +kernel) (ga_a (by decide +kernel) (ga_a good_v_X11_isChance rfl))
set_option maxHeartbeats 4000000 in
set_option maxRecDepth 100000 in
theorem k_X11_both (l : Launch) (g : va_G) (cI cJ cB cZ cL : ClassId) (x : Nat) (tp : Nat) (ld : Nat) (im : Nat) (bk : Nat) (co : Nat) (fa : Nat) (ch : Nat) (wi : Nat) (sl : Nat) (se : Nat) (dr : Nat) (l1 : Nat) (l2 : Nat) (l3 : Nat) (l4 : Nat) (l5 : Nat) (l6 : Nat) (l7 : Nat) (l8 : Nat) (p0 : Int32) (p1 : Int32) (p2 : Int32) (ip0 : Int) (ip1 : Int) (ip2 : Int) (sz : Nat) (hzp0 : p0.toInt = ip0) (hzp1 : p1.toInt = ip1) (hzp2 : p2.toInt = ip2) : Met l yX11_both v_X11_both ({ frames := 2, cells := 0, slots := 0, locals := 44 }) (va_Pc [.ref x, .int p0, .int p1, .int p2] (pRO g (tyT cI cJ cB cZ cL) [(x, .inr (10, [.ref tp, .ref ld, .ref im, .ref bk, .ref co, .ref fa, .ref ch, .ref wi, .ref sl, .ref se, .ref dr])), (ld, .inr (4, [.int 0, .int 0, .int 0, .int 0, .int 0, .int 0, .long 0, .ref l1, .ref l2, .ref l3, .ref l4, .ref l5, .ref l6, .ref l7, .ref l8]))] sz)) (va_Ql (fun (r : Int64) (u : Unit) => r = (-2)) (fun (_ : Unit) (_ : State) => True) (va_A [] sz)) 0 0 (va_A [] sz) := by
  refine Met.ofW (cc := cX11_both) (maxL := 4) (ret := (some .long)) (by decide) rfl ?_
  intro p e s m args below meth c s₁ B hml hv
  obtain ⟨rfl, hsz, hP, hK⟩ := hv
  have hx := B.exec
  have hb := B.bytes
  have hr := B.returns
  have hts := atoms_spec (ws := v_X11_both) B.pre
  have hown : s.vm.findClass RX11 = some m.cls := findClass_of_methodNamed B.named
  have hlocks := B.notSynchronized
  subst hsz
  generalize hAe : (va_A [] s.heap.size) = A
  have hA : ∀ q : Nat, s.heap.size ≤ q → A q := fun q h => by rw [← hAe]; exact Or.inr h
  have hS : va_S A s.heap s.heap [] := va_S.rf
  have hl := lv_entry ([.ref x, .int p0, .int p1, .int p2]) (n := 4) (Nat.le_of_ble_eq_true rfl)
  rw [lg_entry_eq]
  generalize (lg_sl ([.ref x, .int p0, .int p1, .int p2]) ++ List.replicate (4 - (lg_sl ([.ref x, .int p0, .int p1, .int p2])).length) Slot.unset).toArray = ls at hl ⊢
  have hl : lv_has ls 4 [(0, .ref x), (1, .int p0), (2, .int p1), (3, .int p2)] := hl
  have hP : va_P g vwCl [(x, .inr (10, [.ref tp, .ref ld, .ref im, .ref bk, .ref co, .ref fa, .ref ch, .ref wi, .ref sl, .ref se, .ref dr])), (ld, .inr (4, [.int 0, .int 0, .int 0, .int 0, .int 0, .int 0, .long 0, .ref l1, .ref l2, .ref l3, .ref l4, .ref l5, .ref l6, .ref l7, .ref l8]))] s.heap := hP
  refine lv_aload_n hx hb dX11_both_0 rfl (lv_at hl 0 rfl) ?_
  refine lv_iload_n hx hb dX11_both_1 rfl (lv_at hl 1 rfl) ?_
  refine lv_iload_n hx hb dX11_both_2 rfl (lv_at hl 2 rfl) ?_
  refine lv_iload_n hx hb dX11_both_3 rfl (lv_at hl 3 rfl) ?_
  refine ro_i (va_runV (As := [.int p0, .int p1, .int p2]) (rest := []) ⟨hx, hb, hml, hown, hts⟩ (k_X11_isChance l g cI cJ cB cZ cL x tp ld im bk co fa ch wi sl se dr l1 l2 l3 l4 l5 l6 l7 l8 p0 p1 p2 ip0 ip1 ip2 s.heap.size hzp0 hzp1 hzp2) (cwV 3 hts (goodIn_app (g_4 (List.mem_cons_of_mem _ (List.mem_append_left _ (List.mem_of_getElem? (i := 0) rfl))) (List.mem_cons_of_mem _ (List.mem_append_left _ (List.mem_of_getElem? (i := 1) rfl))) (List.mem_cons_of_mem _ (List.mem_append_left _ (List.mem_of_getElem? (i := 2) rfl))) (List.mem_cons_of_mem _ (List.mem_append_left _ (List.mem_of_getElem? (i := 3) rfl))) (by decide +kernel)) (goodIn_sub (fun _ h => List.mem_cons_of_mem _ (List.mem_append_right _ (List.mem_append_left _ h))) good_v_X11_isChance)) rfl rfl rfl (by decide +kernel) ⟨Nat.le_of_ble_eq_true rfl, Nat.le_of_ble_eq_true rfl⟩) (pv_RO (q := (RX11, TX11, 11)) (ci := 10) (q0 := 0) (wc := [(x, .inr (10, [.ref tp, .ref ld, .ref im, .ref bk, .ref co, .ref fa, .ref ch, .ref wi, .ref sl, .ref se, .ref dr])), (ld, .inr (4, [.int 0, .int 0, .int 0, .int 0, .int 0, .int 0, .long 0, .ref l1, .ref l2, .ref l3, .ref l4, .ref l5, .ref l6, .ref l7, .ref l8]))]) hK hP [0, 1] rfl rfl rfl) rfl rfl hl.1 rfl (lv_room (Nat.le_of_ble_eq_true rfl)) dX11_both_4 ⟨Nat.le_of_ble_eq_true rfl, Nat.le_of_ble_eq_true rfl⟩) hS hA hP (fun r1 u2 H locs hw3 hP hS => ?_)
  subst hw3
  refine lv_if_ne (tgt := 14) hx hb dX11_both_7 (by decide) (fun c4 => absurd c4 (by decide)) (fun _ => ?_)
  refine lv_ldc2 (v := (-2)) hx hb hown (hts (.constantLong RX11 275 (-2)) (List.mem_cons_of_mem _ (List.mem_append_left _ (List.mem_of_getElem? (i := 4) rfl)))) dX11_both_10 ?_
  exact W.lret (v := (-2)) hx hb hr (fun t ht hW => ⟨⟨(-2), (), rfl, rfl, trivial⟩, hS.F ht⟩) hS.2.2 dX11_both_13
def v_X11_mean : List Cond := .code yX11_mean cX11_mean 4 (some .long) :: (([.methodLink RX11 272 yX11_isChance, .instanceMethod yX11_isChance, .selects RX11 yX11_isChance yX11_isChance, .initialized RX11, .constantLong RX11 275 (-2)] : List Cond) ++ (v_X11_isChance ++ ([] : List Cond)))
theorem good_v_X11_mean : v_X11_mean.all goodWord = true := ga_c (by decide +kernel) (ga_a (by decide +kernel) (ga_a good_v_X11_isChance rfl))
set_option maxHeartbeats 4000000 in
set_option maxRecDepth 100000 in
theorem k_X11_mean (l : Launch) (g : va_G) (cI cJ cB cZ cL : ClassId) (x : Nat) (tp : Nat) (ld : Nat) (im : Nat) (bk : Nat) (co : Nat) (fa : Nat) (ch : Nat) (wi : Nat) (sl : Nat) (se : Nat) (dr : Nat) (l1 : Nat) (l2 : Nat) (l3 : Nat) (l4 : Nat) (l5 : Nat) (l6 : Nat) (l7 : Nat) (l8 : Nat) (p0 : Int32) (p1 : Int32) (p2 : Int32) (ip0 : Int) (ip1 : Int) (ip2 : Int) (sz : Nat) (hzp0 : p0.toInt = ip0) (hzp1 : p1.toInt = ip1) (hzp2 : p2.toInt = ip2) : Met l yX11_mean v_X11_mean ({ frames := 2, cells := 0, slots := 0, locals := 44 }) (va_Pc [.ref x, .int p0, .int p1, .int p2] (pRO g (tyT cI cJ cB cZ cL) [(x, .inr (10, [.ref tp, .ref ld, .ref im, .ref bk, .ref co, .ref fa, .ref ch, .ref wi, .ref sl, .ref se, .ref dr])), (ld, .inr (4, [.int 0, .int 0, .int 0, .int 0, .int 0, .int 0, .long 0, .ref l1, .ref l2, .ref l3, .ref l4, .ref l5, .ref l6, .ref l7, .ref l8]))] sz)) (va_Ql (fun (r : Int64) (u : Unit) => r = (-2)) (fun (_ : Unit) (_ : State) => True) (va_A [] sz)) 0 0 (va_A [] sz) := by
  refine Met.ofW (cc := cX11_mean) (maxL := 4) (ret := (some .long)) (by decide) rfl ?_
  intro p e s m args below meth c s₁ B hml hv
  obtain ⟨rfl, hsz, hP, hK⟩ := hv
  have hx := B.exec
  have hb := B.bytes
  have hr := B.returns
  have hts := atoms_spec (ws := v_X11_mean) B.pre
  have hown : s.vm.findClass RX11 = some m.cls := findClass_of_methodNamed B.named
  have hlocks := B.notSynchronized
  subst hsz
  generalize hAe : (va_A [] s.heap.size) = A
  have hA : ∀ q : Nat, s.heap.size ≤ q → A q := fun q h => by rw [← hAe]; exact Or.inr h
  have hS : va_S A s.heap s.heap [] := va_S.rf
  have hl := lv_entry ([.ref x, .int p0, .int p1, .int p2]) (n := 4) (Nat.le_of_ble_eq_true rfl)
  rw [lg_entry_eq]
  generalize (lg_sl ([.ref x, .int p0, .int p1, .int p2]) ++ List.replicate (4 - (lg_sl ([.ref x, .int p0, .int p1, .int p2])).length) Slot.unset).toArray = ls at hl ⊢
  have hl : lv_has ls 4 [(0, .ref x), (1, .int p0), (2, .int p1), (3, .int p2)] := hl
  have hP : va_P g vwCl [(x, .inr (10, [.ref tp, .ref ld, .ref im, .ref bk, .ref co, .ref fa, .ref ch, .ref wi, .ref sl, .ref se, .ref dr])), (ld, .inr (4, [.int 0, .int 0, .int 0, .int 0, .int 0, .int 0, .long 0, .ref l1, .ref l2, .ref l3, .ref l4, .ref l5, .ref l6, .ref l7, .ref l8]))] s.heap := hP
  refine lv_aload_n hx hb dX11_mean_0 rfl (lv_at hl 0 rfl) ?_
  refine lv_iload_n hx hb dX11_mean_1 rfl (lv_at hl 1 rfl) ?_
  refine lv_iload_n hx hb dX11_mean_2 rfl (lv_at hl 2 rfl) ?_
  refine lv_iload_n hx hb dX11_mean_3 rfl (lv_at hl 3 rfl) ?_
  refine ro_i (va_runV (As := [.int p0, .int p1, .int p2]) (rest := []) ⟨hx, hb, hml, hown, hts⟩ (k_X11_isChance l g cI cJ cB cZ cL x tp ld im bk co fa ch wi sl se dr l1 l2 l3 l4 l5 l6 l7 l8 p0 p1 p2 ip0 ip1 ip2 s.heap.size hzp0 hzp1 hzp2) (cwV 3 hts (goodIn_app (g_4 (List.mem_cons_of_mem _ (List.mem_append_left _ (List.mem_of_getElem? (i := 0) rfl))) (List.mem_cons_of_mem _ (List.mem_append_left _ (List.mem_of_getElem? (i := 1) rfl))) (List.mem_cons_of_mem _ (List.mem_append_left _ (List.mem_of_getElem? (i := 2) rfl))) (List.mem_cons_of_mem _ (List.mem_append_left _ (List.mem_of_getElem? (i := 3) rfl))) (by decide +kernel)) (goodIn_sub (fun _ h => List.mem_cons_of_mem _ (List.mem_append_right _ (List.mem_append_left _ h))) good_v_X11_isChance)) rfl rfl rfl (by decide +kernel) ⟨Nat.le_of_ble_eq_true rfl, Nat.le_of_ble_eq_true rfl⟩) (pv_RO (q := (RX11, TX11, 11)) (ci := 10) (q0 := 0) (wc := [(x, .inr (10, [.ref tp, .ref ld, .ref im, .ref bk, .ref co, .ref fa, .ref ch, .ref wi, .ref sl, .ref se, .ref dr])), (ld, .inr (4, [.int 0, .int 0, .int 0, .int 0, .int 0, .int 0, .long 0, .ref l1, .ref l2, .ref l3, .ref l4, .ref l5, .ref l6, .ref l7, .ref l8]))]) hK hP [0, 1] rfl rfl rfl) rfl rfl hl.1 rfl (lv_room (Nat.le_of_ble_eq_true rfl)) dX11_mean_4 ⟨Nat.le_of_ble_eq_true rfl, Nat.le_of_ble_eq_true rfl⟩) hS hA hP (fun r1 u2 H locs hw3 hP hS => ?_)
  subst hw3
  refine lv_if_ne (tgt := 14) hx hb dX11_mean_7 (by decide) (fun c4 => absurd c4 (by decide)) (fun _ => ?_)
  refine lv_ldc2 (v := (-2)) hx hb hown (hts (.constantLong RX11 275 (-2)) (List.mem_cons_of_mem _ (List.mem_append_left _ (List.mem_of_getElem? (i := 4) rfl)))) dX11_mean_10 ?_
  exact W.lret (v := (-2)) hx hb hr (fun t ht hW => ⟨⟨(-2), (), rfl, rfl, trivial⟩, hS.F ht⟩) hS.2.2 dX11_mean_13
def v_X11_which : List Cond := .code yX11_which cX11_which 10 (some .long) :: (([.methodLink RX11 152 yX11_isBit, .static yX11_isBit, .initialized RX11, .methodLink RX11 325 yX11_readSeen, .instanceMethod yX11_readSeen, .selects RX11 yX11_readSeen yX11_readSeen, .constantLong RX11 275 (-2)] : List Cond) ++ (v_X11_isBit ++ (v_X11_readSeen ++ ([] : List Cond))))
theorem good_v_X11_which : v_X11_which.all goodWord = true := ga_c (by decide +kernel) (ga_a (by decide +kernel) (ga_a good_v_X11_isBit (ga_a good_v_X11_readSeen rfl)))
set_option maxHeartbeats 4000000 in
set_option maxRecDepth 100000 in
theorem k_X11_which (l : Launch) (g : va_G) (cI cJ cB cZ cL : ClassId) (x : Nat) (tp : Nat) (ld : Nat) (im : Nat) (bk : Nat) (co : Nat) (fa : Nat) (ch : Nat) (wi : Nat) (sl : Nat) (se : Nat) (dr : Nat) (l1 : Nat) (l2 : Nat) (l3 : Nat) (l4 : Nat) (l5 : Nat) (l6 : Nat) (l7 : Nat) (l8 : Nat) (p0 : Int32) (p1 : Int32) (p2 : Int32) (ip0 : Int) (ip1 : Int) (ip2 : Int) (sz : Nat) (hzp0 : p0.toInt = ip0) (hzp1 : p1.toInt = ip1) (hzp2 : p2.toInt = ip2) : Met l yX11_which v_X11_which ({ frames := 2, cells := 0, slots := 0, locals := 43 }) (va_Pc [.ref x, .int p0, .int p1, .int p2] (pRO g (tyT cI cJ cB cZ cL) [(x, .inr (10, [.ref tp, .ref ld, .ref im, .ref bk, .ref co, .ref fa, .ref ch, .ref wi, .ref sl, .ref se, .ref dr])), (ld, .inr (4, [.int 0, .int 0, .int 0, .int 0, .int 0, .int 0, .long 0, .ref l1, .ref l2, .ref l3, .ref l4, .ref l5, .ref l6, .ref l7, .ref l8]))] sz)) (va_Ql (fun (r : Int64) (u : Unit) => r = (-2)) (fun (_ : Unit) (_ : State) => True) (va_A [] sz)) 0 0 (va_A [] sz) := by
  refine Met.ofW (cc := cX11_which) (maxL := 10) (ret := (some .long)) (by decide) rfl ?_
  intro p e s m args below meth c s₁ B hml hv
  obtain ⟨rfl, hsz, hP, hK⟩ := hv
  have hx := B.exec
  have hb := B.bytes
  have hr := B.returns
  have hts := atoms_spec (ws := v_X11_which) B.pre
  have hown : s.vm.findClass RX11 = some m.cls := findClass_of_methodNamed B.named
  have hlocks := B.notSynchronized
  subst hsz
  generalize hAe : (va_A [] s.heap.size) = A
  have hA : ∀ q : Nat, s.heap.size ≤ q → A q := fun q h => by rw [← hAe]; exact Or.inr h
  have hS : va_S A s.heap s.heap [] := va_S.rf
  have hl := lv_entry ([.ref x, .int p0, .int p1, .int p2]) (n := 10) (Nat.le_of_ble_eq_true rfl)
  rw [lg_entry_eq]
  generalize (lg_sl ([.ref x, .int p0, .int p1, .int p2]) ++ List.replicate (10 - (lg_sl ([.ref x, .int p0, .int p1, .int p2])).length) Slot.unset).toArray = ls at hl ⊢
  have hl : lv_has ls 10 [(0, .ref x), (1, .int p0), (2, .int p1), (3, .int p2)] := hl
  have hP : va_P g vwCl [(x, .inr (10, [.ref tp, .ref ld, .ref im, .ref bk, .ref co, .ref fa, .ref ch, .ref wi, .ref sl, .ref se, .ref dr])), (ld, .inr (4, [.int 0, .int 0, .int 0, .int 0, .int 0, .int 0, .long 0, .ref l1, .ref l2, .ref l3, .ref l4, .ref l5, .ref l6, .ref l7, .ref l8]))] s.heap := hP
  refine lv_iload_n hx hb dX11_which_0 rfl (lv_at hl 3 rfl) ?_
  refine ro_i (va_runS (As := [.int p2]) (rest := []) ⟨hx, hb, hml, hown, hts⟩ (k_X11_isBit l g cI cJ cB cZ cL p2 ip2 s.heap.size hzp2) (va_cwS 1 hts (goodIn_app (g_3 (List.mem_cons_of_mem _ (List.mem_append_left _ (List.mem_of_getElem? (i := 0) rfl))) (List.mem_cons_of_mem _ (List.mem_append_left _ (List.mem_of_getElem? (i := 1) rfl))) (List.mem_cons_of_mem _ (List.mem_append_left _ (List.mem_of_getElem? (i := 2) rfl))) (by decide +kernel)) (goodIn_sub (fun _ h => List.mem_cons_of_mem _ (List.mem_append_right _ (List.mem_append_left _ h))) good_v_X11_isBit)) rfl rfl rfl (by decide +kernel) ⟨Nat.le_of_ble_eq_true rfl, Nat.le_of_ble_eq_true rfl⟩) (ps_RO (wc := []) hK hP [] rfl) rfl rfl hl.1 rfl (lv_room (Nat.le_of_ble_eq_true rfl)) dX11_which_1 ⟨Nat.le_of_ble_eq_true rfl, Nat.le_of_ble_eq_true rfl⟩) hS hA hP (fun r1 u2 H locs hw3 hP hS => ?_)
  rcases hw3 with ⟨rfl, hw3_0⟩ | ⟨rfl, hw3_0⟩
  · refine lv_if_ne (tgt := 11) hx hb dX11_which_4 (by decide) (fun _ => ?_) (fun c4 => absurd c4 (by decide))
    refine lv_aload_n hx hb dX11_which_11 rfl (lv_at hl 0 rfl) ?_
    refine lv_iload_n hx hb dX11_which_12 rfl (lv_at hl 1 rfl) ?_
    refine lv_iload_n hx hb dX11_which_13 rfl (lv_at hl 2 rfl) ?_
    refine ro_i (va_runV (As := [.int p0, .int p1]) (rest := []) ⟨hx, hb, hml, hown, hts⟩ (k_X11_readSeen l g cI cJ cB cZ cL x tp ld im bk co fa ch wi sl se dr l1 l2 l3 l4 l5 l6 l7 l8 p0 p1 ip0 ip1 H.size hzp0 hzp1) (cwV 2 hts (goodIn_app (g_4 (List.mem_cons_of_mem _ (List.mem_append_left _ (List.mem_of_getElem? (i := 3) rfl))) (List.mem_cons_of_mem _ (List.mem_append_left _ (List.mem_of_getElem? (i := 4) rfl))) (List.mem_cons_of_mem _ (List.mem_append_left _ (List.mem_of_getElem? (i := 5) rfl))) (List.mem_cons_of_mem _ (List.mem_append_left _ (List.mem_of_getElem? (i := 2) rfl))) (by decide +kernel)) (goodIn_sub (fun _ h => List.mem_cons_of_mem _ (List.mem_append_right _ (List.mem_append_right _ (List.mem_append_left _ h)))) good_v_X11_readSeen)) rfl rfl rfl (by decide +kernel) ⟨Nat.le_of_ble_eq_true rfl, Nat.le_of_ble_eq_true rfl⟩) (pv_RO (q := (RX11, TX11, 11)) (ci := 10) (q0 := 0) (wc := [(x, .inr (10, [.ref tp, .ref ld, .ref im, .ref bk, .ref co, .ref fa, .ref ch, .ref wi, .ref sl, .ref se, .ref dr])), (ld, .inr (4, [.int 0, .int 0, .int 0, .int 0, .int 0, .int 0, .long 0, .ref l1, .ref l2, .ref l3, .ref l4, .ref l5, .ref l6, .ref l7, .ref l8]))]) hK hP [0, 1] rfl rfl rfl) rfl rfl hl.1 rfl (lv_room (Nat.le_of_ble_eq_true rfl)) dX11_which_14 ⟨Nat.le_of_ble_eq_true rfl, Nat.le_of_ble_eq_true rfl⟩) hS hA hP (fun r5 u6 H locs hw7 hP hS => ?_)
    subst hw7
    refine lv_istore (lv' := [(4, .int (-2)), (0, .ref x), (1, .int p0), (2, .int p1), (3, .int p2)]) hx hb dX11_which_17 hl (by decide) rfl (fun ls hl => ?_)
    refine lv_iload hx hb dX11_which_19 (lv_at hl 0 rfl) ?_
    refine lv_if_eq (tgt := 28) hx hb dX11_which_21 (by decide) (fun c8 => absurd c8 (by decide)) (fun _ => ?_)
    refine lv_iload hx hb dX11_which_24 (lv_at hl 0 rfl) ?_
    refine lv_i2l (v := (-2)) hx hb dX11_which_26 (by decide) ?_
    exact W.lret (v := (-2)) hx hb hr (fun t ht hW => ⟨⟨(-2), (), rfl, rfl, trivial⟩, hS.F ht⟩) hS.2.2 dX11_which_27
  · refine lv_if_ne (tgt := 11) hx hb dX11_which_4 (by decide) (fun c9 => absurd c9 (by decide)) (fun _ => ?_)
    refine lv_ldc2 (v := (-2)) hx hb hown (hts (.constantLong RX11 275 (-2)) (List.mem_cons_of_mem _ (List.mem_append_left _ (List.mem_of_getElem? (i := 6) rfl)))) dX11_which_7 ?_
    exact W.lret (v := (-2)) hx hb hr (fun t ht hW => ⟨⟨(-2), (), rfl, rfl, trivial⟩, hS.F ht⟩) hS.2.2 dX11_which_10
