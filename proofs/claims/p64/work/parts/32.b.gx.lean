def v_X9_next : List Cond := .code yX9_next cX9_next 3 (some .int) :: (([.methodLink RX9 90 yX9_sentBy, .instanceMethod yX9_sentBy, .selects RX9 yX9_sentBy yX9_sentBy, .initialized RX9, .methodLink RX9 102 yX10_swapped, .static yX10_swapped, .initialized RX10, .methodLink RX9 116 yX10_after, .static yX10_after] : List Cond) ++ (v_X9_sentBy ++ (v_X10_swapped ++ (v_X10_after ++ ([] : List Cond)))))
theorem good_v_X9_next : v_X9_next.all goodWord = true := ga_c (by decide +kernel) (ga_a (by decide +kernel) (ga_a good_v_X9_sentBy (ga_a good_v_X10_swapped (ga_a good_v_X10_after rfl))))
set_option maxHeartbeats 4000000 in
set_option maxRecDepth 100000 in
theorem q_X9_next (l : Launch) (g : va_G) (cI cJ cB cZ cL : ClassId) (p0 : Int32) (p1 : Int32) (wi : Nat) (wi_side : Int32) (wi_rule : Int32) (wi_begun : Int32) (wi_years : Int32) (wi_card : Int32) (wi_hurt : Int32) (wi_isEnd : Int32) (wi_worth : Nat) (sz : Nat) (hv_wi_side : ir wi_side.toInt 0 1) (hv_wi_begun : ir wi_begun.toInt 0 15) (hv_wi_years : ir wi_years.toInt 0 12) (hv_wi_isEnd : ir wi_isEnd.toInt 0 1) : Met l yX9_next v_X9_next ({ frames := 2, cells := 0, slots := 0, locals := 48 }) (va_Pc [.ref wi, .int p0, .int p1] (pRO g (tyT cI cJ cB cZ cL) [(wi, .inr (9, [.int wi_side, .int wi_rule, .int wi_begun, .int wi_years, .int wi_card, .int wi_hurt, .int wi_isEnd, .ref wi_worth]))] sz)) (va_Qi (fun (r : Int32) (u : Unit) => (ir r.toInt 0 15)) (fun (_ : Unit) (_ : State) => True) (va_A [] sz)) 0 0 (va_A [] sz) := by
  refine Met.ofW (cc := cX9_next) (maxL := 3) (ret := (some .int)) (by decide) rfl ?_
  intro p e s m args below meth c s₁ B hml hv
  obtain ⟨rfl, hsz, hP, hK⟩ := hv
  have hx := B.exec
  have hb := B.bytes
  have hr := B.returns
  have hts := atoms_spec (ws := v_X9_next) B.pre
  have hown : s.vm.findClass RX9 = some m.cls := findClass_of_methodNamed B.named
  have hlocks := B.notSynchronized
  clear B
  subst hsz
  generalize hAe : (va_A [] s.heap.size) = A
  have hA : ∀ q : Nat, s.heap.size ≤ q → A q := fun q h => by rw [← hAe]; exact Or.inr h
  have hS : va_S A s.heap s.heap [] := va_S.rf
  have hl := lv_entry ([.ref wi, .int p0, .int p1]) (n := 3) (Nat.le_of_ble_eq_true rfl)
  rw [lg_entry_eq]
  generalize (lg_sl ([.ref wi, .int p0, .int p1]) ++ List.replicate (3 - (lg_sl ([.ref wi, .int p0, .int p1])).length) Slot.unset).toArray = ls at hl ⊢
  generalize ([.ref wi, .int p0, .int p1] : List Value).toArray = av at hts ⊢
  generalize hQ : MQ below _ av s _ _ A = QQ
  have hl : lv_has ls 3 [(0, .ref wi), (1, .int p0), (2, .int p1)] := hl
  have hP : va_P g vwCl [(wi, .inr (9, [.int wi_side, .int wi_rule, .int wi_begun, .int wi_years, .int wi_card, .int wi_hurt, .int wi_isEnd, .ref wi_worth]))] s.heap := hP
  refine lv_iload_n hx hb dX9_next_0 rfl (lv_at hl 1 rfl) ?_
  refine lv_aload_n hx hb dX9_next_1 rfl (lv_at hl 0 rfl) ?_
  refine lv_iload_n hx hb dX9_next_2 rfl (lv_at hl 1 rfl) ?_
  refine lv_iload_n hx hb dX9_next_3 rfl (lv_at hl 2 rfl) ?_
  refine ro_i (va_runV (As := [.int p0, .int p1]) (rest := [.int p0]) ⟨hx, hb, hml, hown, hts⟩ (q_X9_sentBy l g cI cJ cB cZ cL p0 p1 wi wi_side wi_rule wi_begun wi_years wi_card wi_hurt wi_isEnd wi_worth s.heap.size hv_wi_side hv_wi_begun hv_wi_years hv_wi_isEnd) (cwV 2 hts (goodIn_app (g_4 (List.mem_cons_of_mem _ (List.mem_append_left _ (List.mem_of_getElem? (i := 0) rfl))) (List.mem_cons_of_mem _ (List.mem_append_left _ (List.mem_of_getElem? (i := 1) rfl))) (List.mem_cons_of_mem _ (List.mem_append_left _ (List.mem_of_getElem? (i := 2) rfl))) (List.mem_cons_of_mem _ (List.mem_append_left _ (List.mem_of_getElem? (i := 3) rfl))) (by decide +kernel)) (goodIn_sub (fun _ h => List.mem_cons_of_mem _ (List.mem_append_right _ (List.mem_append_left _ h))) good_v_X9_sentBy)) rfl rfl rfl (by decide +kernel) ⟨Nat.le_of_ble_eq_true rfl, Nat.le_of_ble_eq_true rfl⟩) (pv_RO (q := (RX9, TX9, 8)) (ci := 9) (q0 := 0) (wc := [(wi, .inr (9, [.int wi_side, .int wi_rule, .int wi_begun, .int wi_years, .int wi_card, .int wi_hurt, .int wi_isEnd, .ref wi_worth]))]) hK hP [0] rfl rfl rfl) rfl rfl hl.1 rfl (lv_room (Nat.le_of_ble_eq_true rfl)) dX9_next_4 ⟨Nat.le_of_ble_eq_true rfl, Nat.le_of_ble_eq_true rfl⟩) hS hA hP (fun r4 u4 H locs hw4 hP hS => ?_)
  refine ro_i (va_runS (As := [.int r4]) (rest := [.int p0]) ⟨hx, hb, hml, hown, hts⟩ (q_X10_swapped l g cI cJ cB cZ cL r4 H.size ) (va_cwS 1 hts (goodIn_app (g_3 (List.mem_cons_of_mem _ (List.mem_append_left _ (List.mem_of_getElem? (i := 4) rfl))) (List.mem_cons_of_mem _ (List.mem_append_left _ (List.mem_of_getElem? (i := 5) rfl))) (List.mem_cons_of_mem _ (List.mem_append_left _ (List.mem_of_getElem? (i := 6) rfl))) (by decide +kernel)) (goodIn_sub (fun _ h => List.mem_cons_of_mem _ (List.mem_append_right _ (List.mem_append_right _ (List.mem_append_left _ h)))) good_v_X10_swapped)) rfl rfl rfl (by decide +kernel) ⟨Nat.le_of_ble_eq_true rfl, Nat.le_of_ble_eq_true rfl⟩) (ps_RO (wc := []) hK hP [] rfl) rfl rfl hl.1 rfl (lv_room (Nat.le_of_ble_eq_true rfl)) dX9_next_7 ⟨Nat.le_of_ble_eq_true rfl, Nat.le_of_ble_eq_true rfl⟩) hS hA hP (fun r7 u7 H locs hw7 hP hS => ?_)
  have hw7_0 := hw7
  refine ro_i (va_runS (As := [.int p0, .int r7]) (rest := []) ⟨hx, hb, hml, hown, hts⟩ (q_X10_after l g cI cJ cB cZ cL p0 r7 H.size ) (va_cwS 2 hts (goodIn_app (g_3 (List.mem_cons_of_mem _ (List.mem_append_left _ (List.mem_of_getElem? (i := 7) rfl))) (List.mem_cons_of_mem _ (List.mem_append_left _ (List.mem_of_getElem? (i := 8) rfl))) (List.mem_cons_of_mem _ (List.mem_append_left _ (List.mem_of_getElem? (i := 6) rfl))) (by decide +kernel)) (goodIn_sub (fun _ h => List.mem_cons_of_mem _ (List.mem_append_right _ (List.mem_append_right _ (List.mem_append_right _ (List.mem_append_left _ h))))) good_v_X10_after)) rfl rfl rfl (by decide +kernel) ⟨Nat.le_of_ble_eq_true rfl, Nat.le_of_ble_eq_true rfl⟩) (ps_RO (wc := []) hK hP [] rfl) rfl rfl hl.1 rfl (lv_room (Nat.le_of_ble_eq_true rfl)) dX9_next_10 ⟨Nat.le_of_ble_eq_true rfl, Nat.le_of_ble_eq_true rfl⟩) hS hA hP (fun r10 u10 H locs hw10 hP hS => ?_)
  have hw10_0 := hw10
  subst hQ
  exact W.iret (v := r10) hx hb hr (fun t ht hW => ⟨⟨r10, (), rfl, hw10_0, trivial⟩, hS.F ht⟩) hS.2.2 dX9_next_13
def v_X9_priceOf : List Cond := .code yX9_priceOf cX9_priceOf 2 (some .int) :: (([.fieldLink RX9 76 "CardsAtYule$Will" "card" "I", .methodLink RX9 97 yJ6_bitCount_0f7a4, .static yJ6_bitCount_0f7a4, .initialized RJ6, .fieldLink RX9 80 "CardsAtYule$Will" "hurt" "I", .methodLink RX9 102 yX10_swapped, .static yX10_swapped, .initialized RX10] : List Cond) ++ (v_J6_bitCount_0f7a4 ++ (v_X10_swapped ++ (wsX90 ++ ([] : List Cond)))))
theorem good_v_X9_priceOf : v_X9_priceOf.all goodWord = true := ga_c (by decide +kernel) (ga_a (by decide +kernel) (ga_a good_v_J6_bitCount_0f7a4 (ga_a good_v_X10_swapped (ga_a good_wsX90 rfl))))
set_option maxHeartbeats 4000000 in
set_option maxRecDepth 100000 in
theorem q_X9_priceOf (l : Launch) (g : va_G) (cI cJ cB cZ cL : ClassId) (p0 : Int32) (wi : Nat) (wi_side : Int32) (wi_rule : Int32) (wi_begun : Int32) (wi_years : Int32) (wi_card : Int32) (wi_hurt : Int32) (wi_isEnd : Int32) (wi_worth : Nat) (sz : Nat) (hv_wi_side : ir wi_side.toInt 0 1) (hv_wi_begun : ir wi_begun.toInt 0 15) (hv_wi_years : ir wi_years.toInt 0 12) (hv_wi_isEnd : ir wi_isEnd.toInt 0 1) : Met l yX9_priceOf v_X9_priceOf ({ frames := 1, cells := 0, slots := 0, locals := 20 }) (va_Pc [.ref wi, .int p0] (pRO g (tyT cI cJ cB cZ cL) [(wi, .inr (9, [.int wi_side, .int wi_rule, .int wi_begun, .int wi_years, .int wi_card, .int wi_hurt, .int wi_isEnd, .ref wi_worth]))] sz)) (va_Qi (fun (r : Int32) (u : Unit) => True) (fun (_ : Unit) (_ : State) => True) (va_A [] sz)) 0 0 (va_A [] sz) := by
  refine Met.ofW (cc := cX9_priceOf) (maxL := 2) (ret := (some .int)) (by decide) rfl ?_
  intro p e s m args below meth c s₁ B hml hv
  obtain ⟨rfl, hsz, hP, hK⟩ := hv
  have hx := B.exec
  have hb := B.bytes
  have hr := B.returns
  have hts := atoms_spec (ws := v_X9_priceOf) B.pre
  have hown : s.vm.findClass RX9 = some m.cls := findClass_of_methodNamed B.named
  have hlocks := B.notSynchronized
  clear B
  subst hsz
  have iX9 : ∀ w ∈ wsX90, w ∈ v_X9_priceOf := (fun _ h => List.mem_cons_of_mem _ (List.mem_append_right _ (List.mem_append_right _ (List.mem_append_right _ (List.mem_append_left _ h)))))
  generalize hAe : (va_A [] s.heap.size) = A
  have hA : ∀ q : Nat, s.heap.size ≤ q → A q := fun q h => by rw [← hAe]; exact Or.inr h
  have hS : va_S A s.heap s.heap [] := va_S.rf
  have hl := lv_entry ([.ref wi, .int p0]) (n := 2) (Nat.le_of_ble_eq_true rfl)
  rw [lg_entry_eq]
  generalize (lg_sl ([.ref wi, .int p0]) ++ List.replicate (2 - (lg_sl ([.ref wi, .int p0])).length) Slot.unset).toArray = ls at hl ⊢
  generalize ([.ref wi, .int p0] : List Value).toArray = av at hts ⊢
  generalize hQ : MQ below _ av s _ _ A = QQ
  have hl : lv_has ls 2 [(0, .ref wi), (1, .int p0)] := hl
  have hP : va_P g vwCl [(wi, .inr (9, [.int wi_side, .int wi_rule, .int wi_begun, .int wi_years, .int wi_card, .int wi_hurt, .int wi_isEnd, .ref wi_worth]))] s.heap := hP
  refine lv_aload_n hx hb dX9_priceOf_0 rfl (lv_at hl 0 rfl) ?_
  refine va_get (D := g) (ci := 9) (v := .int wi_card) (C := RX9) (T := TX9) (N := 8) hx hb hts iX9 hown hK hP 0 rfl rfl 4 (by decide) (hts (.fieldLink RX9 76 "CardsAtYule$Will" "card" "I") (List.mem_cons_of_mem _ (List.mem_append_left _ (List.mem_of_getElem? (i := 0) rfl)))) (fun _ h9 => h9) rfl dX9_priceOf_1 ?_
  refine lv_iload_n hx hb dX9_priceOf_4 rfl (lv_at hl 1 rfl) ?_
  refine ro_i (va_runS (As := [.int p0]) (rest := [.int wi_card]) ⟨hx, hb, hml, hown, hts⟩ (q_J6_bitCount_0f7a4 l g cI cJ cB cZ cL p0 s.heap.size ) (va_cwS 1 hts (goodIn_app (g_3 (List.mem_cons_of_mem _ (List.mem_append_left _ (List.mem_of_getElem? (i := 1) rfl))) (List.mem_cons_of_mem _ (List.mem_append_left _ (List.mem_of_getElem? (i := 2) rfl))) (List.mem_cons_of_mem _ (List.mem_append_left _ (List.mem_of_getElem? (i := 3) rfl))) (by decide +kernel)) (goodIn_sub (fun _ h => List.mem_cons_of_mem _ (List.mem_append_right _ (List.mem_append_left _ h))) good_v_J6_bitCount_0f7a4)) rfl rfl rfl (by decide +kernel) ⟨Nat.le_of_ble_eq_true rfl, Nat.le_of_ble_eq_true rfl⟩) (ps_RO (wc := []) hK hP [] rfl) rfl rfl hl.1 rfl (lv_room (Nat.le_of_ble_eq_true rfl)) dX9_priceOf_5 ⟨Nat.le_of_ble_eq_true rfl, Nat.le_of_ble_eq_true rfl⟩) hS hA hP (fun r5 u5 H locs hw5 hP hS => ?_)
  have hw5_0 := hw5
  refine lv_imul hx hb dX9_priceOf_8 ?_
  refine lv_topi (fun y8 e8 => ?_)
  refine lv_aload_n hx hb dX9_priceOf_9 rfl (lv_at hl 0 rfl) ?_
  refine va_get (D := g) (ci := 9) (v := .int wi_hurt) (C := RX9) (T := TX9) (N := 8) hx hb hts iX9 hown hK hP 0 rfl rfl 5 (by decide) (hts (.fieldLink RX9 80 "CardsAtYule$Will" "hurt" "I") (List.mem_cons_of_mem _ (List.mem_append_left _ (List.mem_of_getElem? (i := 4) rfl)))) (fun _ h9 => h9) rfl dX9_priceOf_10 ?_
  refine lv_iload_n hx hb dX9_priceOf_13 rfl (lv_at hl 1 rfl) ?_
  refine lv_iload_n hx hb dX9_priceOf_14 rfl (lv_at hl 1 rfl) ?_
  refine ro_i (va_runS (As := [.int p0]) (rest := [.int p0, .int wi_hurt, .int y8]) ⟨hx, hb, hml, hown, hts⟩ (q_X10_swapped l g cI cJ cB cZ cL p0 H.size ) (va_cwS 1 hts (goodIn_app (g_3 (List.mem_cons_of_mem _ (List.mem_append_left _ (List.mem_of_getElem? (i := 5) rfl))) (List.mem_cons_of_mem _ (List.mem_append_left _ (List.mem_of_getElem? (i := 6) rfl))) (List.mem_cons_of_mem _ (List.mem_append_left _ (List.mem_of_getElem? (i := 7) rfl))) (by decide +kernel)) (goodIn_sub (fun _ h => List.mem_cons_of_mem _ (List.mem_append_right _ (List.mem_append_right _ (List.mem_append_left _ h)))) good_v_X10_swapped)) rfl rfl rfl (by decide +kernel) ⟨Nat.le_of_ble_eq_true rfl, Nat.le_of_ble_eq_true rfl⟩) (ps_RO (wc := []) hK hP [] rfl) rfl rfl hl.1 rfl (lv_room (Nat.le_of_ble_eq_true rfl)) dX9_priceOf_15 ⟨Nat.le_of_ble_eq_true rfl, Nat.le_of_ble_eq_true rfl⟩) hS hA hP (fun r15 u15 H locs hw15 hP hS => ?_)
  have hw15_0 := hw15
  refine lv_iconst (v := (-1)) hx hb dX9_priceOf_18 (by decide) ?_
  refine lv_ixor hx hb dX9_priceOf_19 ?_
  refine lv_topi (fun y19 e19 => ?_)
  refine lv_iand hx hb dX9_priceOf_20 ?_
  refine lv_topi (fun y20 e20 => ?_)
  refine ro_i (va_runS (As := [.int y20]) (rest := [.int wi_hurt, .int y8]) ⟨hx, hb, hml, hown, hts⟩ (q_J6_bitCount_0f7a4 l g cI cJ cB cZ cL y20 H.size ) (va_cwS 1 hts (goodIn_app (g_3 (List.mem_cons_of_mem _ (List.mem_append_left _ (List.mem_of_getElem? (i := 1) rfl))) (List.mem_cons_of_mem _ (List.mem_append_left _ (List.mem_of_getElem? (i := 2) rfl))) (List.mem_cons_of_mem _ (List.mem_append_left _ (List.mem_of_getElem? (i := 3) rfl))) (by decide +kernel)) (goodIn_sub (fun _ h => List.mem_cons_of_mem _ (List.mem_append_right _ (List.mem_append_left _ h))) good_v_J6_bitCount_0f7a4)) rfl rfl rfl (by decide +kernel) ⟨Nat.le_of_ble_eq_true rfl, Nat.le_of_ble_eq_true rfl⟩) (ps_RO (wc := []) hK hP [] rfl) rfl rfl hl.1 rfl (lv_room (Nat.le_of_ble_eq_true rfl)) dX9_priceOf_21 ⟨Nat.le_of_ble_eq_true rfl, Nat.le_of_ble_eq_true rfl⟩) hS hA hP (fun r21 u21 H locs hw21 hP hS => ?_)
  have hw21_0 := hw21
  refine lv_imul hx hb dX9_priceOf_24 ?_
  refine lv_topi (fun y24 e24 => ?_)
  refine lv_iadd hx hb dX9_priceOf_25 ?_
  refine lv_topi (fun y25 e25 => ?_)
  subst hQ
  exact W.iret (v := y25) hx hb hr (fun t ht hW => ⟨⟨y25, (), rfl, trivial, trivial⟩, hS.F ht⟩) hS.2.2 dX9_priceOf_26
def v_X9_worthOf : List Cond := .code yX9_worthOf cX9_worthOf 7 (some .int) :: (([.methodLink RX9 90 yX9_sentBy, .instanceMethod yX9_sentBy, .selects RX9 yX9_sentBy yX9_sentBy, .initialized RX9, .fieldLink RX9 19 "CardsAtYule$Will" "isEnd" "Z", .fieldLink RX9 9 "CardsAtYule$Will" "worth" "[I", .methodLink RX9 63 yX9_next, .instanceMethod yX9_next, .selects RX9 yX9_next yX9_next, .constant RX9 43 (1000000), .methodLink RX9 85 Lib.Math.min.name, .static Lib.Math.min.name, .initialized "java/lang/Math", .code Lib.Math.min.name Lib.Math.min.code 2 (some .int), .methodLink RX9 93 yX9_priceOf, .instanceMethod yX9_priceOf, .selects RX9 yX9_priceOf yX9_priceOf, .fieldLink RX9 36 "CardsAtYule$Will" "years" "I"] : List Cond) ++ (v_X9_sentBy ++ (v_X9_next ++ (v_X9_priceOf ++ (wsX90 ++ ([] : List Cond))))))
theorem good_v_X9_worthOf : v_X9_worthOf.all goodWord = true := ga_c (by decide +kernel) (ga_a (by decide +kernel) (ga_a good_v_X9_sentBy (ga_a good_v_X9_next (ga_a good_v_X9_priceOf (ga_a good_wsX90 rfl)))))
set_option maxHeartbeats 4000000 in
set_option maxRecDepth 100000 in
theorem q_X9_worthOf (l : Launch) (g : va_G) (cI cJ cB cZ cL : ClassId) (p0 : Int32) (p1 : Int32) (p2 : Int32) (wi : Nat) (wi_side : Int32) (wi_rule : Int32) (wi_begun : Int32) (wi_years : Int32) (wi_card : Int32) (wi_hurt : Int32) (wi_isEnd : Int32) (wi_worth : Nat) (wi_worth_c : Nat → Int32) (sz : Nat) (hv_p0 : ir p0.toInt 0 11) (hv_wi_side : ir wi_side.toInt 0 1) (hv_wi_begun : ir wi_begun.toInt 0 15) (hv_wi_years : ir wi_years.toInt 0 12) (hv_wi_isEnd : ir wi_isEnd.toInt 0 1) : Met l yX9_worthOf v_X9_worthOf ({ frames := 3, cells := 0, slots := 0, locals := 70 }) (va_Pc [.ref wi, .int p0, .int p1, .int p2] (pRO g (tyT cI cJ cB cZ cL) [(wi, .inr (9, [.int wi_side, .int wi_rule, .int wi_begun, .int wi_years, .int wi_card, .int wi_hurt, .int wi_isEnd, .ref wi_worth])), (wi_worth, .inl (cI, 208, .inl wi_worth_c))] sz)) (va_Qi (fun (r : Int32) (u : Unit) => (ir r.toInt (-2147483648) 1000000)) (fun (_ : Unit) (_ : State) => True) (va_A [] sz)) 0 0 (va_A [] sz) := by
  refine Met.ofW (cc := cX9_worthOf) (maxL := 7) (ret := (some .int)) (by decide) rfl ?_
  intro p e s m args below meth c s₁ B hml hv
  obtain ⟨rfl, hsz, hP, hK⟩ := hv
  have hx := B.exec
  have hb := B.bytes
  have hr := B.returns
  have hts := atoms_spec (ws := v_X9_worthOf) B.pre
  have hown : s.vm.findClass RX9 = some m.cls := findClass_of_methodNamed B.named
  have hlocks := B.notSynchronized
  clear B
  subst hsz
  have iX9 : ∀ w ∈ wsX90, w ∈ v_X9_worthOf := (fun _ h => List.mem_cons_of_mem _ (List.mem_append_right _ (List.mem_append_right _ (List.mem_append_right _ (List.mem_append_right _ (List.mem_append_left _ h))))))
  generalize hAe : (va_A [] s.heap.size) = A
  have hA : ∀ q : Nat, s.heap.size ≤ q → A q := fun q h => by rw [← hAe]; exact Or.inr h
  have hS : va_S A s.heap s.heap [] := va_S.rf
  have hl := lv_entry ([.ref wi, .int p0, .int p1, .int p2]) (n := 7) (Nat.le_of_ble_eq_true rfl)
  rw [lg_entry_eq]
  generalize (lg_sl ([.ref wi, .int p0, .int p1, .int p2]) ++ List.replicate (7 - (lg_sl ([.ref wi, .int p0, .int p1, .int p2])).length) Slot.unset).toArray = ls at hl ⊢
  generalize ([.ref wi, .int p0, .int p1, .int p2] : List Value).toArray = av at hts ⊢
  generalize hQ : MQ below _ av s _ _ A = QQ
  have hl : lv_has ls 7 [(0, .ref wi), (1, .int p0), (2, .int p1), (3, .int p2)] := hl
  have hP : va_P g vwCl [(wi, .inr (9, [.int wi_side, .int wi_rule, .int wi_begun, .int wi_years, .int wi_card, .int wi_hurt, .int wi_isEnd, .ref wi_worth])), (wi_worth, .inl (cI, 208, .inl wi_worth_c))] s.heap := hP
  refine lv_aload_n hx hb dX9_worthOf_0 rfl (lv_at hl 0 rfl) ?_
  refine lv_iload_n hx hb dX9_worthOf_1 rfl (lv_at hl 2 rfl) ?_
  refine lv_iload_n hx hb dX9_worthOf_2 rfl (lv_at hl 3 rfl) ?_
  refine ro_i (va_runV (As := [.int p1, .int p2]) (rest := []) ⟨hx, hb, hml, hown, hts⟩ (q_X9_sentBy l g cI cJ cB cZ cL p1 p2 wi wi_side wi_rule wi_begun wi_years wi_card wi_hurt wi_isEnd wi_worth s.heap.size hv_wi_side hv_wi_begun hv_wi_years hv_wi_isEnd) (cwV 2 hts (goodIn_app (g_4 (List.mem_cons_of_mem _ (List.mem_append_left _ (List.mem_of_getElem? (i := 0) rfl))) (List.mem_cons_of_mem _ (List.mem_append_left _ (List.mem_of_getElem? (i := 1) rfl))) (List.mem_cons_of_mem _ (List.mem_append_left _ (List.mem_of_getElem? (i := 2) rfl))) (List.mem_cons_of_mem _ (List.mem_append_left _ (List.mem_of_getElem? (i := 3) rfl))) (by decide +kernel)) (goodIn_sub (fun _ h => List.mem_cons_of_mem _ (List.mem_append_right _ (List.mem_append_left _ h))) good_v_X9_sentBy)) rfl rfl rfl (by decide +kernel) ⟨Nat.le_of_ble_eq_true rfl, Nat.le_of_ble_eq_true rfl⟩) (pv_RO (q := (RX9, TX9, 8)) (ci := 9) (q0 := 0) (wc := [(wi, .inr (9, [.int wi_side, .int wi_rule, .int wi_begun, .int wi_years, .int wi_card, .int wi_hurt, .int wi_isEnd, .ref wi_worth]))]) hK hP [0] rfl rfl rfl) rfl rfl hl.1 rfl (lv_room (Nat.le_of_ble_eq_true rfl)) dX9_worthOf_3 ⟨Nat.le_of_ble_eq_true rfl, Nat.le_of_ble_eq_true rfl⟩) hS hA hP (fun r3 u3 H locs hw3 hP hS => ?_)
  refine lv_istore (lv' := [(4, .int r3), (0, .ref wi), (1, .int p0), (2, .int p1), (3, .int p2)]) hx hb dX9_worthOf_6 hl (by decide) rfl (fun ls hl => ?_)
  refine lv_aload_n hx hb dX9_worthOf_8 rfl (lv_at hl 1 rfl) ?_
  refine va_get (D := g) (ci := 9) (v := .int wi_isEnd) (C := RX9) (T := TX9) (N := 8) hx hb hts iX9 hown hK hP 0 rfl rfl 6 (by decide) (hts (.fieldLink RX9 19 "CardsAtYule$Will" "isEnd" "Z") (List.mem_cons_of_mem _ (List.mem_append_left _ (List.mem_of_getElem? (i := 4) rfl)))) (fun _ h9 => h9) rfl dX9_worthOf_9 ?_
  have J34 : ∀  (H : Heap) (locs : List Loc) (ls : Array Slot), va_P g vwCl [(wi, .inr (9, [.int wi_side, .int wi_rule, .int wi_begun, .int wi_years, .int wi_card, .int wi_hurt, .int wi_isEnd, .ref wi_worth])), (wi_worth, .inl (cI, 208, .inl wi_worth_c))] H → va_S A s.heap H locs → lv_has ls 7 [(0, .ref wi), (1, .int p0), (2, .int p1), (3, .int p2), (4, .int r3)] → W p l e (headSpec v_X9_worthOf ({ frames := 3, cells := 0, slots := 0, locals := 70 })).room s m av below meth c H locs 0 0 QQ (F0 m 34 ls []) := by
    intro  H locs ls  hP hS hl
    refine lv_aload_n hx hb dX9_worthOf_34 rfl (lv_at hl 0 rfl) ?_
    refine va_get (D := g) (ci := 9) (v := .ref wi_worth) (C := RX9) (T := TX9) (N := 8) hx hb hts iX9 hown hK hP 0 rfl rfl 7 (by decide) (hts (.fieldLink RX9 9 "CardsAtYule$Will" "worth" "[I") (List.mem_cons_of_mem _ (List.mem_append_left _ (List.mem_of_getElem? (i := 5) rfl)))) (fun _ h9 => h9) rfl dX9_worthOf_35 ?_
    refine lv_bipush (v := 16) hx hb dX9_worthOf_38 (by decide) ?_
    refine lv_iload_n hx hb dX9_worthOf_40 rfl (lv_at hl 1 rfl) ?_
    refine lv_iconst (v := 1) hx hb dX9_worthOf_41 (by decide) ?_
    refine lv_iadd hx hb dX9_worthOf_42 ?_
    refine lv_topi (fun y42 e42 => ?_)
    have q42 : y42.toInt = p0.toInt + 1 := by rw [e42]; exact ad_z rfl rfl hv_p0 (ir_c 1) (by decide) (by decide)
    have r42 : ir y42.toInt 1 12 := ad_r q42 hv_p0 (ir_c 1) (by decide) (by decide)
    refine lv_imul hx hb dX9_worthOf_43 ?_
    refine lv_topi (fun y43 e43 => ?_)
    have q43 : y43.toInt = 16 * y42.toInt := by rw [e43]; exact mu_z rfl rfl (ir_c 16) r42 (by decide) (by decide) (by decide)
    have r43 : ir y43.toInt 16 192 := mu_r q43 (ir_c 16) r42 (by decide) (by decide) (by decide) (by decide)
    refine lv_aload_n hx hb dX9_worthOf_44 rfl (lv_at hl 0 rfl) ?_
    refine lv_iload_n hx hb dX9_worthOf_45 rfl (lv_at hl 2 rfl) ?_
    refine lv_iload_n hx hb dX9_worthOf_46 rfl (lv_at hl 3 rfl) ?_
    refine ro_i (va_runV (As := [.int p1, .int p2]) (rest := [.int y43, .ref wi_worth]) ⟨hx, hb, hml, hown, hts⟩ (q_X9_next l g cI cJ cB cZ cL p1 p2 wi wi_side wi_rule wi_begun wi_years wi_card wi_hurt wi_isEnd wi_worth H.size hv_wi_side hv_wi_begun hv_wi_years hv_wi_isEnd) (cwV 2 hts (goodIn_app (g_4 (List.mem_cons_of_mem _ (List.mem_append_left _ (List.mem_of_getElem? (i := 6) rfl))) (List.mem_cons_of_mem _ (List.mem_append_left _ (List.mem_of_getElem? (i := 7) rfl))) (List.mem_cons_of_mem _ (List.mem_append_left _ (List.mem_of_getElem? (i := 8) rfl))) (List.mem_cons_of_mem _ (List.mem_append_left _ (List.mem_of_getElem? (i := 3) rfl))) (by decide +kernel)) (goodIn_sub (fun _ h => List.mem_cons_of_mem _ (List.mem_append_right _ (List.mem_append_right _ (List.mem_append_left _ h)))) good_v_X9_next)) rfl rfl rfl (by decide +kernel) ⟨Nat.le_of_ble_eq_true rfl, Nat.le_of_ble_eq_true rfl⟩) (pv_RO (q := (RX9, TX9, 8)) (ci := 9) (q0 := 0) (wc := [(wi, .inr (9, [.int wi_side, .int wi_rule, .int wi_begun, .int wi_years, .int wi_card, .int wi_hurt, .int wi_isEnd, .ref wi_worth]))]) hK hP [0] rfl rfl rfl) rfl rfl hl.1 rfl (lv_room (Nat.le_of_ble_eq_true rfl)) dX9_worthOf_47 ⟨Nat.le_of_ble_eq_true rfl, Nat.le_of_ble_eq_true rfl⟩) hS hA hP (fun r47 u47 H locs hw47 hP hS => ?_)
    have hw47_0 := hw47
    refine lv_iadd hx hb dX9_worthOf_50 ?_
    refine lv_topi (fun y50 e50 => ?_)
    have q50 : y50.toInt = y43.toInt + r47.toInt := by rw [e50]; exact ad_z rfl rfl r43 hw47_0 (by decide) (by decide)
    have r50 : ir y50.toInt 16 207 := ad_r q50 r43 hw47_0 (by decide) (by decide)
    refine va_iald (D := g) hx hb hK hP 1 0 rfl rfl (vi_rg rfl r50 (by decide) (by decide)) dX9_worthOf_51 ?_
    refine lv_topi (fun y51 e51 => ?_)
    refine lv_istore (lv' := [(5, .int y51), (0, .ref wi), (1, .int p0), (2, .int p1), (3, .int p2), (4, .int r3)]) hx hb dX9_worthOf_52 hl (by decide) rfl (fun ls hl => ?_)
    refine lv_aload_n hx hb dX9_worthOf_54 rfl (lv_at hl 1 rfl) ?_
    refine va_get (D := g) (ci := 9) (v := .int wi_isEnd) (C := RX9) (T := TX9) (N := 8) hx hb hts iX9 hown hK hP 0 rfl rfl 6 (by decide) (hts (.fieldLink RX9 19 "CardsAtYule$Will" "isEnd" "Z") (List.mem_cons_of_mem _ (List.mem_append_left _ (List.mem_of_getElem? (i := 4) rfl)))) (fun _ h9 => h9) rfl dX9_worthOf_55 ?_
    have J71 : ∀ (j71_s0 : Int32) (H : Heap) (locs : List Loc) (ls : Array Slot), va_P g vwCl [(wi, .inr (9, [.int wi_side, .int wi_rule, .int wi_begun, .int wi_years, .int wi_card, .int wi_hurt, .int wi_isEnd, .ref wi_worth])), (wi_worth, .inl (cI, 208, .inl wi_worth_c))] H → va_S A s.heap H locs → lv_has ls 7 [(5, .int y51)] → W p l e (headSpec v_X9_worthOf ({ frames := 3, cells := 0, slots := 0, locals := 70 })).room s m av below meth c H locs 0 0 QQ (F0 m 71 ls [.int j71_s0]) := by
      intro j71_s0 H locs ls  hP hS hl
      refine lv_istore (lv' := [(6, .int j71_s0), (5, .int y51)]) hx hb dX9_worthOf_71 hl (by decide) rfl (fun ls hl => ?_)
      refine lv_ldc (v := 1000000) hx hb hown (hts (.constant RX9 43 (1000000)) (List.mem_cons_of_mem _ (List.mem_append_left _ (List.mem_of_getElem? (i := 9) rfl)))) dX9_worthOf_73 ?_
      refine lv_iload hx hb dX9_worthOf_75 (lv_at hl 1 rfl) ?_
      refine lv_iload hx hb dX9_worthOf_77 (lv_at hl 0 rfl) ?_
      refine lv_iadd hx hb dX9_worthOf_79 ?_
      refine lv_topi (fun y79 e79 => ?_)
      refine va_mmin hx hb (hml.trans hl.1.symm) hown (hts (.methodLink RX9 85 Lib.Math.min.name) (List.mem_cons_of_mem _ (List.mem_append_left _ (List.mem_of_getElem? (i := 10) rfl)))) (hts (.static Lib.Math.min.name) (List.mem_cons_of_mem _ (List.mem_append_left _ (List.mem_of_getElem? (i := 11) rfl)))) (hts (.initialized "java/lang/Math") (List.mem_cons_of_mem _ (List.mem_append_left _ (List.mem_of_getElem? (i := 12) rfl)))) (hts (.code Lib.Math.min.name Lib.Math.min.code 2 (some .int)) (List.mem_cons_of_mem _ (List.mem_append_left _ (List.mem_of_getElem? (i := 13) rfl)))) (Nat.le_of_ble_eq_true rfl) (Nat.le_of_ble_eq_true rfl) (Nat.le_of_ble_eq_true rfl) (Nat.le_of_ble_eq_true rfl) dX9_worthOf_80 ?_
      refine lv_topi (fun y80 e80 => ?_)
      have r80 : ir y80.toInt (-2147483648) 1000000 := by rw [e80]; exact min_r rfl rfl (ir_c 1000000) (rg_all y79) (by decide) (by decide) (by decide) (by decide)
      subst hQ
      exact W.iret (v := y80) hx hb hr (fun t ht hW => ⟨⟨y80, (), rfl, r80, trivial⟩, hS.F ht⟩) hS.2.2 dX9_worthOf_83
    refine lv_if_eq (tgt := 70) hx hb dX9_worthOf_58 (by decide) (fun c58 => ?_) (fun c58 => ?_)
    · have f58 := (show wi_isEnd.toInt = 0 from z_eq rfl rfl c58)
      have r58a : ir wi_isEnd.toInt 0 0 := ir_eqa f58 hv_wi_isEnd (ir_c 0) (by decide) (by decide)
      refine lv_iload_n hx hb dX9_worthOf_70 rfl (lv_at hl 4 rfl) ?_
      exact J71 p2 _ _ _  (hP.sub [0, 1] rfl) hS (lv_sub hl [0] rfl)
    have f58 := (show wi_isEnd.toInt ≠ 0 from z_ne rfl rfl c58)
    have r58a : ir wi_isEnd.toInt 1 1 := ir_nel f58 hv_wi_isEnd (by decide) (by decide)
    refine lv_aload_n hx hb dX9_worthOf_61 rfl (lv_at hl 1 rfl) ?_
    refine lv_iload hx hb dX9_worthOf_62 (lv_at hl 5 rfl) ?_
    refine ro_i (va_runV (As := [.int r3]) (rest := []) ⟨hx, hb, hml, hown, hts⟩ (q_X9_priceOf l g cI cJ cB cZ cL r3 wi wi_side wi_rule wi_begun wi_years wi_card wi_hurt wi_isEnd wi_worth H.size hv_wi_side hv_wi_begun hv_wi_years (ir_w r58a (by decide) (by decide))) (cwV 1 hts (goodIn_app (g_4 (List.mem_cons_of_mem _ (List.mem_append_left _ (List.mem_of_getElem? (i := 14) rfl))) (List.mem_cons_of_mem _ (List.mem_append_left _ (List.mem_of_getElem? (i := 15) rfl))) (List.mem_cons_of_mem _ (List.mem_append_left _ (List.mem_of_getElem? (i := 16) rfl))) (List.mem_cons_of_mem _ (List.mem_append_left _ (List.mem_of_getElem? (i := 3) rfl))) (by decide +kernel)) (goodIn_sub (fun _ h => List.mem_cons_of_mem _ (List.mem_append_right _ (List.mem_append_right _ (List.mem_append_right _ (List.mem_append_left _ h))))) good_v_X9_priceOf)) rfl rfl rfl (by decide +kernel) ⟨Nat.le_of_ble_eq_true rfl, Nat.le_of_ble_eq_true rfl⟩) (pv_RO (q := (RX9, TX9, 8)) (ci := 9) (q0 := 0) (wc := [(wi, .inr (9, [.int wi_side, .int wi_rule, .int wi_begun, .int wi_years, .int wi_card, .int wi_hurt, .int wi_isEnd, .ref wi_worth]))]) hK hP [0] rfl rfl rfl) rfl rfl hl.1 rfl (lv_room (Nat.le_of_ble_eq_true rfl)) dX9_worthOf_64 ⟨Nat.le_of_ble_eq_true rfl, Nat.le_of_ble_eq_true rfl⟩) hS hA hP (fun r64 u64 H locs hw64 hP hS => ?_)
    refine lv_goto (tgt := 71) hx hb dX9_worthOf_67 (by decide) ?_
    exact J71 r64 _ _ _  (hP.sub [0, 1] rfl) hS (lv_sub hl [0] rfl)
  refine lv_if_ne (tgt := 34) hx hb dX9_worthOf_12 (by decide) (fun c12 => ?_) (fun c12 => ?_)
  · have f12 := (show wi_isEnd.toInt ≠ 0 from z_ne rfl rfl c12)
    have r12a : ir wi_isEnd.toInt 1 1 := ir_nel f12 hv_wi_isEnd (by decide) (by decide)
    exact J34  _ _ _  (hP.sub [0, 1] rfl) hS (lv_sub hl [1, 2, 3, 4, 0] rfl)
  have f12 := (show wi_isEnd.toInt = 0 from z_eq rfl rfl c12)
  have r12a : ir wi_isEnd.toInt 0 0 := ir_eqa f12 hv_wi_isEnd (ir_c 0) (by decide) (by decide)
  refine lv_iload_n hx hb dX9_worthOf_15 rfl (lv_at hl 2 rfl) ?_
  refine lv_aload_n hx hb dX9_worthOf_16 rfl (lv_at hl 1 rfl) ?_
  refine va_get (D := g) (ci := 9) (v := .int wi_years) (C := RX9) (T := TX9) (N := 8) hx hb hts iX9 hown hK hP 0 rfl rfl 3 (by decide) (hts (.fieldLink RX9 36 "CardsAtYule$Will" "years" "I") (List.mem_cons_of_mem _ (List.mem_append_left _ (List.mem_of_getElem? (i := 17) rfl)))) (fun _ h9 => h9) rfl dX9_worthOf_17 ?_
  refine lv_iconst (v := 1) hx hb dX9_worthOf_20 (by decide) ?_
  refine lv_isub hx hb dX9_worthOf_21 ?_
  refine lv_topi (fun y21 e21 => ?_)
  have q21 : y21.toInt = wi_years.toInt - 1 := by rw [e21]; exact su_z rfl rfl hv_wi_years (ir_c 1) (by decide) (by decide)
  have r21 : ir y21.toInt (-1) 11 := su_r q21 hv_wi_years (ir_c 1) (by decide) (by decide)
  refine lv_icmp_ne (tgt := 34) hx hb dX9_worthOf_22 (by decide) (fun c22 => ?_) (fun c22 => ?_)
  · have f22 := (show p0.toInt ≠ y21.toInt from z_ne rfl rfl c22)
    exact J34  _ _ _  (hP.sub [0, 1] rfl) hS (lv_sub hl [1, 2, 3, 4, 0] rfl)
  have f22 := (show p0.toInt = y21.toInt from z_eq rfl rfl c22)
  have r22b : ir y21.toInt 0 11 := ir_eqb f22 hv_p0 r21 (by decide) (by decide)
  refine lv_iload hx hb dX9_worthOf_25 (lv_at hl 0 rfl) ?_
  refine lv_iconst (v := 3) hx hb dX9_worthOf_27 (by decide) ?_
  refine lv_icmp_eq (tgt := 34) hx hb dX9_worthOf_28 (by decide) (fun c28 => ?_) (fun c28 => ?_)
  · have f28 := (show r3.toInt = 3 from z_eq rfl rfl c28)
    have r28a : ir r3.toInt 3 3 := ir_eqa f28 (rg_all r3) (ir_c 3) (by decide) (by decide)
    exact J34  _ _ _  (hP.sub [0, 1] rfl) hS (lv_sub hl [1, 2, 3, 4, 0] rfl)
  have f28 := (show r3.toInt ≠ 3 from z_ne rfl rfl c28)
  refine lv_ldc (v := 1000000) hx hb hown (hts (.constant RX9 43 (1000000)) (List.mem_cons_of_mem _ (List.mem_append_left _ (List.mem_of_getElem? (i := 9) rfl)))) dX9_worthOf_31 ?_
  subst hQ
  exact W.iret (v := 1000000) hx hb hr (fun t ht hW => ⟨⟨1000000, (), rfl, (show ir (1000000 : Int32).toInt (-2147483648) 1000000 by decide), trivial⟩, hS.F ht⟩) hS.2.2 dX9_worthOf_33
def v_X9_choiceFrom : List Cond := .code yX9_choiceFrom cX9_choiceFrom 3 (some .int) :: (([.methodLink RX9 81 yX9_worthOf, .instanceMethod yX9_worthOf, .selects RX9 yX9_worthOf yX9_worthOf, .initialized RX9] : List Cond) ++ (v_X9_worthOf ++ ([] : List Cond)))
theorem good_v_X9_choiceFrom : v_X9_choiceFrom.all goodWord = true := ga_c (by decide +kernel) (ga_a (by decide +kernel) (ga_a good_v_X9_worthOf rfl))
set_option maxHeartbeats 4000000 in
set_option maxRecDepth 100000 in
theorem q_X9_choiceFrom (l : Launch) (g : va_G) (cI cJ cB cZ cL : ClassId) (p0 : Int32) (p1 : Int32) (wi : Nat) (wi_side : Int32) (wi_rule : Int32) (wi_begun : Int32) (wi_years : Int32) (wi_card : Int32) (wi_hurt : Int32) (wi_isEnd : Int32) (wi_worth : Nat) (wi_worth_c : Nat → Int32) (sz : Nat) (hv_p0 : ir p0.toInt 0 11) (hv_wi_side : ir wi_side.toInt 0 1) (hv_wi_begun : ir wi_begun.toInt 0 15) (hv_wi_years : ir wi_years.toInt 0 12) (hv_wi_isEnd : ir wi_isEnd.toInt 0 1) : Met l yX9_choiceFrom v_X9_choiceFrom ({ frames := 4, cells := 0, slots := 0, locals := 96 }) (va_Pc [.ref wi, .int p0, .int p1] (pRO g (tyT cI cJ cB cZ cL) [(wi, .inr (9, [.int wi_side, .int wi_rule, .int wi_begun, .int wi_years, .int wi_card, .int wi_hurt, .int wi_isEnd, .ref wi_worth])), (wi_worth, .inl (cI, 208, .inl wi_worth_c))] sz)) (va_Qi (fun (r : Int32) (u : Unit) => (ir r.toInt 0 1)) (fun (_ : Unit) (_ : State) => True) (va_A [] sz)) 0 0 (va_A [] sz) := by
  refine Met.ofW (cc := cX9_choiceFrom) (maxL := 3) (ret := (some .int)) (by decide) rfl ?_
  intro p e s m args below meth c s₁ B hml hv
  obtain ⟨rfl, hsz, hP, hK⟩ := hv
  have hx := B.exec
  have hb := B.bytes
  have hr := B.returns
  have hts := atoms_spec (ws := v_X9_choiceFrom) B.pre
  have hown : s.vm.findClass RX9 = some m.cls := findClass_of_methodNamed B.named
  have hlocks := B.notSynchronized
  clear B
  subst hsz
  generalize hAe : (va_A [] s.heap.size) = A
  have hA : ∀ q : Nat, s.heap.size ≤ q → A q := fun q h => by rw [← hAe]; exact Or.inr h
  have hS : va_S A s.heap s.heap [] := va_S.rf
  have hl := lv_entry ([.ref wi, .int p0, .int p1]) (n := 3) (Nat.le_of_ble_eq_true rfl)
  rw [lg_entry_eq]
  generalize (lg_sl ([.ref wi, .int p0, .int p1]) ++ List.replicate (3 - (lg_sl ([.ref wi, .int p0, .int p1])).length) Slot.unset).toArray = ls at hl ⊢
  generalize ([.ref wi, .int p0, .int p1] : List Value).toArray = av at hts ⊢
  generalize hQ : MQ below _ av s _ _ A = QQ
  have hl : lv_has ls 3 [(0, .ref wi), (1, .int p0), (2, .int p1)] := hl
  have hP : va_P g vwCl [(wi, .inr (9, [.int wi_side, .int wi_rule, .int wi_begun, .int wi_years, .int wi_card, .int wi_hurt, .int wi_isEnd, .ref wi_worth])), (wi_worth, .inl (cI, 208, .inl wi_worth_c))] s.heap := hP
  refine lv_aload_n hx hb dX9_choiceFrom_0 rfl (lv_at hl 0 rfl) ?_
  refine lv_iload_n hx hb dX9_choiceFrom_1 rfl (lv_at hl 1 rfl) ?_
  refine lv_iload_n hx hb dX9_choiceFrom_2 rfl (lv_at hl 2 rfl) ?_
  refine lv_iconst (v := 0) hx hb dX9_choiceFrom_3 (by decide) ?_
  refine ro_i (va_runV (As := [.int p0, .int p1, .int 0]) (rest := []) ⟨hx, hb, hml, hown, hts⟩ (q_X9_worthOf l g cI cJ cB cZ cL p0 p1 0 wi wi_side wi_rule wi_begun wi_years wi_card wi_hurt wi_isEnd wi_worth wi_worth_c s.heap.size hv_p0 hv_wi_side hv_wi_begun hv_wi_years hv_wi_isEnd) (cwV 3 hts (goodIn_app (g_4 (List.mem_cons_of_mem _ (List.mem_append_left _ (List.mem_of_getElem? (i := 0) rfl))) (List.mem_cons_of_mem _ (List.mem_append_left _ (List.mem_of_getElem? (i := 1) rfl))) (List.mem_cons_of_mem _ (List.mem_append_left _ (List.mem_of_getElem? (i := 2) rfl))) (List.mem_cons_of_mem _ (List.mem_append_left _ (List.mem_of_getElem? (i := 3) rfl))) (by decide +kernel)) (goodIn_sub (fun _ h => List.mem_cons_of_mem _ (List.mem_append_right _ (List.mem_append_left _ h))) good_v_X9_worthOf)) rfl rfl rfl (by decide +kernel) ⟨Nat.le_of_ble_eq_true rfl, Nat.le_of_ble_eq_true rfl⟩) (pv_RO (q := (RX9, TX9, 8)) (ci := 9) (q0 := 0) (wc := [(wi, .inr (9, [.int wi_side, .int wi_rule, .int wi_begun, .int wi_years, .int wi_card, .int wi_hurt, .int wi_isEnd, .ref wi_worth])), (wi_worth, .inl (cI, 208, .inl wi_worth_c))]) hK hP [0, 1] rfl rfl rfl) rfl rfl hl.1 rfl (lv_room (Nat.le_of_ble_eq_true rfl)) dX9_choiceFrom_4 ⟨Nat.le_of_ble_eq_true rfl, Nat.le_of_ble_eq_true rfl⟩) hS hA hP (fun r4 u4 H locs hw4 hP hS => ?_)
  have hw4_0 := hw4
  refine lv_aload_n hx hb dX9_choiceFrom_7 rfl (lv_at hl 0 rfl) ?_
  refine lv_iload_n hx hb dX9_choiceFrom_8 rfl (lv_at hl 1 rfl) ?_
  refine lv_iload_n hx hb dX9_choiceFrom_9 rfl (lv_at hl 2 rfl) ?_
  refine lv_iconst (v := 1) hx hb dX9_choiceFrom_10 (by decide) ?_
  refine ro_i (va_runV (As := [.int p0, .int p1, .int 1]) (rest := [.int r4]) ⟨hx, hb, hml, hown, hts⟩ (q_X9_worthOf l g cI cJ cB cZ cL p0 p1 1 wi wi_side wi_rule wi_begun wi_years wi_card wi_hurt wi_isEnd wi_worth wi_worth_c H.size hv_p0 hv_wi_side hv_wi_begun hv_wi_years hv_wi_isEnd) (cwV 3 hts (goodIn_app (g_4 (List.mem_cons_of_mem _ (List.mem_append_left _ (List.mem_of_getElem? (i := 0) rfl))) (List.mem_cons_of_mem _ (List.mem_append_left _ (List.mem_of_getElem? (i := 1) rfl))) (List.mem_cons_of_mem _ (List.mem_append_left _ (List.mem_of_getElem? (i := 2) rfl))) (List.mem_cons_of_mem _ (List.mem_append_left _ (List.mem_of_getElem? (i := 3) rfl))) (by decide +kernel)) (goodIn_sub (fun _ h => List.mem_cons_of_mem _ (List.mem_append_right _ (List.mem_append_left _ h))) good_v_X9_worthOf)) rfl rfl rfl (by decide +kernel) ⟨Nat.le_of_ble_eq_true rfl, Nat.le_of_ble_eq_true rfl⟩) (pv_RO (q := (RX9, TX9, 8)) (ci := 9) (q0 := 0) (wc := [(wi, .inr (9, [.int wi_side, .int wi_rule, .int wi_begun, .int wi_years, .int wi_card, .int wi_hurt, .int wi_isEnd, .ref wi_worth])), (wi_worth, .inl (cI, 208, .inl wi_worth_c))]) hK hP [0, 1] rfl rfl rfl) rfl rfl hl.1 rfl (lv_room (Nat.le_of_ble_eq_true rfl)) dX9_choiceFrom_11 ⟨Nat.le_of_ble_eq_true rfl, Nat.le_of_ble_eq_true rfl⟩) hS hA hP (fun r11 u11 H locs hw11 hP hS => ?_)
  have hw11_0 := hw11
  refine lv_icmp_gt (tgt := 21) hx hb dX9_choiceFrom_14 (by decide) (fun c14 => ?_) (fun c14 => ?_)
  rotate_left 1
  · have f14 := (show r4.toInt ≤ r11.toInt from z_nlt rfl rfl c14)
    refine lv_iconst (v := 0) hx hb dX9_choiceFrom_17 (by decide) ?_
    refine lv_goto (tgt := 22) hx hb dX9_choiceFrom_18 (by decide) ?_
    subst hQ
    exact W.iret (v := 0) hx hb hr (fun t ht hW => ⟨⟨0, (), rfl, (show ir (0 : Int32).toInt 0 1 by decide), trivial⟩, hS.F ht⟩) hS.2.2 dX9_choiceFrom_22
  have f14 := (show r11.toInt < r4.toInt from z_lt rfl rfl c14)
  have r14a : ir r4.toInt (-2147483647) 1000000 := ir_ltb f14 hw11_0 hw4_0 (by decide)
  have r14b : ir r11.toInt (-2147483648) 999999 := ir_lta f14 hw11_0 hw4_0 (by decide)
  refine lv_iconst (v := 1) hx hb dX9_choiceFrom_21 (by decide) ?_
  subst hQ
  exact W.iret (v := 1) hx hb hr (fun t ht hW => ⟨⟨1, (), rfl, (show ir (1 : Int32).toInt 0 1 by decide), trivial⟩, hS.F ht⟩) hS.2.2 dX9_choiceFrom_22
def v_X9_goBack : List Cond := .code yX9_goBack cX9_goBack 3 none :: (([.fieldLink RX9 36 "CardsAtYule$Will" "years" "I", .fieldLink RX9 9 "CardsAtYule$Will" "worth" "[I", .methodLink RX9 81 yX9_worthOf, .instanceMethod yX9_worthOf, .selects RX9 yX9_worthOf yX9_worthOf, .initialized RX9, .methodLink RX9 85 Lib.Math.min.name, .static Lib.Math.min.name, .initialized "java/lang/Math", .code Lib.Math.min.name Lib.Math.min.code 2 (some .int)] : List Cond) ++ (v_X9_worthOf ++ (wsX90 ++ ([] : List Cond))))
theorem good_v_X9_goBack : v_X9_goBack.all goodWord = true := ga_c (by decide +kernel) (ga_a (by decide +kernel) (ga_a good_v_X9_worthOf (ga_a good_wsX90 rfl)))
set_option maxHeartbeats 4000000 in
set_option maxRecDepth 100000 in
theorem q_X9_goBack (l : Launch) (g : va_G) (cI cJ cB cZ cL : ClassId) (wi : Nat) (wi_side : Int32) (wi_rule : Int32) (wi_begun : Int32) (wi_years : Int32) (wi_card : Int32) (wi_hurt : Int32) (wi_isEnd : Int32) (wi_worth : Nat) (wi_worth_c : Nat → Int32) (sz : Nat) (hv_wi_side : ir wi_side.toInt 0 1) (hv_wi_begun : ir wi_begun.toInt 0 15) (hv_wi_years : ir wi_years.toInt 0 12) (hv_wi_isEnd : ir wi_isEnd.toInt 0 1) : Met l yX9_goBack v_X9_goBack ({ frames := 4, cells := 0, slots := 0, locals := 96 }) (va_Pc [.ref wi] (pRW g (tyT cI cJ cB cZ cL) [(wi, .inr (9, [.int wi_side, .int wi_rule, .int wi_begun, .int wi_years, .int wi_card, .int wi_hurt, .int wi_isEnd, .ref wi_worth])), (wi_worth, .inl (cI, 208, .inl wi_worth_c))] sz)) (va_Qv (fun (u : (Nat → Int32)) => match u with | n_wi_worth_c => True) (fun (u : (Nat → Int32)) (t : State) => bRW g (tyT cI cJ cB cZ cL) (va_A [(wi, .inr (9, [.int wi_side, .int wi_rule, .int wi_begun, .int wi_years, .int wi_card, .int wi_hurt, .int wi_isEnd, .ref wi_worth])), (wi_worth, .inl (cI, 208, .inl wi_worth_c))] sz) (match u with | n_wi_worth_c => [(wi, .inr (9, [.int wi_side, .int wi_rule, .int wi_begun, .int wi_years, .int wi_card, .int wi_hurt, .int wi_isEnd, .ref wi_worth])), (wi_worth, .inl (cI, 208, .inl n_wi_worth_c))]) t) (va_A [(wi, .inr (9, [.int wi_side, .int wi_rule, .int wi_begun, .int wi_years, .int wi_card, .int wi_hurt, .int wi_isEnd, .ref wi_worth])), (wi_worth, .inl (cI, 208, .inl wi_worth_c))] sz)) 0 0 (va_A [(wi, .inr (9, [.int wi_side, .int wi_rule, .int wi_begun, .int wi_years, .int wi_card, .int wi_hurt, .int wi_isEnd, .ref wi_worth])), (wi_worth, .inl (cI, 208, .inl wi_worth_c))] sz) := by
  refine Met.ofW (cc := cX9_goBack) (maxL := 3) (ret := none) (by decide) rfl ?_
  intro p e s m args below meth c s₁ B hml hv
  obtain ⟨rfl, hsz, hP, hK, hD0⟩ := hv
  have hx := B.exec
  have hb := B.bytes
  have hr := B.returns
  have hts := atoms_spec (ws := v_X9_goBack) B.pre
  have hown : s.vm.findClass RX9 = some m.cls := findClass_of_methodNamed B.named
  have hlocks := B.notSynchronized
  clear B
  subst hsz
  have iX9 : ∀ w ∈ wsX90, w ∈ v_X9_goBack := (fun _ h => List.mem_cons_of_mem _ (List.mem_append_right _ (List.mem_append_right _ (List.mem_append_left _ h))))
  have hD := hD0.self (sz := s.heap.size)
  generalize hAe : (va_A [(wi, .inr (9, [.int wi_side, .int wi_rule, .int wi_begun, .int wi_years, .int wi_card, .int wi_hurt, .int wi_isEnd, .ref wi_worth])), (wi_worth, .inl (cI, 208, .inl wi_worth_c))] s.heap.size) = A at hD ⊢
  have hA : ∀ q : Nat, s.heap.size ≤ q → A q := fun q h => by rw [← hAe]; exact Or.inr h
  have hS : va_S A s.heap s.heap [] := va_S.rf
  have hl := lv_entry ([.ref wi]) (n := 3) (Nat.le_of_ble_eq_true rfl)
  rw [lg_entry_eq]
  generalize (lg_sl ([.ref wi]) ++ List.replicate (3 - (lg_sl ([.ref wi])).length) Slot.unset).toArray = ls at hl ⊢
  generalize ([.ref wi] : List Value).toArray = av at hts ⊢
  generalize hQ : MQ below _ av s _ _ A = QQ
  have hl : lv_has ls 3 [(0, .ref wi)] := hl
  have hP : va_P g vwCl [(wi, .inr (9, [.int wi_side, .int wi_rule, .int wi_begun, .int wi_years, .int wi_card, .int wi_hurt, .int wi_isEnd, .ref wi_worth])), (wi_worth, .inl (cI, 208, .inl wi_worth_c))] s.heap := hP
  refine lv_aload_n hx hb dX9_goBack_0 rfl (lv_at hl 0 rfl) ?_
  refine va_get (D := g) (ci := 9) (v := .int wi_years) (C := RX9) (T := TX9) (N := 8) hx hb hts iX9 hown hK hP 0 rfl rfl 3 (by decide) (hts (.fieldLink RX9 36 "CardsAtYule$Will" "years" "I") (List.mem_cons_of_mem _ (List.mem_append_left _ (List.mem_of_getElem? (i := 0) rfl)))) (fun _ h9 => h9) rfl dX9_goBack_1 ?_
  refine lv_iconst (v := 1) hx hb dX9_goBack_4 (by decide) ?_
  refine lv_isub hx hb dX9_goBack_5 ?_
  refine lv_topi (fun y5 e5 => ?_)
  have q5 : y5.toInt = wi_years.toInt - 1 := by rw [e5]; exact su_z rfl rfl hv_wi_years (ir_c 1) (by decide) (by decide)
  have r5 : ir y5.toInt (-1) 11 := su_r q5 hv_wi_years (ir_c 1) (by decide) (by decide)
  refine lv_istore_n (lv' := [(1, .int y5), (0, .ref wi)]) hx hb dX9_goBack_6 rfl hl (by decide) rfl (fun ls hl => ?_)
  have J7 : ∀ (n7 : Nat) (j7_l1 : Int32) (j7_wi_worth_c : Nat → Int32) (H : Heap) (locs : List Loc) (ls : Array Slot), (j7_l1.toInt - (-2)).toNat < n7 → (ir j7_l1.toInt (-1) 11) → va_P g vwCl [(wi, .inr (9, [.int wi_side, .int wi_rule, .int wi_begun, .int wi_years, .int wi_card, .int wi_hurt, .int wi_isEnd, .ref wi_worth])), (wi_worth, .inl (cI, 208, .inl j7_wi_worth_c))] H → va_D A [(wi, .inr (9, [.int wi_side, .int wi_rule, .int wi_begun, .int wi_years, .int wi_card, .int wi_hurt, .int wi_isEnd, .ref wi_worth])), (wi_worth, .inl (cI, 208, .inl j7_wi_worth_c))] → va_S A s.heap H locs → lv_has ls 3 [(0, .ref wi), (1, .int j7_l1)] → W p l e (headSpec v_X9_goBack ({ frames := 4, cells := 0, slots := 0, locals := 96 })).room s m av below meth c H locs 0 0 QQ (F0 m 7 ls []) := by
    intro n7
    induction n7 with
    | zero => exact fun j7_l1 j7_wi_worth_c H locs ls hn => absurd hn (Nat.not_lt_zero _)
    | succ n7 ih7 =>
      intro j7_l1 j7_wi_worth_c H locs ls hn7 hj7_l1 hP hD hS hl
      refine lv_iload_n hx hb dX9_goBack_7 rfl (lv_at hl 1 rfl) ?_
      refine lv_if_lt (tgt := 59) hx hb dX9_goBack_8 (by decide) (fun c8 => ?_) (fun c8 => ?_)
      · have f8 := (show j7_l1.toInt < 0 from z_lt rfl rfl c8)
        have r8a : ir j7_l1.toInt (-1) (-1) := ir_lta f8 hj7_l1 (ir_c 0) (by decide)
        subst hQ
        have hP9 := hP.sub (ws' := [(wi, .inr (9, [.int wi_side, .int wi_rule, .int wi_begun, .int wi_years, .int wi_card, .int wi_hurt, .int wi_isEnd, .ref wi_worth])), (wi_worth, .inl (cI, 208, .inl j7_wi_worth_c))]) [0, 1] rfl
        have hD9 := hD.sub (ws' := [(wi, .inr (9, [.int wi_side, .int wi_rule, .int wi_begun, .int wi_years, .int wi_card, .int wi_hurt, .int wi_isEnd, .ref wi_worth])), (wi_worth, .inl (cI, 208, .inl j7_wi_worth_c))]) [0, 1] (by decide) rfl
        exact W.vret hx hb hr (fun t ht hW => ⟨⟨j7_wi_worth_c, rfl, trivial, ⟨by rw [ht]; exact hP9, va_K.moved hW.alike hK, hD9⟩⟩, hS.F ht⟩) hS.2.2 dX9_goBack_59
      have f8 := (show 0 ≤ j7_l1.toInt from z_nlt rfl rfl c8)
      have r8a : ir j7_l1.toInt 0 11 := ir_leb f8 (ir_c 0) hj7_l1 (by decide)
      refine lv_iconst (v := 0) hx hb dX9_goBack_11 (by decide) ?_
      refine lv_istore_n (lv' := [(2, .int 0), (0, .ref wi), (1, .int j7_l1)]) hx hb dX9_goBack_12 rfl hl (by decide) rfl (fun ls hl => ?_)
      have J13 : ∀ (n13 : Nat) (j13_l2 : Int32) (j13_wi_worth_c : Nat → Int32) (H : Heap) (locs : List Loc) (ls : Array Slot), (17 - j13_l2.toInt).toNat < n13 → (ir j13_l2.toInt 0 16) → va_P g vwCl [(wi, .inr (9, [.int wi_side, .int wi_rule, .int wi_begun, .int wi_years, .int wi_card, .int wi_hurt, .int wi_isEnd, .ref wi_worth])), (wi_worth, .inl (cI, 208, .inl j13_wi_worth_c))] H → va_D A [(wi, .inr (9, [.int wi_side, .int wi_rule, .int wi_begun, .int wi_years, .int wi_card, .int wi_hurt, .int wi_isEnd, .ref wi_worth])), (wi_worth, .inl (cI, 208, .inl j13_wi_worth_c))] → va_S A s.heap H locs → lv_has ls 3 [(0, .ref wi), (1, .int j7_l1), (2, .int j13_l2)] → W p l e (headSpec v_X9_goBack ({ frames := 4, cells := 0, slots := 0, locals := 96 })).room s m av below meth c H locs 0 0 QQ (F0 m 13 ls []) := by
        intro n13
        induction n13 with
        | zero => exact fun j13_l2 j13_wi_worth_c H locs ls hn => absurd hn (Nat.not_lt_zero _)
        | succ n13 ih13 =>
          intro j13_l2 j13_wi_worth_c H locs ls hn13 hj13_l2 hP hD hS hl
          refine lv_iload_n hx hb dX9_goBack_13 rfl (lv_at hl 2 rfl) ?_
          refine lv_bipush (v := 16) hx hb dX9_goBack_14 (by decide) ?_
          refine lv_icmp_ge (tgt := 53) hx hb dX9_goBack_16 (by decide) (fun c16 => ?_) (fun c16 => ?_)
          · have f16 := (show 16 ≤ j13_l2.toInt from z_le rfl rfl c16)
            have r16a : ir j13_l2.toInt 16 16 := ir_leb f16 (ir_c 16) hj13_l2 (by decide)
            obtain ⟨y53, e53⟩ : ∃ y : Int32, y = j7_l1 + (-1) := ⟨_, rfl⟩
            have q53 : y53.toInt = j7_l1.toInt + (-1) := by rw [e53]; exact ad_z rfl rfl r8a (ir_c (-1)) (by decide) (by decide)
            have r53 : ir y53.toInt (-1) 10 := ad_r q53 r8a (ir_c (-1)) (by decide) (by decide)
            refine lv_iinc (v := y53) (lv' := [(1, .int y53), (0, .ref wi), (2, .int j13_l2)]) hx hb dX9_goBack_53 hl (k := 1) rfl e53.symm (by decide) rfl (fun ls hl => ?_)
            refine lv_goto (tgt := 7) hx hb dX9_goBack_56 (by decide) ?_
            exact ih7 y53 j13_wi_worth_c _ _ _ (by omega) (ir_w r53 (by decide) (by decide)) (hP.sub [0, 1] rfl) (hD.sub [0, 1] (by decide) rfl) hS (lv_sub hl [1, 0] rfl)
          have f16 := (show j13_l2.toInt < 16 from z_nle rfl rfl c16)
          have r16a : ir j13_l2.toInt 0 15 := ir_lta f16 hj13_l2 (ir_c 16) (by decide)
          refine lv_aload_n hx hb dX9_goBack_19 rfl (lv_at hl 0 rfl) ?_
          refine va_get (D := g) (ci := 9) (v := .ref wi_worth) (C := RX9) (T := TX9) (N := 8) hx hb hts iX9 hown hK hP 0 rfl rfl 7 (by decide) (hts (.fieldLink RX9 9 "CardsAtYule$Will" "worth" "[I") (List.mem_cons_of_mem _ (List.mem_append_left _ (List.mem_of_getElem? (i := 1) rfl)))) (fun _ h9 => h9) rfl dX9_goBack_20 ?_
          refine lv_bipush (v := 16) hx hb dX9_goBack_23 (by decide) ?_
          refine lv_iload_n hx hb dX9_goBack_25 rfl (lv_at hl 1 rfl) ?_
          refine lv_imul hx hb dX9_goBack_26 ?_
          refine lv_topi (fun y26 e26 => ?_)
          have q26 : y26.toInt = 16 * j7_l1.toInt := by rw [e26]; exact mu_z rfl rfl (ir_c 16) r8a (by decide) (by decide) (by decide)
          have r26 : ir y26.toInt 0 176 := mu_r q26 (ir_c 16) r8a (by decide) (by decide) (by decide) (by decide)
          refine lv_iload_n hx hb dX9_goBack_27 rfl (lv_at hl 2 rfl) ?_
          refine lv_iadd hx hb dX9_goBack_28 ?_
          refine lv_topi (fun y28 e28 => ?_)
          have q28 : y28.toInt = y26.toInt + j13_l2.toInt := by rw [e28]; exact ad_z rfl rfl r26 r16a (by decide) (by decide)
          have r28 : ir y28.toInt 0 191 := ad_r q28 r26 r16a (by decide) (by decide)
          refine lv_aload_n hx hb dX9_goBack_29 rfl (lv_at hl 0 rfl) ?_
          refine lv_iload_n hx hb dX9_goBack_30 rfl (lv_at hl 1 rfl) ?_
          refine lv_iload_n hx hb dX9_goBack_31 rfl (lv_at hl 2 rfl) ?_
          refine lv_iconst (v := 0) hx hb dX9_goBack_32 (by decide) ?_
          refine ro_i (va_runV (As := [.int j7_l1, .int j13_l2, .int 0]) (rest := [.int y28, .ref wi_worth]) ⟨hx, hb, hml, hown, hts⟩ (q_X9_worthOf l g cI cJ cB cZ cL j7_l1 j13_l2 0 wi wi_side wi_rule wi_begun wi_years wi_card wi_hurt wi_isEnd wi_worth j13_wi_worth_c H.size r8a hv_wi_side hv_wi_begun hv_wi_years hv_wi_isEnd) (cwV 3 hts (goodIn_app (g_4 (List.mem_cons_of_mem _ (List.mem_append_left _ (List.mem_of_getElem? (i := 2) rfl))) (List.mem_cons_of_mem _ (List.mem_append_left _ (List.mem_of_getElem? (i := 3) rfl))) (List.mem_cons_of_mem _ (List.mem_append_left _ (List.mem_of_getElem? (i := 4) rfl))) (List.mem_cons_of_mem _ (List.mem_append_left _ (List.mem_of_getElem? (i := 5) rfl))) (by decide +kernel)) (goodIn_sub (fun _ h => List.mem_cons_of_mem _ (List.mem_append_right _ (List.mem_append_left _ h))) good_v_X9_worthOf)) rfl rfl rfl (by decide +kernel) ⟨Nat.le_of_ble_eq_true rfl, Nat.le_of_ble_eq_true rfl⟩) (pv_RO (q := (RX9, TX9, 8)) (ci := 9) (q0 := 0) (wc := [(wi, .inr (9, [.int wi_side, .int wi_rule, .int wi_begun, .int wi_years, .int wi_card, .int wi_hurt, .int wi_isEnd, .ref wi_worth])), (wi_worth, .inl (cI, 208, .inl j13_wi_worth_c))]) hK hP [0, 1] rfl rfl rfl) rfl rfl hl.1 rfl (lv_room (Nat.le_of_ble_eq_true rfl)) dX9_goBack_33 ⟨Nat.le_of_ble_eq_true rfl, Nat.le_of_ble_eq_true rfl⟩) hS hA hP (fun r33 u33 H locs hw33 hP hS => ?_)
          have hw33_0 := hw33
          refine lv_aload_n hx hb dX9_goBack_36 rfl (lv_at hl 0 rfl) ?_
          refine lv_iload_n hx hb dX9_goBack_37 rfl (lv_at hl 1 rfl) ?_
          refine lv_iload_n hx hb dX9_goBack_38 rfl (lv_at hl 2 rfl) ?_
          refine lv_iconst (v := 1) hx hb dX9_goBack_39 (by decide) ?_
          refine ro_i (va_runV (As := [.int j7_l1, .int j13_l2, .int 1]) (rest := [.int r33, .int y28, .ref wi_worth]) ⟨hx, hb, hml, hown, hts⟩ (q_X9_worthOf l g cI cJ cB cZ cL j7_l1 j13_l2 1 wi wi_side wi_rule wi_begun wi_years wi_card wi_hurt wi_isEnd wi_worth j13_wi_worth_c H.size r8a hv_wi_side hv_wi_begun hv_wi_years hv_wi_isEnd) (cwV 3 hts (goodIn_app (g_4 (List.mem_cons_of_mem _ (List.mem_append_left _ (List.mem_of_getElem? (i := 2) rfl))) (List.mem_cons_of_mem _ (List.mem_append_left _ (List.mem_of_getElem? (i := 3) rfl))) (List.mem_cons_of_mem _ (List.mem_append_left _ (List.mem_of_getElem? (i := 4) rfl))) (List.mem_cons_of_mem _ (List.mem_append_left _ (List.mem_of_getElem? (i := 5) rfl))) (by decide +kernel)) (goodIn_sub (fun _ h => List.mem_cons_of_mem _ (List.mem_append_right _ (List.mem_append_left _ h))) good_v_X9_worthOf)) rfl rfl rfl (by decide +kernel) ⟨Nat.le_of_ble_eq_true rfl, Nat.le_of_ble_eq_true rfl⟩) (pv_RO (q := (RX9, TX9, 8)) (ci := 9) (q0 := 0) (wc := [(wi, .inr (9, [.int wi_side, .int wi_rule, .int wi_begun, .int wi_years, .int wi_card, .int wi_hurt, .int wi_isEnd, .ref wi_worth])), (wi_worth, .inl (cI, 208, .inl j13_wi_worth_c))]) hK hP [0, 1] rfl rfl rfl) rfl rfl hl.1 rfl (lv_room (Nat.le_of_ble_eq_true rfl)) dX9_goBack_40 ⟨Nat.le_of_ble_eq_true rfl, Nat.le_of_ble_eq_true rfl⟩) hS hA hP (fun r40 u40 H locs hw40 hP hS => ?_)
          have hw40_0 := hw40
          refine va_mmin hx hb (hml.trans hl.1.symm) hown (hts (.methodLink RX9 85 Lib.Math.min.name) (List.mem_cons_of_mem _ (List.mem_append_left _ (List.mem_of_getElem? (i := 6) rfl)))) (hts (.static Lib.Math.min.name) (List.mem_cons_of_mem _ (List.mem_append_left _ (List.mem_of_getElem? (i := 7) rfl)))) (hts (.initialized "java/lang/Math") (List.mem_cons_of_mem _ (List.mem_append_left _ (List.mem_of_getElem? (i := 8) rfl)))) (hts (.code Lib.Math.min.name Lib.Math.min.code 2 (some .int)) (List.mem_cons_of_mem _ (List.mem_append_left _ (List.mem_of_getElem? (i := 9) rfl)))) (Nat.le_of_ble_eq_true rfl) (Nat.le_of_ble_eq_true rfl) (Nat.le_of_ble_eq_true rfl) (Nat.le_of_ble_eq_true rfl) dX9_goBack_43 ?_
          refine lv_topi (fun y43 e43 => ?_)
          have r43 : ir y43.toInt (-2147483648) 1000000 := by rw [e43]; exact min_r rfl rfl hw33_0 hw40_0 (by decide) (by decide) (by decide) (by decide)
          refine va_iast (D := g) hx hb hK hP hD hS 1 0 rfl rfl (vi_rg rfl r28 (by decide) (by decide)) dX9_goBack_46 (fun H locs hP hD hS => ?_)
          obtain ⟨g46, e46⟩ : ∃ z, z = upd j13_wi_worth_c y28.toNatClampNeg y43 := ⟨_, rfl⟩
          have hP : va_P g vwCl [(wi, .inr (9, [.int wi_side, .int wi_rule, .int wi_begun, .int wi_years, .int wi_card, .int wi_hurt, .int wi_isEnd, .ref wi_worth])), (wi_worth, .inl (cI, 208, .inl (upd j13_wi_worth_c y28.toNatClampNeg y43)))] H := hP
          have hD : va_D A [(wi, .inr (9, [.int wi_side, .int wi_rule, .int wi_begun, .int wi_years, .int wi_card, .int wi_hurt, .int wi_isEnd, .ref wi_worth])), (wi_worth, .inl (cI, 208, .inl (upd j13_wi_worth_c y28.toNatClampNeg y43)))] := hD
          rw [← e46] at hP hD
          obtain ⟨y47, e47⟩ : ∃ y : Int32, y = j13_l2 + 1 := ⟨_, rfl⟩
          have q47 : y47.toInt = j13_l2.toInt + 1 := by rw [e47]; exact ad_z rfl rfl r16a (ir_c 1) (by decide) (by decide)
          have r47 : ir y47.toInt 1 16 := ad_r q47 r16a (ir_c 1) (by decide) (by decide)
          refine lv_iinc (v := y47) (lv' := [(2, .int y47), (0, .ref wi), (1, .int j7_l1)]) hx hb dX9_goBack_47 hl (k := 2) rfl e47.symm (by decide) rfl (fun ls hl => ?_)
          refine lv_goto (tgt := 13) hx hb dX9_goBack_50 (by decide) ?_
          exact ih13 y47 g46 _ _ _ (by omega) (ir_w r47 (by decide) (by decide)) (hP.sub [0, 1] rfl) (hD.sub [0, 1] (by decide) rfl) hS (lv_sub hl [1, 2, 0] rfl)
      exact J13 _ 0 j7_wi_worth_c _ _ _ (Nat.lt_succ_self _) (by decide) (hP.sub [0, 1] rfl) (hD.sub [0, 1] (by decide) rfl) hS (lv_sub hl [1, 2, 0] rfl)
  exact J7 _ y5 wi_worth_c _ _ _ (Nat.lt_succ_self _) r5 (hP.sub [0, 1] rfl) (hD.sub [0, 1] (by decide) rfl) hS (lv_sub hl [1, 0] rfl)
def v_X9_take : List Cond := .code yX9_take cX9_take 5 none :: (([.fieldLink RX9 23 "CardsAtYule$Will" "side" "I", .methodLink RX9 66 yX4_ruleOfSide, .instanceMethod yX4_ruleOfSide, .selects RX4 yX4_ruleOfSide yX4_ruleOfSide, .initialized RX4, .fieldLink RX9 27 "CardsAtYule$Will" "rule" "I", .fieldLink RX9 71 "CardsAtYule$Land" "begun" "[I", .fieldLink RX9 53 "CardsAtYule$Will" "begun" "I", .fieldLink RX9 36 "CardsAtYule$Will" "years" "I", .fieldLink RX9 73 "CardsAtYule$Land" "card" "I", .fieldLink RX9 76 "CardsAtYule$Will" "card" "I", .fieldLink RX9 77 "CardsAtYule$Land" "hurt" "I", .fieldLink RX9 80 "CardsAtYule$Will" "hurt" "I"] : List Cond) ++ (v_X4_ruleOfSide ++ (wsX90 ++ (wsX40 ++ ([] : List Cond)))))
theorem good_v_X9_take : v_X9_take.all goodWord = true := ga_c (by decide +kernel) (ga_a (by decide +kernel) (ga_a good_v_X4_ruleOfSide (ga_a good_wsX90 (ga_a good_wsX40 rfl))))
set_option maxHeartbeats 4000000 in
set_option maxRecDepth 100000 in
theorem q_X9_take (l : Launch) (g : va_G) (cI cJ cB cZ cL : ClassId) (p1 : Int32) (p2 : Int32) (p3 : Int32) (wi : Nat) (ld : Nat) (wi_side : Int32) (wi_rule : Int32) (wi_begun : Int32) (wi_years : Int32) (wi_card : Int32) (wi_hurt : Int32) (wi_isEnd : Int32) (wi_worth : Nat) (ld_lines : Int32) (ld_years : Int32) (ld_card : Int32) (ld_hurt : Int32) (ld_people : Int32) (ld_pairs : Int32) (ld_strikes : Int64) (ld_rule : Nat) (ld_returns : Nat) (ld_forgets : Nat) (ld_death : Nat) (ld_move : Nat) (ld_begun : Nat) (ld_who : Nat) (ld_lost : Nat) (ld_who_c : Nat → Int32) (ld_rule_c : Nat → Int32) (ld_returns_c : Nat → Int32) (ld_begun_c : Nat → Int32) (sz : Nat) (hv_p1 : ir p1.toInt 0 15) (hv_p2 : ir p2.toInt 0 1) (hv_p3 : ir p3.toInt 1 12) (hv_wi_side : ir wi_side.toInt 0 1) (hv_wi_begun : ir wi_begun.toInt 0 15) (hv_wi_years : ir wi_years.toInt 0 12) (hv_wi_isEnd : ir wi_isEnd.toInt 0 1) (hv_ld_years : ir ld_years.toInt 0 40) (hv_ld_people : ir ld_people.toInt 0 10) (hv_ld_pairs : ir ld_pairs.toInt 0 16) (ha_ld_who_c : ar ld_who_c 32 0 9) (ha_ld_begun_c : ar ld_begun_c 16 0 15) : Met l yX9_take v_X9_take ({ frames := 1, cells := 0, slots := 0, locals := 23 }) (va_Pc [.ref wi, .ref ld, .int p1, .int p2, .int p3] (pRW g (tyT cI cJ cB cZ cL) [(wi, .inr (9, [.int wi_side, .int wi_rule, .int wi_begun, .int wi_years, .int wi_card, .int wi_hurt, .int wi_isEnd, .ref wi_worth])), (ld, .inr (4, [.int ld_lines, .int ld_years, .int ld_card, .int ld_hurt, .int ld_people, .int ld_pairs, .long ld_strikes, .ref ld_rule, .ref ld_returns, .ref ld_forgets, .ref ld_death, .ref ld_move, .ref ld_begun, .ref ld_who, .ref ld_lost])), (ld_who, .inl (cI, 32, .inl ld_who_c)), (ld_rule, .inl (cI, 10, .inl ld_rule_c)), (ld_returns, .inl (cI, 10, .inl ld_returns_c)), (ld_begun, .inl (cI, 16, .inl ld_begun_c))] sz)) (va_Qv (fun (u : Int32 × Int32 × Int32 × Int32 × Int32 × Int32) => match u with | (n_wi_side, n_wi_rule, n_wi_begun, n_wi_years, n_wi_card, n_wi_hurt) => (ir n_wi_side.toInt 0 1) ∧ (ir n_wi_begun.toInt 0 15) ∧ (ir n_wi_years.toInt 1 12)) (fun (u : Int32 × Int32 × Int32 × Int32 × Int32 × Int32) (t : State) => bRW g (tyT cI cJ cB cZ cL) (va_A [(wi, .inr (9, [.int wi_side, .int wi_rule, .int wi_begun, .int wi_years, .int wi_card, .int wi_hurt, .int wi_isEnd, .ref wi_worth])), (ld, .inr (4, [.int ld_lines, .int ld_years, .int ld_card, .int ld_hurt, .int ld_people, .int ld_pairs, .long ld_strikes, .ref ld_rule, .ref ld_returns, .ref ld_forgets, .ref ld_death, .ref ld_move, .ref ld_begun, .ref ld_who, .ref ld_lost])), (ld_who, .inl (cI, 32, .inl ld_who_c)), (ld_rule, .inl (cI, 10, .inl ld_rule_c)), (ld_returns, .inl (cI, 10, .inl ld_returns_c)), (ld_begun, .inl (cI, 16, .inl ld_begun_c))] sz) (match u with | (n_wi_side, n_wi_rule, n_wi_begun, n_wi_years, n_wi_card, n_wi_hurt) => [(wi, .inr (9, [.int n_wi_side, .int n_wi_rule, .int n_wi_begun, .int n_wi_years, .int n_wi_card, .int n_wi_hurt, .int wi_isEnd, .ref wi_worth])), (ld, .inr (4, [.int ld_lines, .int ld_years, .int ld_card, .int ld_hurt, .int ld_people, .int ld_pairs, .long ld_strikes, .ref ld_rule, .ref ld_returns, .ref ld_forgets, .ref ld_death, .ref ld_move, .ref ld_begun, .ref ld_who, .ref ld_lost])), (ld_who, .inl (cI, 32, .inl ld_who_c)), (ld_rule, .inl (cI, 10, .inl ld_rule_c)), (ld_returns, .inl (cI, 10, .inl ld_returns_c)), (ld_begun, .inl (cI, 16, .inl ld_begun_c))]) t) (va_A [(wi, .inr (9, [.int wi_side, .int wi_rule, .int wi_begun, .int wi_years, .int wi_card, .int wi_hurt, .int wi_isEnd, .ref wi_worth])), (ld, .inr (4, [.int ld_lines, .int ld_years, .int ld_card, .int ld_hurt, .int ld_people, .int ld_pairs, .long ld_strikes, .ref ld_rule, .ref ld_returns, .ref ld_forgets, .ref ld_death, .ref ld_move, .ref ld_begun, .ref ld_who, .ref ld_lost])), (ld_who, .inl (cI, 32, .inl ld_who_c)), (ld_rule, .inl (cI, 10, .inl ld_rule_c)), (ld_returns, .inl (cI, 10, .inl ld_returns_c)), (ld_begun, .inl (cI, 16, .inl ld_begun_c))] sz)) 0 0 (va_A [(wi, .inr (9, [.int wi_side, .int wi_rule, .int wi_begun, .int wi_years, .int wi_card, .int wi_hurt, .int wi_isEnd, .ref wi_worth])), (ld, .inr (4, [.int ld_lines, .int ld_years, .int ld_card, .int ld_hurt, .int ld_people, .int ld_pairs, .long ld_strikes, .ref ld_rule, .ref ld_returns, .ref ld_forgets, .ref ld_death, .ref ld_move, .ref ld_begun, .ref ld_who, .ref ld_lost])), (ld_who, .inl (cI, 32, .inl ld_who_c)), (ld_rule, .inl (cI, 10, .inl ld_rule_c)), (ld_returns, .inl (cI, 10, .inl ld_returns_c)), (ld_begun, .inl (cI, 16, .inl ld_begun_c))] sz) := by
  refine Met.ofW (cc := cX9_take) (maxL := 5) (ret := none) (by decide) rfl ?_
  intro p e s m args below meth c s₁ B hml hv
  obtain ⟨rfl, hsz, hP, hK, hD0⟩ := hv
  have hx := B.exec
  have hb := B.bytes
  have hr := B.returns
  have hts := atoms_spec (ws := v_X9_take) B.pre
  have hown : s.vm.findClass RX9 = some m.cls := findClass_of_methodNamed B.named
  have hlocks := B.notSynchronized
  clear B
  subst hsz
  have iX9 : ∀ w ∈ wsX90, w ∈ v_X9_take := (fun _ h => List.mem_cons_of_mem _ (List.mem_append_right _ (List.mem_append_right _ (List.mem_append_left _ h))))
  have iX4 : ∀ w ∈ wsX40, w ∈ v_X9_take := (fun _ h => List.mem_cons_of_mem _ (List.mem_append_right _ (List.mem_append_right _ (List.mem_append_right _ (List.mem_append_left _ h)))))
  have hD := hD0.self (sz := s.heap.size)
  generalize hAe : (va_A [(wi, .inr (9, [.int wi_side, .int wi_rule, .int wi_begun, .int wi_years, .int wi_card, .int wi_hurt, .int wi_isEnd, .ref wi_worth])), (ld, .inr (4, [.int ld_lines, .int ld_years, .int ld_card, .int ld_hurt, .int ld_people, .int ld_pairs, .long ld_strikes, .ref ld_rule, .ref ld_returns, .ref ld_forgets, .ref ld_death, .ref ld_move, .ref ld_begun, .ref ld_who, .ref ld_lost])), (ld_who, .inl (cI, 32, .inl ld_who_c)), (ld_rule, .inl (cI, 10, .inl ld_rule_c)), (ld_returns, .inl (cI, 10, .inl ld_returns_c)), (ld_begun, .inl (cI, 16, .inl ld_begun_c))] s.heap.size) = A at hD ⊢
  have hA : ∀ q : Nat, s.heap.size ≤ q → A q := fun q h => by rw [← hAe]; exact Or.inr h
  have hS : va_S A s.heap s.heap [] := va_S.rf
  have hl := lv_entry ([.ref wi, .ref ld, .int p1, .int p2, .int p3]) (n := 5) (Nat.le_of_ble_eq_true rfl)
  rw [lg_entry_eq]
  generalize (lg_sl ([.ref wi, .ref ld, .int p1, .int p2, .int p3]) ++ List.replicate (5 - (lg_sl ([.ref wi, .ref ld, .int p1, .int p2, .int p3])).length) Slot.unset).toArray = ls at hl ⊢
  generalize ([.ref wi, .ref ld, .int p1, .int p2, .int p3] : List Value).toArray = av at hts ⊢
  generalize hQ : MQ below _ av s _ _ A = QQ
  have hl : lv_has ls 5 [(0, .ref wi), (1, .ref ld), (2, .int p1), (3, .int p2), (4, .int p3)] := hl
  have hP : va_P g vwCl [(wi, .inr (9, [.int wi_side, .int wi_rule, .int wi_begun, .int wi_years, .int wi_card, .int wi_hurt, .int wi_isEnd, .ref wi_worth])), (ld, .inr (4, [.int ld_lines, .int ld_years, .int ld_card, .int ld_hurt, .int ld_people, .int ld_pairs, .long ld_strikes, .ref ld_rule, .ref ld_returns, .ref ld_forgets, .ref ld_death, .ref ld_move, .ref ld_begun, .ref ld_who, .ref ld_lost])), (ld_who, .inl (cI, 32, .inl ld_who_c)), (ld_rule, .inl (cI, 10, .inl ld_rule_c)), (ld_returns, .inl (cI, 10, .inl ld_returns_c)), (ld_begun, .inl (cI, 16, .inl ld_begun_c))] s.heap := hP
  refine lv_aload_n hx hb dX9_take_0 rfl (lv_at hl 0 rfl) ?_
  refine lv_iload_n hx hb dX9_take_1 rfl (lv_at hl 3 rfl) ?_
  refine va_put (D := g) (ci := 9) (v := .int p2) (ty := .int) (C := RX9) (T := TX9) (N := 8) hx hb hts iX9 tyX9 tyX9_ok nmX9 hown hK hP hD hS 0 rfl rfl 0 (by decide) (hts (.fieldLink RX9 23 "CardsAtYule$Will" "side" "I") (List.mem_cons_of_mem _ (List.mem_append_left _ (List.mem_of_getElem? (i := 0) rfl)))) (fun _ h9 => h9) rfl (by decide +kernel) rfl rfl (Nat.le_of_ble_eq_true rfl) dX9_take_2 (fun H locs hP hD hS => ?_)
  have hP : va_P g vwCl [(wi, .inr (9, [.int p2, .int wi_rule, .int wi_begun, .int wi_years, .int wi_card, .int wi_hurt, .int wi_isEnd, .ref wi_worth])), (ld, .inr (4, [.int ld_lines, .int ld_years, .int ld_card, .int ld_hurt, .int ld_people, .int ld_pairs, .long ld_strikes, .ref ld_rule, .ref ld_returns, .ref ld_forgets, .ref ld_death, .ref ld_move, .ref ld_begun, .ref ld_who, .ref ld_lost])), (ld_who, .inl (cI, 32, .inl ld_who_c)), (ld_rule, .inl (cI, 10, .inl ld_rule_c)), (ld_returns, .inl (cI, 10, .inl ld_returns_c)), (ld_begun, .inl (cI, 16, .inl ld_begun_c))] H := hP
  have hD : va_D A [(wi, .inr (9, [.int p2, .int wi_rule, .int wi_begun, .int wi_years, .int wi_card, .int wi_hurt, .int wi_isEnd, .ref wi_worth])), (ld, .inr (4, [.int ld_lines, .int ld_years, .int ld_card, .int ld_hurt, .int ld_people, .int ld_pairs, .long ld_strikes, .ref ld_rule, .ref ld_returns, .ref ld_forgets, .ref ld_death, .ref ld_move, .ref ld_begun, .ref ld_who, .ref ld_lost])), (ld_who, .inl (cI, 32, .inl ld_who_c)), (ld_rule, .inl (cI, 10, .inl ld_rule_c)), (ld_returns, .inl (cI, 10, .inl ld_returns_c)), (ld_begun, .inl (cI, 16, .inl ld_begun_c))] := hD
  refine lv_aload_n hx hb dX9_take_5 rfl (lv_at hl 0 rfl) ?_
  refine lv_aload_n hx hb dX9_take_6 rfl (lv_at hl 1 rfl) ?_
  refine lv_iload_n hx hb dX9_take_7 rfl (lv_at hl 2 rfl) ?_
  refine lv_iconst (v := 1) hx hb dX9_take_8 (by decide) ?_
  refine lv_iload_n hx hb dX9_take_9 rfl (lv_at hl 3 rfl) ?_
  refine lv_isub hx hb dX9_take_10 ?_
  refine lv_topi (fun y10 e10 => ?_)
  have q10 : y10.toInt = 1 - p2.toInt := by rw [e10]; exact su_z rfl rfl (ir_c 1) hv_p2 (by decide) (by decide)
  have r10 : ir y10.toInt 0 1 := su_r q10 (ir_c 1) hv_p2 (by decide) (by decide)
  refine ro_i (va_runV (As := [.int p1, .int y10]) (rest := [.ref wi]) ⟨hx, hb, hml, hown, hts⟩ (q_X4_ruleOfSide l g cI cJ cB cZ cL p1 y10 ld ld_lines ld_years ld_card ld_hurt ld_people ld_pairs ld_strikes ld_rule ld_returns ld_forgets ld_death ld_move ld_begun ld_who ld_lost ld_who_c ld_rule_c ld_returns_c H.size hv_p1 r10 hv_ld_years hv_ld_people hv_ld_pairs ha_ld_who_c) (cwV 2 hts (goodIn_app (g_4 (List.mem_cons_of_mem _ (List.mem_append_left _ (List.mem_of_getElem? (i := 1) rfl))) (List.mem_cons_of_mem _ (List.mem_append_left _ (List.mem_of_getElem? (i := 2) rfl))) (List.mem_cons_of_mem _ (List.mem_append_left _ (List.mem_of_getElem? (i := 3) rfl))) (List.mem_cons_of_mem _ (List.mem_append_left _ (List.mem_of_getElem? (i := 4) rfl))) (by decide +kernel)) (goodIn_sub (fun _ h => List.mem_cons_of_mem _ (List.mem_append_right _ (List.mem_append_left _ h))) good_v_X4_ruleOfSide)) rfl rfl rfl (by decide +kernel) ⟨Nat.le_of_ble_eq_true rfl, Nat.le_of_ble_eq_true rfl⟩) (pv_RO (q := (RX4, TX4, 15)) (ci := 4) (q0 := 0) (wc := [(ld, .inr (4, [.int ld_lines, .int ld_years, .int ld_card, .int ld_hurt, .int ld_people, .int ld_pairs, .long ld_strikes, .ref ld_rule, .ref ld_returns, .ref ld_forgets, .ref ld_death, .ref ld_move, .ref ld_begun, .ref ld_who, .ref ld_lost])), (ld_who, .inl (cI, 32, .inl ld_who_c)), (ld_rule, .inl (cI, 10, .inl ld_rule_c)), (ld_returns, .inl (cI, 10, .inl ld_returns_c))]) hK hP [1, 2, 3, 4] rfl rfl rfl) rfl rfl hl.1 rfl (lv_room (Nat.le_of_ble_eq_true rfl)) dX9_take_11 ⟨Nat.le_of_ble_eq_true rfl, Nat.le_of_ble_eq_true rfl⟩) hS hA hP (fun r11 u11 H locs hw11 hP hS => ?_)
  refine va_put (D := g) (ci := 9) (v := .int r11) (ty := .int) (C := RX9) (T := TX9) (N := 8) hx hb hts iX9 tyX9 tyX9_ok nmX9 hown hK hP hD hS 0 rfl rfl 1 (by decide) (hts (.fieldLink RX9 27 "CardsAtYule$Will" "rule" "I") (List.mem_cons_of_mem _ (List.mem_append_left _ (List.mem_of_getElem? (i := 5) rfl)))) (fun _ h9 => h9) rfl (by decide +kernel) rfl rfl (Nat.le_of_ble_eq_true rfl) dX9_take_14 (fun H locs hP hD hS => ?_)
  have hP : va_P g vwCl [(wi, .inr (9, [.int p2, .int r11, .int wi_begun, .int wi_years, .int wi_card, .int wi_hurt, .int wi_isEnd, .ref wi_worth])), (ld, .inr (4, [.int ld_lines, .int ld_years, .int ld_card, .int ld_hurt, .int ld_people, .int ld_pairs, .long ld_strikes, .ref ld_rule, .ref ld_returns, .ref ld_forgets, .ref ld_death, .ref ld_move, .ref ld_begun, .ref ld_who, .ref ld_lost])), (ld_who, .inl (cI, 32, .inl ld_who_c)), (ld_rule, .inl (cI, 10, .inl ld_rule_c)), (ld_returns, .inl (cI, 10, .inl ld_returns_c)), (ld_begun, .inl (cI, 16, .inl ld_begun_c))] H := hP
  have hD : va_D A [(wi, .inr (9, [.int p2, .int r11, .int wi_begun, .int wi_years, .int wi_card, .int wi_hurt, .int wi_isEnd, .ref wi_worth])), (ld, .inr (4, [.int ld_lines, .int ld_years, .int ld_card, .int ld_hurt, .int ld_people, .int ld_pairs, .long ld_strikes, .ref ld_rule, .ref ld_returns, .ref ld_forgets, .ref ld_death, .ref ld_move, .ref ld_begun, .ref ld_who, .ref ld_lost])), (ld_who, .inl (cI, 32, .inl ld_who_c)), (ld_rule, .inl (cI, 10, .inl ld_rule_c)), (ld_returns, .inl (cI, 10, .inl ld_returns_c)), (ld_begun, .inl (cI, 16, .inl ld_begun_c))] := hD
  refine lv_aload_n hx hb dX9_take_17 rfl (lv_at hl 0 rfl) ?_
  refine lv_aload_n hx hb dX9_take_18 rfl (lv_at hl 1 rfl) ?_
  refine va_get (D := g) (ci := 4) (v := .ref ld_begun) (C := RX4) (T := TX4) (N := 15) hx hb hts iX4 hown hK hP 1 rfl rfl 12 (by decide) (hts (.fieldLink RX9 71 "CardsAtYule$Land" "begun" "[I") (List.mem_cons_of_mem _ (List.mem_append_left _ (List.mem_of_getElem? (i := 6) rfl)))) (fun _ h9 => h9) rfl dX9_take_19 ?_
  refine lv_iload_n hx hb dX9_take_22 rfl (lv_at hl 2 rfl) ?_
  refine va_iald (D := g) hx hb hK hP 5 0 rfl rfl (vi_rg rfl hv_p1 (by decide) (by decide)) dX9_take_23 ?_
  refine lv_topi (fun y23 e23 => ?_)
  have r23 : ir y23.toInt 0 15 := by rw [e23]; exact ha_ld_begun_c _ (vi_cl (vi_rg rfl hv_p1 (by decide) (by decide)))
  refine va_put (D := g) (ci := 9) (v := .int y23) (ty := .int) (C := RX9) (T := TX9) (N := 8) hx hb hts iX9 tyX9 tyX9_ok nmX9 hown hK hP hD hS 0 rfl rfl 2 (by decide) (hts (.fieldLink RX9 53 "CardsAtYule$Will" "begun" "I") (List.mem_cons_of_mem _ (List.mem_append_left _ (List.mem_of_getElem? (i := 7) rfl)))) (fun _ h9 => h9) rfl (by decide +kernel) rfl rfl (Nat.le_of_ble_eq_true rfl) dX9_take_24 (fun H locs hP hD hS => ?_)
  have hP : va_P g vwCl [(wi, .inr (9, [.int p2, .int r11, .int y23, .int wi_years, .int wi_card, .int wi_hurt, .int wi_isEnd, .ref wi_worth])), (ld, .inr (4, [.int ld_lines, .int ld_years, .int ld_card, .int ld_hurt, .int ld_people, .int ld_pairs, .long ld_strikes, .ref ld_rule, .ref ld_returns, .ref ld_forgets, .ref ld_death, .ref ld_move, .ref ld_begun, .ref ld_who, .ref ld_lost])), (ld_who, .inl (cI, 32, .inl ld_who_c)), (ld_rule, .inl (cI, 10, .inl ld_rule_c)), (ld_returns, .inl (cI, 10, .inl ld_returns_c)), (ld_begun, .inl (cI, 16, .inl ld_begun_c))] H := hP
  have hD : va_D A [(wi, .inr (9, [.int p2, .int r11, .int y23, .int wi_years, .int wi_card, .int wi_hurt, .int wi_isEnd, .ref wi_worth])), (ld, .inr (4, [.int ld_lines, .int ld_years, .int ld_card, .int ld_hurt, .int ld_people, .int ld_pairs, .long ld_strikes, .ref ld_rule, .ref ld_returns, .ref ld_forgets, .ref ld_death, .ref ld_move, .ref ld_begun, .ref ld_who, .ref ld_lost])), (ld_who, .inl (cI, 32, .inl ld_who_c)), (ld_rule, .inl (cI, 10, .inl ld_rule_c)), (ld_returns, .inl (cI, 10, .inl ld_returns_c)), (ld_begun, .inl (cI, 16, .inl ld_begun_c))] := hD
  refine lv_aload_n hx hb dX9_take_27 rfl (lv_at hl 0 rfl) ?_
  refine lv_iload hx hb dX9_take_28 (lv_at hl 4 rfl) ?_
  refine va_put (D := g) (ci := 9) (v := .int p3) (ty := .int) (C := RX9) (T := TX9) (N := 8) hx hb hts iX9 tyX9 tyX9_ok nmX9 hown hK hP hD hS 0 rfl rfl 3 (by decide) (hts (.fieldLink RX9 36 "CardsAtYule$Will" "years" "I") (List.mem_cons_of_mem _ (List.mem_append_left _ (List.mem_of_getElem? (i := 8) rfl)))) (fun _ h9 => h9) rfl (by decide +kernel) rfl rfl (Nat.le_of_ble_eq_true rfl) dX9_take_30 (fun H locs hP hD hS => ?_)
  have hP : va_P g vwCl [(wi, .inr (9, [.int p2, .int r11, .int y23, .int p3, .int wi_card, .int wi_hurt, .int wi_isEnd, .ref wi_worth])), (ld, .inr (4, [.int ld_lines, .int ld_years, .int ld_card, .int ld_hurt, .int ld_people, .int ld_pairs, .long ld_strikes, .ref ld_rule, .ref ld_returns, .ref ld_forgets, .ref ld_death, .ref ld_move, .ref ld_begun, .ref ld_who, .ref ld_lost])), (ld_who, .inl (cI, 32, .inl ld_who_c)), (ld_rule, .inl (cI, 10, .inl ld_rule_c)), (ld_returns, .inl (cI, 10, .inl ld_returns_c)), (ld_begun, .inl (cI, 16, .inl ld_begun_c))] H := hP
  have hD : va_D A [(wi, .inr (9, [.int p2, .int r11, .int y23, .int p3, .int wi_card, .int wi_hurt, .int wi_isEnd, .ref wi_worth])), (ld, .inr (4, [.int ld_lines, .int ld_years, .int ld_card, .int ld_hurt, .int ld_people, .int ld_pairs, .long ld_strikes, .ref ld_rule, .ref ld_returns, .ref ld_forgets, .ref ld_death, .ref ld_move, .ref ld_begun, .ref ld_who, .ref ld_lost])), (ld_who, .inl (cI, 32, .inl ld_who_c)), (ld_rule, .inl (cI, 10, .inl ld_rule_c)), (ld_returns, .inl (cI, 10, .inl ld_returns_c)), (ld_begun, .inl (cI, 16, .inl ld_begun_c))] := hD
  refine lv_aload_n hx hb dX9_take_33 rfl (lv_at hl 0 rfl) ?_
  refine lv_aload_n hx hb dX9_take_34 rfl (lv_at hl 1 rfl) ?_
  refine va_get (D := g) (ci := 4) (v := .int ld_card) (C := RX4) (T := TX4) (N := 15) hx hb hts iX4 hown hK hP 1 rfl rfl 2 (by decide) (hts (.fieldLink RX9 73 "CardsAtYule$Land" "card" "I") (List.mem_cons_of_mem _ (List.mem_append_left _ (List.mem_of_getElem? (i := 9) rfl)))) (fun _ h9 => h9) rfl dX9_take_35 ?_
  refine va_put (D := g) (ci := 9) (v := .int ld_card) (ty := .int) (C := RX9) (T := TX9) (N := 8) hx hb hts iX9 tyX9 tyX9_ok nmX9 hown hK hP hD hS 0 rfl rfl 4 (by decide) (hts (.fieldLink RX9 76 "CardsAtYule$Will" "card" "I") (List.mem_cons_of_mem _ (List.mem_append_left _ (List.mem_of_getElem? (i := 10) rfl)))) (fun _ h9 => h9) rfl (by decide +kernel) rfl rfl (Nat.le_of_ble_eq_true rfl) dX9_take_38 (fun H locs hP hD hS => ?_)
  have hP : va_P g vwCl [(wi, .inr (9, [.int p2, .int r11, .int y23, .int p3, .int ld_card, .int wi_hurt, .int wi_isEnd, .ref wi_worth])), (ld, .inr (4, [.int ld_lines, .int ld_years, .int ld_card, .int ld_hurt, .int ld_people, .int ld_pairs, .long ld_strikes, .ref ld_rule, .ref ld_returns, .ref ld_forgets, .ref ld_death, .ref ld_move, .ref ld_begun, .ref ld_who, .ref ld_lost])), (ld_who, .inl (cI, 32, .inl ld_who_c)), (ld_rule, .inl (cI, 10, .inl ld_rule_c)), (ld_returns, .inl (cI, 10, .inl ld_returns_c)), (ld_begun, .inl (cI, 16, .inl ld_begun_c))] H := hP
  have hD : va_D A [(wi, .inr (9, [.int p2, .int r11, .int y23, .int p3, .int ld_card, .int wi_hurt, .int wi_isEnd, .ref wi_worth])), (ld, .inr (4, [.int ld_lines, .int ld_years, .int ld_card, .int ld_hurt, .int ld_people, .int ld_pairs, .long ld_strikes, .ref ld_rule, .ref ld_returns, .ref ld_forgets, .ref ld_death, .ref ld_move, .ref ld_begun, .ref ld_who, .ref ld_lost])), (ld_who, .inl (cI, 32, .inl ld_who_c)), (ld_rule, .inl (cI, 10, .inl ld_rule_c)), (ld_returns, .inl (cI, 10, .inl ld_returns_c)), (ld_begun, .inl (cI, 16, .inl ld_begun_c))] := hD
  refine lv_aload_n hx hb dX9_take_41 rfl (lv_at hl 0 rfl) ?_
  refine lv_aload_n hx hb dX9_take_42 rfl (lv_at hl 1 rfl) ?_
  refine va_get (D := g) (ci := 4) (v := .int ld_hurt) (C := RX4) (T := TX4) (N := 15) hx hb hts iX4 hown hK hP 1 rfl rfl 3 (by decide) (hts (.fieldLink RX9 77 "CardsAtYule$Land" "hurt" "I") (List.mem_cons_of_mem _ (List.mem_append_left _ (List.mem_of_getElem? (i := 11) rfl)))) (fun _ h9 => h9) rfl dX9_take_43 ?_
  refine va_put (D := g) (ci := 9) (v := .int ld_hurt) (ty := .int) (C := RX9) (T := TX9) (N := 8) hx hb hts iX9 tyX9 tyX9_ok nmX9 hown hK hP hD hS 0 rfl rfl 5 (by decide) (hts (.fieldLink RX9 80 "CardsAtYule$Will" "hurt" "I") (List.mem_cons_of_mem _ (List.mem_append_left _ (List.mem_of_getElem? (i := 12) rfl)))) (fun _ h9 => h9) rfl (by decide +kernel) rfl rfl (Nat.le_of_ble_eq_true rfl) dX9_take_46 (fun H locs hP hD hS => ?_)
  have hP : va_P g vwCl [(wi, .inr (9, [.int p2, .int r11, .int y23, .int p3, .int ld_card, .int ld_hurt, .int wi_isEnd, .ref wi_worth])), (ld, .inr (4, [.int ld_lines, .int ld_years, .int ld_card, .int ld_hurt, .int ld_people, .int ld_pairs, .long ld_strikes, .ref ld_rule, .ref ld_returns, .ref ld_forgets, .ref ld_death, .ref ld_move, .ref ld_begun, .ref ld_who, .ref ld_lost])), (ld_who, .inl (cI, 32, .inl ld_who_c)), (ld_rule, .inl (cI, 10, .inl ld_rule_c)), (ld_returns, .inl (cI, 10, .inl ld_returns_c)), (ld_begun, .inl (cI, 16, .inl ld_begun_c))] H := hP
  have hD : va_D A [(wi, .inr (9, [.int p2, .int r11, .int y23, .int p3, .int ld_card, .int ld_hurt, .int wi_isEnd, .ref wi_worth])), (ld, .inr (4, [.int ld_lines, .int ld_years, .int ld_card, .int ld_hurt, .int ld_people, .int ld_pairs, .long ld_strikes, .ref ld_rule, .ref ld_returns, .ref ld_forgets, .ref ld_death, .ref ld_move, .ref ld_begun, .ref ld_who, .ref ld_lost])), (ld_who, .inl (cI, 32, .inl ld_who_c)), (ld_rule, .inl (cI, 10, .inl ld_rule_c)), (ld_returns, .inl (cI, 10, .inl ld_returns_c)), (ld_begun, .inl (cI, 16, .inl ld_begun_c))] := hD
  subst hQ
  have hP9 := hP.sub (ws' := [(wi, .inr (9, [.int p2, .int r11, .int y23, .int p3, .int ld_card, .int ld_hurt, .int wi_isEnd, .ref wi_worth])), (ld, .inr (4, [.int ld_lines, .int ld_years, .int ld_card, .int ld_hurt, .int ld_people, .int ld_pairs, .long ld_strikes, .ref ld_rule, .ref ld_returns, .ref ld_forgets, .ref ld_death, .ref ld_move, .ref ld_begun, .ref ld_who, .ref ld_lost])), (ld_who, .inl (cI, 32, .inl ld_who_c)), (ld_rule, .inl (cI, 10, .inl ld_rule_c)), (ld_returns, .inl (cI, 10, .inl ld_returns_c)), (ld_begun, .inl (cI, 16, .inl ld_begun_c))]) [0, 1, 2, 3, 4, 5] rfl
  have hD9 := hD.sub (ws' := [(wi, .inr (9, [.int p2, .int r11, .int y23, .int p3, .int ld_card, .int ld_hurt, .int wi_isEnd, .ref wi_worth])), (ld, .inr (4, [.int ld_lines, .int ld_years, .int ld_card, .int ld_hurt, .int ld_people, .int ld_pairs, .long ld_strikes, .ref ld_rule, .ref ld_returns, .ref ld_forgets, .ref ld_death, .ref ld_move, .ref ld_begun, .ref ld_who, .ref ld_lost])), (ld_who, .inl (cI, 32, .inl ld_who_c)), (ld_rule, .inl (cI, 10, .inl ld_rule_c)), (ld_returns, .inl (cI, 10, .inl ld_returns_c)), (ld_begun, .inl (cI, 16, .inl ld_begun_c))]) [0, 1, 2, 3, 4, 5] (by decide) rfl
  exact W.vret hx hb hr (fun t ht hW => ⟨⟨(p2, r11, y23, p3, ld_card, ld_hurt), rfl, ⟨hv_p2, r23, hv_p3⟩, ⟨by rw [ht]; exact hP9, va_K.moved hW.alike hK, hD9⟩⟩, hS.F ht⟩) hS.2.2 dX9_take_49
def v_X9_least : List Cond := .code yX9_least cX9_least 2 (some .int) :: (([.fieldLink RX9 9 "CardsAtYule$Will" "worth" "[I", .fieldLink RX9 53 "CardsAtYule$Will" "begun" "I", .constant RX9 43 (1000000)] : List Cond) ++ (wsX90 ++ ([] : List Cond)))
theorem good_v_X9_least : v_X9_least.all goodWord = true := ga_c (by decide +kernel) (ga_a (by decide +kernel) (ga_a good_wsX90 rfl))
set_option maxHeartbeats 4000000 in
set_option maxRecDepth 100000 in
theorem q_X9_least (l : Launch) (g : va_G) (cI cJ cB cZ cL : ClassId) (wi : Nat) (wi_side : Int32) (wi_rule : Int32) (wi_begun : Int32) (wi_years : Int32) (wi_card : Int32) (wi_hurt : Int32) (wi_isEnd : Int32) (wi_worth : Nat) (wi_worth_c : Nat → Int32) (sz : Nat) (hv_wi_side : ir wi_side.toInt 0 1) (hv_wi_begun : ir wi_begun.toInt 0 15) (hv_wi_years : ir wi_years.toInt 0 12) (hv_wi_isEnd : ir wi_isEnd.toInt 0 1) : Met l yX9_least v_X9_least ({ frames := 0, cells := 0, slots := 0, locals := 0 }) (va_Pc [.ref wi] (pRO g (tyT cI cJ cB cZ cL) [(wi, .inr (9, [.int wi_side, .int wi_rule, .int wi_begun, .int wi_years, .int wi_card, .int wi_hurt, .int wi_isEnd, .ref wi_worth])), (wi_worth, .inl (cI, 208, .inl wi_worth_c))] sz)) (va_Qi (fun (r : Int32) (u : Unit) => (ir r.toInt (-2147483648) 999999)) (fun (_ : Unit) (_ : State) => True) (va_A [] sz)) 0 0 (va_A [] sz) := by
  refine Met.ofW (cc := cX9_least) (maxL := 2) (ret := (some .int)) (by decide) rfl ?_
  intro p e s m args below meth c s₁ B hml hv
  obtain ⟨rfl, hsz, hP, hK⟩ := hv
  have hx := B.exec
  have hb := B.bytes
  have hr := B.returns
  have hts := atoms_spec (ws := v_X9_least) B.pre
  have hown : s.vm.findClass RX9 = some m.cls := findClass_of_methodNamed B.named
  have hlocks := B.notSynchronized
  clear B
  subst hsz
  have iX9 : ∀ w ∈ wsX90, w ∈ v_X9_least := (fun _ h => List.mem_cons_of_mem _ (List.mem_append_right _ (List.mem_append_left _ h)))
  generalize hAe : (va_A [] s.heap.size) = A
  have hA : ∀ q : Nat, s.heap.size ≤ q → A q := fun q h => by rw [← hAe]; exact Or.inr h
  have hS : va_S A s.heap s.heap [] := va_S.rf
  have hl := lv_entry ([.ref wi]) (n := 2) (Nat.le_of_ble_eq_true rfl)
  rw [lg_entry_eq]
  generalize (lg_sl ([.ref wi]) ++ List.replicate (2 - (lg_sl ([.ref wi])).length) Slot.unset).toArray = ls at hl ⊢
  generalize ([.ref wi] : List Value).toArray = av at hts ⊢
  generalize hQ : MQ below _ av s _ _ A = QQ
  have hl : lv_has ls 2 [(0, .ref wi)] := hl
  have hP : va_P g vwCl [(wi, .inr (9, [.int wi_side, .int wi_rule, .int wi_begun, .int wi_years, .int wi_card, .int wi_hurt, .int wi_isEnd, .ref wi_worth])), (wi_worth, .inl (cI, 208, .inl wi_worth_c))] s.heap := hP
  refine lv_aload_n hx hb dX9_least_0 rfl (lv_at hl 0 rfl) ?_
  refine va_get (D := g) (ci := 9) (v := .ref wi_worth) (C := RX9) (T := TX9) (N := 8) hx hb hts iX9 hown hK hP 0 rfl rfl 7 (by decide) (hts (.fieldLink RX9 9 "CardsAtYule$Will" "worth" "[I") (List.mem_cons_of_mem _ (List.mem_append_left _ (List.mem_of_getElem? (i := 0) rfl)))) (fun _ h9 => h9) rfl dX9_least_1 ?_
  refine lv_aload_n hx hb dX9_least_4 rfl (lv_at hl 0 rfl) ?_
  refine va_get (D := g) (ci := 9) (v := .int wi_begun) (C := RX9) (T := TX9) (N := 8) hx hb hts iX9 hown hK hP 0 rfl rfl 2 (by decide) (hts (.fieldLink RX9 53 "CardsAtYule$Will" "begun" "I") (List.mem_cons_of_mem _ (List.mem_append_left _ (List.mem_of_getElem? (i := 1) rfl)))) (fun _ h9 => h9) rfl dX9_least_5 ?_
  refine va_iald (D := g) hx hb hK hP 1 0 rfl rfl (vi_rg rfl hv_wi_begun (by decide) (by decide)) dX9_least_8 ?_
  refine lv_topi (fun y8 e8 => ?_)
  refine lv_istore_n (lv' := [(1, .int y8), (0, .ref wi)]) hx hb dX9_least_9 rfl hl (by decide) rfl (fun ls hl => ?_)
  refine lv_iload_n hx hb dX9_least_10 rfl (lv_at hl 0 rfl) ?_
  refine lv_ldc (v := 1000000) hx hb hown (hts (.constant RX9 43 (1000000)) (List.mem_cons_of_mem _ (List.mem_append_left _ (List.mem_of_getElem? (i := 2) rfl)))) dX9_least_11 ?_
  refine lv_icmp_lt (tgt := 20) hx hb dX9_least_13 (by decide) (fun c13 => ?_) (fun c13 => ?_)
  · have f13 := (show y8.toInt < 1000000 from z_lt rfl rfl c13)
    have r13a : ir y8.toInt (-2147483648) 999999 := ir_lta f13 (rg_all y8) (ir_c 1000000) (by decide)
    refine lv_iload_n hx hb dX9_least_20 rfl (lv_at hl 0 rfl) ?_
    subst hQ
    exact W.iret (v := y8) hx hb hr (fun t ht hW => ⟨⟨y8, (), rfl, r13a, trivial⟩, hS.F ht⟩) hS.2.2 dX9_least_21
  have f13 := (show 1000000 ≤ y8.toInt from z_nlt rfl rfl c13)
  have r13a : ir y8.toInt 1000000 2147483647 := ir_leb f13 (ir_c 1000000) (rg_all y8) (by decide)
  refine lv_iconst (v := (-1)) hx hb dX9_least_16 (by decide) ?_
  refine lv_goto (tgt := 21) hx hb dX9_least_17 (by decide) ?_
  subst hQ
  exact W.iret (v := (-1)) hx hb hr (fun t ht hW => ⟨⟨(-1), (), rfl, (show ir ((-1) : Int32).toInt (-2147483648) 999999 by decide), trivial⟩, hS.F ht⟩) hS.2.2 dX9_least_21
def v_X9_choiceIn : List Cond := .code yX9_choiceIn cX9_choiceIn 4 (some .int) :: (([.methodLink RX9 56 yX9_least, .instanceMethod yX9_least, .selects RX9 yX9_least yX9_least, .initialized RX9, .fieldLink RX9 53 "CardsAtYule$Will" "begun" "I", .methodLink RX9 59 yX9_choiceFrom, .instanceMethod yX9_choiceFrom, .selects RX9 yX9_choiceFrom yX9_choiceFrom, .methodLink RX9 63 yX9_next, .instanceMethod yX9_next, .selects RX9 yX9_next yX9_next] : List Cond) ++ (v_X9_least ++ (v_X9_choiceFrom ++ (v_X9_next ++ (wsX90 ++ ([] : List Cond))))))
theorem good_v_X9_choiceIn : v_X9_choiceIn.all goodWord = true := ga_c (by decide +kernel) (ga_a (by decide +kernel) (ga_a good_v_X9_least (ga_a good_v_X9_choiceFrom (ga_a good_v_X9_next (ga_a good_wsX90 rfl)))))
set_option maxHeartbeats 4000000 in
set_option maxRecDepth 100000 in
theorem q_X9_choiceIn (l : Launch) (g : va_G) (cI cJ cB cZ cL : ClassId) (p0 : Int32) (wi : Nat) (wi_side : Int32) (wi_rule : Int32) (wi_begun : Int32) (wi_years : Int32) (wi_card : Int32) (wi_hurt : Int32) (wi_isEnd : Int32) (wi_worth : Nat) (wi_worth_c : Nat → Int32) (sz : Nat) (hv_p0 : ir p0.toInt 0 11) (hv_wi_side : ir wi_side.toInt 0 1) (hv_wi_begun : ir wi_begun.toInt 0 15) (hv_wi_years : ir wi_years.toInt 0 12) (hv_wi_isEnd : ir wi_isEnd.toInt 0 1) : Met l yX9_choiceIn v_X9_choiceIn ({ frames := 5, cells := 0, slots := 0, locals := 118 }) (va_Pc [.ref wi, .int p0] (pRO g (tyT cI cJ cB cZ cL) [(wi, .inr (9, [.int wi_side, .int wi_rule, .int wi_begun, .int wi_years, .int wi_card, .int wi_hurt, .int wi_isEnd, .ref wi_worth])), (wi_worth, .inl (cI, 208, .inl wi_worth_c))] sz)) (va_Qi (fun (r : Int32) (u : Unit) => (ir r.toInt (-1) 1)) (fun (_ : Unit) (_ : State) => True) (va_A [] sz)) 0 0 (va_A [] sz) := by
  refine Met.ofW (cc := cX9_choiceIn) (maxL := 4) (ret := (some .int)) (by decide) rfl ?_
  intro p e s m args below meth c s₁ B hml hv
  obtain ⟨rfl, hsz, hP, hK⟩ := hv
  have hx := B.exec
  have hb := B.bytes
  have hr := B.returns
  have hts := atoms_spec (ws := v_X9_choiceIn) B.pre
  have hown : s.vm.findClass RX9 = some m.cls := findClass_of_methodNamed B.named
  have hlocks := B.notSynchronized
  clear B
  subst hsz
  have iX9 : ∀ w ∈ wsX90, w ∈ v_X9_choiceIn := (fun _ h => List.mem_cons_of_mem _ (List.mem_append_right _ (List.mem_append_right _ (List.mem_append_right _ (List.mem_append_right _ (List.mem_append_left _ h))))))
  generalize hAe : (va_A [] s.heap.size) = A
  have hA : ∀ q : Nat, s.heap.size ≤ q → A q := fun q h => by rw [← hAe]; exact Or.inr h
  have hS : va_S A s.heap s.heap [] := va_S.rf
  have hl := lv_entry ([.ref wi, .int p0]) (n := 4) (Nat.le_of_ble_eq_true rfl)
  rw [lg_entry_eq]
  generalize (lg_sl ([.ref wi, .int p0]) ++ List.replicate (4 - (lg_sl ([.ref wi, .int p0])).length) Slot.unset).toArray = ls at hl ⊢
  generalize ([.ref wi, .int p0] : List Value).toArray = av at hts ⊢
  generalize hQ : MQ below _ av s _ _ A = QQ
  have hl : lv_has ls 4 [(0, .ref wi), (1, .int p0)] := hl
  have hP : va_P g vwCl [(wi, .inr (9, [.int wi_side, .int wi_rule, .int wi_begun, .int wi_years, .int wi_card, .int wi_hurt, .int wi_isEnd, .ref wi_worth])), (wi_worth, .inl (cI, 208, .inl wi_worth_c))] s.heap := hP
  refine lv_aload_n hx hb dX9_choiceIn_0 rfl (lv_at hl 0 rfl) ?_
  refine ro_i (va_runV (As := []) (rest := []) ⟨hx, hb, hml, hown, hts⟩ (q_X9_least l g cI cJ cB cZ cL wi wi_side wi_rule wi_begun wi_years wi_card wi_hurt wi_isEnd wi_worth wi_worth_c s.heap.size hv_wi_side hv_wi_begun hv_wi_years hv_wi_isEnd) (cwV 0 hts (goodIn_app (g_4 (List.mem_cons_of_mem _ (List.mem_append_left _ (List.mem_of_getElem? (i := 0) rfl))) (List.mem_cons_of_mem _ (List.mem_append_left _ (List.mem_of_getElem? (i := 1) rfl))) (List.mem_cons_of_mem _ (List.mem_append_left _ (List.mem_of_getElem? (i := 2) rfl))) (List.mem_cons_of_mem _ (List.mem_append_left _ (List.mem_of_getElem? (i := 3) rfl))) (by decide +kernel)) (goodIn_sub (fun _ h => List.mem_cons_of_mem _ (List.mem_append_right _ (List.mem_append_left _ h))) good_v_X9_least)) rfl rfl rfl (by decide +kernel) ⟨Nat.le_of_ble_eq_true rfl, Nat.le_of_ble_eq_true rfl⟩) (pv_RO (q := (RX9, TX9, 8)) (ci := 9) (q0 := 0) (wc := [(wi, .inr (9, [.int wi_side, .int wi_rule, .int wi_begun, .int wi_years, .int wi_card, .int wi_hurt, .int wi_isEnd, .ref wi_worth])), (wi_worth, .inl (cI, 208, .inl wi_worth_c))]) hK hP [0, 1] rfl rfl rfl) rfl rfl hl.1 rfl (lv_room (Nat.le_of_ble_eq_true rfl)) dX9_choiceIn_1 ⟨Nat.le_of_ble_eq_true rfl, Nat.le_of_ble_eq_true rfl⟩) hS hA hP (fun r1 u1 H locs hw1 hP hS => ?_)
  have hw1_0 := hw1
  refine lv_iconst (v := (-1)) hx hb dX9_choiceIn_4 (by decide) ?_
  refine lv_icmp_ne (tgt := 10) hx hb dX9_choiceIn_5 (by decide) (fun c5 => ?_) (fun c5 => ?_)
  rotate_left 1
  · have f5 := (show r1.toInt = (-1) from z_eq rfl rfl c5)
    have r5a : ir r1.toInt (-1) (-1) := ir_eqa f5 hw1_0 (ir_c (-1)) (by decide) (by decide)
    refine lv_iconst (v := (-1)) hx hb dX9_choiceIn_8 (by decide) ?_
    subst hQ
    exact W.iret (v := (-1)) hx hb hr (fun t ht hW => ⟨⟨(-1), (), rfl, (show ir ((-1) : Int32).toInt (-1) 1 by decide), trivial⟩, hS.F ht⟩) hS.2.2 dX9_choiceIn_9
  have f5 := (show r1.toInt ≠ (-1) from z_ne rfl rfl c5)
  refine lv_aload_n hx hb dX9_choiceIn_10 rfl (lv_at hl 0 rfl) ?_
  refine va_get (D := g) (ci := 9) (v := .int wi_begun) (C := RX9) (T := TX9) (N := 8) hx hb hts iX9 hown hK hP 0 rfl rfl 2 (by decide) (hts (.fieldLink RX9 53 "CardsAtYule$Will" "begun" "I") (List.mem_cons_of_mem _ (List.mem_append_left _ (List.mem_of_getElem? (i := 4) rfl)))) (fun _ h9 => h9) rfl dX9_choiceIn_11 ?_
  refine lv_istore_n (lv' := [(2, .int wi_begun), (0, .ref wi), (1, .int p0)]) hx hb dX9_choiceIn_14 rfl hl (by decide) rfl (fun ls hl => ?_)
  refine lv_iconst (v := 0) hx hb dX9_choiceIn_15 (by decide) ?_
  refine lv_istore_n (lv' := [(3, .int 0), (2, .int wi_begun), (0, .ref wi), (1, .int p0)]) hx hb dX9_choiceIn_16 rfl hl (by decide) rfl (fun ls hl => ?_)
  have J17 : ∀ (n17 : Nat) (j17_l2 : Int32) (j17_l3 : Int32) (H : Heap) (locs : List Loc) (ls : Array Slot), (12 - j17_l3.toInt).toNat < n17 → (ir j17_l2.toInt 0 15) → (ir j17_l3.toInt 0 11) → va_P g vwCl [(wi, .inr (9, [.int wi_side, .int wi_rule, .int wi_begun, .int wi_years, .int wi_card, .int wi_hurt, .int wi_isEnd, .ref wi_worth])), (wi_worth, .inl (cI, 208, .inl wi_worth_c))] H → va_S A s.heap H locs → lv_has ls 4 [(0, .ref wi), (1, .int p0), (2, .int j17_l2), (3, .int j17_l3)] → W p l e (headSpec v_X9_choiceIn ({ frames := 5, cells := 0, slots := 0, locals := 118 })).room s m av below meth c H locs 0 0 QQ (F0 m 17 ls []) := by
    intro n17
    induction n17 with
    | zero => exact fun j17_l2 j17_l3 H locs ls hn => absurd hn (Nat.not_lt_zero _)
    | succ n17 ih17 =>
      intro j17_l2 j17_l3 H locs ls hn17 hj17_l2 hj17_l3 hP hS hl
      refine lv_iload_n hx hb dX9_choiceIn_17 rfl (lv_at hl 3 rfl) ?_
      refine lv_iload_n hx hb dX9_choiceIn_18 rfl (lv_at hl 1 rfl) ?_
      refine lv_icmp_ge (tgt := 40) hx hb dX9_choiceIn_19 (by decide) (fun c19 => ?_) (fun c19 => ?_)
      · have f19 := (show p0.toInt ≤ j17_l3.toInt from z_le rfl rfl c19)
        refine lv_aload_n hx hb dX9_choiceIn_40 rfl (lv_at hl 0 rfl) ?_
        refine lv_iload_n hx hb dX9_choiceIn_41 rfl (lv_at hl 1 rfl) ?_
        refine lv_iload_n hx hb dX9_choiceIn_42 rfl (lv_at hl 2 rfl) ?_
        refine ro_i (va_runV (As := [.int p0, .int j17_l2]) (rest := []) ⟨hx, hb, hml, hown, hts⟩ (q_X9_choiceFrom l g cI cJ cB cZ cL p0 j17_l2 wi wi_side wi_rule wi_begun wi_years wi_card wi_hurt wi_isEnd wi_worth wi_worth_c H.size hv_p0 hv_wi_side hv_wi_begun hv_wi_years hv_wi_isEnd) (cwV 2 hts (goodIn_app (g_4 (List.mem_cons_of_mem _ (List.mem_append_left _ (List.mem_of_getElem? (i := 5) rfl))) (List.mem_cons_of_mem _ (List.mem_append_left _ (List.mem_of_getElem? (i := 6) rfl))) (List.mem_cons_of_mem _ (List.mem_append_left _ (List.mem_of_getElem? (i := 7) rfl))) (List.mem_cons_of_mem _ (List.mem_append_left _ (List.mem_of_getElem? (i := 3) rfl))) (by decide +kernel)) (goodIn_sub (fun _ h => List.mem_cons_of_mem _ (List.mem_append_right _ (List.mem_append_right _ (List.mem_append_left _ h)))) good_v_X9_choiceFrom)) rfl rfl rfl (by decide +kernel) ⟨Nat.le_of_ble_eq_true rfl, Nat.le_of_ble_eq_true rfl⟩) (pv_RO (q := (RX9, TX9, 8)) (ci := 9) (q0 := 0) (wc := [(wi, .inr (9, [.int wi_side, .int wi_rule, .int wi_begun, .int wi_years, .int wi_card, .int wi_hurt, .int wi_isEnd, .ref wi_worth])), (wi_worth, .inl (cI, 208, .inl wi_worth_c))]) hK hP [0, 1] rfl rfl rfl) rfl rfl hl.1 rfl (lv_room (Nat.le_of_ble_eq_true rfl)) dX9_choiceIn_43 ⟨Nat.le_of_ble_eq_true rfl, Nat.le_of_ble_eq_true rfl⟩) hS hA hP (fun r43 u43 H locs hw43 hP hS => ?_)
        have hw43_0 := hw43
        subst hQ
        exact W.iret (v := r43) hx hb hr (fun t ht hW => ⟨⟨r43, (), rfl, (ir_w hw43_0 (by decide) (by decide)), trivial⟩, hS.F ht⟩) hS.2.2 dX9_choiceIn_46
      have f19 := (show j17_l3.toInt < p0.toInt from z_nle rfl rfl c19)
      have r19a : ir j17_l3.toInt 0 10 := ir_lta f19 hj17_l3 hv_p0 (by decide)
      have r19b : ir p0.toInt 1 11 := ir_ltb f19 hj17_l3 hv_p0 (by decide)
      refine lv_aload_n hx hb dX9_choiceIn_22 rfl (lv_at hl 0 rfl) ?_
      refine lv_iload_n hx hb dX9_choiceIn_23 rfl (lv_at hl 2 rfl) ?_
      refine lv_aload_n hx hb dX9_choiceIn_24 rfl (lv_at hl 0 rfl) ?_
      refine lv_iload_n hx hb dX9_choiceIn_25 rfl (lv_at hl 3 rfl) ?_
      refine lv_iload_n hx hb dX9_choiceIn_26 rfl (lv_at hl 2 rfl) ?_
      refine ro_i (va_runV (As := [.int j17_l3, .int j17_l2]) (rest := [.int j17_l2, .ref wi]) ⟨hx, hb, hml, hown, hts⟩ (q_X9_choiceFrom l g cI cJ cB cZ cL j17_l3 j17_l2 wi wi_side wi_rule wi_begun wi_years wi_card wi_hurt wi_isEnd wi_worth wi_worth_c H.size (ir_w r19a (by decide) (by decide)) hv_wi_side hv_wi_begun hv_wi_years hv_wi_isEnd) (cwV 2 hts (goodIn_app (g_4 (List.mem_cons_of_mem _ (List.mem_append_left _ (List.mem_of_getElem? (i := 5) rfl))) (List.mem_cons_of_mem _ (List.mem_append_left _ (List.mem_of_getElem? (i := 6) rfl))) (List.mem_cons_of_mem _ (List.mem_append_left _ (List.mem_of_getElem? (i := 7) rfl))) (List.mem_cons_of_mem _ (List.mem_append_left _ (List.mem_of_getElem? (i := 3) rfl))) (by decide +kernel)) (goodIn_sub (fun _ h => List.mem_cons_of_mem _ (List.mem_append_right _ (List.mem_append_right _ (List.mem_append_left _ h)))) good_v_X9_choiceFrom)) rfl rfl rfl (by decide +kernel) ⟨Nat.le_of_ble_eq_true rfl, Nat.le_of_ble_eq_true rfl⟩) (pv_RO (q := (RX9, TX9, 8)) (ci := 9) (q0 := 0) (wc := [(wi, .inr (9, [.int wi_side, .int wi_rule, .int wi_begun, .int wi_years, .int wi_card, .int wi_hurt, .int wi_isEnd, .ref wi_worth])), (wi_worth, .inl (cI, 208, .inl wi_worth_c))]) hK hP [0, 1] rfl rfl rfl) rfl rfl hl.1 rfl (lv_room (Nat.le_of_ble_eq_true rfl)) dX9_choiceIn_27 ⟨Nat.le_of_ble_eq_true rfl, Nat.le_of_ble_eq_true rfl⟩) hS hA hP (fun r27 u27 H locs hw27 hP hS => ?_)
      have hw27_0 := hw27
      refine ro_i (va_runV (As := [.int j17_l2, .int r27]) (rest := []) ⟨hx, hb, hml, hown, hts⟩ (q_X9_next l g cI cJ cB cZ cL j17_l2 r27 wi wi_side wi_rule wi_begun wi_years wi_card wi_hurt wi_isEnd wi_worth H.size hv_wi_side hv_wi_begun hv_wi_years hv_wi_isEnd) (cwV 2 hts (goodIn_app (g_4 (List.mem_cons_of_mem _ (List.mem_append_left _ (List.mem_of_getElem? (i := 8) rfl))) (List.mem_cons_of_mem _ (List.mem_append_left _ (List.mem_of_getElem? (i := 9) rfl))) (List.mem_cons_of_mem _ (List.mem_append_left _ (List.mem_of_getElem? (i := 10) rfl))) (List.mem_cons_of_mem _ (List.mem_append_left _ (List.mem_of_getElem? (i := 3) rfl))) (by decide +kernel)) (goodIn_sub (fun _ h => List.mem_cons_of_mem _ (List.mem_append_right _ (List.mem_append_right _ (List.mem_append_right _ (List.mem_append_left _ h))))) good_v_X9_next)) rfl rfl rfl (by decide +kernel) ⟨Nat.le_of_ble_eq_true rfl, Nat.le_of_ble_eq_true rfl⟩) (pv_RO (q := (RX9, TX9, 8)) (ci := 9) (q0 := 0) (wc := [(wi, .inr (9, [.int wi_side, .int wi_rule, .int wi_begun, .int wi_years, .int wi_card, .int wi_hurt, .int wi_isEnd, .ref wi_worth]))]) hK hP [0] rfl rfl rfl) rfl rfl hl.1 rfl (lv_room (Nat.le_of_ble_eq_true rfl)) dX9_choiceIn_30 ⟨Nat.le_of_ble_eq_true rfl, Nat.le_of_ble_eq_true rfl⟩) hS hA hP (fun r30 u30 H locs hw30 hP hS => ?_)
      have hw30_0 := hw30
      refine lv_istore_n (lv' := [(2, .int r30), (0, .ref wi), (1, .int p0), (3, .int j17_l3)]) hx hb dX9_choiceIn_33 rfl hl (by decide) rfl (fun ls hl => ?_)
      obtain ⟨y34, e34⟩ : ∃ y : Int32, y = j17_l3 + 1 := ⟨_, rfl⟩
      have q34 : y34.toInt = j17_l3.toInt + 1 := by rw [e34]; exact ad_z rfl rfl r19a (ir_c 1) (by decide) (by decide)
      have r34 : ir y34.toInt 1 11 := ad_r q34 r19a (ir_c 1) (by decide) (by decide)
      refine lv_iinc (v := y34) (lv' := [(3, .int y34), (2, .int r30), (0, .ref wi), (1, .int p0)]) hx hb dX9_choiceIn_34 hl (k := 3) rfl e34.symm (by decide) rfl (fun ls hl => ?_)
      refine lv_goto (tgt := 17) hx hb dX9_choiceIn_37 (by decide) ?_
      exact ih17 r30 y34 _ _ _ (by omega) hw30_0 (ir_w r34 (by decide) (by decide)) (hP.sub [0, 1] rfl) hS (lv_sub hl [2, 3, 1, 0] rfl)
  exact J17 _ wi_begun 0 _ _ _ (Nat.lt_succ_self _) hv_wi_begun (by decide) (hP.sub [0, 1] rfl) hS (lv_sub hl [2, 3, 1, 0] rfl)
def v_X9_planEnd : List Cond := .code yX9_planEnd cX9_planEnd 7 none :: (([.methodLink RX9 15 yX9_take, .instanceMethod yX9_take, .selects RX9 yX9_take yX9_take, .initialized RX9, .fieldLink RX9 19 "CardsAtYule$Will" "isEnd" "Z", .methodLink RX9 44 yX9_goBack, .instanceMethod yX9_goBack, .selects RX9 yX9_goBack yX9_goBack, .fieldLink RX9 23 "CardsAtYule$Will" "side" "I", .methodLink RX9 30 yX3_find, .instanceMethod yX3_find, .selects RX3 yX3_find yX3_find, .initialized RX3, .fieldLink RX9 9 "CardsAtYule$Will" "worth" "[I", .fieldLink RX9 36 "CardsAtYule$Will" "years" "I", .methodLink RX9 39 yX3_kind, .instanceMethod yX3_kind, .selects RX3 yX3_kind yX3_kind, .constant RX9 43 (1000000), .fieldLink RX9 27 "CardsAtYule$Will" "rule" "I"] : List Cond) ++ (v_X9_take ++ (v_X9_goBack ++ (v_X3_find ++ (v_X3_kind ++ (wsX90 ++ ([] : List Cond)))))))
theorem good_v_X9_planEnd : v_X9_planEnd.all goodWord = true := ga_c (by decide +kernel) (ga_a (by decide +kernel) (ga_a good_v_X9_take (ga_a good_v_X9_goBack (ga_a good_v_X3_find (ga_a good_v_X3_kind (ga_a good_wsX90 rfl))))))
set_option maxHeartbeats 4000000 in
set_option maxRecDepth 100000 in
theorem q_X9_planEnd (l : Launch) (g : va_G) (cI cJ cB cZ cL : ClassId) (p1 : Int32) (p2 : Int32) (p3 : Int32) (wi : Nat) (ld : Nat) (fa : Nat) (wi_side : Int32) (wi_rule : Int32) (wi_begun : Int32) (wi_years : Int32) (wi_card : Int32) (wi_hurt : Int32) (wi_isEnd : Int32) (wi_worth : Nat) (ld_lines : Int32) (ld_years : Int32) (ld_card : Int32) (ld_hurt : Int32) (ld_people : Int32) (ld_pairs : Int32) (ld_strikes : Int64) (ld_rule : Nat) (ld_returns : Nat) (ld_forgets : Nat) (ld_death : Nat) (ld_move : Nat) (ld_begun : Nat) (ld_who : Nat) (ld_lost : Nat) (ld_who_c : Nat → Int32) (ld_rule_c : Nat → Int32) (ld_returns_c : Nat → Int32) (ld_begun_c : Nat → Int32) (fa_begins : Int32) (fa_length : Int32) (fa_cards : Int32) (fa_round : Int32) (fa_rule0 : Int32) (fa_rule1 : Int32) (fa_yearOf : Nat) (fa_yearOf_c : Nat → Int32) (wi_worth_c : Nat → Int32) (sz : Nat) (hv_p1 : ir p1.toInt 0 15) (hv_p2 : ir p2.toInt 0 1) (hv_p3 : ir p3.toInt 1 12) (hv_wi_side : ir wi_side.toInt 0 1) (hv_wi_begun : ir wi_begun.toInt 0 15) (hv_wi_years : ir wi_years.toInt 0 12) (hv_wi_isEnd : ir wi_isEnd.toInt 0 1) (hv_ld_years : ir ld_years.toInt 0 40) (hv_ld_people : ir ld_people.toInt 0 10) (hv_ld_pairs : ir ld_pairs.toInt 0 16) (ha_ld_who_c : ar ld_who_c 32 0 9) (ha_ld_begun_c : ar ld_begun_c 16 0 15) (hv_fa_round : ir fa_round.toInt 0 15) : Met l yX9_planEnd v_X9_planEnd ({ frames := 5, cells := 0, slots := 0, locals := 118 }) (va_Pc [.ref wi, .ref ld, .int p1, .int p2, .int p3, .ref fa] (pRW g (tyT cI cJ cB cZ cL) [(wi, .inr (9, [.int wi_side, .int wi_rule, .int wi_begun, .int wi_years, .int wi_card, .int wi_hurt, .int wi_isEnd, .ref wi_worth])), (ld, .inr (4, [.int ld_lines, .int ld_years, .int ld_card, .int ld_hurt, .int ld_people, .int ld_pairs, .long ld_strikes, .ref ld_rule, .ref ld_returns, .ref ld_forgets, .ref ld_death, .ref ld_move, .ref ld_begun, .ref ld_who, .ref ld_lost])), (ld_who, .inl (cI, 32, .inl ld_who_c)), (ld_rule, .inl (cI, 10, .inl ld_rule_c)), (ld_returns, .inl (cI, 10, .inl ld_returns_c)), (ld_begun, .inl (cI, 16, .inl ld_begun_c)), (fa, .inr (3, [.int fa_begins, .int fa_length, .int fa_cards, .int fa_round, .int fa_rule0, .int fa_rule1, .ref fa_yearOf])), (fa_yearOf, .inl (cI, 16, .inl fa_yearOf_c)), (wi_worth, .inl (cI, 208, .inl wi_worth_c))] sz)) (va_Qv (fun (u : Int32 × Int32 × Int32 × Int32 × Int32 × Int32 × Int32 × Int32 × Int32 × Int32 × Int32 × Int32 × Int32 × (Nat → Int32) × (Nat → Int32)) => match u with | (n_wi_side, n_wi_rule, n_wi_begun, n_wi_years, n_wi_card, n_wi_hurt, n_wi_isEnd, n_fa_begins, n_fa_length, n_fa_cards, n_fa_round, n_fa_rule0, n_fa_rule1, n_fa_yearOf_c, n_wi_worth_c) => (ir n_wi_side.toInt 0 1) ∧ (ir n_wi_begun.toInt 0 15) ∧ (ir n_wi_years.toInt 1 12) ∧ (ir n_wi_isEnd.toInt 1 1) ∧ (ir n_fa_round.toInt 0 15)) (fun (u : Int32 × Int32 × Int32 × Int32 × Int32 × Int32 × Int32 × Int32 × Int32 × Int32 × Int32 × Int32 × Int32 × (Nat → Int32) × (Nat → Int32)) (t : State) => bRW g (tyT cI cJ cB cZ cL) (va_A [(wi, .inr (9, [.int wi_side, .int wi_rule, .int wi_begun, .int wi_years, .int wi_card, .int wi_hurt, .int wi_isEnd, .ref wi_worth])), (ld, .inr (4, [.int ld_lines, .int ld_years, .int ld_card, .int ld_hurt, .int ld_people, .int ld_pairs, .long ld_strikes, .ref ld_rule, .ref ld_returns, .ref ld_forgets, .ref ld_death, .ref ld_move, .ref ld_begun, .ref ld_who, .ref ld_lost])), (ld_who, .inl (cI, 32, .inl ld_who_c)), (ld_rule, .inl (cI, 10, .inl ld_rule_c)), (ld_returns, .inl (cI, 10, .inl ld_returns_c)), (ld_begun, .inl (cI, 16, .inl ld_begun_c)), (fa, .inr (3, [.int fa_begins, .int fa_length, .int fa_cards, .int fa_round, .int fa_rule0, .int fa_rule1, .ref fa_yearOf])), (fa_yearOf, .inl (cI, 16, .inl fa_yearOf_c)), (wi_worth, .inl (cI, 208, .inl wi_worth_c))] sz) (match u with | (n_wi_side, n_wi_rule, n_wi_begun, n_wi_years, n_wi_card, n_wi_hurt, n_wi_isEnd, n_fa_begins, n_fa_length, n_fa_cards, n_fa_round, n_fa_rule0, n_fa_rule1, n_fa_yearOf_c, n_wi_worth_c) => [(wi, .inr (9, [.int n_wi_side, .int n_wi_rule, .int n_wi_begun, .int n_wi_years, .int n_wi_card, .int n_wi_hurt, .int n_wi_isEnd, .ref wi_worth])), (ld, .inr (4, [.int ld_lines, .int ld_years, .int ld_card, .int ld_hurt, .int ld_people, .int ld_pairs, .long ld_strikes, .ref ld_rule, .ref ld_returns, .ref ld_forgets, .ref ld_death, .ref ld_move, .ref ld_begun, .ref ld_who, .ref ld_lost])), (ld_who, .inl (cI, 32, .inl ld_who_c)), (ld_rule, .inl (cI, 10, .inl ld_rule_c)), (ld_returns, .inl (cI, 10, .inl ld_returns_c)), (ld_begun, .inl (cI, 16, .inl ld_begun_c)), (fa, .inr (3, [.int n_fa_begins, .int n_fa_length, .int n_fa_cards, .int n_fa_round, .int n_fa_rule0, .int n_fa_rule1, .ref fa_yearOf])), (fa_yearOf, .inl (cI, 16, .inl n_fa_yearOf_c)), (wi_worth, .inl (cI, 208, .inl n_wi_worth_c))]) t) (va_A [(wi, .inr (9, [.int wi_side, .int wi_rule, .int wi_begun, .int wi_years, .int wi_card, .int wi_hurt, .int wi_isEnd, .ref wi_worth])), (ld, .inr (4, [.int ld_lines, .int ld_years, .int ld_card, .int ld_hurt, .int ld_people, .int ld_pairs, .long ld_strikes, .ref ld_rule, .ref ld_returns, .ref ld_forgets, .ref ld_death, .ref ld_move, .ref ld_begun, .ref ld_who, .ref ld_lost])), (ld_who, .inl (cI, 32, .inl ld_who_c)), (ld_rule, .inl (cI, 10, .inl ld_rule_c)), (ld_returns, .inl (cI, 10, .inl ld_returns_c)), (ld_begun, .inl (cI, 16, .inl ld_begun_c)), (fa, .inr (3, [.int fa_begins, .int fa_length, .int fa_cards, .int fa_round, .int fa_rule0, .int fa_rule1, .ref fa_yearOf])), (fa_yearOf, .inl (cI, 16, .inl fa_yearOf_c)), (wi_worth, .inl (cI, 208, .inl wi_worth_c))] sz)) 0 0 (va_A [(wi, .inr (9, [.int wi_side, .int wi_rule, .int wi_begun, .int wi_years, .int wi_card, .int wi_hurt, .int wi_isEnd, .ref wi_worth])), (ld, .inr (4, [.int ld_lines, .int ld_years, .int ld_card, .int ld_hurt, .int ld_people, .int ld_pairs, .long ld_strikes, .ref ld_rule, .ref ld_returns, .ref ld_forgets, .ref ld_death, .ref ld_move, .ref ld_begun, .ref ld_who, .ref ld_lost])), (ld_who, .inl (cI, 32, .inl ld_who_c)), (ld_rule, .inl (cI, 10, .inl ld_rule_c)), (ld_returns, .inl (cI, 10, .inl ld_returns_c)), (ld_begun, .inl (cI, 16, .inl ld_begun_c)), (fa, .inr (3, [.int fa_begins, .int fa_length, .int fa_cards, .int fa_round, .int fa_rule0, .int fa_rule1, .ref fa_yearOf])), (fa_yearOf, .inl (cI, 16, .inl fa_yearOf_c)), (wi_worth, .inl (cI, 208, .inl wi_worth_c))] sz) := by
  refine Met.ofW (cc := cX9_planEnd) (maxL := 7) (ret := none) (by decide) rfl ?_
  intro p e s m args below meth c s₁ B hml hv
  obtain ⟨rfl, hsz, hP, hK, hD0⟩ := hv
  have hx := B.exec
  have hb := B.bytes
  have hr := B.returns
  have hts := atoms_spec (ws := v_X9_planEnd) B.pre
  have hown : s.vm.findClass RX9 = some m.cls := findClass_of_methodNamed B.named
  have hlocks := B.notSynchronized
  clear B
  subst hsz
  have iX9 : ∀ w ∈ wsX90, w ∈ v_X9_planEnd := (fun _ h => List.mem_cons_of_mem _ (List.mem_append_right _ (List.mem_append_right _ (List.mem_append_right _ (List.mem_append_right _ (List.mem_append_right _ (List.mem_append_left _ h)))))))
  have hD := hD0.self (sz := s.heap.size)
  generalize hAe : (va_A [(wi, .inr (9, [.int wi_side, .int wi_rule, .int wi_begun, .int wi_years, .int wi_card, .int wi_hurt, .int wi_isEnd, .ref wi_worth])), (ld, .inr (4, [.int ld_lines, .int ld_years, .int ld_card, .int ld_hurt, .int ld_people, .int ld_pairs, .long ld_strikes, .ref ld_rule, .ref ld_returns, .ref ld_forgets, .ref ld_death, .ref ld_move, .ref ld_begun, .ref ld_who, .ref ld_lost])), (ld_who, .inl (cI, 32, .inl ld_who_c)), (ld_rule, .inl (cI, 10, .inl ld_rule_c)), (ld_returns, .inl (cI, 10, .inl ld_returns_c)), (ld_begun, .inl (cI, 16, .inl ld_begun_c)), (fa, .inr (3, [.int fa_begins, .int fa_length, .int fa_cards, .int fa_round, .int fa_rule0, .int fa_rule1, .ref fa_yearOf])), (fa_yearOf, .inl (cI, 16, .inl fa_yearOf_c)), (wi_worth, .inl (cI, 208, .inl wi_worth_c))] s.heap.size) = A at hD ⊢
  have hA : ∀ q : Nat, s.heap.size ≤ q → A q := fun q h => by rw [← hAe]; exact Or.inr h
  have hS : va_S A s.heap s.heap [] := va_S.rf
  have hl := lv_entry ([.ref wi, .ref ld, .int p1, .int p2, .int p3, .ref fa]) (n := 7) (Nat.le_of_ble_eq_true rfl)
  rw [lg_entry_eq]
  generalize (lg_sl ([.ref wi, .ref ld, .int p1, .int p2, .int p3, .ref fa]) ++ List.replicate (7 - (lg_sl ([.ref wi, .ref ld, .int p1, .int p2, .int p3, .ref fa])).length) Slot.unset).toArray = ls at hl ⊢
  generalize ([.ref wi, .ref ld, .int p1, .int p2, .int p3, .ref fa] : List Value).toArray = av at hts ⊢
  generalize hQ : MQ below _ av s _ _ A = QQ
  have hl : lv_has ls 7 [(0, .ref wi), (1, .ref ld), (2, .int p1), (3, .int p2), (4, .int p3), (5, .ref fa)] := hl
  have hP : va_P g vwCl [(wi, .inr (9, [.int wi_side, .int wi_rule, .int wi_begun, .int wi_years, .int wi_card, .int wi_hurt, .int wi_isEnd, .ref wi_worth])), (ld, .inr (4, [.int ld_lines, .int ld_years, .int ld_card, .int ld_hurt, .int ld_people, .int ld_pairs, .long ld_strikes, .ref ld_rule, .ref ld_returns, .ref ld_forgets, .ref ld_death, .ref ld_move, .ref ld_begun, .ref ld_who, .ref ld_lost])), (ld_who, .inl (cI, 32, .inl ld_who_c)), (ld_rule, .inl (cI, 10, .inl ld_rule_c)), (ld_returns, .inl (cI, 10, .inl ld_returns_c)), (ld_begun, .inl (cI, 16, .inl ld_begun_c)), (fa, .inr (3, [.int fa_begins, .int fa_length, .int fa_cards, .int fa_round, .int fa_rule0, .int fa_rule1, .ref fa_yearOf])), (fa_yearOf, .inl (cI, 16, .inl fa_yearOf_c)), (wi_worth, .inl (cI, 208, .inl wi_worth_c))] s.heap := hP
  refine lv_aload_n hx hb dX9_planEnd_0 rfl (lv_at hl 0 rfl) ?_
  refine lv_aload_n hx hb dX9_planEnd_1 rfl (lv_at hl 1 rfl) ?_
  refine lv_iload_n hx hb dX9_planEnd_2 rfl (lv_at hl 2 rfl) ?_
  refine lv_iload_n hx hb dX9_planEnd_3 rfl (lv_at hl 3 rfl) ?_
  refine lv_iload hx hb dX9_planEnd_4 (lv_at hl 4 rfl) ?_
  refine rw_v (wr := [(fa, .inr (3, [.int fa_begins, .int fa_length, .int fa_cards, .int fa_round, .int fa_rule0, .int fa_rule1, .ref fa_yearOf])), (fa_yearOf, .inl (cI, 16, .inl fa_yearOf_c)), (wi_worth, .inl (cI, 208, .inl wi_worth_c))]) (va_runV (As := [.ref ld, .int p1, .int p2, .int p3]) (rest := []) ⟨hx, hb, hml, hown, hts⟩ (q_X9_take l g cI cJ cB cZ cL p1 p2 p3 wi ld wi_side wi_rule wi_begun wi_years wi_card wi_hurt wi_isEnd wi_worth ld_lines ld_years ld_card ld_hurt ld_people ld_pairs ld_strikes ld_rule ld_returns ld_forgets ld_death ld_move ld_begun ld_who ld_lost ld_who_c ld_rule_c ld_returns_c ld_begun_c s.heap.size hv_p1 hv_p2 hv_p3 hv_wi_side hv_wi_begun hv_wi_years hv_wi_isEnd hv_ld_years hv_ld_people hv_ld_pairs ha_ld_who_c ha_ld_begun_c) (cwV 4 hts (goodIn_app (g_4 (List.mem_cons_of_mem _ (List.mem_append_left _ (List.mem_of_getElem? (i := 0) rfl))) (List.mem_cons_of_mem _ (List.mem_append_left _ (List.mem_of_getElem? (i := 1) rfl))) (List.mem_cons_of_mem _ (List.mem_append_left _ (List.mem_of_getElem? (i := 2) rfl))) (List.mem_cons_of_mem _ (List.mem_append_left _ (List.mem_of_getElem? (i := 3) rfl))) (by decide +kernel)) (goodIn_sub (fun _ h => List.mem_cons_of_mem _ (List.mem_append_right _ (List.mem_append_left _ h))) good_v_X9_take)) rfl rfl rfl (by decide +kernel) ⟨Nat.le_of_ble_eq_true rfl, Nat.le_of_ble_eq_true rfl⟩) (pv_RW (q := (RX9, TX9, 8)) (ci := 9) (q0 := 0) (wc := [(wi, .inr (9, [.int wi_side, .int wi_rule, .int wi_begun, .int wi_years, .int wi_card, .int wi_hurt, .int wi_isEnd, .ref wi_worth])), (ld, .inr (4, [.int ld_lines, .int ld_years, .int ld_card, .int ld_hurt, .int ld_people, .int ld_pairs, .long ld_strikes, .ref ld_rule, .ref ld_returns, .ref ld_forgets, .ref ld_death, .ref ld_move, .ref ld_begun, .ref ld_who, .ref ld_lost])), (ld_who, .inl (cI, 32, .inl ld_who_c)), (ld_rule, .inl (cI, 10, .inl ld_rule_c)), (ld_returns, .inl (cI, 10, .inl ld_returns_c)), (ld_begun, .inl (cI, 16, .inl ld_begun_c))]) hK hP hD [0, 1, 2, 3, 4, 5] (by decide) rfl rfl rfl) rfl rfl hl.1 rfl (lv_room (Nat.le_of_ble_eq_true rfl)) dX9_planEnd_6 ⟨Nat.le_of_ble_eq_true rfl, Nat.le_of_ble_eq_true rfl⟩) hS hA hP hD [0, 1, 2, 3, 4, 5] [6, 7, 8] rfl rfl (by decide) (by decide) (fun u6 H locs hw6 hP hD hS => ?_)
  obtain ⟨n_wi_side_6, n_wi_rule_6, n_wi_begun_6, n_wi_years_6, n_wi_card_6, n_wi_hurt_6⟩ := u6
  have hP : va_P g vwCl [(fa, .inr (3, [.int fa_begins, .int fa_length, .int fa_cards, .int fa_round, .int fa_rule0, .int fa_rule1, .ref fa_yearOf])), (fa_yearOf, .inl (cI, 16, .inl fa_yearOf_c)), (wi_worth, .inl (cI, 208, .inl wi_worth_c)), (wi, .inr (9, [.int n_wi_side_6, .int n_wi_rule_6, .int n_wi_begun_6, .int n_wi_years_6, .int n_wi_card_6, .int n_wi_hurt_6, .int wi_isEnd, .ref wi_worth])), (ld, .inr (4, [.int ld_lines, .int ld_years, .int ld_card, .int ld_hurt, .int ld_people, .int ld_pairs, .long ld_strikes, .ref ld_rule, .ref ld_returns, .ref ld_forgets, .ref ld_death, .ref ld_move, .ref ld_begun, .ref ld_who, .ref ld_lost])), (ld_who, .inl (cI, 32, .inl ld_who_c)), (ld_rule, .inl (cI, 10, .inl ld_rule_c)), (ld_returns, .inl (cI, 10, .inl ld_returns_c)), (ld_begun, .inl (cI, 16, .inl ld_begun_c))] H := hP
  have hD : va_D A [(fa, .inr (3, [.int fa_begins, .int fa_length, .int fa_cards, .int fa_round, .int fa_rule0, .int fa_rule1, .ref fa_yearOf])), (fa_yearOf, .inl (cI, 16, .inl fa_yearOf_c)), (wi_worth, .inl (cI, 208, .inl wi_worth_c)), (wi, .inr (9, [.int n_wi_side_6, .int n_wi_rule_6, .int n_wi_begun_6, .int n_wi_years_6, .int n_wi_card_6, .int n_wi_hurt_6, .int wi_isEnd, .ref wi_worth])), (ld, .inr (4, [.int ld_lines, .int ld_years, .int ld_card, .int ld_hurt, .int ld_people, .int ld_pairs, .long ld_strikes, .ref ld_rule, .ref ld_returns, .ref ld_forgets, .ref ld_death, .ref ld_move, .ref ld_begun, .ref ld_who, .ref ld_lost])), (ld_who, .inl (cI, 32, .inl ld_who_c)), (ld_rule, .inl (cI, 10, .inl ld_rule_c)), (ld_returns, .inl (cI, 10, .inl ld_returns_c)), (ld_begun, .inl (cI, 16, .inl ld_begun_c))] := hD
  dsimp only at hw6
  obtain ⟨hw6_0, hw6_1, hw6_2⟩ := hw6
  refine lv_aload_n hx hb dX9_planEnd_9 rfl (lv_at hl 0 rfl) ?_
  refine lv_iconst (v := 1) hx hb dX9_planEnd_10 (by decide) ?_
  refine va_put (D := g) (ci := 9) (v := .int 1) (ty := .boolean) (C := RX9) (T := TX9) (N := 8) hx hb hts iX9 tyX9 tyX9_ok nmX9 hown hK hP hD hS 3 rfl rfl 6 (by decide) (hts (.fieldLink RX9 19 "CardsAtYule$Will" "isEnd" "Z") (List.mem_cons_of_mem _ (List.mem_append_left _ (List.mem_of_getElem? (i := 4) rfl)))) (fun _ h9 => h9) rfl (by decide +kernel) rfl rfl (Nat.le_of_ble_eq_true rfl) dX9_planEnd_11 (fun H locs hP hD hS => ?_)
  have hP : va_P g vwCl [(fa, .inr (3, [.int fa_begins, .int fa_length, .int fa_cards, .int fa_round, .int fa_rule0, .int fa_rule1, .ref fa_yearOf])), (fa_yearOf, .inl (cI, 16, .inl fa_yearOf_c)), (wi_worth, .inl (cI, 208, .inl wi_worth_c)), (wi, .inr (9, [.int n_wi_side_6, .int n_wi_rule_6, .int n_wi_begun_6, .int n_wi_years_6, .int n_wi_card_6, .int n_wi_hurt_6, .int 1, .ref wi_worth])), (ld, .inr (4, [.int ld_lines, .int ld_years, .int ld_card, .int ld_hurt, .int ld_people, .int ld_pairs, .long ld_strikes, .ref ld_rule, .ref ld_returns, .ref ld_forgets, .ref ld_death, .ref ld_move, .ref ld_begun, .ref ld_who, .ref ld_lost])), (ld_who, .inl (cI, 32, .inl ld_who_c)), (ld_rule, .inl (cI, 10, .inl ld_rule_c)), (ld_returns, .inl (cI, 10, .inl ld_returns_c)), (ld_begun, .inl (cI, 16, .inl ld_begun_c))] H := hP
  have hD : va_D A [(fa, .inr (3, [.int fa_begins, .int fa_length, .int fa_cards, .int fa_round, .int fa_rule0, .int fa_rule1, .ref fa_yearOf])), (fa_yearOf, .inl (cI, 16, .inl fa_yearOf_c)), (wi_worth, .inl (cI, 208, .inl wi_worth_c)), (wi, .inr (9, [.int n_wi_side_6, .int n_wi_rule_6, .int n_wi_begun_6, .int n_wi_years_6, .int n_wi_card_6, .int n_wi_hurt_6, .int 1, .ref wi_worth])), (ld, .inr (4, [.int ld_lines, .int ld_years, .int ld_card, .int ld_hurt, .int ld_people, .int ld_pairs, .long ld_strikes, .ref ld_rule, .ref ld_returns, .ref ld_forgets, .ref ld_death, .ref ld_move, .ref ld_begun, .ref ld_who, .ref ld_lost])), (ld_who, .inl (cI, 32, .inl ld_who_c)), (ld_rule, .inl (cI, 10, .inl ld_rule_c)), (ld_returns, .inl (cI, 10, .inl ld_returns_c)), (ld_begun, .inl (cI, 16, .inl ld_begun_c))] := hD
  refine lv_iconst (v := 0) hx hb dX9_planEnd_14 (by decide) ?_
  refine lv_istore (lv' := [(6, .int 0), (0, .ref wi), (1, .ref ld), (2, .int p1), (3, .int p2), (4, .int p3), (5, .ref fa)]) hx hb dX9_planEnd_15 hl (by decide) rfl (fun ls hl => ?_)
  have J17 : ∀ (n17 : Nat) (j17_l6 : Int32) (j17_fa_begins : Int32) (j17_fa_length : Int32) (j17_fa_cards : Int32) (j17_fa_round : Int32) (j17_fa_rule0 : Int32) (j17_fa_rule1 : Int32) (j17_fa_yearOf_c : Nat → Int32) (j17_wi_worth_c : Nat → Int32) (H : Heap) (locs : List Loc) (ls : Array Slot), (17 - j17_l6.toInt).toNat < n17 → (ir j17_l6.toInt 0 16) → (ir j17_fa_round.toInt 0 15) → va_P g vwCl [(fa, .inr (3, [.int j17_fa_begins, .int j17_fa_length, .int j17_fa_cards, .int j17_fa_round, .int j17_fa_rule0, .int j17_fa_rule1, .ref fa_yearOf])), (fa_yearOf, .inl (cI, 16, .inl j17_fa_yearOf_c)), (wi_worth, .inl (cI, 208, .inl j17_wi_worth_c)), (wi, .inr (9, [.int n_wi_side_6, .int n_wi_rule_6, .int n_wi_begun_6, .int n_wi_years_6, .int n_wi_card_6, .int n_wi_hurt_6, .int 1, .ref wi_worth])), (ld, .inr (4, [.int ld_lines, .int ld_years, .int ld_card, .int ld_hurt, .int ld_people, .int ld_pairs, .long ld_strikes, .ref ld_rule, .ref ld_returns, .ref ld_forgets, .ref ld_death, .ref ld_move, .ref ld_begun, .ref ld_who, .ref ld_lost])), (ld_who, .inl (cI, 32, .inl ld_who_c)), (ld_rule, .inl (cI, 10, .inl ld_rule_c)), (ld_returns, .inl (cI, 10, .inl ld_returns_c)), (ld_begun, .inl (cI, 16, .inl ld_begun_c))] H → va_D A [(fa, .inr (3, [.int j17_fa_begins, .int j17_fa_length, .int j17_fa_cards, .int j17_fa_round, .int j17_fa_rule0, .int j17_fa_rule1, .ref fa_yearOf])), (fa_yearOf, .inl (cI, 16, .inl j17_fa_yearOf_c)), (wi_worth, .inl (cI, 208, .inl j17_wi_worth_c)), (wi, .inr (9, [.int n_wi_side_6, .int n_wi_rule_6, .int n_wi_begun_6, .int n_wi_years_6, .int n_wi_card_6, .int n_wi_hurt_6, .int 1, .ref wi_worth])), (ld, .inr (4, [.int ld_lines, .int ld_years, .int ld_card, .int ld_hurt, .int ld_people, .int ld_pairs, .long ld_strikes, .ref ld_rule, .ref ld_returns, .ref ld_forgets, .ref ld_death, .ref ld_move, .ref ld_begun, .ref ld_who, .ref ld_lost])), (ld_who, .inl (cI, 32, .inl ld_who_c)), (ld_rule, .inl (cI, 10, .inl ld_rule_c)), (ld_returns, .inl (cI, 10, .inl ld_returns_c)), (ld_begun, .inl (cI, 16, .inl ld_begun_c))] → va_S A s.heap H locs → lv_has ls 7 [(0, .ref wi), (5, .ref fa), (6, .int j17_l6)] → W p l e (headSpec v_X9_planEnd ({ frames := 5, cells := 0, slots := 0, locals := 118 })).room s m av below meth c H locs 0 0 QQ (F0 m 17 ls []) := by
    intro n17
    induction n17 with
    | zero => exact fun j17_l6 j17_fa_begins j17_fa_length j17_fa_cards j17_fa_round j17_fa_rule0 j17_fa_rule1 j17_fa_yearOf_c j17_wi_worth_c H locs ls hn => absurd hn (Nat.not_lt_zero _)
    | succ n17 ih17 =>
      intro j17_l6 j17_fa_begins j17_fa_length j17_fa_cards j17_fa_round j17_fa_rule0 j17_fa_rule1 j17_fa_yearOf_c j17_wi_worth_c H locs ls hn17 hj17_l6 hj17_fa_round hP hD hS hl
      refine lv_iload hx hb dX9_planEnd_17 (lv_at hl 2 rfl) ?_
      refine lv_bipush (v := 16) hx hb dX9_planEnd_19 (by decide) ?_
      refine lv_icmp_ge (tgt := 96) hx hb dX9_planEnd_21 (by decide) (fun c21 => ?_) (fun c21 => ?_)
      · have f21 := (show 16 ≤ j17_l6.toInt from z_le rfl rfl c21)
        have r21a : ir j17_l6.toInt 16 16 := ir_leb f21 (ir_c 16) hj17_l6 (by decide)
        refine lv_aload_n hx hb dX9_planEnd_96 rfl (lv_at hl 0 rfl) ?_
        refine rw_v (wr := [(fa, .inr (3, [.int j17_fa_begins, .int j17_fa_length, .int j17_fa_cards, .int j17_fa_round, .int j17_fa_rule0, .int j17_fa_rule1, .ref fa_yearOf])), (fa_yearOf, .inl (cI, 16, .inl j17_fa_yearOf_c)), (ld, .inr (4, [.int ld_lines, .int ld_years, .int ld_card, .int ld_hurt, .int ld_people, .int ld_pairs, .long ld_strikes, .ref ld_rule, .ref ld_returns, .ref ld_forgets, .ref ld_death, .ref ld_move, .ref ld_begun, .ref ld_who, .ref ld_lost])), (ld_who, .inl (cI, 32, .inl ld_who_c)), (ld_rule, .inl (cI, 10, .inl ld_rule_c)), (ld_returns, .inl (cI, 10, .inl ld_returns_c)), (ld_begun, .inl (cI, 16, .inl ld_begun_c))]) (va_runV (As := []) (rest := []) ⟨hx, hb, hml, hown, hts⟩ (q_X9_goBack l g cI cJ cB cZ cL wi n_wi_side_6 n_wi_rule_6 n_wi_begun_6 n_wi_years_6 n_wi_card_6 n_wi_hurt_6 1 wi_worth j17_wi_worth_c H.size hw6_0 hw6_1 (ir_w hw6_2 (by decide) (by decide)) (by decide)) (cwV 0 hts (goodIn_app (g_4 (List.mem_cons_of_mem _ (List.mem_append_left _ (List.mem_of_getElem? (i := 5) rfl))) (List.mem_cons_of_mem _ (List.mem_append_left _ (List.mem_of_getElem? (i := 6) rfl))) (List.mem_cons_of_mem _ (List.mem_append_left _ (List.mem_of_getElem? (i := 7) rfl))) (List.mem_cons_of_mem _ (List.mem_append_left _ (List.mem_of_getElem? (i := 3) rfl))) (by decide +kernel)) (goodIn_sub (fun _ h => List.mem_cons_of_mem _ (List.mem_append_right _ (List.mem_append_right _ (List.mem_append_left _ h)))) good_v_X9_goBack)) rfl rfl rfl (by decide +kernel) ⟨Nat.le_of_ble_eq_true rfl, Nat.le_of_ble_eq_true rfl⟩) (pv_RW (q := (RX9, TX9, 8)) (ci := 9) (q0 := 0) (wc := [(wi, .inr (9, [.int n_wi_side_6, .int n_wi_rule_6, .int n_wi_begun_6, .int n_wi_years_6, .int n_wi_card_6, .int n_wi_hurt_6, .int 1, .ref wi_worth])), (wi_worth, .inl (cI, 208, .inl j17_wi_worth_c))]) hK hP hD [3, 2] (by decide) rfl rfl rfl) rfl rfl hl.1 rfl (lv_room (Nat.le_of_ble_eq_true rfl)) dX9_planEnd_97 ⟨Nat.le_of_ble_eq_true rfl, Nat.le_of_ble_eq_true rfl⟩) hS hA hP hD [3, 2] [0, 1, 4, 5, 6, 7, 8] rfl rfl (by decide) (by decide) (fun u97 H locs hw97 hP hD hS => ?_)
        generalize u97 = n_wi_worth_c_97 at hw97 hP hD
        have hP : va_P g vwCl [(fa, .inr (3, [.int j17_fa_begins, .int j17_fa_length, .int j17_fa_cards, .int j17_fa_round, .int j17_fa_rule0, .int j17_fa_rule1, .ref fa_yearOf])), (fa_yearOf, .inl (cI, 16, .inl j17_fa_yearOf_c)), (ld, .inr (4, [.int ld_lines, .int ld_years, .int ld_card, .int ld_hurt, .int ld_people, .int ld_pairs, .long ld_strikes, .ref ld_rule, .ref ld_returns, .ref ld_forgets, .ref ld_death, .ref ld_move, .ref ld_begun, .ref ld_who, .ref ld_lost])), (ld_who, .inl (cI, 32, .inl ld_who_c)), (ld_rule, .inl (cI, 10, .inl ld_rule_c)), (ld_returns, .inl (cI, 10, .inl ld_returns_c)), (ld_begun, .inl (cI, 16, .inl ld_begun_c)), (wi, .inr (9, [.int n_wi_side_6, .int n_wi_rule_6, .int n_wi_begun_6, .int n_wi_years_6, .int n_wi_card_6, .int n_wi_hurt_6, .int 1, .ref wi_worth])), (wi_worth, .inl (cI, 208, .inl n_wi_worth_c_97))] H := hP
        have hD : va_D A [(fa, .inr (3, [.int j17_fa_begins, .int j17_fa_length, .int j17_fa_cards, .int j17_fa_round, .int j17_fa_rule0, .int j17_fa_rule1, .ref fa_yearOf])), (fa_yearOf, .inl (cI, 16, .inl j17_fa_yearOf_c)), (ld, .inr (4, [.int ld_lines, .int ld_years, .int ld_card, .int ld_hurt, .int ld_people, .int ld_pairs, .long ld_strikes, .ref ld_rule, .ref ld_returns, .ref ld_forgets, .ref ld_death, .ref ld_move, .ref ld_begun, .ref ld_who, .ref ld_lost])), (ld_who, .inl (cI, 32, .inl ld_who_c)), (ld_rule, .inl (cI, 10, .inl ld_rule_c)), (ld_returns, .inl (cI, 10, .inl ld_returns_c)), (ld_begun, .inl (cI, 16, .inl ld_begun_c)), (wi, .inr (9, [.int n_wi_side_6, .int n_wi_rule_6, .int n_wi_begun_6, .int n_wi_years_6, .int n_wi_card_6, .int n_wi_hurt_6, .int 1, .ref wi_worth])), (wi_worth, .inl (cI, 208, .inl n_wi_worth_c_97))] := hD
        subst hQ
        have hP9 := hP.sub (ws' := [(wi, .inr (9, [.int n_wi_side_6, .int n_wi_rule_6, .int n_wi_begun_6, .int n_wi_years_6, .int n_wi_card_6, .int n_wi_hurt_6, .int 1, .ref wi_worth])), (ld, .inr (4, [.int ld_lines, .int ld_years, .int ld_card, .int ld_hurt, .int ld_people, .int ld_pairs, .long ld_strikes, .ref ld_rule, .ref ld_returns, .ref ld_forgets, .ref ld_death, .ref ld_move, .ref ld_begun, .ref ld_who, .ref ld_lost])), (ld_who, .inl (cI, 32, .inl ld_who_c)), (ld_rule, .inl (cI, 10, .inl ld_rule_c)), (ld_returns, .inl (cI, 10, .inl ld_returns_c)), (ld_begun, .inl (cI, 16, .inl ld_begun_c)), (fa, .inr (3, [.int j17_fa_begins, .int j17_fa_length, .int j17_fa_cards, .int j17_fa_round, .int j17_fa_rule0, .int j17_fa_rule1, .ref fa_yearOf])), (fa_yearOf, .inl (cI, 16, .inl j17_fa_yearOf_c)), (wi_worth, .inl (cI, 208, .inl n_wi_worth_c_97))]) [7, 2, 3, 4, 5, 6, 0, 1, 8] rfl
        have hD9 := hD.sub (ws' := [(wi, .inr (9, [.int n_wi_side_6, .int n_wi_rule_6, .int n_wi_begun_6, .int n_wi_years_6, .int n_wi_card_6, .int n_wi_hurt_6, .int 1, .ref wi_worth])), (ld, .inr (4, [.int ld_lines, .int ld_years, .int ld_card, .int ld_hurt, .int ld_people, .int ld_pairs, .long ld_strikes, .ref ld_rule, .ref ld_returns, .ref ld_forgets, .ref ld_death, .ref ld_move, .ref ld_begun, .ref ld_who, .ref ld_lost])), (ld_who, .inl (cI, 32, .inl ld_who_c)), (ld_rule, .inl (cI, 10, .inl ld_rule_c)), (ld_returns, .inl (cI, 10, .inl ld_returns_c)), (ld_begun, .inl (cI, 16, .inl ld_begun_c)), (fa, .inr (3, [.int j17_fa_begins, .int j17_fa_length, .int j17_fa_cards, .int j17_fa_round, .int j17_fa_rule0, .int j17_fa_rule1, .ref fa_yearOf])), (fa_yearOf, .inl (cI, 16, .inl j17_fa_yearOf_c)), (wi_worth, .inl (cI, 208, .inl n_wi_worth_c_97))]) [7, 2, 3, 4, 5, 6, 0, 1, 8] (by decide) rfl
        exact W.vret hx hb hr (fun t ht hW => ⟨⟨(n_wi_side_6, n_wi_rule_6, n_wi_begun_6, n_wi_years_6, n_wi_card_6, n_wi_hurt_6, 1, j17_fa_begins, j17_fa_length, j17_fa_cards, j17_fa_round, j17_fa_rule0, j17_fa_rule1, j17_fa_yearOf_c, n_wi_worth_c_97), rfl, ⟨hw6_0, hw6_1, hw6_2, (show ir (1 : Int32).toInt 1 1 by decide), hj17_fa_round⟩, ⟨by rw [ht]; exact hP9, va_K.moved hW.alike hK, hD9⟩⟩, hS.F ht⟩) hS.2.2 dX9_planEnd_100
      have f21 := (show j17_l6.toInt < 16 from z_nle rfl rfl c21)
      have r21a : ir j17_l6.toInt 0 15 := ir_lta f21 hj17_l6 (ir_c 16) (by decide)
      refine lv_aload hx hb dX9_planEnd_24 (lv_at hl 1 rfl) ?_
      refine lv_aload_n hx hb dX9_planEnd_26 rfl (lv_at hl 0 rfl) ?_
      refine va_get (D := g) (ci := 9) (v := .int n_wi_side_6) (C := RX9) (T := TX9) (N := 8) hx hb hts iX9 hown hK hP 3 rfl rfl 0 (by decide) (hts (.fieldLink RX9 23 "CardsAtYule$Will" "side" "I") (List.mem_cons_of_mem _ (List.mem_append_left _ (List.mem_of_getElem? (i := 8) rfl)))) (fun _ h9 => h9) rfl dX9_planEnd_27 ?_
      have J41 : ∀ (j41_s0 : Int32) (H : Heap) (locs : List Loc) (ls : Array Slot), va_P g vwCl [(fa, .inr (3, [.int j17_fa_begins, .int j17_fa_length, .int j17_fa_cards, .int j17_fa_round, .int j17_fa_rule0, .int j17_fa_rule1, .ref fa_yearOf])), (fa_yearOf, .inl (cI, 16, .inl j17_fa_yearOf_c)), (wi_worth, .inl (cI, 208, .inl j17_wi_worth_c)), (wi, .inr (9, [.int n_wi_side_6, .int n_wi_rule_6, .int n_wi_begun_6, .int n_wi_years_6, .int n_wi_card_6, .int n_wi_hurt_6, .int 1, .ref wi_worth])), (ld, .inr (4, [.int ld_lines, .int ld_years, .int ld_card, .int ld_hurt, .int ld_people, .int ld_pairs, .long ld_strikes, .ref ld_rule, .ref ld_returns, .ref ld_forgets, .ref ld_death, .ref ld_move, .ref ld_begun, .ref ld_who, .ref ld_lost])), (ld_who, .inl (cI, 32, .inl ld_who_c)), (ld_rule, .inl (cI, 10, .inl ld_rule_c)), (ld_returns, .inl (cI, 10, .inl ld_returns_c)), (ld_begun, .inl (cI, 16, .inl ld_begun_c))] H → va_D A [(fa, .inr (3, [.int j17_fa_begins, .int j17_fa_length, .int j17_fa_cards, .int j17_fa_round, .int j17_fa_rule0, .int j17_fa_rule1, .ref fa_yearOf])), (fa_yearOf, .inl (cI, 16, .inl j17_fa_yearOf_c)), (wi_worth, .inl (cI, 208, .inl j17_wi_worth_c)), (wi, .inr (9, [.int n_wi_side_6, .int n_wi_rule_6, .int n_wi_begun_6, .int n_wi_years_6, .int n_wi_card_6, .int n_wi_hurt_6, .int 1, .ref wi_worth])), (ld, .inr (4, [.int ld_lines, .int ld_years, .int ld_card, .int ld_hurt, .int ld_people, .int ld_pairs, .long ld_strikes, .ref ld_rule, .ref ld_returns, .ref ld_forgets, .ref ld_death, .ref ld_move, .ref ld_begun, .ref ld_who, .ref ld_lost])), (ld_who, .inl (cI, 32, .inl ld_who_c)), (ld_rule, .inl (cI, 10, .inl ld_rule_c)), (ld_returns, .inl (cI, 10, .inl ld_returns_c)), (ld_begun, .inl (cI, 16, .inl ld_begun_c))] → va_S A s.heap H locs → lv_has ls 7 [(0, .ref wi), (5, .ref fa), (6, .int j17_l6)] → W p l e (headSpec v_X9_planEnd ({ frames := 5, cells := 0, slots := 0, locals := 118 })).room s m av below meth c H locs 0 0 QQ (F0 m 41 ls [.int j41_s0, .ref fa]) := by
        intro j41_s0 H locs ls  hP hD hS hl
        refine lv_aload_n hx hb dX9_planEnd_41 rfl (lv_at hl 0 rfl) ?_
        refine va_get (D := g) (ci := 9) (v := .int n_wi_side_6) (C := RX9) (T := TX9) (N := 8) hx hb hts iX9 hown hK hP 3 rfl rfl 0 (by decide) (hts (.fieldLink RX9 23 "CardsAtYule$Will" "side" "I") (List.mem_cons_of_mem _ (List.mem_append_left _ (List.mem_of_getElem? (i := 8) rfl)))) (fun _ h9 => h9) rfl dX9_planEnd_42 ?_
        have J56 : ∀ (j56_s0 : Int32) (H : Heap) (locs : List Loc) (ls : Array Slot), va_P g vwCl [(fa, .inr (3, [.int j17_fa_begins, .int j17_fa_length, .int j17_fa_cards, .int j17_fa_round, .int j17_fa_rule0, .int j17_fa_rule1, .ref fa_yearOf])), (fa_yearOf, .inl (cI, 16, .inl j17_fa_yearOf_c)), (wi_worth, .inl (cI, 208, .inl j17_wi_worth_c)), (wi, .inr (9, [.int n_wi_side_6, .int n_wi_rule_6, .int n_wi_begun_6, .int n_wi_years_6, .int n_wi_card_6, .int n_wi_hurt_6, .int 1, .ref wi_worth])), (ld, .inr (4, [.int ld_lines, .int ld_years, .int ld_card, .int ld_hurt, .int ld_people, .int ld_pairs, .long ld_strikes, .ref ld_rule, .ref ld_returns, .ref ld_forgets, .ref ld_death, .ref ld_move, .ref ld_begun, .ref ld_who, .ref ld_lost])), (ld_who, .inl (cI, 32, .inl ld_who_c)), (ld_rule, .inl (cI, 10, .inl ld_rule_c)), (ld_returns, .inl (cI, 10, .inl ld_returns_c)), (ld_begun, .inl (cI, 16, .inl ld_begun_c))] H → va_D A [(fa, .inr (3, [.int j17_fa_begins, .int j17_fa_length, .int j17_fa_cards, .int j17_fa_round, .int j17_fa_rule0, .int j17_fa_rule1, .ref fa_yearOf])), (fa_yearOf, .inl (cI, 16, .inl j17_fa_yearOf_c)), (wi_worth, .inl (cI, 208, .inl j17_wi_worth_c)), (wi, .inr (9, [.int n_wi_side_6, .int n_wi_rule_6, .int n_wi_begun_6, .int n_wi_years_6, .int n_wi_card_6, .int n_wi_hurt_6, .int 1, .ref wi_worth])), (ld, .inr (4, [.int ld_lines, .int ld_years, .int ld_card, .int ld_hurt, .int ld_people, .int ld_pairs, .long ld_strikes, .ref ld_rule, .ref ld_returns, .ref ld_forgets, .ref ld_death, .ref ld_move, .ref ld_begun, .ref ld_who, .ref ld_lost])), (ld_who, .inl (cI, 32, .inl ld_who_c)), (ld_rule, .inl (cI, 10, .inl ld_rule_c)), (ld_returns, .inl (cI, 10, .inl ld_returns_c)), (ld_begun, .inl (cI, 16, .inl ld_begun_c))] → va_S A s.heap H locs → lv_has ls 7 [(0, .ref wi), (5, .ref fa), (6, .int j17_l6)] → W p l e (headSpec v_X9_planEnd ({ frames := 5, cells := 0, slots := 0, locals := 118 })).room s m av below meth c H locs 0 0 QQ (F0 m 56 ls [.int j56_s0, .int j41_s0, .ref fa]) := by
          intro j56_s0 H locs ls  hP hD hS hl
          refine lv_iload hx hb dX9_planEnd_56 (lv_at hl 2 rfl) ?_
          refine rw_v (wr := [(wi_worth, .inl (cI, 208, .inl j17_wi_worth_c)), (wi, .inr (9, [.int n_wi_side_6, .int n_wi_rule_6, .int n_wi_begun_6, .int n_wi_years_6, .int n_wi_card_6, .int n_wi_hurt_6, .int 1, .ref wi_worth])), (ld, .inr (4, [.int ld_lines, .int ld_years, .int ld_card, .int ld_hurt, .int ld_people, .int ld_pairs, .long ld_strikes, .ref ld_rule, .ref ld_returns, .ref ld_forgets, .ref ld_death, .ref ld_move, .ref ld_begun, .ref ld_who, .ref ld_lost])), (ld_who, .inl (cI, 32, .inl ld_who_c)), (ld_rule, .inl (cI, 10, .inl ld_rule_c)), (ld_returns, .inl (cI, 10, .inl ld_returns_c)), (ld_begun, .inl (cI, 16, .inl ld_begun_c))]) (va_runV (As := [.int j41_s0, .int j56_s0, .int j17_l6]) (rest := []) ⟨hx, hb, hml, hown, hts⟩ (q_X3_find l g cI cJ cB cZ cL j41_s0 j56_s0 j17_l6 fa j17_fa_begins j17_fa_length j17_fa_cards j17_fa_round j17_fa_rule0 j17_fa_rule1 fa_yearOf j17_fa_yearOf_c H.size r21a hj17_fa_round) (cwV 3 hts (goodIn_app (g_4 (List.mem_cons_of_mem _ (List.mem_append_left _ (List.mem_of_getElem? (i := 9) rfl))) (List.mem_cons_of_mem _ (List.mem_append_left _ (List.mem_of_getElem? (i := 10) rfl))) (List.mem_cons_of_mem _ (List.mem_append_left _ (List.mem_of_getElem? (i := 11) rfl))) (List.mem_cons_of_mem _ (List.mem_append_left _ (List.mem_of_getElem? (i := 12) rfl))) (by decide +kernel)) (goodIn_sub (fun _ h => List.mem_cons_of_mem _ (List.mem_append_right _ (List.mem_append_right _ (List.mem_append_right _ (List.mem_append_left _ h))))) good_v_X3_find)) rfl rfl rfl (by decide +kernel) ⟨Nat.le_of_ble_eq_true rfl, Nat.le_of_ble_eq_true rfl⟩) (pv_RW (q := (RX3, TX3, 7)) (ci := 3) (q0 := 0) (wc := [(fa, .inr (3, [.int j17_fa_begins, .int j17_fa_length, .int j17_fa_cards, .int j17_fa_round, .int j17_fa_rule0, .int j17_fa_rule1, .ref fa_yearOf])), (fa_yearOf, .inl (cI, 16, .inl j17_fa_yearOf_c))]) hK hP hD [0, 1] (by decide) rfl rfl rfl) rfl rfl hl.1 rfl (lv_room (Nat.le_of_ble_eq_true rfl)) dX9_planEnd_58 ⟨Nat.le_of_ble_eq_true rfl, Nat.le_of_ble_eq_true rfl⟩) hS hA hP hD [0, 1] [2, 3, 4, 5, 6, 7, 8] rfl rfl (by decide) (by decide) (fun u58 H locs hw58 hP hD hS => ?_)
          obtain ⟨n_fa_begins_58, n_fa_length_58, n_fa_cards_58, n_fa_round_58, n_fa_rule0_58, n_fa_rule1_58, n_fa_yearOf_c_58⟩ := u58
          have hP : va_P g vwCl [(wi_worth, .inl (cI, 208, .inl j17_wi_worth_c)), (wi, .inr (9, [.int n_wi_side_6, .int n_wi_rule_6, .int n_wi_begun_6, .int n_wi_years_6, .int n_wi_card_6, .int n_wi_hurt_6, .int 1, .ref wi_worth])), (ld, .inr (4, [.int ld_lines, .int ld_years, .int ld_card, .int ld_hurt, .int ld_people, .int ld_pairs, .long ld_strikes, .ref ld_rule, .ref ld_returns, .ref ld_forgets, .ref ld_death, .ref ld_move, .ref ld_begun, .ref ld_who, .ref ld_lost])), (ld_who, .inl (cI, 32, .inl ld_who_c)), (ld_rule, .inl (cI, 10, .inl ld_rule_c)), (ld_returns, .inl (cI, 10, .inl ld_returns_c)), (ld_begun, .inl (cI, 16, .inl ld_begun_c)), (fa, .inr (3, [.int n_fa_begins_58, .int n_fa_length_58, .int n_fa_cards_58, .int n_fa_round_58, .int n_fa_rule0_58, .int n_fa_rule1_58, .ref fa_yearOf])), (fa_yearOf, .inl (cI, 16, .inl n_fa_yearOf_c_58))] H := hP
          have hD : va_D A [(wi_worth, .inl (cI, 208, .inl j17_wi_worth_c)), (wi, .inr (9, [.int n_wi_side_6, .int n_wi_rule_6, .int n_wi_begun_6, .int n_wi_years_6, .int n_wi_card_6, .int n_wi_hurt_6, .int 1, .ref wi_worth])), (ld, .inr (4, [.int ld_lines, .int ld_years, .int ld_card, .int ld_hurt, .int ld_people, .int ld_pairs, .long ld_strikes, .ref ld_rule, .ref ld_returns, .ref ld_forgets, .ref ld_death, .ref ld_move, .ref ld_begun, .ref ld_who, .ref ld_lost])), (ld_who, .inl (cI, 32, .inl ld_who_c)), (ld_rule, .inl (cI, 10, .inl ld_rule_c)), (ld_returns, .inl (cI, 10, .inl ld_returns_c)), (ld_begun, .inl (cI, 16, .inl ld_begun_c)), (fa, .inr (3, [.int n_fa_begins_58, .int n_fa_length_58, .int n_fa_cards_58, .int n_fa_round_58, .int n_fa_rule0_58, .int n_fa_rule1_58, .ref fa_yearOf])), (fa_yearOf, .inl (cI, 16, .inl n_fa_yearOf_c_58))] := hD
          dsimp only at hw58
          have hw58_0 := hw58
          refine lv_aload_n hx hb dX9_planEnd_61 rfl (lv_at hl 0 rfl) ?_
          refine va_get (D := g) (ci := 9) (v := .ref wi_worth) (C := RX9) (T := TX9) (N := 8) hx hb hts iX9 hown hK hP 1 rfl rfl 7 (by decide) (hts (.fieldLink RX9 9 "CardsAtYule$Will" "worth" "[I") (List.mem_cons_of_mem _ (List.mem_append_left _ (List.mem_of_getElem? (i := 13) rfl)))) (fun _ h9 => h9) rfl dX9_planEnd_62 ?_
          refine lv_bipush (v := 16) hx hb dX9_planEnd_65 (by decide) ?_
          refine lv_aload_n hx hb dX9_planEnd_67 rfl (lv_at hl 0 rfl) ?_
          refine va_get (D := g) (ci := 9) (v := .int n_wi_years_6) (C := RX9) (T := TX9) (N := 8) hx hb hts iX9 hown hK hP 1 rfl rfl 3 (by decide) (hts (.fieldLink RX9 36 "CardsAtYule$Will" "years" "I") (List.mem_cons_of_mem _ (List.mem_append_left _ (List.mem_of_getElem? (i := 14) rfl)))) (fun _ h9 => h9) rfl dX9_planEnd_68 ?_
          refine lv_imul hx hb dX9_planEnd_71 ?_
          refine lv_topi (fun y71 e71 => ?_)
          have q71 : y71.toInt = 16 * n_wi_years_6.toInt := by rw [e71]; exact mu_z rfl rfl (ir_c 16) hw6_2 (by decide) (by decide) (by decide)
          have r71 : ir y71.toInt 16 192 := mu_r q71 (ir_c 16) hw6_2 (by decide) (by decide) (by decide) (by decide)
          refine lv_iload hx hb dX9_planEnd_72 (lv_at hl 2 rfl) ?_
          refine lv_iadd hx hb dX9_planEnd_74 ?_
          refine lv_topi (fun y74 e74 => ?_)
          have q74 : y74.toInt = y71.toInt + j17_l6.toInt := by rw [e74]; exact ad_z rfl rfl r71 r21a (by decide) (by decide)
          have r74 : ir y74.toInt 16 207 := ad_r q74 r71 r21a (by decide) (by decide)
          refine lv_aload hx hb dX9_planEnd_75 (lv_at hl 1 rfl) ?_
          refine ro_i (va_runV (As := []) (rest := [.int y74, .ref wi_worth]) ⟨hx, hb, hml, hown, hts⟩ (q_X3_kind l g cI cJ cB cZ cL fa n_fa_begins_58 n_fa_length_58 n_fa_cards_58 n_fa_round_58 n_fa_rule0_58 n_fa_rule1_58 fa_yearOf H.size hw58_0) (cwV 0 hts (goodIn_app (g_4 (List.mem_cons_of_mem _ (List.mem_append_left _ (List.mem_of_getElem? (i := 15) rfl))) (List.mem_cons_of_mem _ (List.mem_append_left _ (List.mem_of_getElem? (i := 16) rfl))) (List.mem_cons_of_mem _ (List.mem_append_left _ (List.mem_of_getElem? (i := 17) rfl))) (List.mem_cons_of_mem _ (List.mem_append_left _ (List.mem_of_getElem? (i := 12) rfl))) (by decide +kernel)) (goodIn_sub (fun _ h => List.mem_cons_of_mem _ (List.mem_append_right _ (List.mem_append_right _ (List.mem_append_right _ (List.mem_append_right _ (List.mem_append_left _ h)))))) good_v_X3_kind)) rfl rfl rfl (by decide +kernel) ⟨Nat.le_of_ble_eq_true rfl, Nat.le_of_ble_eq_true rfl⟩) (pv_RO (q := (RX3, TX3, 7)) (ci := 3) (q0 := 0) (wc := [(fa, .inr (3, [.int n_fa_begins_58, .int n_fa_length_58, .int n_fa_cards_58, .int n_fa_round_58, .int n_fa_rule0_58, .int n_fa_rule1_58, .ref fa_yearOf]))]) hK hP [7] rfl rfl rfl) rfl rfl hl.1 rfl (lv_room (Nat.le_of_ble_eq_true rfl)) dX9_planEnd_77 ⟨Nat.le_of_ble_eq_true rfl, Nat.le_of_ble_eq_true rfl⟩) hS hA hP (fun r77 u77 H locs hw77 hP hS => ?_)
          have hw77_0 := hw77
          have J89 : ∀ (j89_s0 : Int32) (H : Heap) (locs : List Loc) (ls : Array Slot), (ir j89_s0.toInt 0 1000000) → va_P g vwCl [(wi_worth, .inl (cI, 208, .inl j17_wi_worth_c)), (wi, .inr (9, [.int n_wi_side_6, .int n_wi_rule_6, .int n_wi_begun_6, .int n_wi_years_6, .int n_wi_card_6, .int n_wi_hurt_6, .int 1, .ref wi_worth])), (ld, .inr (4, [.int ld_lines, .int ld_years, .int ld_card, .int ld_hurt, .int ld_people, .int ld_pairs, .long ld_strikes, .ref ld_rule, .ref ld_returns, .ref ld_forgets, .ref ld_death, .ref ld_move, .ref ld_begun, .ref ld_who, .ref ld_lost])), (ld_who, .inl (cI, 32, .inl ld_who_c)), (ld_rule, .inl (cI, 10, .inl ld_rule_c)), (ld_returns, .inl (cI, 10, .inl ld_returns_c)), (ld_begun, .inl (cI, 16, .inl ld_begun_c)), (fa, .inr (3, [.int n_fa_begins_58, .int n_fa_length_58, .int n_fa_cards_58, .int n_fa_round_58, .int n_fa_rule0_58, .int n_fa_rule1_58, .ref fa_yearOf])), (fa_yearOf, .inl (cI, 16, .inl n_fa_yearOf_c_58))] H → va_D A [(wi_worth, .inl (cI, 208, .inl j17_wi_worth_c)), (wi, .inr (9, [.int n_wi_side_6, .int n_wi_rule_6, .int n_wi_begun_6, .int n_wi_years_6, .int n_wi_card_6, .int n_wi_hurt_6, .int 1, .ref wi_worth])), (ld, .inr (4, [.int ld_lines, .int ld_years, .int ld_card, .int ld_hurt, .int ld_people, .int ld_pairs, .long ld_strikes, .ref ld_rule, .ref ld_returns, .ref ld_forgets, .ref ld_death, .ref ld_move, .ref ld_begun, .ref ld_who, .ref ld_lost])), (ld_who, .inl (cI, 32, .inl ld_who_c)), (ld_rule, .inl (cI, 10, .inl ld_rule_c)), (ld_returns, .inl (cI, 10, .inl ld_returns_c)), (ld_begun, .inl (cI, 16, .inl ld_begun_c)), (fa, .inr (3, [.int n_fa_begins_58, .int n_fa_length_58, .int n_fa_cards_58, .int n_fa_round_58, .int n_fa_rule0_58, .int n_fa_rule1_58, .ref fa_yearOf])), (fa_yearOf, .inl (cI, 16, .inl n_fa_yearOf_c_58))] → va_S A s.heap H locs → lv_has ls 7 [(0, .ref wi), (5, .ref fa), (6, .int j17_l6)] → W p l e (headSpec v_X9_planEnd ({ frames := 5, cells := 0, slots := 0, locals := 118 })).room s m av below meth c H locs 0 0 QQ (F0 m 89 ls [.int j89_s0, .int y74, .ref wi_worth]) := by
            intro j89_s0 H locs ls hj89_s0 hP hD hS hl
            refine va_iast (D := g) hx hb hK hP hD hS 0 0 rfl rfl (vi_rg rfl r74 (by decide) (by decide)) dX9_planEnd_89 (fun H locs hP hD hS => ?_)
            obtain ⟨g89, e89⟩ : ∃ z, z = upd j17_wi_worth_c y74.toNatClampNeg j89_s0 := ⟨_, rfl⟩
            have hP : va_P g vwCl [(wi_worth, .inl (cI, 208, .inl (upd j17_wi_worth_c y74.toNatClampNeg j89_s0))), (wi, .inr (9, [.int n_wi_side_6, .int n_wi_rule_6, .int n_wi_begun_6, .int n_wi_years_6, .int n_wi_card_6, .int n_wi_hurt_6, .int 1, .ref wi_worth])), (ld, .inr (4, [.int ld_lines, .int ld_years, .int ld_card, .int ld_hurt, .int ld_people, .int ld_pairs, .long ld_strikes, .ref ld_rule, .ref ld_returns, .ref ld_forgets, .ref ld_death, .ref ld_move, .ref ld_begun, .ref ld_who, .ref ld_lost])), (ld_who, .inl (cI, 32, .inl ld_who_c)), (ld_rule, .inl (cI, 10, .inl ld_rule_c)), (ld_returns, .inl (cI, 10, .inl ld_returns_c)), (ld_begun, .inl (cI, 16, .inl ld_begun_c)), (fa, .inr (3, [.int n_fa_begins_58, .int n_fa_length_58, .int n_fa_cards_58, .int n_fa_round_58, .int n_fa_rule0_58, .int n_fa_rule1_58, .ref fa_yearOf])), (fa_yearOf, .inl (cI, 16, .inl n_fa_yearOf_c_58))] H := hP
            have hD : va_D A [(wi_worth, .inl (cI, 208, .inl (upd j17_wi_worth_c y74.toNatClampNeg j89_s0))), (wi, .inr (9, [.int n_wi_side_6, .int n_wi_rule_6, .int n_wi_begun_6, .int n_wi_years_6, .int n_wi_card_6, .int n_wi_hurt_6, .int 1, .ref wi_worth])), (ld, .inr (4, [.int ld_lines, .int ld_years, .int ld_card, .int ld_hurt, .int ld_people, .int ld_pairs, .long ld_strikes, .ref ld_rule, .ref ld_returns, .ref ld_forgets, .ref ld_death, .ref ld_move, .ref ld_begun, .ref ld_who, .ref ld_lost])), (ld_who, .inl (cI, 32, .inl ld_who_c)), (ld_rule, .inl (cI, 10, .inl ld_rule_c)), (ld_returns, .inl (cI, 10, .inl ld_returns_c)), (ld_begun, .inl (cI, 16, .inl ld_begun_c)), (fa, .inr (3, [.int n_fa_begins_58, .int n_fa_length_58, .int n_fa_cards_58, .int n_fa_round_58, .int n_fa_rule0_58, .int n_fa_rule1_58, .ref fa_yearOf])), (fa_yearOf, .inl (cI, 16, .inl n_fa_yearOf_c_58))] := hD
            rw [← e89] at hP hD
            obtain ⟨y90, e90⟩ : ∃ y : Int32, y = j17_l6 + 1 := ⟨_, rfl⟩
            have q90 : y90.toInt = j17_l6.toInt + 1 := by rw [e90]; exact ad_z rfl rfl r21a (ir_c 1) (by decide) (by decide)
            have r90 : ir y90.toInt 1 16 := ad_r q90 r21a (ir_c 1) (by decide) (by decide)
            refine lv_iinc (v := y90) (lv' := [(6, .int y90), (0, .ref wi), (5, .ref fa)]) hx hb dX9_planEnd_90 hl (k := 2) rfl e90.symm (by decide) rfl (fun ls hl => ?_)
            refine lv_goto (tgt := 17) hx hb dX9_planEnd_93 (by decide) ?_
            exact ih17 y90 n_fa_begins_58 n_fa_length_58 n_fa_cards_58 n_fa_round_58 n_fa_rule0_58 n_fa_rule1_58 n_fa_yearOf_c_58 g89 _ _ _ (by omega) (ir_w r90 (by decide) (by decide)) hw58_0 (hP.sub [7, 8, 0, 1, 2, 3, 4, 5, 6] rfl) (hD.sub [7, 8, 0, 1, 2, 3, 4, 5, 6] (by decide) rfl) hS (lv_sub hl [1, 2, 0] rfl)
          refine lv_if_ne (tgt := 87) hx hb dX9_planEnd_80 (by decide) (fun c80 => ?_) (fun c80 => ?_)
          · have f80 := (show r77.toInt ≠ 0 from z_ne rfl rfl c80)
            have r80a : ir r77.toInt 1 2 := ir_nel f80 hw77_0 (by decide) (by decide)
            refine lv_ldc (v := 1000000) hx hb hown (hts (.constant RX9 43 (1000000)) (List.mem_cons_of_mem _ (List.mem_append_left _ (List.mem_of_getElem? (i := 18) rfl)))) dX9_planEnd_87 ?_
            exact J89 1000000 _ _ _ (by decide) (hP.sub [0, 1, 2, 3, 4, 5, 6, 7, 8] rfl) (hD.sub [0, 1, 2, 3, 4, 5, 6, 7, 8] (by decide) rfl) hS (lv_sub hl [0, 1, 2] rfl)
          have f80 := (show r77.toInt = 0 from z_eq rfl rfl c80)
          have r80a : ir r77.toInt 0 0 := ir_eqa f80 hw77_0 (ir_c 0) (by decide) (by decide)
          refine lv_iconst (v := 0) hx hb dX9_planEnd_83 (by decide) ?_
          refine lv_goto (tgt := 89) hx hb dX9_planEnd_84 (by decide) ?_
          exact J89 0 _ _ _ (by decide) (hP.sub [0, 1, 2, 3, 4, 5, 6, 7, 8] rfl) (hD.sub [0, 1, 2, 3, 4, 5, 6, 7, 8] (by decide) rfl) hS (lv_sub hl [0, 1, 2] rfl)
        refine lv_if_ne (tgt := 55) hx hb dX9_planEnd_45 (by decide) (fun c45 => ?_) (fun c45 => ?_)
        · have f45 := (show n_wi_side_6.toInt ≠ 0 from z_ne rfl rfl c45)
          have r45a : ir n_wi_side_6.toInt 1 1 := ir_nel f45 hw6_0 (by decide) (by decide)
          refine lv_iconst (v := 0) hx hb dX9_planEnd_55 (by decide) ?_
          exact J56 0 _ _ _  (hP.sub [0, 1, 2, 3, 4, 5, 6, 7, 8] rfl) (hD.sub [0, 1, 2, 3, 4, 5, 6, 7, 8] (by decide) rfl) hS (lv_sub hl [0, 1, 2] rfl)
        have f45 := (show n_wi_side_6.toInt = 0 from z_eq rfl rfl c45)
        have r45a : ir n_wi_side_6.toInt 0 0 := ir_eqa f45 hw6_0 (ir_c 0) (by decide) (by decide)
        refine lv_aload_n hx hb dX9_planEnd_48 rfl (lv_at hl 0 rfl) ?_
        refine va_get (D := g) (ci := 9) (v := .int n_wi_rule_6) (C := RX9) (T := TX9) (N := 8) hx hb hts iX9 hown hK hP 3 rfl rfl 1 (by decide) (hts (.fieldLink RX9 27 "CardsAtYule$Will" "rule" "I") (List.mem_cons_of_mem _ (List.mem_append_left _ (List.mem_of_getElem? (i := 19) rfl)))) (fun _ h9 => h9) rfl dX9_planEnd_49 ?_
        refine lv_goto (tgt := 56) hx hb dX9_planEnd_52 (by decide) ?_
        exact J56 n_wi_rule_6 _ _ _  (hP.sub [0, 1, 2, 3, 4, 5, 6, 7, 8] rfl) (hD.sub [0, 1, 2, 3, 4, 5, 6, 7, 8] (by decide) rfl) hS (lv_sub hl [0, 1, 2] rfl)
      refine lv_if_ne (tgt := 37) hx hb dX9_planEnd_30 (by decide) (fun c30 => ?_) (fun c30 => ?_)
      rotate_left 1
      · have f30 := (show n_wi_side_6.toInt = 0 from z_eq rfl rfl c30)
        have r30a : ir n_wi_side_6.toInt 0 0 := ir_eqa f30 hw6_0 (ir_c 0) (by decide) (by decide)
        refine lv_iconst (v := 0) hx hb dX9_planEnd_33 (by decide) ?_
        refine lv_goto (tgt := 41) hx hb dX9_planEnd_34 (by decide) ?_
        exact J41 0 _ _ _  (hP.sub [0, 1, 2, 3, 4, 5, 6, 7, 8] rfl) (hD.sub [0, 1, 2, 3, 4, 5, 6, 7, 8] (by decide) rfl) hS (lv_sub hl [0, 1, 2] rfl)
      have f30 := (show n_wi_side_6.toInt ≠ 0 from z_ne rfl rfl c30)
      have r30a : ir n_wi_side_6.toInt 1 1 := ir_nel f30 hw6_0 (by decide) (by decide)
      refine lv_aload_n hx hb dX9_planEnd_37 rfl (lv_at hl 0 rfl) ?_
      refine va_get (D := g) (ci := 9) (v := .int n_wi_rule_6) (C := RX9) (T := TX9) (N := 8) hx hb hts iX9 hown hK hP 3 rfl rfl 1 (by decide) (hts (.fieldLink RX9 27 "CardsAtYule$Will" "rule" "I") (List.mem_cons_of_mem _ (List.mem_append_left _ (List.mem_of_getElem? (i := 19) rfl)))) (fun _ h9 => h9) rfl dX9_planEnd_38 ?_
      exact J41 n_wi_rule_6 _ _ _  (hP.sub [0, 1, 2, 3, 4, 5, 6, 7, 8] rfl) (hD.sub [0, 1, 2, 3, 4, 5, 6, 7, 8] (by decide) rfl) hS (lv_sub hl [0, 1, 2] rfl)
  exact J17 _ 0 fa_begins fa_length fa_cards fa_round fa_rule0 fa_rule1 fa_yearOf_c wi_worth_c _ _ _ (Nat.lt_succ_self _) (by decide) hv_fa_round (hP.sub [0, 1, 2, 3, 4, 5, 6, 7, 8] rfl) (hD.sub [0, 1, 2, 3, 4, 5, 6, 7, 8] (by decide) rfl) hS (lv_sub hl [1, 6, 0] rfl)
def v_X9_planKeep : List Cond := .code yX9_planKeep cX9_planKeep 5 none :: (([.methodLink RX9 15 yX9_take, .instanceMethod yX9_take, .selects RX9 yX9_take yX9_take, .initialized RX9, .fieldLink RX9 19 "CardsAtYule$Will" "isEnd" "Z", .fieldLink RX9 9 "CardsAtYule$Will" "worth" "[I", .methodLink RX9 47 yJ7_fill_53178, .static yJ7_fill_53178, .initialized RJ7, .methodLink RX9 44 yX9_goBack, .instanceMethod yX9_goBack, .selects RX9 yX9_goBack yX9_goBack] : List Cond) ++ (v_X9_take ++ (v_J7_filli208 ++ (v_X9_goBack ++ (wsX90 ++ ([] : List Cond))))))
theorem good_v_X9_planKeep : v_X9_planKeep.all goodWord = true := ga_c (by decide +kernel) (ga_a (by decide +kernel) (ga_a good_v_X9_take (ga_a good_v_J7_filli208 (ga_a good_v_X9_goBack (ga_a good_wsX90 rfl)))))
set_option maxHeartbeats 4000000 in
set_option maxRecDepth 100000 in
theorem q_X9_planKeep (l : Launch) (g : va_G) (cI cJ cB cZ cL : ClassId) (p1 : Int32) (p2 : Int32) (p3 : Int32) (wi : Nat) (ld : Nat) (wi_side : Int32) (wi_rule : Int32) (wi_begun : Int32) (wi_years : Int32) (wi_card : Int32) (wi_hurt : Int32) (wi_isEnd : Int32) (wi_worth : Nat) (ld_lines : Int32) (ld_years : Int32) (ld_card : Int32) (ld_hurt : Int32) (ld_people : Int32) (ld_pairs : Int32) (ld_strikes : Int64) (ld_rule : Nat) (ld_returns : Nat) (ld_forgets : Nat) (ld_death : Nat) (ld_move : Nat) (ld_begun : Nat) (ld_who : Nat) (ld_lost : Nat) (ld_who_c : Nat → Int32) (ld_rule_c : Nat → Int32) (ld_returns_c : Nat → Int32) (ld_begun_c : Nat → Int32) (wi_worth_c : Nat → Int32) (sz : Nat) (hv_p1 : ir p1.toInt 0 15) (hv_p2 : ir p2.toInt 0 1) (hv_p3 : ir p3.toInt 1 12) (hv_wi_side : ir wi_side.toInt 0 1) (hv_wi_begun : ir wi_begun.toInt 0 15) (hv_wi_years : ir wi_years.toInt 0 12) (hv_wi_isEnd : ir wi_isEnd.toInt 0 1) (hv_ld_years : ir ld_years.toInt 0 40) (hv_ld_people : ir ld_people.toInt 0 10) (hv_ld_pairs : ir ld_pairs.toInt 0 16) (ha_ld_who_c : ar ld_who_c 32 0 9) (ha_ld_begun_c : ar ld_begun_c 16 0 15) : Met l yX9_planKeep v_X9_planKeep ({ frames := 5, cells := 0, slots := 0, locals := 118 }) (va_Pc [.ref wi, .ref ld, .int p1, .int p2, .int p3] (pRW g (tyT cI cJ cB cZ cL) [(wi, .inr (9, [.int wi_side, .int wi_rule, .int wi_begun, .int wi_years, .int wi_card, .int wi_hurt, .int wi_isEnd, .ref wi_worth])), (ld, .inr (4, [.int ld_lines, .int ld_years, .int ld_card, .int ld_hurt, .int ld_people, .int ld_pairs, .long ld_strikes, .ref ld_rule, .ref ld_returns, .ref ld_forgets, .ref ld_death, .ref ld_move, .ref ld_begun, .ref ld_who, .ref ld_lost])), (ld_who, .inl (cI, 32, .inl ld_who_c)), (ld_rule, .inl (cI, 10, .inl ld_rule_c)), (ld_returns, .inl (cI, 10, .inl ld_returns_c)), (ld_begun, .inl (cI, 16, .inl ld_begun_c)), (wi_worth, .inl (cI, 208, .inl wi_worth_c))] sz)) (va_Qv (fun (u : Int32 × Int32 × Int32 × Int32 × Int32 × Int32 × Int32 × (Nat → Int32)) => match u with | (n_wi_side, n_wi_rule, n_wi_begun, n_wi_years, n_wi_card, n_wi_hurt, n_wi_isEnd, n_wi_worth_c) => (ir n_wi_side.toInt 0 1) ∧ (ir n_wi_begun.toInt 0 15) ∧ (ir n_wi_years.toInt 1 12) ∧ (ir n_wi_isEnd.toInt 0 0)) (fun (u : Int32 × Int32 × Int32 × Int32 × Int32 × Int32 × Int32 × (Nat → Int32)) (t : State) => bRW g (tyT cI cJ cB cZ cL) (va_A [(wi, .inr (9, [.int wi_side, .int wi_rule, .int wi_begun, .int wi_years, .int wi_card, .int wi_hurt, .int wi_isEnd, .ref wi_worth])), (ld, .inr (4, [.int ld_lines, .int ld_years, .int ld_card, .int ld_hurt, .int ld_people, .int ld_pairs, .long ld_strikes, .ref ld_rule, .ref ld_returns, .ref ld_forgets, .ref ld_death, .ref ld_move, .ref ld_begun, .ref ld_who, .ref ld_lost])), (ld_who, .inl (cI, 32, .inl ld_who_c)), (ld_rule, .inl (cI, 10, .inl ld_rule_c)), (ld_returns, .inl (cI, 10, .inl ld_returns_c)), (ld_begun, .inl (cI, 16, .inl ld_begun_c)), (wi_worth, .inl (cI, 208, .inl wi_worth_c))] sz) (match u with | (n_wi_side, n_wi_rule, n_wi_begun, n_wi_years, n_wi_card, n_wi_hurt, n_wi_isEnd, n_wi_worth_c) => [(wi, .inr (9, [.int n_wi_side, .int n_wi_rule, .int n_wi_begun, .int n_wi_years, .int n_wi_card, .int n_wi_hurt, .int n_wi_isEnd, .ref wi_worth])), (ld, .inr (4, [.int ld_lines, .int ld_years, .int ld_card, .int ld_hurt, .int ld_people, .int ld_pairs, .long ld_strikes, .ref ld_rule, .ref ld_returns, .ref ld_forgets, .ref ld_death, .ref ld_move, .ref ld_begun, .ref ld_who, .ref ld_lost])), (ld_who, .inl (cI, 32, .inl ld_who_c)), (ld_rule, .inl (cI, 10, .inl ld_rule_c)), (ld_returns, .inl (cI, 10, .inl ld_returns_c)), (ld_begun, .inl (cI, 16, .inl ld_begun_c)), (wi_worth, .inl (cI, 208, .inl n_wi_worth_c))]) t) (va_A [(wi, .inr (9, [.int wi_side, .int wi_rule, .int wi_begun, .int wi_years, .int wi_card, .int wi_hurt, .int wi_isEnd, .ref wi_worth])), (ld, .inr (4, [.int ld_lines, .int ld_years, .int ld_card, .int ld_hurt, .int ld_people, .int ld_pairs, .long ld_strikes, .ref ld_rule, .ref ld_returns, .ref ld_forgets, .ref ld_death, .ref ld_move, .ref ld_begun, .ref ld_who, .ref ld_lost])), (ld_who, .inl (cI, 32, .inl ld_who_c)), (ld_rule, .inl (cI, 10, .inl ld_rule_c)), (ld_returns, .inl (cI, 10, .inl ld_returns_c)), (ld_begun, .inl (cI, 16, .inl ld_begun_c)), (wi_worth, .inl (cI, 208, .inl wi_worth_c))] sz)) 0 0 (va_A [(wi, .inr (9, [.int wi_side, .int wi_rule, .int wi_begun, .int wi_years, .int wi_card, .int wi_hurt, .int wi_isEnd, .ref wi_worth])), (ld, .inr (4, [.int ld_lines, .int ld_years, .int ld_card, .int ld_hurt, .int ld_people, .int ld_pairs, .long ld_strikes, .ref ld_rule, .ref ld_returns, .ref ld_forgets, .ref ld_death, .ref ld_move, .ref ld_begun, .ref ld_who, .ref ld_lost])), (ld_who, .inl (cI, 32, .inl ld_who_c)), (ld_rule, .inl (cI, 10, .inl ld_rule_c)), (ld_returns, .inl (cI, 10, .inl ld_returns_c)), (ld_begun, .inl (cI, 16, .inl ld_begun_c)), (wi_worth, .inl (cI, 208, .inl wi_worth_c))] sz) := by
  refine Met.ofW (cc := cX9_planKeep) (maxL := 5) (ret := none) (by decide) rfl ?_
  intro p e s m args below meth c s₁ B hml hv
  obtain ⟨rfl, hsz, hP, hK, hD0⟩ := hv
  have hx := B.exec
  have hb := B.bytes
  have hr := B.returns
  have hts := atoms_spec (ws := v_X9_planKeep) B.pre
  have hown : s.vm.findClass RX9 = some m.cls := findClass_of_methodNamed B.named
  have hlocks := B.notSynchronized
  clear B
  subst hsz
  have iX9 : ∀ w ∈ wsX90, w ∈ v_X9_planKeep := (fun _ h => List.mem_cons_of_mem _ (List.mem_append_right _ (List.mem_append_right _ (List.mem_append_right _ (List.mem_append_right _ (List.mem_append_left _ h))))))
  have hD := hD0.self (sz := s.heap.size)
  generalize hAe : (va_A [(wi, .inr (9, [.int wi_side, .int wi_rule, .int wi_begun, .int wi_years, .int wi_card, .int wi_hurt, .int wi_isEnd, .ref wi_worth])), (ld, .inr (4, [.int ld_lines, .int ld_years, .int ld_card, .int ld_hurt, .int ld_people, .int ld_pairs, .long ld_strikes, .ref ld_rule, .ref ld_returns, .ref ld_forgets, .ref ld_death, .ref ld_move, .ref ld_begun, .ref ld_who, .ref ld_lost])), (ld_who, .inl (cI, 32, .inl ld_who_c)), (ld_rule, .inl (cI, 10, .inl ld_rule_c)), (ld_returns, .inl (cI, 10, .inl ld_returns_c)), (ld_begun, .inl (cI, 16, .inl ld_begun_c)), (wi_worth, .inl (cI, 208, .inl wi_worth_c))] s.heap.size) = A at hD ⊢
  have hA : ∀ q : Nat, s.heap.size ≤ q → A q := fun q h => by rw [← hAe]; exact Or.inr h
  have hS : va_S A s.heap s.heap [] := va_S.rf
  have hl := lv_entry ([.ref wi, .ref ld, .int p1, .int p2, .int p3]) (n := 5) (Nat.le_of_ble_eq_true rfl)
  rw [lg_entry_eq]
  generalize (lg_sl ([.ref wi, .ref ld, .int p1, .int p2, .int p3]) ++ List.replicate (5 - (lg_sl ([.ref wi, .ref ld, .int p1, .int p2, .int p3])).length) Slot.unset).toArray = ls at hl ⊢
  generalize ([.ref wi, .ref ld, .int p1, .int p2, .int p3] : List Value).toArray = av at hts ⊢
  generalize hQ : MQ below _ av s _ _ A = QQ
  have hl : lv_has ls 5 [(0, .ref wi), (1, .ref ld), (2, .int p1), (3, .int p2), (4, .int p3)] := hl
  have hP : va_P g vwCl [(wi, .inr (9, [.int wi_side, .int wi_rule, .int wi_begun, .int wi_years, .int wi_card, .int wi_hurt, .int wi_isEnd, .ref wi_worth])), (ld, .inr (4, [.int ld_lines, .int ld_years, .int ld_card, .int ld_hurt, .int ld_people, .int ld_pairs, .long ld_strikes, .ref ld_rule, .ref ld_returns, .ref ld_forgets, .ref ld_death, .ref ld_move, .ref ld_begun, .ref ld_who, .ref ld_lost])), (ld_who, .inl (cI, 32, .inl ld_who_c)), (ld_rule, .inl (cI, 10, .inl ld_rule_c)), (ld_returns, .inl (cI, 10, .inl ld_returns_c)), (ld_begun, .inl (cI, 16, .inl ld_begun_c)), (wi_worth, .inl (cI, 208, .inl wi_worth_c))] s.heap := hP
  refine lv_aload_n hx hb dX9_planKeep_0 rfl (lv_at hl 0 rfl) ?_
  refine lv_aload_n hx hb dX9_planKeep_1 rfl (lv_at hl 1 rfl) ?_
  refine lv_iload_n hx hb dX9_planKeep_2 rfl (lv_at hl 2 rfl) ?_
  refine lv_iload_n hx hb dX9_planKeep_3 rfl (lv_at hl 3 rfl) ?_
  refine lv_iload hx hb dX9_planKeep_4 (lv_at hl 4 rfl) ?_
  refine rw_v (wr := [(wi_worth, .inl (cI, 208, .inl wi_worth_c))]) (va_runV (As := [.ref ld, .int p1, .int p2, .int p3]) (rest := []) ⟨hx, hb, hml, hown, hts⟩ (q_X9_take l g cI cJ cB cZ cL p1 p2 p3 wi ld wi_side wi_rule wi_begun wi_years wi_card wi_hurt wi_isEnd wi_worth ld_lines ld_years ld_card ld_hurt ld_people ld_pairs ld_strikes ld_rule ld_returns ld_forgets ld_death ld_move ld_begun ld_who ld_lost ld_who_c ld_rule_c ld_returns_c ld_begun_c s.heap.size hv_p1 hv_p2 hv_p3 hv_wi_side hv_wi_begun hv_wi_years hv_wi_isEnd hv_ld_years hv_ld_people hv_ld_pairs ha_ld_who_c ha_ld_begun_c) (cwV 4 hts (goodIn_app (g_4 (List.mem_cons_of_mem _ (List.mem_append_left _ (List.mem_of_getElem? (i := 0) rfl))) (List.mem_cons_of_mem _ (List.mem_append_left _ (List.mem_of_getElem? (i := 1) rfl))) (List.mem_cons_of_mem _ (List.mem_append_left _ (List.mem_of_getElem? (i := 2) rfl))) (List.mem_cons_of_mem _ (List.mem_append_left _ (List.mem_of_getElem? (i := 3) rfl))) (by decide +kernel)) (goodIn_sub (fun _ h => List.mem_cons_of_mem _ (List.mem_append_right _ (List.mem_append_left _ h))) good_v_X9_take)) rfl rfl rfl (by decide +kernel) ⟨Nat.le_of_ble_eq_true rfl, Nat.le_of_ble_eq_true rfl⟩) (pv_RW (q := (RX9, TX9, 8)) (ci := 9) (q0 := 0) (wc := [(wi, .inr (9, [.int wi_side, .int wi_rule, .int wi_begun, .int wi_years, .int wi_card, .int wi_hurt, .int wi_isEnd, .ref wi_worth])), (ld, .inr (4, [.int ld_lines, .int ld_years, .int ld_card, .int ld_hurt, .int ld_people, .int ld_pairs, .long ld_strikes, .ref ld_rule, .ref ld_returns, .ref ld_forgets, .ref ld_death, .ref ld_move, .ref ld_begun, .ref ld_who, .ref ld_lost])), (ld_who, .inl (cI, 32, .inl ld_who_c)), (ld_rule, .inl (cI, 10, .inl ld_rule_c)), (ld_returns, .inl (cI, 10, .inl ld_returns_c)), (ld_begun, .inl (cI, 16, .inl ld_begun_c))]) hK hP hD [0, 1, 2, 3, 4, 5] (by decide) rfl rfl rfl) rfl rfl hl.1 rfl (lv_room (Nat.le_of_ble_eq_true rfl)) dX9_planKeep_6 ⟨Nat.le_of_ble_eq_true rfl, Nat.le_of_ble_eq_true rfl⟩) hS hA hP hD [0, 1, 2, 3, 4, 5] [6] rfl rfl (by decide) (by decide) (fun u6 H locs hw6 hP hD hS => ?_)
  obtain ⟨n_wi_side_6, n_wi_rule_6, n_wi_begun_6, n_wi_years_6, n_wi_card_6, n_wi_hurt_6⟩ := u6
  have hP : va_P g vwCl [(wi_worth, .inl (cI, 208, .inl wi_worth_c)), (wi, .inr (9, [.int n_wi_side_6, .int n_wi_rule_6, .int n_wi_begun_6, .int n_wi_years_6, .int n_wi_card_6, .int n_wi_hurt_6, .int wi_isEnd, .ref wi_worth])), (ld, .inr (4, [.int ld_lines, .int ld_years, .int ld_card, .int ld_hurt, .int ld_people, .int ld_pairs, .long ld_strikes, .ref ld_rule, .ref ld_returns, .ref ld_forgets, .ref ld_death, .ref ld_move, .ref ld_begun, .ref ld_who, .ref ld_lost])), (ld_who, .inl (cI, 32, .inl ld_who_c)), (ld_rule, .inl (cI, 10, .inl ld_rule_c)), (ld_returns, .inl (cI, 10, .inl ld_returns_c)), (ld_begun, .inl (cI, 16, .inl ld_begun_c))] H := hP
  have hD : va_D A [(wi_worth, .inl (cI, 208, .inl wi_worth_c)), (wi, .inr (9, [.int n_wi_side_6, .int n_wi_rule_6, .int n_wi_begun_6, .int n_wi_years_6, .int n_wi_card_6, .int n_wi_hurt_6, .int wi_isEnd, .ref wi_worth])), (ld, .inr (4, [.int ld_lines, .int ld_years, .int ld_card, .int ld_hurt, .int ld_people, .int ld_pairs, .long ld_strikes, .ref ld_rule, .ref ld_returns, .ref ld_forgets, .ref ld_death, .ref ld_move, .ref ld_begun, .ref ld_who, .ref ld_lost])), (ld_who, .inl (cI, 32, .inl ld_who_c)), (ld_rule, .inl (cI, 10, .inl ld_rule_c)), (ld_returns, .inl (cI, 10, .inl ld_returns_c)), (ld_begun, .inl (cI, 16, .inl ld_begun_c))] := hD
  dsimp only at hw6
  obtain ⟨hw6_0, hw6_1, hw6_2⟩ := hw6
  refine lv_aload_n hx hb dX9_planKeep_9 rfl (lv_at hl 0 rfl) ?_
  refine lv_iconst (v := 0) hx hb dX9_planKeep_10 (by decide) ?_
  refine va_put (D := g) (ci := 9) (v := .int 0) (ty := .boolean) (C := RX9) (T := TX9) (N := 8) hx hb hts iX9 tyX9 tyX9_ok nmX9 hown hK hP hD hS 1 rfl rfl 6 (by decide) (hts (.fieldLink RX9 19 "CardsAtYule$Will" "isEnd" "Z") (List.mem_cons_of_mem _ (List.mem_append_left _ (List.mem_of_getElem? (i := 4) rfl)))) (fun _ h9 => h9) rfl (by decide +kernel) rfl rfl (Nat.le_of_ble_eq_true rfl) dX9_planKeep_11 (fun H locs hP hD hS => ?_)
  have hP : va_P g vwCl [(wi_worth, .inl (cI, 208, .inl wi_worth_c)), (wi, .inr (9, [.int n_wi_side_6, .int n_wi_rule_6, .int n_wi_begun_6, .int n_wi_years_6, .int n_wi_card_6, .int n_wi_hurt_6, .int 0, .ref wi_worth])), (ld, .inr (4, [.int ld_lines, .int ld_years, .int ld_card, .int ld_hurt, .int ld_people, .int ld_pairs, .long ld_strikes, .ref ld_rule, .ref ld_returns, .ref ld_forgets, .ref ld_death, .ref ld_move, .ref ld_begun, .ref ld_who, .ref ld_lost])), (ld_who, .inl (cI, 32, .inl ld_who_c)), (ld_rule, .inl (cI, 10, .inl ld_rule_c)), (ld_returns, .inl (cI, 10, .inl ld_returns_c)), (ld_begun, .inl (cI, 16, .inl ld_begun_c))] H := hP
  have hD : va_D A [(wi_worth, .inl (cI, 208, .inl wi_worth_c)), (wi, .inr (9, [.int n_wi_side_6, .int n_wi_rule_6, .int n_wi_begun_6, .int n_wi_years_6, .int n_wi_card_6, .int n_wi_hurt_6, .int 0, .ref wi_worth])), (ld, .inr (4, [.int ld_lines, .int ld_years, .int ld_card, .int ld_hurt, .int ld_people, .int ld_pairs, .long ld_strikes, .ref ld_rule, .ref ld_returns, .ref ld_forgets, .ref ld_death, .ref ld_move, .ref ld_begun, .ref ld_who, .ref ld_lost])), (ld_who, .inl (cI, 32, .inl ld_who_c)), (ld_rule, .inl (cI, 10, .inl ld_rule_c)), (ld_returns, .inl (cI, 10, .inl ld_returns_c)), (ld_begun, .inl (cI, 16, .inl ld_begun_c))] := hD
  refine lv_aload_n hx hb dX9_planKeep_14 rfl (lv_at hl 0 rfl) ?_
  refine va_get (D := g) (ci := 9) (v := .ref wi_worth) (C := RX9) (T := TX9) (N := 8) hx hb hts iX9 hown hK hP 1 rfl rfl 7 (by decide) (hts (.fieldLink RX9 9 "CardsAtYule$Will" "worth" "[I") (List.mem_cons_of_mem _ (List.mem_append_left _ (List.mem_of_getElem? (i := 5) rfl)))) (fun _ h9 => h9) rfl dX9_planKeep_15 ?_
  refine lv_iconst (v := 0) hx hb dX9_planKeep_18 (by decide) ?_
  refine rw_v (wr := [(wi, .inr (9, [.int n_wi_side_6, .int n_wi_rule_6, .int n_wi_begun_6, .int n_wi_years_6, .int n_wi_card_6, .int n_wi_hurt_6, .int 0, .ref wi_worth])), (ld, .inr (4, [.int ld_lines, .int ld_years, .int ld_card, .int ld_hurt, .int ld_people, .int ld_pairs, .long ld_strikes, .ref ld_rule, .ref ld_returns, .ref ld_forgets, .ref ld_death, .ref ld_move, .ref ld_begun, .ref ld_who, .ref ld_lost])), (ld_who, .inl (cI, 32, .inl ld_who_c)), (ld_rule, .inl (cI, 10, .inl ld_rule_c)), (ld_returns, .inl (cI, 10, .inl ld_returns_c)), (ld_begun, .inl (cI, 16, .inl ld_begun_c))]) (va_runS (As := [.ref wi_worth, .int 0]) (rest := []) ⟨hx, hb, hml, hown, hts⟩ (q_J7_filli208 l g cI cJ cB cZ cL 0 wi_worth wi_worth_c H.size ) (va_cwS 2 hts (goodIn_app (g_3 (List.mem_cons_of_mem _ (List.mem_append_left _ (List.mem_of_getElem? (i := 6) rfl))) (List.mem_cons_of_mem _ (List.mem_append_left _ (List.mem_of_getElem? (i := 7) rfl))) (List.mem_cons_of_mem _ (List.mem_append_left _ (List.mem_of_getElem? (i := 8) rfl))) (by decide +kernel)) (goodIn_sub (fun _ h => List.mem_cons_of_mem _ (List.mem_append_right _ (List.mem_append_right _ (List.mem_append_left _ h)))) good_v_J7_filli208)) rfl rfl rfl (by decide +kernel) ⟨Nat.le_of_ble_eq_true rfl, Nat.le_of_ble_eq_true rfl⟩) (ps_RW (wc := [(wi_worth, .inl (cI, 208, .inl wi_worth_c))]) hK hP hD [0] (by decide) rfl) rfl rfl hl.1 rfl (lv_room (Nat.le_of_ble_eq_true rfl)) dX9_planKeep_19 ⟨Nat.le_of_ble_eq_true rfl, Nat.le_of_ble_eq_true rfl⟩) hS hA hP hD [0] [1, 2, 3, 4, 5, 6] rfl rfl (by decide) (by decide) (fun u19 H locs hw19 hP hD hS => ?_)
  generalize u19 = n_r0_c_19 at hw19 hP hD
  have hP : va_P g vwCl [(wi, .inr (9, [.int n_wi_side_6, .int n_wi_rule_6, .int n_wi_begun_6, .int n_wi_years_6, .int n_wi_card_6, .int n_wi_hurt_6, .int 0, .ref wi_worth])), (ld, .inr (4, [.int ld_lines, .int ld_years, .int ld_card, .int ld_hurt, .int ld_people, .int ld_pairs, .long ld_strikes, .ref ld_rule, .ref ld_returns, .ref ld_forgets, .ref ld_death, .ref ld_move, .ref ld_begun, .ref ld_who, .ref ld_lost])), (ld_who, .inl (cI, 32, .inl ld_who_c)), (ld_rule, .inl (cI, 10, .inl ld_rule_c)), (ld_returns, .inl (cI, 10, .inl ld_returns_c)), (ld_begun, .inl (cI, 16, .inl ld_begun_c)), (wi_worth, .inl (cI, 208, .inl n_r0_c_19))] H := hP
  have hD : va_D A [(wi, .inr (9, [.int n_wi_side_6, .int n_wi_rule_6, .int n_wi_begun_6, .int n_wi_years_6, .int n_wi_card_6, .int n_wi_hurt_6, .int 0, .ref wi_worth])), (ld, .inr (4, [.int ld_lines, .int ld_years, .int ld_card, .int ld_hurt, .int ld_people, .int ld_pairs, .long ld_strikes, .ref ld_rule, .ref ld_returns, .ref ld_forgets, .ref ld_death, .ref ld_move, .ref ld_begun, .ref ld_who, .ref ld_lost])), (ld_who, .inl (cI, 32, .inl ld_who_c)), (ld_rule, .inl (cI, 10, .inl ld_rule_c)), (ld_returns, .inl (cI, 10, .inl ld_returns_c)), (ld_begun, .inl (cI, 16, .inl ld_begun_c)), (wi_worth, .inl (cI, 208, .inl n_r0_c_19))] := hD
  refine lv_aload_n hx hb dX9_planKeep_22 rfl (lv_at hl 0 rfl) ?_
  refine rw_v (wr := [(ld, .inr (4, [.int ld_lines, .int ld_years, .int ld_card, .int ld_hurt, .int ld_people, .int ld_pairs, .long ld_strikes, .ref ld_rule, .ref ld_returns, .ref ld_forgets, .ref ld_death, .ref ld_move, .ref ld_begun, .ref ld_who, .ref ld_lost])), (ld_who, .inl (cI, 32, .inl ld_who_c)), (ld_rule, .inl (cI, 10, .inl ld_rule_c)), (ld_returns, .inl (cI, 10, .inl ld_returns_c)), (ld_begun, .inl (cI, 16, .inl ld_begun_c))]) (va_runV (As := []) (rest := []) ⟨hx, hb, hml, hown, hts⟩ (q_X9_goBack l g cI cJ cB cZ cL wi n_wi_side_6 n_wi_rule_6 n_wi_begun_6 n_wi_years_6 n_wi_card_6 n_wi_hurt_6 0 wi_worth n_r0_c_19 H.size hw6_0 hw6_1 (ir_w hw6_2 (by decide) (by decide)) (by decide)) (cwV 0 hts (goodIn_app (g_4 (List.mem_cons_of_mem _ (List.mem_append_left _ (List.mem_of_getElem? (i := 9) rfl))) (List.mem_cons_of_mem _ (List.mem_append_left _ (List.mem_of_getElem? (i := 10) rfl))) (List.mem_cons_of_mem _ (List.mem_append_left _ (List.mem_of_getElem? (i := 11) rfl))) (List.mem_cons_of_mem _ (List.mem_append_left _ (List.mem_of_getElem? (i := 3) rfl))) (by decide +kernel)) (goodIn_sub (fun _ h => List.mem_cons_of_mem _ (List.mem_append_right _ (List.mem_append_right _ (List.mem_append_right _ (List.mem_append_left _ h))))) good_v_X9_goBack)) rfl rfl rfl (by decide +kernel) ⟨Nat.le_of_ble_eq_true rfl, Nat.le_of_ble_eq_true rfl⟩) (pv_RW (q := (RX9, TX9, 8)) (ci := 9) (q0 := 0) (wc := [(wi, .inr (9, [.int n_wi_side_6, .int n_wi_rule_6, .int n_wi_begun_6, .int n_wi_years_6, .int n_wi_card_6, .int n_wi_hurt_6, .int 0, .ref wi_worth])), (wi_worth, .inl (cI, 208, .inl n_r0_c_19))]) hK hP hD [0, 6] (by decide) rfl rfl rfl) rfl rfl hl.1 rfl (lv_room (Nat.le_of_ble_eq_true rfl)) dX9_planKeep_23 ⟨Nat.le_of_ble_eq_true rfl, Nat.le_of_ble_eq_true rfl⟩) hS hA hP hD [0, 6] [1, 2, 3, 4, 5] rfl rfl (by decide) (by decide) (fun u23 H locs hw23 hP hD hS => ?_)
  generalize u23 = n_wi_worth_c_23 at hw23 hP hD
  have hP : va_P g vwCl [(ld, .inr (4, [.int ld_lines, .int ld_years, .int ld_card, .int ld_hurt, .int ld_people, .int ld_pairs, .long ld_strikes, .ref ld_rule, .ref ld_returns, .ref ld_forgets, .ref ld_death, .ref ld_move, .ref ld_begun, .ref ld_who, .ref ld_lost])), (ld_who, .inl (cI, 32, .inl ld_who_c)), (ld_rule, .inl (cI, 10, .inl ld_rule_c)), (ld_returns, .inl (cI, 10, .inl ld_returns_c)), (ld_begun, .inl (cI, 16, .inl ld_begun_c)), (wi, .inr (9, [.int n_wi_side_6, .int n_wi_rule_6, .int n_wi_begun_6, .int n_wi_years_6, .int n_wi_card_6, .int n_wi_hurt_6, .int 0, .ref wi_worth])), (wi_worth, .inl (cI, 208, .inl n_wi_worth_c_23))] H := hP
  have hD : va_D A [(ld, .inr (4, [.int ld_lines, .int ld_years, .int ld_card, .int ld_hurt, .int ld_people, .int ld_pairs, .long ld_strikes, .ref ld_rule, .ref ld_returns, .ref ld_forgets, .ref ld_death, .ref ld_move, .ref ld_begun, .ref ld_who, .ref ld_lost])), (ld_who, .inl (cI, 32, .inl ld_who_c)), (ld_rule, .inl (cI, 10, .inl ld_rule_c)), (ld_returns, .inl (cI, 10, .inl ld_returns_c)), (ld_begun, .inl (cI, 16, .inl ld_begun_c)), (wi, .inr (9, [.int n_wi_side_6, .int n_wi_rule_6, .int n_wi_begun_6, .int n_wi_years_6, .int n_wi_card_6, .int n_wi_hurt_6, .int 0, .ref wi_worth])), (wi_worth, .inl (cI, 208, .inl n_wi_worth_c_23))] := hD
  subst hQ
  have hP9 := hP.sub (ws' := [(wi, .inr (9, [.int n_wi_side_6, .int n_wi_rule_6, .int n_wi_begun_6, .int n_wi_years_6, .int n_wi_card_6, .int n_wi_hurt_6, .int 0, .ref wi_worth])), (ld, .inr (4, [.int ld_lines, .int ld_years, .int ld_card, .int ld_hurt, .int ld_people, .int ld_pairs, .long ld_strikes, .ref ld_rule, .ref ld_returns, .ref ld_forgets, .ref ld_death, .ref ld_move, .ref ld_begun, .ref ld_who, .ref ld_lost])), (ld_who, .inl (cI, 32, .inl ld_who_c)), (ld_rule, .inl (cI, 10, .inl ld_rule_c)), (ld_returns, .inl (cI, 10, .inl ld_returns_c)), (ld_begun, .inl (cI, 16, .inl ld_begun_c)), (wi_worth, .inl (cI, 208, .inl n_wi_worth_c_23))]) [5, 0, 1, 2, 3, 4, 6] rfl
  have hD9 := hD.sub (ws' := [(wi, .inr (9, [.int n_wi_side_6, .int n_wi_rule_6, .int n_wi_begun_6, .int n_wi_years_6, .int n_wi_card_6, .int n_wi_hurt_6, .int 0, .ref wi_worth])), (ld, .inr (4, [.int ld_lines, .int ld_years, .int ld_card, .int ld_hurt, .int ld_people, .int ld_pairs, .long ld_strikes, .ref ld_rule, .ref ld_returns, .ref ld_forgets, .ref ld_death, .ref ld_move, .ref ld_begun, .ref ld_who, .ref ld_lost])), (ld_who, .inl (cI, 32, .inl ld_who_c)), (ld_rule, .inl (cI, 10, .inl ld_rule_c)), (ld_returns, .inl (cI, 10, .inl ld_returns_c)), (ld_begun, .inl (cI, 16, .inl ld_begun_c)), (wi_worth, .inl (cI, 208, .inl n_wi_worth_c_23))]) [5, 0, 1, 2, 3, 4, 6] (by decide) rfl
  exact W.vret hx hb hr (fun t ht hW => ⟨⟨(n_wi_side_6, n_wi_rule_6, n_wi_begun_6, n_wi_years_6, n_wi_card_6, n_wi_hurt_6, 0, n_wi_worth_c_23), rfl, ⟨hw6_0, hw6_1, hw6_2, (show ir (0 : Int32).toInt 0 0 by decide)⟩, ⟨by rw [ht]; exact hP9, va_K.moved hW.alike hK, hD9⟩⟩, hS.F ht⟩) hS.2.2 dX9_planKeep_26
def v_X7_has : List Cond := .code yX7_has cX7_has 2 (some .boolean) :: (([.fieldLink RX7 15 "CardsAtYule$Slots" "size" "[I"] : List Cond) ++ (wsX70 ++ ([] : List Cond)))
theorem good_v_X7_has : v_X7_has.all goodWord = true := ga_c (by decide +kernel) (ga_a (by decide +kernel) (ga_a good_wsX70 rfl))
set_option maxHeartbeats 4000000 in
set_option maxRecDepth 100000 in
theorem q_X7_has (l : Launch) (g : va_G) (cI cJ cB cZ cL : ClassId) (p0 : Int32) (sl : Nat) (sl_width : Nat) (sl_size : Nat) (sl_numbers : Nat) (sl_size_c : Nat → Int32) (sz : Nat) (hv_p0 : ir p0.toInt 0 3) (ha_sl_size_c : ar sl_size_c 4 (-1) 60) : Met l yX7_has v_X7_has ({ frames := 0, cells := 0, slots := 0, locals := 0 }) (va_Pc [.ref sl, .int p0] (pRO g (tyT cI cJ cB cZ cL) [(sl, .inr (7, [.ref sl_width, .ref sl_size, .ref sl_numbers])), (sl_size, .inl (cI, 4, .inl sl_size_c))] sz)) (va_Qi (fun (r : Int32) (u : Unit) => (ir r.toInt 0 1)) (fun (_ : Unit) (_ : State) => True) (va_A [] sz)) 0 0 (va_A [] sz) := by
  refine Met.ofW (cc := cX7_has) (maxL := 2) (ret := (some .boolean)) (by decide) rfl ?_
  intro p e s m args below meth c s₁ B hml hv
  obtain ⟨rfl, hsz, hP, hK⟩ := hv
  have hx := B.exec
  have hb := B.bytes
  have hr := B.returns
  have hts := atoms_spec (ws := v_X7_has) B.pre
  have hown : s.vm.findClass RX7 = some m.cls := findClass_of_methodNamed B.named
  have hlocks := B.notSynchronized
  clear B
  subst hsz
  have iX7 : ∀ w ∈ wsX70, w ∈ v_X7_has := (fun _ h => List.mem_cons_of_mem _ (List.mem_append_right _ (List.mem_append_left _ h)))
  generalize hAe : (va_A [] s.heap.size) = A
  have hA : ∀ q : Nat, s.heap.size ≤ q → A q := fun q h => by rw [← hAe]; exact Or.inr h
  have hS : va_S A s.heap s.heap [] := va_S.rf
  have hl := lv_entry ([.ref sl, .int p0]) (n := 2) (Nat.le_of_ble_eq_true rfl)
  rw [lg_entry_eq]
  generalize (lg_sl ([.ref sl, .int p0]) ++ List.replicate (2 - (lg_sl ([.ref sl, .int p0])).length) Slot.unset).toArray = ls at hl ⊢
  generalize ([.ref sl, .int p0] : List Value).toArray = av at hts ⊢
  generalize hQ : MQ below _ av s _ _ A = QQ
  have hl : lv_has ls 2 [(0, .ref sl), (1, .int p0)] := hl
  have hP : va_P g vwCl [(sl, .inr (7, [.ref sl_width, .ref sl_size, .ref sl_numbers])), (sl_size, .inl (cI, 4, .inl sl_size_c))] s.heap := hP
  refine lv_aload_n hx hb dX7_has_0 rfl (lv_at hl 0 rfl) ?_
  refine va_get (D := g) (ci := 7) (v := .ref sl_size) (C := RX7) (T := TX7) (N := 3) hx hb hts iX7 hown hK hP 0 rfl rfl 1 (by decide) (hts (.fieldLink RX7 15 "CardsAtYule$Slots" "size" "[I") (List.mem_cons_of_mem _ (List.mem_append_left _ (List.mem_of_getElem? (i := 0) rfl)))) (fun _ h9 => h9) rfl dX7_has_1 ?_
  refine lv_iload_n hx hb dX7_has_4 rfl (lv_at hl 1 rfl) ?_
  refine va_iald (D := g) hx hb hK hP 1 0 rfl rfl (vi_rg rfl hv_p0 (by decide) (by decide)) dX7_has_5 ?_
  refine lv_topi (fun y5 e5 => ?_)
  have r5 : ir y5.toInt (-1) 60 := by rw [e5]; exact ha_sl_size_c _ (vi_cl (vi_rg rfl hv_p0 (by decide) (by decide)))
  refine lv_iconst (v := (-1)) hx hb dX7_has_6 (by decide) ?_
  refine lv_icmp_eq (tgt := 14) hx hb dX7_has_7 (by decide) (fun c7 => ?_) (fun c7 => ?_)
  · have f7 := (show y5.toInt = (-1) from z_eq rfl rfl c7)
    have r7a : ir y5.toInt (-1) (-1) := ir_eqa f7 r5 (ir_c (-1)) (by decide) (by decide)
    refine lv_iconst (v := 0) hx hb dX7_has_14 (by decide) ?_
    subst hQ
    exact W.zret (v := 0) hx hb hr rfl (fun t ht hW => ⟨⟨0, (), rfl, (show ir (0 : Int32).toInt 0 1 by decide), trivial⟩, hS.F ht⟩) hS.2.2 dX7_has_15
  have f7 := (show y5.toInt ≠ (-1) from z_ne rfl rfl c7)
  have r7a : ir y5.toInt 0 60 := ir_nel f7 r5 (by decide) (by decide)
  refine lv_iconst (v := 1) hx hb dX7_has_10 (by decide) ?_
  refine lv_goto (tgt := 15) hx hb dX7_has_11 (by decide) ?_
  subst hQ
  exact W.zret (v := 1) hx hb hr rfl (fun t ht hW => ⟨⟨1, (), rfl, (show ir (1 : Int32).toInt 0 1 by decide), trivial⟩, hS.F ht⟩) hS.2.2 dX7_has_15
def v_X7_filled : List Cond := .code yX7_filled cX7_filled 3 (some .int) :: (([.methodLink RX7 22 yX7_has, .instanceMethod yX7_has, .selects RX7 yX7_has yX7_has, .initialized RX7] : List Cond) ++ (v_X7_has ++ ([] : List Cond)))
theorem good_v_X7_filled : v_X7_filled.all goodWord = true := ga_c (by decide +kernel) (ga_a (by decide +kernel) (ga_a good_v_X7_has rfl))
set_option maxHeartbeats 4000000 in
set_option maxRecDepth 100000 in
theorem q_X7_filled (l : Launch) (g : va_G) (cI cJ cB cZ cL : ClassId) (sl : Nat) (sl_width : Nat) (sl_size : Nat) (sl_numbers : Nat) (sl_size_c : Nat → Int32) (sz : Nat) (ha_sl_size_c : ar sl_size_c 4 (-1) 60) : Met l yX7_filled v_X7_filled ({ frames := 1, cells := 0, slots := 0, locals := 21 }) (va_Pc [.ref sl] (pRO g (tyT cI cJ cB cZ cL) [(sl, .inr (7, [.ref sl_width, .ref sl_size, .ref sl_numbers])), (sl_size, .inl (cI, 4, .inl sl_size_c))] sz)) (va_Qi (fun (r : Int32) (u : Unit) => True) (fun (_ : Unit) (_ : State) => True) (va_A [] sz)) 0 0 (va_A [] sz) := by
  refine Met.ofW (cc := cX7_filled) (maxL := 3) (ret := (some .int)) (by decide) rfl ?_
  intro p e s m args below meth c s₁ B hml hv
  obtain ⟨rfl, hsz, hP, hK⟩ := hv
  have hx := B.exec
  have hb := B.bytes
  have hr := B.returns
  have hts := atoms_spec (ws := v_X7_filled) B.pre
  have hown : s.vm.findClass RX7 = some m.cls := findClass_of_methodNamed B.named
  have hlocks := B.notSynchronized
  clear B
  subst hsz
  generalize hAe : (va_A [] s.heap.size) = A
  have hA : ∀ q : Nat, s.heap.size ≤ q → A q := fun q h => by rw [← hAe]; exact Or.inr h
  have hS : va_S A s.heap s.heap [] := va_S.rf
  have hl := lv_entry ([.ref sl]) (n := 3) (Nat.le_of_ble_eq_true rfl)
  rw [lg_entry_eq]
  generalize (lg_sl ([.ref sl]) ++ List.replicate (3 - (lg_sl ([.ref sl])).length) Slot.unset).toArray = ls at hl ⊢
  generalize ([.ref sl] : List Value).toArray = av at hts ⊢
  generalize hQ : MQ below _ av s _ _ A = QQ
  have hl : lv_has ls 3 [(0, .ref sl)] := hl
  have hP : va_P g vwCl [(sl, .inr (7, [.ref sl_width, .ref sl_size, .ref sl_numbers])), (sl_size, .inl (cI, 4, .inl sl_size_c))] s.heap := hP
  refine lv_iconst (v := 0) hx hb dX7_filled_0 (by decide) ?_
  refine lv_istore_n (lv' := [(1, .int 0), (0, .ref sl)]) hx hb dX7_filled_1 rfl hl (by decide) rfl (fun ls hl => ?_)
  refine lv_iconst (v := 0) hx hb dX7_filled_2 (by decide) ?_
  refine lv_istore_n (lv' := [(2, .int 0), (1, .int 0), (0, .ref sl)]) hx hb dX7_filled_3 rfl hl (by decide) rfl (fun ls hl => ?_)
  have J4 : ∀ (n4 : Nat) (j4_l1 : Int32) (j4_l2 : Int32) (H : Heap) (locs : List Loc) (ls : Array Slot), (5 - j4_l2.toInt).toNat < n4 → (ir j4_l2.toInt 0 4) → va_P g vwCl [(sl, .inr (7, [.ref sl_width, .ref sl_size, .ref sl_numbers])), (sl_size, .inl (cI, 4, .inl sl_size_c))] H → va_S A s.heap H locs → lv_has ls 3 [(0, .ref sl), (1, .int j4_l1), (2, .int j4_l2)] → W p l e (headSpec v_X7_filled ({ frames := 1, cells := 0, slots := 0, locals := 21 })).room s m av below meth c H locs 0 0 QQ (F0 m 4 ls []) := by
    intro n4
    induction n4 with
    | zero => exact fun j4_l1 j4_l2 H locs ls hn => absurd hn (Nat.not_lt_zero _)
    | succ n4 ih4 =>
      intro j4_l1 j4_l2 H locs ls hn4 hj4_l2 hP hS hl
      refine lv_iload_n hx hb dX7_filled_4 rfl (lv_at hl 2 rfl) ?_
      refine lv_iconst (v := 4) hx hb dX7_filled_5 (by decide) ?_
      refine lv_icmp_ge (tgt := 31) hx hb dX7_filled_6 (by decide) (fun c6 => ?_) (fun c6 => ?_)
      · have f6 := (show 4 ≤ j4_l2.toInt from z_le rfl rfl c6)
        have r6a : ir j4_l2.toInt 4 4 := ir_leb f6 (ir_c 4) hj4_l2 (by decide)
        refine lv_iload_n hx hb dX7_filled_31 rfl (lv_at hl 1 rfl) ?_
        subst hQ
        exact W.iret (v := j4_l1) hx hb hr (fun t ht hW => ⟨⟨j4_l1, (), rfl, trivial, trivial⟩, hS.F ht⟩) hS.2.2 dX7_filled_32
      have f6 := (show j4_l2.toInt < 4 from z_nle rfl rfl c6)
      have r6a : ir j4_l2.toInt 0 3 := ir_lta f6 hj4_l2 (ir_c 4) (by decide)
      refine lv_iload_n hx hb dX7_filled_9 rfl (lv_at hl 1 rfl) ?_
      refine lv_aload_n hx hb dX7_filled_10 rfl (lv_at hl 0 rfl) ?_
      refine lv_iload_n hx hb dX7_filled_11 rfl (lv_at hl 2 rfl) ?_
      refine ro_i (va_runV (As := [.int j4_l2]) (rest := [.int j4_l1]) ⟨hx, hb, hml, hown, hts⟩ (q_X7_has l g cI cJ cB cZ cL j4_l2 sl sl_width sl_size sl_numbers sl_size_c H.size r6a ha_sl_size_c) (cwV 1 hts (goodIn_app (g_4 (List.mem_cons_of_mem _ (List.mem_append_left _ (List.mem_of_getElem? (i := 0) rfl))) (List.mem_cons_of_mem _ (List.mem_append_left _ (List.mem_of_getElem? (i := 1) rfl))) (List.mem_cons_of_mem _ (List.mem_append_left _ (List.mem_of_getElem? (i := 2) rfl))) (List.mem_cons_of_mem _ (List.mem_append_left _ (List.mem_of_getElem? (i := 3) rfl))) (by decide +kernel)) (goodIn_sub (fun _ h => List.mem_cons_of_mem _ (List.mem_append_right _ (List.mem_append_left _ h))) good_v_X7_has)) rfl rfl rfl (by decide +kernel) ⟨Nat.le_of_ble_eq_true rfl, Nat.le_of_ble_eq_true rfl⟩) (pv_RO (q := (RX7, TX7, 3)) (ci := 7) (q0 := 0) (wc := [(sl, .inr (7, [.ref sl_width, .ref sl_size, .ref sl_numbers])), (sl_size, .inl (cI, 4, .inl sl_size_c))]) hK hP [0, 1] rfl rfl rfl) rfl rfl hl.1 rfl (lv_room (Nat.le_of_ble_eq_true rfl)) dX7_filled_12 ⟨Nat.le_of_ble_eq_true rfl, Nat.le_of_ble_eq_true rfl⟩) hS hA hP (fun r12 u12 H locs hw12 hP hS => ?_)
      have hw12_0 := hw12
      have J23 : ∀ (j23_s0 : Int32) (H : Heap) (locs : List Loc) (ls : Array Slot), (ir j23_s0.toInt 0 1) → va_P g vwCl [(sl, .inr (7, [.ref sl_width, .ref sl_size, .ref sl_numbers])), (sl_size, .inl (cI, 4, .inl sl_size_c))] H → va_S A s.heap H locs → lv_has ls 3 [(0, .ref sl), (2, .int j4_l2)] → W p l e (headSpec v_X7_filled ({ frames := 1, cells := 0, slots := 0, locals := 21 })).room s m av below meth c H locs 0 0 QQ (F0 m 23 ls [.int j23_s0, .int j4_l1]) := by
        intro j23_s0 H locs ls hj23_s0 hP hS hl
        refine lv_iadd hx hb dX7_filled_23 ?_
        refine lv_topi (fun y23 e23 => ?_)
        refine lv_istore_n (lv' := [(1, .int y23), (0, .ref sl), (2, .int j4_l2)]) hx hb dX7_filled_24 rfl hl (by decide) rfl (fun ls hl => ?_)
        obtain ⟨y25, e25⟩ : ∃ y : Int32, y = j4_l2 + 1 := ⟨_, rfl⟩
        have q25 : y25.toInt = j4_l2.toInt + 1 := by rw [e25]; exact ad_z rfl rfl r6a (ir_c 1) (by decide) (by decide)
        have r25 : ir y25.toInt 1 4 := ad_r q25 r6a (ir_c 1) (by decide) (by decide)
        refine lv_iinc (v := y25) (lv' := [(2, .int y25), (1, .int y23), (0, .ref sl)]) hx hb dX7_filled_25 hl (k := 2) rfl e25.symm (by decide) rfl (fun ls hl => ?_)
        refine lv_goto (tgt := 4) hx hb dX7_filled_28 (by decide) ?_
        exact ih4 y23 y25 _ _ _ (by omega) (ir_w r25 (by decide) (by decide)) (hP.sub [0, 1] rfl) hS (lv_sub hl [2, 1, 0] rfl)
      refine lv_if_eq (tgt := 22) hx hb dX7_filled_15 (by decide) (fun c15 => ?_) (fun c15 => ?_)
      · have f15 := (show r12.toInt = 0 from z_eq rfl rfl c15)
        have r15a : ir r12.toInt 0 0 := ir_eqa f15 hw12_0 (ir_c 0) (by decide) (by decide)
        refine lv_iconst (v := 0) hx hb dX7_filled_22 (by decide) ?_
        exact J23 0 _ _ _ (by decide) (hP.sub [0, 1] rfl) hS (lv_sub hl [0, 2] rfl)
      have f15 := (show r12.toInt ≠ 0 from z_ne rfl rfl c15)
      have r15a : ir r12.toInt 1 1 := ir_nel f15 hw12_0 (by decide) (by decide)
      refine lv_iconst (v := 1) hx hb dX7_filled_18 (by decide) ?_
      refine lv_goto (tgt := 23) hx hb dX7_filled_19 (by decide) ?_
      exact J23 1 _ _ _ (by decide) (hP.sub [0, 1] rfl) hS (lv_sub hl [0, 2] rfl)
  exact J4 _ 0 0 _ _ _ (Nat.lt_succ_self _) (by decide) (hP.sub [0, 1] rfl) hS (lv_sub hl [2, 1, 0] rfl)
def v_X7_lay : List Cond := .code yX7_lay cX7_lay 5 none :: (([.fieldLink RX7 11 "CardsAtYule$Slots" "width" "[I", .fieldLink RX7 15 "CardsAtYule$Slots" "size" "[I", .fieldLink RX7 18 "CardsAtYule$Slots" "numbers" "[J"] : List Cond) ++ (wsX70 ++ ([] : List Cond)))
theorem good_v_X7_lay : v_X7_lay.all goodWord = true := ga_c (by decide +kernel) (ga_a (by decide +kernel) (ga_a good_wsX70 rfl))
set_option maxHeartbeats 4000000 in
set_option maxRecDepth 100000 in
theorem q_X7_lay (l : Launch) (g : va_G) (cI cJ cB cZ cL : ClassId) (p0 : Int32) (p1 : Int32) (p2 : Int32) (sl : Nat) (sl_width : Nat) (sl_size : Nat) (sl_numbers : Nat) (sl_width_c : Nat → Int32) (sl_size_c : Nat → Int32) (sl_numbers_c : Nat → Int64) (sz : Nat) (hv_p0 : ir p0.toInt 0 3) (hv_p2 : ir p2.toInt 0 60) (ha_sl_size_c : ar sl_size_c 4 (-1) 60) : Met l yX7_lay v_X7_lay ({ frames := 0, cells := 0, slots := 0, locals := 0 }) (va_Pc [.ref sl, .int p0, .int p1, .int p2] (pRW g (tyT cI cJ cB cZ cL) [(sl, .inr (7, [.ref sl_width, .ref sl_size, .ref sl_numbers])), (sl_width, .inl (cI, 4, .inl sl_width_c)), (sl_size, .inl (cI, 4, .inl sl_size_c)), (sl_numbers, .inl (cJ, 240, .inr (.inl sl_numbers_c)))] sz)) (va_Qv (fun (u : (Nat → Int32) × (Nat → Int32) × (Nat → Int64)) => match u with | (n_sl_width_c, n_sl_size_c, n_sl_numbers_c) => (ar n_sl_size_c 4 (-1) 60)) (fun (u : (Nat → Int32) × (Nat → Int32) × (Nat → Int64)) (t : State) => bRW g (tyT cI cJ cB cZ cL) (va_A [(sl, .inr (7, [.ref sl_width, .ref sl_size, .ref sl_numbers])), (sl_width, .inl (cI, 4, .inl sl_width_c)), (sl_size, .inl (cI, 4, .inl sl_size_c)), (sl_numbers, .inl (cJ, 240, .inr (.inl sl_numbers_c)))] sz) (match u with | (n_sl_width_c, n_sl_size_c, n_sl_numbers_c) => [(sl, .inr (7, [.ref sl_width, .ref sl_size, .ref sl_numbers])), (sl_width, .inl (cI, 4, .inl n_sl_width_c)), (sl_size, .inl (cI, 4, .inl n_sl_size_c)), (sl_numbers, .inl (cJ, 240, .inr (.inl n_sl_numbers_c)))]) t) (va_A [(sl, .inr (7, [.ref sl_width, .ref sl_size, .ref sl_numbers])), (sl_width, .inl (cI, 4, .inl sl_width_c)), (sl_size, .inl (cI, 4, .inl sl_size_c)), (sl_numbers, .inl (cJ, 240, .inr (.inl sl_numbers_c)))] sz)) 0 0 (va_A [(sl, .inr (7, [.ref sl_width, .ref sl_size, .ref sl_numbers])), (sl_width, .inl (cI, 4, .inl sl_width_c)), (sl_size, .inl (cI, 4, .inl sl_size_c)), (sl_numbers, .inl (cJ, 240, .inr (.inl sl_numbers_c)))] sz) := by
  refine Met.ofW (cc := cX7_lay) (maxL := 5) (ret := none) (by decide) rfl ?_
  intro p e s m args below meth c s₁ B hml hv
  obtain ⟨rfl, hsz, hP, hK, hD0⟩ := hv
  have hx := B.exec
  have hb := B.bytes
  have hr := B.returns
  have hts := atoms_spec (ws := v_X7_lay) B.pre
  have hown : s.vm.findClass RX7 = some m.cls := findClass_of_methodNamed B.named
  have hlocks := B.notSynchronized
  clear B
  subst hsz
  have iX7 : ∀ w ∈ wsX70, w ∈ v_X7_lay := (fun _ h => List.mem_cons_of_mem _ (List.mem_append_right _ (List.mem_append_left _ h)))
  have hD := hD0.self (sz := s.heap.size)
  generalize hAe : (va_A [(sl, .inr (7, [.ref sl_width, .ref sl_size, .ref sl_numbers])), (sl_width, .inl (cI, 4, .inl sl_width_c)), (sl_size, .inl (cI, 4, .inl sl_size_c)), (sl_numbers, .inl (cJ, 240, .inr (.inl sl_numbers_c)))] s.heap.size) = A at hD ⊢
  have hA : ∀ q : Nat, s.heap.size ≤ q → A q := fun q h => by rw [← hAe]; exact Or.inr h
  have hS : va_S A s.heap s.heap [] := va_S.rf
  have hl := lv_entry ([.ref sl, .int p0, .int p1, .int p2]) (n := 5) (Nat.le_of_ble_eq_true rfl)
  rw [lg_entry_eq]
  generalize (lg_sl ([.ref sl, .int p0, .int p1, .int p2]) ++ List.replicate (5 - (lg_sl ([.ref sl, .int p0, .int p1, .int p2])).length) Slot.unset).toArray = ls at hl ⊢
  generalize ([.ref sl, .int p0, .int p1, .int p2] : List Value).toArray = av at hts ⊢
  generalize hQ : MQ below _ av s _ _ A = QQ
  have hl : lv_has ls 5 [(0, .ref sl), (1, .int p0), (2, .int p1), (3, .int p2)] := hl
  have hP : va_P g vwCl [(sl, .inr (7, [.ref sl_width, .ref sl_size, .ref sl_numbers])), (sl_width, .inl (cI, 4, .inl sl_width_c)), (sl_size, .inl (cI, 4, .inl sl_size_c)), (sl_numbers, .inl (cJ, 240, .inr (.inl sl_numbers_c)))] s.heap := hP
  refine lv_aload_n hx hb dX7_lay_0 rfl (lv_at hl 0 rfl) ?_
  refine va_get (D := g) (ci := 7) (v := .ref sl_width) (C := RX7) (T := TX7) (N := 3) hx hb hts iX7 hown hK hP 0 rfl rfl 0 (by decide) (hts (.fieldLink RX7 11 "CardsAtYule$Slots" "width" "[I") (List.mem_cons_of_mem _ (List.mem_append_left _ (List.mem_of_getElem? (i := 0) rfl)))) (fun _ h9 => h9) rfl dX7_lay_1 ?_
  refine lv_iload_n hx hb dX7_lay_4 rfl (lv_at hl 1 rfl) ?_
  refine lv_iload_n hx hb dX7_lay_5 rfl (lv_at hl 2 rfl) ?_
  refine va_iast (D := g) hx hb hK hP hD hS 1 0 rfl rfl (vi_rg rfl hv_p0 (by decide) (by decide)) dX7_lay_6 (fun H locs hP hD hS => ?_)
  obtain ⟨g6, e6⟩ : ∃ z, z = upd sl_width_c p0.toNatClampNeg p1 := ⟨_, rfl⟩
  have hP : va_P g vwCl [(sl, .inr (7, [.ref sl_width, .ref sl_size, .ref sl_numbers])), (sl_width, .inl (cI, 4, .inl (upd sl_width_c p0.toNatClampNeg p1))), (sl_size, .inl (cI, 4, .inl sl_size_c)), (sl_numbers, .inl (cJ, 240, .inr (.inl sl_numbers_c)))] H := hP
  have hD : va_D A [(sl, .inr (7, [.ref sl_width, .ref sl_size, .ref sl_numbers])), (sl_width, .inl (cI, 4, .inl (upd sl_width_c p0.toNatClampNeg p1))), (sl_size, .inl (cI, 4, .inl sl_size_c)), (sl_numbers, .inl (cJ, 240, .inr (.inl sl_numbers_c)))] := hD
  rw [← e6] at hP hD
  refine lv_aload_n hx hb dX7_lay_7 rfl (lv_at hl 0 rfl) ?_
  refine va_get (D := g) (ci := 7) (v := .ref sl_size) (C := RX7) (T := TX7) (N := 3) hx hb hts iX7 hown hK hP 0 rfl rfl 1 (by decide) (hts (.fieldLink RX7 15 "CardsAtYule$Slots" "size" "[I") (List.mem_cons_of_mem _ (List.mem_append_left _ (List.mem_of_getElem? (i := 1) rfl)))) (fun _ h9 => h9) rfl dX7_lay_8 ?_
  refine lv_iload_n hx hb dX7_lay_11 rfl (lv_at hl 1 rfl) ?_
  refine lv_iload_n hx hb dX7_lay_12 rfl (lv_at hl 3 rfl) ?_
  refine va_iast (D := g) hx hb hK hP hD hS 2 0 rfl rfl (vi_rg rfl hv_p0 (by decide) (by decide)) dX7_lay_13 (fun H locs hP hD hS => ?_)
  obtain ⟨g13, e13⟩ : ∃ z, z = upd sl_size_c p0.toNatClampNeg p2 := ⟨_, rfl⟩
  have hP : va_P g vwCl [(sl, .inr (7, [.ref sl_width, .ref sl_size, .ref sl_numbers])), (sl_width, .inl (cI, 4, .inl g6)), (sl_size, .inl (cI, 4, .inl (upd sl_size_c p0.toNatClampNeg p2))), (sl_numbers, .inl (cJ, 240, .inr (.inl sl_numbers_c)))] H := hP
  have hD : va_D A [(sl, .inr (7, [.ref sl_width, .ref sl_size, .ref sl_numbers])), (sl_width, .inl (cI, 4, .inl g6)), (sl_size, .inl (cI, 4, .inl (upd sl_size_c p0.toNatClampNeg p2))), (sl_numbers, .inl (cJ, 240, .inr (.inl sl_numbers_c)))] := hD
  rw [← e13] at hP hD
  have a13 : ar g13 4 (-1) 60 := by rw [e13]; exact ar_u ha_sl_size_c (ir_w hv_p2 (by decide) (by decide))
  refine lv_iconst (v := 0) hx hb dX7_lay_14 (by decide) ?_
  refine lv_istore (lv' := [(4, .int 0), (0, .ref sl), (1, .int p0), (2, .int p1), (3, .int p2)]) hx hb dX7_lay_15 hl (by decide) rfl (fun ls hl => ?_)
  have J17 : ∀ (n17 : Nat) (j17_l4 : Int32) (j17_sl_numbers_c : Nat → Int64) (H : Heap) (locs : List Loc) (ls : Array Slot), (61 - j17_l4.toInt).toNat < n17 → (ir j17_l4.toInt 0 60) → va_P g vwCl [(sl, .inr (7, [.ref sl_width, .ref sl_size, .ref sl_numbers])), (sl_width, .inl (cI, 4, .inl g6)), (sl_size, .inl (cI, 4, .inl g13)), (sl_numbers, .inl (cJ, 240, .inr (.inl j17_sl_numbers_c)))] H → va_D A [(sl, .inr (7, [.ref sl_width, .ref sl_size, .ref sl_numbers])), (sl_width, .inl (cI, 4, .inl g6)), (sl_size, .inl (cI, 4, .inl g13)), (sl_numbers, .inl (cJ, 240, .inr (.inl j17_sl_numbers_c)))] → va_S A s.heap H locs → lv_has ls 5 [(0, .ref sl), (1, .int p0), (3, .int p2), (4, .int j17_l4)] → W p l e (headSpec v_X7_lay ({ frames := 0, cells := 0, slots := 0, locals := 0 })).room s m av below meth c H locs 0 0 QQ (F0 m 17 ls []) := by
    intro n17
    induction n17 with
    | zero => exact fun j17_l4 j17_sl_numbers_c H locs ls hn => absurd hn (Nat.not_lt_zero _)
    | succ n17 ih17 =>
      intro j17_l4 j17_sl_numbers_c H locs ls hn17 hj17_l4 hP hD hS hl
      refine lv_iload hx hb dX7_lay_17 (lv_at hl 3 rfl) ?_
      refine lv_iload_n hx hb dX7_lay_19 rfl (lv_at hl 2 rfl) ?_
      refine lv_icmp_ge (tgt := 42) hx hb dX7_lay_20 (by decide) (fun c20 => ?_) (fun c20 => ?_)
      · have f20 := (show p2.toInt ≤ j17_l4.toInt from z_le rfl rfl c20)
        subst hQ
        have hP9 := hP.sub (ws' := [(sl, .inr (7, [.ref sl_width, .ref sl_size, .ref sl_numbers])), (sl_width, .inl (cI, 4, .inl g6)), (sl_size, .inl (cI, 4, .inl g13)), (sl_numbers, .inl (cJ, 240, .inr (.inl j17_sl_numbers_c)))]) [0, 1, 2, 3] rfl
        have hD9 := hD.sub (ws' := [(sl, .inr (7, [.ref sl_width, .ref sl_size, .ref sl_numbers])), (sl_width, .inl (cI, 4, .inl g6)), (sl_size, .inl (cI, 4, .inl g13)), (sl_numbers, .inl (cJ, 240, .inr (.inl j17_sl_numbers_c)))]) [0, 1, 2, 3] (by decide) rfl
        exact W.vret hx hb hr (fun t ht hW => ⟨⟨(g6, g13, j17_sl_numbers_c), rfl, a13, ⟨by rw [ht]; exact hP9, va_K.moved hW.alike hK, hD9⟩⟩, hS.F ht⟩) hS.2.2 dX7_lay_42
      have f20 := (show j17_l4.toInt < p2.toInt from z_nle rfl rfl c20)
      have r20a : ir j17_l4.toInt 0 59 := ir_lta f20 hj17_l4 hv_p2 (by decide)
      have r20b : ir p2.toInt 1 60 := ir_ltb f20 hj17_l4 hv_p2 (by decide)
      refine lv_aload_n hx hb dX7_lay_23 rfl (lv_at hl 0 rfl) ?_
      refine va_get (D := g) (ci := 7) (v := .ref sl_numbers) (C := RX7) (T := TX7) (N := 3) hx hb hts iX7 hown hK hP 0 rfl rfl 2 (by decide) (hts (.fieldLink RX7 18 "CardsAtYule$Slots" "numbers" "[J") (List.mem_cons_of_mem _ (List.mem_append_left _ (List.mem_of_getElem? (i := 2) rfl)))) (fun _ h9 => h9) rfl dX7_lay_24 ?_
      refine lv_iload_n hx hb dX7_lay_27 rfl (lv_at hl 1 rfl) ?_
      refine lv_bipush (v := 60) hx hb dX7_lay_28 (by decide) ?_
      refine lv_imul hx hb dX7_lay_30 ?_
      refine lv_topi (fun y30 e30 => ?_)
      have q30 : y30.toInt = p0.toInt * 60 := by rw [e30]; exact mu_z rfl rfl hv_p0 (ir_c 60) (by decide) (by decide) (by decide)
      have r30 : ir y30.toInt 0 180 := mu_r q30 hv_p0 (ir_c 60) (by decide) (by decide) (by decide) (by decide)
      refine lv_iload hx hb dX7_lay_31 (lv_at hl 3 rfl) ?_
      refine lv_iadd hx hb dX7_lay_33 ?_
      refine lv_topi (fun y33 e33 => ?_)
      have q33 : y33.toInt = y30.toInt + j17_l4.toInt := by rw [e33]; exact ad_z rfl rfl r30 r20a (by decide) (by decide)
      have r33 : ir y33.toInt 0 239 := ad_r q33 r30 r20a (by decide) (by decide)
      refine lv_lconst (v := 0) hx hb dX7_lay_34 (by decide) ?_
      refine va_last (D := g) hx hb hK hP hD hS 3 1 rfl rfl (vi_rg rfl r33 (by decide) (by decide)) dX7_lay_35 (fun H locs hP hD hS => ?_)
      obtain ⟨g35, e35⟩ : ∃ z, z = vp_updL j17_sl_numbers_c y33.toNatClampNeg (0 : Int64) := ⟨_, rfl⟩
      have hP : va_P g vwCl [(sl, .inr (7, [.ref sl_width, .ref sl_size, .ref sl_numbers])), (sl_width, .inl (cI, 4, .inl g6)), (sl_size, .inl (cI, 4, .inl g13)), (sl_numbers, .inl (cJ, 240, .inr (.inl (vp_updL j17_sl_numbers_c y33.toNatClampNeg (0 : Int64)))))] H := hP
      have hD : va_D A [(sl, .inr (7, [.ref sl_width, .ref sl_size, .ref sl_numbers])), (sl_width, .inl (cI, 4, .inl g6)), (sl_size, .inl (cI, 4, .inl g13)), (sl_numbers, .inl (cJ, 240, .inr (.inl (vp_updL j17_sl_numbers_c y33.toNatClampNeg (0 : Int64)))))] := hD
      rw [← e35] at hP hD
      obtain ⟨y36, e36⟩ : ∃ y : Int32, y = j17_l4 + 1 := ⟨_, rfl⟩
      have q36 : y36.toInt = j17_l4.toInt + 1 := by rw [e36]; exact ad_z rfl rfl r20a (ir_c 1) (by decide) (by decide)
      have r36 : ir y36.toInt 1 60 := ad_r q36 r20a (ir_c 1) (by decide) (by decide)
      refine lv_iinc (v := y36) (lv' := [(4, .int y36), (0, .ref sl), (1, .int p0), (3, .int p2)]) hx hb dX7_lay_36 hl (k := 3) rfl e36.symm (by decide) rfl (fun ls hl => ?_)
      refine lv_goto (tgt := 17) hx hb dX7_lay_39 (by decide) ?_
      exact ih17 y36 g35 _ _ _ (by omega) (ir_w r36 (by decide) (by decide)) (hP.sub [0, 1, 2, 3] rfl) (hD.sub [0, 1, 2, 3] (by decide) rfl) hS (lv_sub hl [1, 2, 3, 0] rfl)
  exact J17 _ 0 sl_numbers_c _ _ _ (Nat.lt_succ_self _) (by decide) (hP.sub [0, 1, 2, 3] rfl) (hD.sub [0, 1, 2, 3] (by decide) rfl) hS (lv_sub hl [1, 2, 4, 0] rfl)
def v_X7_numberAt : List Cond := .code yX7_numberAt cX7_numberAt 3 (some .long) :: (([.fieldLink RX7 18 "CardsAtYule$Slots" "numbers" "[J"] : List Cond) ++ (wsX70 ++ ([] : List Cond)))
theorem good_v_X7_numberAt : v_X7_numberAt.all goodWord = true := ga_c (by decide +kernel) (ga_a (by decide +kernel) (ga_a good_wsX70 rfl))
set_option maxHeartbeats 4000000 in
set_option maxRecDepth 100000 in
theorem q_X7_numberAt (l : Launch) (g : va_G) (cI cJ cB cZ cL : ClassId) (p0 : Int32) (p1 : Int32) (sl : Nat) (sl_width : Nat) (sl_size : Nat) (sl_numbers : Nat) (sl_numbers_c : Nat → Int64) (sz : Nat) (hv_p0 : ir p0.toInt 0 3) (hv_p1 : ir p1.toInt 0 59) : Met l yX7_numberAt v_X7_numberAt ({ frames := 0, cells := 0, slots := 0, locals := 0 }) (va_Pc [.ref sl, .int p0, .int p1] (pRO g (tyT cI cJ cB cZ cL) [(sl, .inr (7, [.ref sl_width, .ref sl_size, .ref sl_numbers])), (sl_numbers, .inl (cJ, 240, .inr (.inl sl_numbers_c)))] sz)) (va_Ql (fun (r : Int64) (u : Unit) => True) (fun (_ : Unit) (_ : State) => True) (va_A [] sz)) 0 0 (va_A [] sz) := by
  refine Met.ofW (cc := cX7_numberAt) (maxL := 3) (ret := (some .long)) (by decide) rfl ?_
  intro p e s m args below meth c s₁ B hml hv
  obtain ⟨rfl, hsz, hP, hK⟩ := hv
  have hx := B.exec
  have hb := B.bytes
  have hr := B.returns
  have hts := atoms_spec (ws := v_X7_numberAt) B.pre
  have hown : s.vm.findClass RX7 = some m.cls := findClass_of_methodNamed B.named
  have hlocks := B.notSynchronized
  clear B
  subst hsz
  have iX7 : ∀ w ∈ wsX70, w ∈ v_X7_numberAt := (fun _ h => List.mem_cons_of_mem _ (List.mem_append_right _ (List.mem_append_left _ h)))
  generalize hAe : (va_A [] s.heap.size) = A
  have hA : ∀ q : Nat, s.heap.size ≤ q → A q := fun q h => by rw [← hAe]; exact Or.inr h
  have hS : va_S A s.heap s.heap [] := va_S.rf
  have hl := lv_entry ([.ref sl, .int p0, .int p1]) (n := 3) (Nat.le_of_ble_eq_true rfl)
  rw [lg_entry_eq]
  generalize (lg_sl ([.ref sl, .int p0, .int p1]) ++ List.replicate (3 - (lg_sl ([.ref sl, .int p0, .int p1])).length) Slot.unset).toArray = ls at hl ⊢
  generalize ([.ref sl, .int p0, .int p1] : List Value).toArray = av at hts ⊢
  generalize hQ : MQ below _ av s _ _ A = QQ
  have hl : lv_has ls 3 [(0, .ref sl), (1, .int p0), (2, .int p1)] := hl
  have hP : va_P g vwCl [(sl, .inr (7, [.ref sl_width, .ref sl_size, .ref sl_numbers])), (sl_numbers, .inl (cJ, 240, .inr (.inl sl_numbers_c)))] s.heap := hP
  refine lv_aload_n hx hb dX7_numberAt_0 rfl (lv_at hl 0 rfl) ?_
  refine va_get (D := g) (ci := 7) (v := .ref sl_numbers) (C := RX7) (T := TX7) (N := 3) hx hb hts iX7 hown hK hP 0 rfl rfl 2 (by decide) (hts (.fieldLink RX7 18 "CardsAtYule$Slots" "numbers" "[J") (List.mem_cons_of_mem _ (List.mem_append_left _ (List.mem_of_getElem? (i := 0) rfl)))) (fun _ h9 => h9) rfl dX7_numberAt_1 ?_
  refine lv_iload_n hx hb dX7_numberAt_4 rfl (lv_at hl 1 rfl) ?_
  refine lv_bipush (v := 60) hx hb dX7_numberAt_5 (by decide) ?_
  refine lv_imul hx hb dX7_numberAt_7 ?_
  refine lv_topi (fun y7 e7 => ?_)
  have q7 : y7.toInt = p0.toInt * 60 := by rw [e7]; exact mu_z rfl rfl hv_p0 (ir_c 60) (by decide) (by decide) (by decide)
  have r7 : ir y7.toInt 0 180 := mu_r q7 hv_p0 (ir_c 60) (by decide) (by decide) (by decide) (by decide)
  refine lv_iload_n hx hb dX7_numberAt_8 rfl (lv_at hl 2 rfl) ?_
  refine lv_iadd hx hb dX7_numberAt_9 ?_
  refine lv_topi (fun y9 e9 => ?_)
  have q9 : y9.toInt = y7.toInt + p1.toInt := by rw [e9]; exact ad_z rfl rfl r7 hv_p1 (by decide) (by decide)
  have r9 : ir y9.toInt 0 239 := ad_r q9 r7 hv_p1 (by decide) (by decide)
  refine va_lald (D := g) hx hb hK hP 1 1 rfl rfl (vi_rg rfl r9 (by decide) (by decide)) dX7_numberAt_10 ?_
  refine lv_topl (fun y10 e10 => ?_)
  subst hQ
  exact W.lret (v := y10) hx hb hr (fun t ht hW => ⟨⟨y10, (), rfl, trivial, trivial⟩, hS.F ht⟩) hS.2.2 dX7_numberAt_11
def v_X7_put : List Cond := .code yX7_put cX7_put 6 none :: (([.fieldLink RX7 11 "CardsAtYule$Slots" "width" "[I", .fieldLink RX7 18 "CardsAtYule$Slots" "numbers" "[J"] : List Cond) ++ (wsX70 ++ ([] : List Cond)))
theorem good_v_X7_put : v_X7_put.all goodWord = true := ga_c (by decide +kernel) (ga_a (by decide +kernel) (ga_a good_wsX70 rfl))
set_option maxHeartbeats 4000000 in
set_option maxRecDepth 100000 in
theorem q_X7_put (l : Launch) (g : va_G) (cI cJ cB cZ cL : ClassId) (p0 : Int32) (p1 : Int32) (p2 : Int64) (sl : Nat) (sl_width : Nat) (sl_size : Nat) (sl_numbers : Nat) (sl_width_c : Nat → Int32) (sl_numbers_c : Nat → Int64) (sz : Nat) (hv_p0 : ir p0.toInt 0 3) (hv_p1 : ir p1.toInt 0 59) : Met l yX7_put v_X7_put ({ frames := 0, cells := 0, slots := 0, locals := 0 }) (va_Pc [.ref sl, .int p0, .int p1, .long p2] (pRW g (tyT cI cJ cB cZ cL) [(sl, .inr (7, [.ref sl_width, .ref sl_size, .ref sl_numbers])), (sl_width, .inl (cI, 4, .inl sl_width_c)), (sl_numbers, .inl (cJ, 240, .inr (.inl sl_numbers_c)))] sz)) (va_Qv (fun (u : (Nat → Int64)) => match u with | n_sl_numbers_c => True) (fun (u : (Nat → Int64)) (t : State) => bRW g (tyT cI cJ cB cZ cL) (va_A [(sl, .inr (7, [.ref sl_width, .ref sl_size, .ref sl_numbers])), (sl_width, .inl (cI, 4, .inl sl_width_c)), (sl_numbers, .inl (cJ, 240, .inr (.inl sl_numbers_c)))] sz) (match u with | n_sl_numbers_c => [(sl, .inr (7, [.ref sl_width, .ref sl_size, .ref sl_numbers])), (sl_width, .inl (cI, 4, .inl sl_width_c)), (sl_numbers, .inl (cJ, 240, .inr (.inl n_sl_numbers_c)))]) t) (va_A [(sl, .inr (7, [.ref sl_width, .ref sl_size, .ref sl_numbers])), (sl_width, .inl (cI, 4, .inl sl_width_c)), (sl_numbers, .inl (cJ, 240, .inr (.inl sl_numbers_c)))] sz)) 0 0 (va_A [(sl, .inr (7, [.ref sl_width, .ref sl_size, .ref sl_numbers])), (sl_width, .inl (cI, 4, .inl sl_width_c)), (sl_numbers, .inl (cJ, 240, .inr (.inl sl_numbers_c)))] sz) := by
  refine Met.ofW (cc := cX7_put) (maxL := 6) (ret := none) (by decide) rfl ?_
  intro p e s m args below meth c s₁ B hml hv
  obtain ⟨rfl, hsz, hP, hK, hD0⟩ := hv
  have hx := B.exec
  have hb := B.bytes
  have hr := B.returns
  have hts := atoms_spec (ws := v_X7_put) B.pre
  have hown : s.vm.findClass RX7 = some m.cls := findClass_of_methodNamed B.named
  have hlocks := B.notSynchronized
  clear B
  subst hsz
  have iX7 : ∀ w ∈ wsX70, w ∈ v_X7_put := (fun _ h => List.mem_cons_of_mem _ (List.mem_append_right _ (List.mem_append_left _ h)))
  have hD := hD0.self (sz := s.heap.size)
  generalize hAe : (va_A [(sl, .inr (7, [.ref sl_width, .ref sl_size, .ref sl_numbers])), (sl_width, .inl (cI, 4, .inl sl_width_c)), (sl_numbers, .inl (cJ, 240, .inr (.inl sl_numbers_c)))] s.heap.size) = A at hD ⊢
  have hA : ∀ q : Nat, s.heap.size ≤ q → A q := fun q h => by rw [← hAe]; exact Or.inr h
  have hS : va_S A s.heap s.heap [] := va_S.rf
  have hl := lv_entry ([.ref sl, .int p0, .int p1, .long p2]) (n := 6) (Nat.le_of_ble_eq_true rfl)
  rw [lg_entry_eq]
  generalize (lg_sl ([.ref sl, .int p0, .int p1, .long p2]) ++ List.replicate (6 - (lg_sl ([.ref sl, .int p0, .int p1, .long p2])).length) Slot.unset).toArray = ls at hl ⊢
  generalize ([.ref sl, .int p0, .int p1, .long p2] : List Value).toArray = av at hts ⊢
  generalize hQ : MQ below _ av s _ _ A = QQ
  have hl : lv_has ls 6 [(0, .ref sl), (1, .int p0), (2, .int p1), (3, .long p2)] := hl
  have hP : va_P g vwCl [(sl, .inr (7, [.ref sl_width, .ref sl_size, .ref sl_numbers])), (sl_width, .inl (cI, 4, .inl sl_width_c)), (sl_numbers, .inl (cJ, 240, .inr (.inl sl_numbers_c)))] s.heap := hP
  refine lv_bipush (v := 64) hx hb dX7_put_0 (by decide) ?_
  refine lv_bipush (v := 8) hx hb dX7_put_2 (by decide) ?_
  refine lv_aload_n hx hb dX7_put_4 rfl (lv_at hl 0 rfl) ?_
  refine va_get (D := g) (ci := 7) (v := .ref sl_width) (C := RX7) (T := TX7) (N := 3) hx hb hts iX7 hown hK hP 0 rfl rfl 0 (by decide) (hts (.fieldLink RX7 11 "CardsAtYule$Slots" "width" "[I") (List.mem_cons_of_mem _ (List.mem_append_left _ (List.mem_of_getElem? (i := 0) rfl)))) (fun _ h9 => h9) rfl dX7_put_5 ?_
  refine lv_iload_n hx hb dX7_put_8 rfl (lv_at hl 1 rfl) ?_
  refine va_iald (D := g) hx hb hK hP 1 0 rfl rfl (vi_rg rfl hv_p0 (by decide) (by decide)) dX7_put_9 ?_
  refine lv_topi (fun y9 e9 => ?_)
  refine lv_ishl hx hb dX7_put_10 ?_
  refine lv_topi (fun y10 e10 => ?_)
  refine lv_isub hx hb dX7_put_11 ?_
  refine lv_topi (fun y11 e11 => ?_)
  refine lv_istore (lv' := [(5, .int y11), (0, .ref sl), (1, .int p0), (2, .int p1), (3, .long p2)]) hx hb dX7_put_12 hl (by decide) rfl (fun ls hl => ?_)
  refine lv_aload_n hx hb dX7_put_14 rfl (lv_at hl 1 rfl) ?_
  refine va_get (D := g) (ci := 7) (v := .ref sl_numbers) (C := RX7) (T := TX7) (N := 3) hx hb hts iX7 hown hK hP 0 rfl rfl 2 (by decide) (hts (.fieldLink RX7 18 "CardsAtYule$Slots" "numbers" "[J") (List.mem_cons_of_mem _ (List.mem_append_left _ (List.mem_of_getElem? (i := 1) rfl)))) (fun _ h9 => h9) rfl dX7_put_15 ?_
  refine lv_iload_n hx hb dX7_put_18 rfl (lv_at hl 2 rfl) ?_
  refine lv_bipush (v := 60) hx hb dX7_put_19 (by decide) ?_
  refine lv_imul hx hb dX7_put_21 ?_
  refine lv_topi (fun y21 e21 => ?_)
  have q21 : y21.toInt = p0.toInt * 60 := by rw [e21]; exact mu_z rfl rfl hv_p0 (ir_c 60) (by decide) (by decide) (by decide)
  have r21 : ir y21.toInt 0 180 := mu_r q21 hv_p0 (ir_c 60) (by decide) (by decide) (by decide) (by decide)
  refine lv_iload_n hx hb dX7_put_22 rfl (lv_at hl 3 rfl) ?_
  refine lv_iadd hx hb dX7_put_23 ?_
  refine lv_topi (fun y23 e23 => ?_)
  have q23 : y23.toInt = y21.toInt + p1.toInt := by rw [e23]; exact ad_z rfl rfl r21 hv_p1 (by decide) (by decide)
  have r23 : ir y23.toInt 0 239 := ad_r q23 r21 hv_p1 (by decide) (by decide)
  refine lv_lload_n hx hb dX7_put_24 rfl (lv_at hl 4 rfl) ?_
  refine lv_iload hx hb dX7_put_25 (lv_at hl 0 rfl) ?_
  refine lv_lshl (v := (p2 <<< (y11.toInt64 &&& 63))) hx hb dX7_put_27 rfl ?_
  refine lv_topl (fun y27 e27 => ?_)
  refine lv_iload hx hb dX7_put_28 (lv_at hl 0 rfl) ?_
  refine lv_lshr (v := (y27 >>> (y11.toInt64 &&& 63))) hx hb dX7_put_30 rfl ?_
  refine lv_topl (fun y30 e30 => ?_)
  refine va_last (D := g) hx hb hK hP hD hS 2 1 rfl rfl (vi_rg rfl r23 (by decide) (by decide)) dX7_put_31 (fun H locs hP hD hS => ?_)
  obtain ⟨g31, e31⟩ : ∃ z, z = vp_updL sl_numbers_c y23.toNatClampNeg y30 := ⟨_, rfl⟩
  have hP : va_P g vwCl [(sl, .inr (7, [.ref sl_width, .ref sl_size, .ref sl_numbers])), (sl_width, .inl (cI, 4, .inl sl_width_c)), (sl_numbers, .inl (cJ, 240, .inr (.inl (vp_updL sl_numbers_c y23.toNatClampNeg y30))))] H := hP
  have hD : va_D A [(sl, .inr (7, [.ref sl_width, .ref sl_size, .ref sl_numbers])), (sl_width, .inl (cI, 4, .inl sl_width_c)), (sl_numbers, .inl (cJ, 240, .inr (.inl (vp_updL sl_numbers_c y23.toNatClampNeg y30))))] := hD
  rw [← e31] at hP hD
  subst hQ
  have hP9 := hP.sub (ws' := [(sl, .inr (7, [.ref sl_width, .ref sl_size, .ref sl_numbers])), (sl_width, .inl (cI, 4, .inl sl_width_c)), (sl_numbers, .inl (cJ, 240, .inr (.inl g31)))]) [0, 1, 2] rfl
  have hD9 := hD.sub (ws' := [(sl, .inr (7, [.ref sl_width, .ref sl_size, .ref sl_numbers])), (sl_width, .inl (cI, 4, .inl sl_width_c)), (sl_numbers, .inl (cJ, 240, .inr (.inl g31)))]) [0, 1, 2] (by decide) rfl
  exact W.vret hx hb hr (fun t ht hW => ⟨⟨g31, rfl, trivial, ⟨by rw [ht]; exact hP9, va_K.moved hW.alike hK, hD9⟩⟩, hS.F ht⟩) hS.2.2 dX7_put_32
def v_X7_holds : List Cond := .code yX7_holds cX7_holds 4 (some .boolean) :: (([.fieldLink RX7 15 "CardsAtYule$Slots" "size" "[I"] : List Cond) ++ (wsX70 ++ ([] : List Cond)))
theorem good_v_X7_holds : v_X7_holds.all goodWord = true := ga_c (by decide +kernel) (ga_a (by decide +kernel) (ga_a good_wsX70 rfl))
set_option maxHeartbeats 4000000 in
set_option maxRecDepth 100000 in
theorem q_X7_holds (l : Launch) (g : va_G) (cI cJ cB cZ cL : ClassId) (p0 : Int32) (p1 : Int32) (p2 : Int32) (sl : Nat) (sl_width : Nat) (sl_size : Nat) (sl_numbers : Nat) (sl_size_c : Nat → Int32) (sz : Nat) (hv_p0 : ir p0.toInt 0 3) (ha_sl_size_c : ar sl_size_c 4 (-1) 60) : Met l yX7_holds v_X7_holds ({ frames := 0, cells := 0, slots := 0, locals := 0 }) (va_Pc [.ref sl, .int p0, .int p1, .int p2] (pRO g (tyT cI cJ cB cZ cL) [(sl, .inr (7, [.ref sl_width, .ref sl_size, .ref sl_numbers])), (sl_size, .inl (cI, 4, .inl sl_size_c))] sz)) (va_Qi (fun (r : Int32) (u : Unit) => ((r = 1 ∧ 0 ≤ p1.toInt ∧ 0 ≤ p2.toInt ∧ p1.toInt + p2.toInt ≤ 60) ∨ (r = 0))) (fun (_ : Unit) (_ : State) => True) (va_A [] sz)) 0 0 (va_A [] sz) := by
  refine Met.ofW (cc := cX7_holds) (maxL := 4) (ret := (some .boolean)) (by decide) rfl ?_
  intro p e s m args below meth c s₁ B hml hv
  obtain ⟨rfl, hsz, hP, hK⟩ := hv
  have hx := B.exec
  have hb := B.bytes
  have hr := B.returns
  have hts := atoms_spec (ws := v_X7_holds) B.pre
  have hown : s.vm.findClass RX7 = some m.cls := findClass_of_methodNamed B.named
  have hlocks := B.notSynchronized
  clear B
  subst hsz
  have iX7 : ∀ w ∈ wsX70, w ∈ v_X7_holds := (fun _ h => List.mem_cons_of_mem _ (List.mem_append_right _ (List.mem_append_left _ h)))
  generalize hAe : (va_A [] s.heap.size) = A
  have hA : ∀ q : Nat, s.heap.size ≤ q → A q := fun q h => by rw [← hAe]; exact Or.inr h
  have hS : va_S A s.heap s.heap [] := va_S.rf
  have hl := lv_entry ([.ref sl, .int p0, .int p1, .int p2]) (n := 4) (Nat.le_of_ble_eq_true rfl)
  rw [lg_entry_eq]
  generalize (lg_sl ([.ref sl, .int p0, .int p1, .int p2]) ++ List.replicate (4 - (lg_sl ([.ref sl, .int p0, .int p1, .int p2])).length) Slot.unset).toArray = ls at hl ⊢
  generalize ([.ref sl, .int p0, .int p1, .int p2] : List Value).toArray = av at hts ⊢
  generalize hQ : MQ below _ av s _ _ A = QQ
  have hl : lv_has ls 4 [(0, .ref sl), (1, .int p0), (2, .int p1), (3, .int p2)] := hl
  have hP : va_P g vwCl [(sl, .inr (7, [.ref sl_width, .ref sl_size, .ref sl_numbers])), (sl_size, .inl (cI, 4, .inl sl_size_c))] s.heap := hP
  refine lv_iload_n hx hb dX7_holds_0 rfl (lv_at hl 2 rfl) ?_
  refine lv_if_lt (tgt := 34) hx hb dX7_holds_1 (by decide) (fun c1 => ?_) (fun c1 => ?_)
  · have f1 := (show p1.toInt < 0 from z_lt rfl rfl c1)
    have r1a : ir p1.toInt (-2147483648) (-1) := ir_lta f1 (rg_all p1) (ir_c 0) (by decide)
    refine lv_iconst (v := 0) hx hb dX7_holds_34 (by decide) ?_
    subst hQ
    exact W.zret (v := 0) hx hb hr rfl (fun t ht hW => ⟨⟨0, (), rfl, (Or.inr rfl), trivial⟩, hS.F ht⟩) hS.2.2 dX7_holds_35
  have f1 := (show 0 ≤ p1.toInt from z_nlt rfl rfl c1)
  have r1a : ir p1.toInt 0 2147483647 := ir_leb f1 (ir_c 0) (rg_all p1) (by decide)
  refine lv_iload_n hx hb dX7_holds_4 rfl (lv_at hl 3 rfl) ?_
  refine lv_if_lt (tgt := 34) hx hb dX7_holds_5 (by decide) (fun c5 => ?_) (fun c5 => ?_)
  · have f5 := (show p2.toInt < 0 from z_lt rfl rfl c5)
    have r5a : ir p2.toInt (-2147483648) (-1) := ir_lta f5 (rg_all p2) (ir_c 0) (by decide)
    refine lv_iconst (v := 0) hx hb dX7_holds_34 (by decide) ?_
    subst hQ
    exact W.zret (v := 0) hx hb hr rfl (fun t ht hW => ⟨⟨0, (), rfl, (Or.inr rfl), trivial⟩, hS.F ht⟩) hS.2.2 dX7_holds_35
  have f5 := (show 0 ≤ p2.toInt from z_nlt rfl rfl c5)
  have r5a : ir p2.toInt 0 2147483647 := ir_leb f5 (ir_c 0) (rg_all p2) (by decide)
  refine lv_iload_n hx hb dX7_holds_8 rfl (lv_at hl 2 rfl) ?_
  refine lv_aload_n hx hb dX7_holds_9 rfl (lv_at hl 0 rfl) ?_
  refine va_get (D := g) (ci := 7) (v := .ref sl_size) (C := RX7) (T := TX7) (N := 3) hx hb hts iX7 hown hK hP 0 rfl rfl 1 (by decide) (hts (.fieldLink RX7 15 "CardsAtYule$Slots" "size" "[I") (List.mem_cons_of_mem _ (List.mem_append_left _ (List.mem_of_getElem? (i := 0) rfl)))) (fun _ h9 => h9) rfl dX7_holds_10 ?_
  refine lv_iload_n hx hb dX7_holds_13 rfl (lv_at hl 1 rfl) ?_
  refine va_iald (D := g) hx hb hK hP 1 0 rfl rfl (vi_rg rfl hv_p0 (by decide) (by decide)) dX7_holds_14 ?_
  refine lv_topi (fun y14 e14 => ?_)
  have r14 : ir y14.toInt (-1) 60 := by rw [e14]; exact ha_sl_size_c _ (vi_cl (vi_rg rfl hv_p0 (by decide) (by decide)))
  refine lv_icmp_gt (tgt := 34) hx hb dX7_holds_15 (by decide) (fun c15 => ?_) (fun c15 => ?_)
  · have f15 := (show y14.toInt < p1.toInt from z_lt rfl rfl c15)
    refine lv_iconst (v := 0) hx hb dX7_holds_34 (by decide) ?_
    subst hQ
    exact W.zret (v := 0) hx hb hr rfl (fun t ht hW => ⟨⟨0, (), rfl, (Or.inr rfl), trivial⟩, hS.F ht⟩) hS.2.2 dX7_holds_35
  have f15 := (show p1.toInt ≤ y14.toInt from z_nlt rfl rfl c15)
  have r15a : ir p1.toInt 0 60 := ir_lea f15 r1a r14 (by decide)
  have r15b : ir y14.toInt 0 60 := ir_leb f15 r1a r14 (by decide)
  refine lv_iload_n hx hb dX7_holds_18 rfl (lv_at hl 3 rfl) ?_
  refine lv_aload_n hx hb dX7_holds_19 rfl (lv_at hl 0 rfl) ?_
  refine va_get (D := g) (ci := 7) (v := .ref sl_size) (C := RX7) (T := TX7) (N := 3) hx hb hts iX7 hown hK hP 0 rfl rfl 1 (by decide) (hts (.fieldLink RX7 15 "CardsAtYule$Slots" "size" "[I") (List.mem_cons_of_mem _ (List.mem_append_left _ (List.mem_of_getElem? (i := 0) rfl)))) (fun _ h9 => h9) rfl dX7_holds_20 ?_
  refine lv_iload_n hx hb dX7_holds_23 rfl (lv_at hl 1 rfl) ?_
  refine va_iald (D := g) hx hb hK hP 1 0 rfl rfl (vi_rg rfl hv_p0 (by decide) (by decide)) dX7_holds_24 ?_
  refine lv_topi (fun y24 e24 => ?_)
  have r24 : ir y24.toInt (-1) 60 := by rw [e24]; exact ha_sl_size_c _ (vi_cl (vi_rg rfl hv_p0 (by decide) (by decide)))
  refine lv_iload_n hx hb dX7_holds_25 rfl (lv_at hl 2 rfl) ?_
  refine lv_isub hx hb dX7_holds_26 ?_
  refine lv_topi (fun y26 e26 => ?_)
  have q26 : y26.toInt = y24.toInt - p1.toInt := by rw [e26]; exact su_z rfl rfl r24 r15a (by decide) (by decide)
  have r26 : ir y26.toInt (-61) 60 := su_r q26 r24 r15a (by decide) (by decide)
  refine lv_icmp_gt (tgt := 34) hx hb dX7_holds_27 (by decide) (fun c27 => ?_) (fun c27 => ?_)
  · have f27 := (show y26.toInt < p2.toInt from z_lt rfl rfl c27)
    refine lv_iconst (v := 0) hx hb dX7_holds_34 (by decide) ?_
    subst hQ
    exact W.zret (v := 0) hx hb hr rfl (fun t ht hW => ⟨⟨0, (), rfl, (Or.inr rfl), trivial⟩, hS.F ht⟩) hS.2.2 dX7_holds_35
  have f27 := (show p2.toInt ≤ y26.toInt from z_nlt rfl rfl c27)
  have r27a : ir p2.toInt 0 60 := ir_lea f27 r5a r26 (by decide)
  have r27b : ir y26.toInt 0 60 := ir_leb f27 r5a r26 (by decide)
  refine lv_iconst (v := 1) hx hb dX7_holds_30 (by decide) ?_
  refine lv_goto (tgt := 35) hx hb dX7_holds_31 (by decide) ?_
  subst hQ
  exact W.zret (v := 1) hx hb hr rfl (fun t ht hW => ⟨⟨1, (), rfl, (Or.inl ⟨rfl, (by first | omega | decide), (by first | omega | decide), (by first | omega | decide)⟩), trivial⟩, hS.F ht⟩) hS.2.2 dX7_holds_35
def v_X7_copy : List Cond := .code yX7_copy cX7_copy 6 none :: (([.fieldLink RX7 18 "CardsAtYule$Slots" "numbers" "[J", .methodLink RX7 26 arraycopyName, .native arraycopyName, .static arraycopyName, .initialized "java/lang/System"] : List Cond) ++ (wsX70 ++ ([] : List Cond)))
theorem good_v_X7_copy : v_X7_copy.all goodWord = true := ga_c (by decide +kernel) (ga_a (by decide +kernel) (ga_a good_wsX70 rfl))
set_option maxHeartbeats 4000000 in
set_option maxRecDepth 100000 in
theorem q_X7_copy (l : Launch) (g : va_G) (cI cJ cB cZ cL : ClassId) (p0 : Int32) (p1 : Int32) (p2 : Int32) (p3 : Int32) (p4 : Int32) (sl : Nat) (sl_width : Nat) (sl_size : Nat) (sl_numbers : Nat) (sl_numbers_c : Nat → Int64) (sz : Nat) (hv_p0 : ir p0.toInt 0 3) (hv_p1 : ir p1.toInt 0 60) (hv_p2 : ir p2.toInt 0 3) (hv_p3 : ir p3.toInt 0 60) (hv_p4 : ir p4.toInt 0 60) (hx_0 : p1.toInt + p4.toInt ≤ 60) (hx_1 : p3.toInt + p4.toInt ≤ 60) : Met l yX7_copy v_X7_copy ({ frames := 1, cells := 0, slots := 0, locals := 24 }) (va_Pc [.ref sl, .int p0, .int p1, .int p2, .int p3, .int p4] (pRW g (tyT cI cJ cB cZ cL) [(sl, .inr (7, [.ref sl_width, .ref sl_size, .ref sl_numbers])), (sl_numbers, .inl (cJ, 240, .inr (.inl sl_numbers_c)))] sz)) (va_Qv (fun (u : (Nat → Int64)) => match u with | n_sl_numbers_c => True) (fun (u : (Nat → Int64)) (t : State) => bRW g (tyT cI cJ cB cZ cL) (va_A [(sl, .inr (7, [.ref sl_width, .ref sl_size, .ref sl_numbers])), (sl_numbers, .inl (cJ, 240, .inr (.inl sl_numbers_c)))] sz) (match u with | n_sl_numbers_c => [(sl, .inr (7, [.ref sl_width, .ref sl_size, .ref sl_numbers])), (sl_numbers, .inl (cJ, 240, .inr (.inl n_sl_numbers_c)))]) t) (va_A [(sl, .inr (7, [.ref sl_width, .ref sl_size, .ref sl_numbers])), (sl_numbers, .inl (cJ, 240, .inr (.inl sl_numbers_c)))] sz)) 0 0 (va_A [(sl, .inr (7, [.ref sl_width, .ref sl_size, .ref sl_numbers])), (sl_numbers, .inl (cJ, 240, .inr (.inl sl_numbers_c)))] sz) := by
  refine Met.ofW (cc := cX7_copy) (maxL := 6) (ret := none) (by decide) rfl ?_
  intro p e s m args below meth c s₁ B hml hv
  obtain ⟨rfl, hsz, hP, hK, hD0⟩ := hv
  have hx := B.exec
  have hb := B.bytes
  have hr := B.returns
  have hts := atoms_spec (ws := v_X7_copy) B.pre
  have hown : s.vm.findClass RX7 = some m.cls := findClass_of_methodNamed B.named
  have hlocks := B.notSynchronized
  clear B
  subst hsz
  have iX7 : ∀ w ∈ wsX70, w ∈ v_X7_copy := (fun _ h => List.mem_cons_of_mem _ (List.mem_append_right _ (List.mem_append_left _ h)))
  have hD := hD0.self (sz := s.heap.size)
  generalize hAe : (va_A [(sl, .inr (7, [.ref sl_width, .ref sl_size, .ref sl_numbers])), (sl_numbers, .inl (cJ, 240, .inr (.inl sl_numbers_c)))] s.heap.size) = A at hD ⊢
  have hA : ∀ q : Nat, s.heap.size ≤ q → A q := fun q h => by rw [← hAe]; exact Or.inr h
  have hS : va_S A s.heap s.heap [] := va_S.rf
  have hl := lv_entry ([.ref sl, .int p0, .int p1, .int p2, .int p3, .int p4]) (n := 6) (Nat.le_of_ble_eq_true rfl)
  rw [lg_entry_eq]
  generalize (lg_sl ([.ref sl, .int p0, .int p1, .int p2, .int p3, .int p4]) ++ List.replicate (6 - (lg_sl ([.ref sl, .int p0, .int p1, .int p2, .int p3, .int p4])).length) Slot.unset).toArray = ls at hl ⊢
  generalize ([.ref sl, .int p0, .int p1, .int p2, .int p3, .int p4] : List Value).toArray = av at hts ⊢
  generalize hQ : MQ below _ av s _ _ A = QQ
  have hl : lv_has ls 6 [(0, .ref sl), (1, .int p0), (2, .int p1), (3, .int p2), (4, .int p3), (5, .int p4)] := hl
  have hP : va_P g vwCl [(sl, .inr (7, [.ref sl_width, .ref sl_size, .ref sl_numbers])), (sl_numbers, .inl (cJ, 240, .inr (.inl sl_numbers_c)))] s.heap := hP
  refine lv_aload_n hx hb dX7_copy_0 rfl (lv_at hl 0 rfl) ?_
  refine va_get (D := g) (ci := 7) (v := .ref sl_numbers) (C := RX7) (T := TX7) (N := 3) hx hb hts iX7 hown hK hP 0 rfl rfl 2 (by decide) (hts (.fieldLink RX7 18 "CardsAtYule$Slots" "numbers" "[J") (List.mem_cons_of_mem _ (List.mem_append_left _ (List.mem_of_getElem? (i := 0) rfl)))) (fun _ h9 => h9) rfl dX7_copy_1 ?_
  refine lv_iload_n hx hb dX7_copy_4 rfl (lv_at hl 1 rfl) ?_
  refine lv_bipush (v := 60) hx hb dX7_copy_5 (by decide) ?_
  refine lv_imul hx hb dX7_copy_7 ?_
  refine lv_topi (fun y7 e7 => ?_)
  have q7 : y7.toInt = p0.toInt * 60 := by rw [e7]; exact mu_z rfl rfl hv_p0 (ir_c 60) (by decide) (by decide) (by decide)
  have r7 : ir y7.toInt 0 180 := mu_r q7 hv_p0 (ir_c 60) (by decide) (by decide) (by decide) (by decide)
  refine lv_iload_n hx hb dX7_copy_8 rfl (lv_at hl 2 rfl) ?_
  refine lv_iadd hx hb dX7_copy_9 ?_
  refine lv_topi (fun y9 e9 => ?_)
  have q9 : y9.toInt = y7.toInt + p1.toInt := by rw [e9]; exact ad_z rfl rfl r7 hv_p1 (by decide) (by decide)
  have r9 : ir y9.toInt 0 240 := ad_r q9 r7 hv_p1 (by decide) (by decide)
  refine lv_aload_n hx hb dX7_copy_10 rfl (lv_at hl 0 rfl) ?_
  refine va_get (D := g) (ci := 7) (v := .ref sl_numbers) (C := RX7) (T := TX7) (N := 3) hx hb hts iX7 hown hK hP 0 rfl rfl 2 (by decide) (hts (.fieldLink RX7 18 "CardsAtYule$Slots" "numbers" "[J") (List.mem_cons_of_mem _ (List.mem_append_left _ (List.mem_of_getElem? (i := 0) rfl)))) (fun _ h9 => h9) rfl dX7_copy_11 ?_
  refine lv_iload_n hx hb dX7_copy_14 rfl (lv_at hl 3 rfl) ?_
  refine lv_bipush (v := 60) hx hb dX7_copy_15 (by decide) ?_
  refine lv_imul hx hb dX7_copy_17 ?_
  refine lv_topi (fun y17 e17 => ?_)
  have q17 : y17.toInt = p2.toInt * 60 := by rw [e17]; exact mu_z rfl rfl hv_p2 (ir_c 60) (by decide) (by decide) (by decide)
  have r17 : ir y17.toInt 0 180 := mu_r q17 hv_p2 (ir_c 60) (by decide) (by decide) (by decide) (by decide)
  refine lv_iload hx hb dX7_copy_18 (lv_at hl 4 rfl) ?_
  refine lv_iadd hx hb dX7_copy_20 ?_
  refine lv_topi (fun y20 e20 => ?_)
  have q20 : y20.toInt = y17.toInt + p3.toInt := by rw [e20]; exact ad_z rfl rfl r17 hv_p3 (by decide) (by decide)
  have r20 : ir y20.toInt 0 240 := ad_r q20 r17 hv_p3 (by decide) (by decide)
  refine lv_iload hx hb dX7_copy_21 (lv_at hl 5 rfl) ?_
  refine va_copyl (D := g) hx hb (hml.trans hl.1.symm) hown (hts (.methodLink RX7 26 arraycopyName) (List.mem_cons_of_mem _ (List.mem_append_left _ (List.mem_of_getElem? (i := 1) rfl)))) (hts (.native arraycopyName) (List.mem_cons_of_mem _ (List.mem_append_left _ (List.mem_of_getElem? (i := 2) rfl)))) (hts (.static arraycopyName) (List.mem_cons_of_mem _ (List.mem_append_left _ (List.mem_of_getElem? (i := 3) rfl)))) (hts (.initialized "java/lang/System") (List.mem_cons_of_mem _ (List.mem_append_left _ (List.mem_of_getElem? (i := 4) rfl)))) hK hP hD hS 1 1 1 1 rfl rfl rfl rfl rfl (nn_i rfl r9 (by decide)) (nn_i rfl r20 (by decide)) (nn_i rfl hv_p4 (by decide)) (cp_o rfl rfl (by omega) (by omega) (by omega)) (cp_o rfl rfl (by omega) (by omega) (by omega)) (fun _ _ => rfl) (Nat.le_of_ble_eq_true rfl) (Nat.le_of_ble_eq_true rfl) dX7_copy_23 (fun H locs hP hD hS => ?_)
  obtain ⟨g23, e23⟩ : ∃ z, z = va_cpy sl_numbers_c sl_numbers_c y9.toNatClampNeg y20.toNatClampNeg p4.toNatClampNeg := ⟨_, rfl⟩
  have hP : va_P g vwCl [(sl, .inr (7, [.ref sl_width, .ref sl_size, .ref sl_numbers])), (sl_numbers, .inl (cJ, 240, .inr (.inl (va_cpy sl_numbers_c sl_numbers_c y9.toNatClampNeg y20.toNatClampNeg p4.toNatClampNeg))))] H := hP
  have hD : va_D A [(sl, .inr (7, [.ref sl_width, .ref sl_size, .ref sl_numbers])), (sl_numbers, .inl (cJ, 240, .inr (.inl (va_cpy sl_numbers_c sl_numbers_c y9.toNatClampNeg y20.toNatClampNeg p4.toNatClampNeg))))] := hD
  rw [← e23] at hP hD
  subst hQ
  have hP9 := hP.sub (ws' := [(sl, .inr (7, [.ref sl_width, .ref sl_size, .ref sl_numbers])), (sl_numbers, .inl (cJ, 240, .inr (.inl g23)))]) [0, 1] rfl
  have hD9 := hD.sub (ws' := [(sl, .inr (7, [.ref sl_width, .ref sl_size, .ref sl_numbers])), (sl_numbers, .inl (cJ, 240, .inr (.inl g23)))]) [0, 1] (by decide) rfl
  exact W.vret hx hb hr (fun t ht hW => ⟨⟨g23, rfl, trivial, ⟨by rw [ht]; exact hP9, va_K.moved hW.alike hK, hD9⟩⟩, hS.F ht⟩) hS.2.2 dX7_copy_26
def v_X6_note : List Cond := .code yX6_note cX6_note 6 none :: (([.fieldLink RX6 9 "CardsAtYule$Seen" "years" "J", .initialized RX11, .static yX11_isAt, .fieldLink RX6 15 "CardsAtYule$Seen" "got0" "J", .fieldLink RX6 18 "CardsAtYule$Seen" "got1" "J", .fieldLink RX6 21 "CardsAtYule$Seen" "clashes" "Z"] : List Cond) ++ (v_X11_isAt ++ (wsX60 ++ ([] : List Cond))))
theorem good_v_X6_note : v_X6_note.all goodWord = true := ga_c (by decide +kernel) (ga_a (by decide +kernel) (ga_a good_v_X11_isAt (ga_a good_wsX60 rfl)))
set_option maxHeartbeats 4000000 in
set_option maxRecDepth 100000 in
theorem q_X6_note (l : Launch) (g : va_G) (cI cJ cB cZ cL : ClassId) (kA : Nat → Nat) (vA : Nat → Nat) (p0 : Int32) (p1 : Int64) (p2 : Int64) (se : Nat) (se_years : Int64) (se_got0 : Int64) (se_got1 : Int64) (se_clashes : Int32) (sz : Nat) (hv_se_clashes : ir se_clashes.toInt 0 1) : Met l yX6_note v_X6_note ({ frames := 1, cells := 0, slots := 0, locals := 22 }) (va_Pc [.ref se, .int p0, .long p1, .long p2] (eRW g (tyT cI cJ cB cZ cL) [(se, .inr (6, [.long se_years, .long se_got0, .long se_got1, .int se_clashes]))] sz kA vA)) (va_Qv (fun (u : Int64 × Int64 × Int64 × Int32) => match u with | (n_se_years, n_se_got0, n_se_got1, n_se_clashes) => (ir n_se_clashes.toInt 0 1)) (fun (u : Int64 × Int64 × Int64 × Int32) (t : State) => bRW g (tyT cI cJ cB cZ cL) (va_A [(se, .inr (6, [.long se_years, .long se_got0, .long se_got1, .int se_clashes]))] sz) (match u with | (n_se_years, n_se_got0, n_se_got1, n_se_clashes) => [(se, .inr (6, [.long n_se_years, .long n_se_got0, .long n_se_got1, .int n_se_clashes]))]) t) (va_A [(se, .inr (6, [.long se_years, .long se_got0, .long se_got1, .int se_clashes]))] sz)) 0 0 (va_A [(se, .inr (6, [.long se_years, .long se_got0, .long se_got1, .int se_clashes]))] sz) := by
  refine Met.ofW (cc := cX6_note) (maxL := 6) (ret := none) (by decide) rfl ?_
  intro p e s m args below meth c s₁ B hml hv
  obtain ⟨rfl, ⟨hsz, hP, hK, hD0⟩, hE⟩ := hv
  have hx := B.exec
  have hb := B.bytes
  have hr := B.returns
  have hts := atoms_spec (ws := v_X6_note) B.pre
  have hown : s.vm.findClass RX6 = some m.cls := findClass_of_methodNamed B.named
  have hlocks := B.notSynchronized
  clear B
  subst hsz
  have iX6 : ∀ w ∈ wsX60, w ∈ v_X6_note := (fun _ h => List.mem_cons_of_mem _ (List.mem_append_right _ (List.mem_append_right _ (List.mem_append_left _ h))))
  have hD := hD0.self (sz := s.heap.size)
  generalize hAe : (va_A [(se, .inr (6, [.long se_years, .long se_got0, .long se_got1, .int se_clashes]))] s.heap.size) = A at hD hE ⊢
  have hA : ∀ q : Nat, s.heap.size ≤ q → A q := fun q h => by rw [← hAe]; exact Or.inr h
  have hS : va_S A s.heap s.heap [] := va_S.rf
  have hl := lv_entry ([.ref se, .int p0, .long p1, .long p2]) (n := 6) (Nat.le_of_ble_eq_true rfl)
  rw [lg_entry_eq]
  generalize (lg_sl ([.ref se, .int p0, .long p1, .long p2]) ++ List.replicate (6 - (lg_sl ([.ref se, .int p0, .long p1, .long p2])).length) Slot.unset).toArray = ls at hl ⊢
  generalize ([.ref se, .int p0, .long p1, .long p2] : List Value).toArray = av at hts ⊢
  generalize hQ : MQ below _ av s _ _ A = QQ
  have hl : lv_has ls 6 [(0, .ref se), (1, .int p0), (2, .long p1), (4, .long p2)] := hl
  have hP : va_P g vwCl [(se, .inr (6, [.long se_years, .long se_got0, .long se_got1, .int se_clashes]))] s.heap := hP
  refine lv_aload_n hx hb dX6_note_0 rfl (lv_at hl 0 rfl) ?_
  refine va_get (D := g) (ci := 6) (v := .long se_years) (C := RX6) (T := TX6) (N := 4) hx hb hts iX6 hown hK hP 0 rfl rfl 0 (by decide) (hts (.fieldLink RX6 9 "CardsAtYule$Seen" "years" "J") (List.mem_cons_of_mem _ (List.mem_append_left _ (List.mem_of_getElem? (i := 0) rfl)))) (fun _ h9 => h9) rfl dX6_note_1 ?_
  refine lv_iload_n hx hb dX6_note_4 rfl (lv_at hl 1 rfl) ?_
  refine ro_i (va_runSN (As := [.long se_years, .int p0]) (rest := []) ⟨hx, hb, hml, hown, hts⟩ (q_X11_isAt l g cI cJ cB cZ cL se_years p0 s.heap.size ) ⟨(va_cnB 2 hts (goodIn_sub (fun _ h => List.mem_cons_of_mem _ (List.mem_append_right _ (List.mem_append_left _ h))) good_v_X11_isAt) rfl rfl rfl (hE.nest _ (List.mem_of_getElem? (i := 3) rfl)) (hts (.initialized RX11) (List.mem_cons_of_mem _ (List.mem_append_left _ (List.mem_of_getElem? (i := 1) rfl)))) (by decide +kernel) ⟨Nat.le_of_ble_eq_true rfl, Nat.le_of_ble_eq_true rfl⟩), (hts (.static yX11_isAt) (List.mem_cons_of_mem _ (List.mem_append_left _ (List.mem_of_getElem? (i := 2) rfl)))), trivial⟩ (ps_RO (wc := []) hK hP [] rfl) rfl rfl hl.1 rfl (lv_room (Nat.le_of_ble_eq_true rfl)) dX6_note_5 ⟨Nat.le_of_ble_eq_true rfl, Nat.le_of_ble_eq_true rfl⟩) hS hA hP (fun r5 u5 H locs hw5 hP hS => ?_)
  have hw5_0 := hw5
  refine lv_if_eq (tgt := 55) hx hb dX6_note_8 (by decide) (fun c8 => ?_) (fun c8 => ?_)
  · have f8 := (show r5.toInt = 0 from z_eq rfl rfl c8)
    have r8a : ir r5.toInt 0 0 := ir_eqa f8 hw5_0 (ir_c 0) (by decide) (by decide)
    refine lv_aload_n hx hb dX6_note_55 rfl (lv_at hl 0 rfl) ?_
    refine lv_dup hx hb dX6_note_56 rfl ?_
    refine va_get (D := g) (ci := 6) (v := .long se_years) (C := RX6) (T := TX6) (N := 4) hx hb hts iX6 hown hK hP 0 rfl rfl 0 (by decide) (hts (.fieldLink RX6 9 "CardsAtYule$Seen" "years" "J") (List.mem_cons_of_mem _ (List.mem_append_left _ (List.mem_of_getElem? (i := 0) rfl)))) (fun _ h9 => h9) rfl dX6_note_57 ?_
    refine lv_lconst (v := 1) hx hb dX6_note_60 (by decide) ?_
    refine lv_iload_n hx hb dX6_note_61 rfl (lv_at hl 1 rfl) ?_
    refine lv_lshl (v := (1 <<< (p0.toInt64 &&& 63))) hx hb dX6_note_62 rfl ?_
    refine lv_topl (fun y62 e62 => ?_)
    refine lv_lor hx hb dX6_note_63 ?_
    refine lv_topl (fun y63 e63 => ?_)
    refine va_put (D := g) (ci := 6) (v := .long y63) (ty := .long) (C := RX6) (T := TX6) (N := 4) hx hb hts iX6 tyX6 tyX6_ok nmX6 hown hK hP hD hS 0 rfl rfl 0 (by decide) (hts (.fieldLink RX6 9 "CardsAtYule$Seen" "years" "J") (List.mem_cons_of_mem _ (List.mem_append_left _ (List.mem_of_getElem? (i := 0) rfl)))) (fun _ h9 => h9) rfl (by decide +kernel) rfl rfl (Nat.le_of_ble_eq_true rfl) dX6_note_64 (fun H locs hP hD hS => ?_)
    have hP : va_P g vwCl [(se, .inr (6, [.long y63, .long se_got0, .long se_got1, .int se_clashes]))] H := hP
    have hD : va_D A [(se, .inr (6, [.long y63, .long se_got0, .long se_got1, .int se_clashes]))] := hD
    refine lv_aload_n hx hb dX6_note_67 rfl (lv_at hl 0 rfl) ?_
    refine lv_dup hx hb dX6_note_68 rfl ?_
    refine va_get (D := g) (ci := 6) (v := .long se_got0) (C := RX6) (T := TX6) (N := 4) hx hb hts iX6 hown hK hP 0 rfl rfl 1 (by decide) (hts (.fieldLink RX6 15 "CardsAtYule$Seen" "got0" "J") (List.mem_cons_of_mem _ (List.mem_append_left _ (List.mem_of_getElem? (i := 3) rfl)))) (fun _ h9 => h9) rfl dX6_note_69 ?_
    refine lv_lload_n hx hb dX6_note_72 rfl (lv_at hl 2 rfl) ?_
    refine lv_iload_n hx hb dX6_note_73 rfl (lv_at hl 1 rfl) ?_
    refine lv_lshl (v := (p1 <<< (p0.toInt64 &&& 63))) hx hb dX6_note_74 rfl ?_
    refine lv_topl (fun y74 e74 => ?_)
    refine lv_lor hx hb dX6_note_75 ?_
    refine lv_topl (fun y75 e75 => ?_)
    refine va_put (D := g) (ci := 6) (v := .long y75) (ty := .long) (C := RX6) (T := TX6) (N := 4) hx hb hts iX6 tyX6 tyX6_ok nmX6 hown hK hP hD hS 0 rfl rfl 1 (by decide) (hts (.fieldLink RX6 15 "CardsAtYule$Seen" "got0" "J") (List.mem_cons_of_mem _ (List.mem_append_left _ (List.mem_of_getElem? (i := 3) rfl)))) (fun _ h9 => h9) rfl (by decide +kernel) rfl rfl (Nat.le_of_ble_eq_true rfl) dX6_note_76 (fun H locs hP hD hS => ?_)
    have hP : va_P g vwCl [(se, .inr (6, [.long y63, .long y75, .long se_got1, .int se_clashes]))] H := hP
    have hD : va_D A [(se, .inr (6, [.long y63, .long y75, .long se_got1, .int se_clashes]))] := hD
    refine lv_aload_n hx hb dX6_note_79 rfl (lv_at hl 0 rfl) ?_
    refine lv_dup hx hb dX6_note_80 rfl ?_
    refine va_get (D := g) (ci := 6) (v := .long se_got1) (C := RX6) (T := TX6) (N := 4) hx hb hts iX6 hown hK hP 0 rfl rfl 2 (by decide) (hts (.fieldLink RX6 18 "CardsAtYule$Seen" "got1" "J") (List.mem_cons_of_mem _ (List.mem_append_left _ (List.mem_of_getElem? (i := 4) rfl)))) (fun _ h9 => h9) rfl dX6_note_81 ?_
    refine lv_lload hx hb dX6_note_84 (lv_at hl 3 rfl) ?_
    refine lv_iload_n hx hb dX6_note_86 rfl (lv_at hl 1 rfl) ?_
    refine lv_lshl (v := (p2 <<< (p0.toInt64 &&& 63))) hx hb dX6_note_87 rfl ?_
    refine lv_topl (fun y87 e87 => ?_)
    refine lv_lor hx hb dX6_note_88 ?_
    refine lv_topl (fun y88 e88 => ?_)
    refine va_put (D := g) (ci := 6) (v := .long y88) (ty := .long) (C := RX6) (T := TX6) (N := 4) hx hb hts iX6 tyX6 tyX6_ok nmX6 hown hK hP hD hS 0 rfl rfl 2 (by decide) (hts (.fieldLink RX6 18 "CardsAtYule$Seen" "got1" "J") (List.mem_cons_of_mem _ (List.mem_append_left _ (List.mem_of_getElem? (i := 4) rfl)))) (fun _ h9 => h9) rfl (by decide +kernel) rfl rfl (Nat.le_of_ble_eq_true rfl) dX6_note_89 (fun H locs hP hD hS => ?_)
    have hP : va_P g vwCl [(se, .inr (6, [.long y63, .long y75, .long y88, .int se_clashes]))] H := hP
    have hD : va_D A [(se, .inr (6, [.long y63, .long y75, .long y88, .int se_clashes]))] := hD
    subst hQ
    have hP9 := hP.sub (ws' := [(se, .inr (6, [.long y63, .long y75, .long y88, .int se_clashes]))]) [0] rfl
    have hD9 := hD.sub (ws' := [(se, .inr (6, [.long y63, .long y75, .long y88, .int se_clashes]))]) [0] (by decide) rfl
    exact W.vret hx hb hr (fun t ht hW => ⟨⟨(y63, y75, y88, se_clashes), rfl, hv_se_clashes, ⟨by rw [ht]; exact hP9, va_K.moved hW.alike hK, hD9⟩⟩, hS.F ht⟩) hS.2.2 dX6_note_92
  have f8 := (show r5.toInt ≠ 0 from z_ne rfl rfl c8)
  have r8a : ir r5.toInt 1 1 := ir_nel f8 hw5_0 (by decide) (by decide)
  refine lv_aload_n hx hb dX6_note_11 rfl (lv_at hl 0 rfl) ?_
  refine lv_aload_n hx hb dX6_note_12 rfl (lv_at hl 0 rfl) ?_
  refine va_get (D := g) (ci := 6) (v := .int se_clashes) (C := RX6) (T := TX6) (N := 4) hx hb hts iX6 hown hK hP 0 rfl rfl 3 (by decide) (hts (.fieldLink RX6 21 "CardsAtYule$Seen" "clashes" "Z") (List.mem_cons_of_mem _ (List.mem_append_left _ (List.mem_of_getElem? (i := 5) rfl)))) (fun _ h9 => h9) rfl dX6_note_13 ?_
  refine lv_if_ne (tgt := 46) hx hb dX6_note_16 (by decide) (fun c16 => ?_) (fun c16 => ?_)
  · have f16 := (show se_clashes.toInt ≠ 0 from z_ne rfl rfl c16)
    have r16a : ir se_clashes.toInt 1 1 := ir_nel f16 hv_se_clashes (by decide) (by decide)
    refine lv_iconst (v := 1) hx hb dX6_note_46 (by decide) ?_
    refine lv_goto (tgt := 51) hx hb dX6_note_47 (by decide) ?_
    refine va_put (D := g) (ci := 6) (v := .int 1) (ty := .boolean) (C := RX6) (T := TX6) (N := 4) hx hb hts iX6 tyX6 tyX6_ok nmX6 hown hK hP hD hS 0 rfl rfl 3 (by decide) (hts (.fieldLink RX6 21 "CardsAtYule$Seen" "clashes" "Z") (List.mem_cons_of_mem _ (List.mem_append_left _ (List.mem_of_getElem? (i := 5) rfl)))) (fun _ h9 => h9) rfl (by decide +kernel) rfl rfl (Nat.le_of_ble_eq_true rfl) dX6_note_51 (fun H locs hP hD hS => ?_)
    have hP : va_P g vwCl [(se, .inr (6, [.long se_years, .long se_got0, .long se_got1, .int 1]))] H := hP
    have hD : va_D A [(se, .inr (6, [.long se_years, .long se_got0, .long se_got1, .int 1]))] := hD
    subst hQ
    have hP9 := hP.sub (ws' := [(se, .inr (6, [.long se_years, .long se_got0, .long se_got1, .int 1]))]) [0] rfl
    have hD9 := hD.sub (ws' := [(se, .inr (6, [.long se_years, .long se_got0, .long se_got1, .int 1]))]) [0] (by decide) rfl
    exact W.vret hx hb hr (fun t ht hW => ⟨⟨(se_years, se_got0, se_got1, 1), rfl, (show ir (1 : Int32).toInt 0 1 by decide), ⟨by rw [ht]; exact hP9, va_K.moved hW.alike hK, hD9⟩⟩, hS.F ht⟩) hS.2.2 dX6_note_54
  have f16 := (show se_clashes.toInt = 0 from z_eq rfl rfl c16)
  have r16a : ir se_clashes.toInt 0 0 := ir_eqa f16 hv_se_clashes (ir_c 0) (by decide) (by decide)
  refine lv_aload_n hx hb dX6_note_19 rfl (lv_at hl 0 rfl) ?_
  refine va_get (D := g) (ci := 6) (v := .long se_got0) (C := RX6) (T := TX6) (N := 4) hx hb hts iX6 hown hK hP 0 rfl rfl 1 (by decide) (hts (.fieldLink RX6 15 "CardsAtYule$Seen" "got0" "J") (List.mem_cons_of_mem _ (List.mem_append_left _ (List.mem_of_getElem? (i := 3) rfl)))) (fun _ h9 => h9) rfl dX6_note_20 ?_
  refine lv_iload_n hx hb dX6_note_23 rfl (lv_at hl 1 rfl) ?_
  refine lv_lshr (v := (se_got0 >>> (p0.toInt64 &&& 63))) hx hb dX6_note_24 rfl ?_
  refine lv_topl (fun y24 e24 => ?_)
  refine lv_lconst (v := 1) hx hb dX6_note_25 (by decide) ?_
  refine lv_land hx hb dX6_note_26 ?_
  refine lv_topl (fun y26 e26 => ?_)
  have r26 : ir y26.toInt 0 1 := by rw [e26]; exact lan_y (by decide)
  refine lv_lload_n hx hb dX6_note_27 rfl (lv_at hl 2 rfl) ?_
  refine W.lcmp hx hb dX6_note_28 ?_
  refine lv_if_ne (tgt := 46) hx hb dX6_note_29 (by decide) (fun c29 => ?_) (fun c29 => ?_)
  · have f29 := (show y26.toInt ≠ p1.toInt from y_ne rfl rfl c29)
    refine lv_iconst (v := 1) hx hb dX6_note_46 (by decide) ?_
    refine lv_goto (tgt := 51) hx hb dX6_note_47 (by decide) ?_
    refine va_put (D := g) (ci := 6) (v := .int 1) (ty := .boolean) (C := RX6) (T := TX6) (N := 4) hx hb hts iX6 tyX6 tyX6_ok nmX6 hown hK hP hD hS 0 rfl rfl 3 (by decide) (hts (.fieldLink RX6 21 "CardsAtYule$Seen" "clashes" "Z") (List.mem_cons_of_mem _ (List.mem_append_left _ (List.mem_of_getElem? (i := 5) rfl)))) (fun _ h9 => h9) rfl (by decide +kernel) rfl rfl (Nat.le_of_ble_eq_true rfl) dX6_note_51 (fun H locs hP hD hS => ?_)
    have hP : va_P g vwCl [(se, .inr (6, [.long se_years, .long se_got0, .long se_got1, .int 1]))] H := hP
    have hD : va_D A [(se, .inr (6, [.long se_years, .long se_got0, .long se_got1, .int 1]))] := hD
    subst hQ
    have hP9 := hP.sub (ws' := [(se, .inr (6, [.long se_years, .long se_got0, .long se_got1, .int 1]))]) [0] rfl
    have hD9 := hD.sub (ws' := [(se, .inr (6, [.long se_years, .long se_got0, .long se_got1, .int 1]))]) [0] (by decide) rfl
    exact W.vret hx hb hr (fun t ht hW => ⟨⟨(se_years, se_got0, se_got1, 1), rfl, (show ir (1 : Int32).toInt 0 1 by decide), ⟨by rw [ht]; exact hP9, va_K.moved hW.alike hK, hD9⟩⟩, hS.F ht⟩) hS.2.2 dX6_note_54
  have f29 := (show y26.toInt = p1.toInt from y_eq rfl rfl c29)
  have r29b : ir p1.toInt 0 1 := ir_eqb f29 r26 (rl_all p1) (by decide) (by decide)
  refine lv_aload_n hx hb dX6_note_32 rfl (lv_at hl 0 rfl) ?_
  refine va_get (D := g) (ci := 6) (v := .long se_got1) (C := RX6) (T := TX6) (N := 4) hx hb hts iX6 hown hK hP 0 rfl rfl 2 (by decide) (hts (.fieldLink RX6 18 "CardsAtYule$Seen" "got1" "J") (List.mem_cons_of_mem _ (List.mem_append_left _ (List.mem_of_getElem? (i := 4) rfl)))) (fun _ h9 => h9) rfl dX6_note_33 ?_
  refine lv_iload_n hx hb dX6_note_36 rfl (lv_at hl 1 rfl) ?_
  refine lv_lshr (v := (se_got1 >>> (p0.toInt64 &&& 63))) hx hb dX6_note_37 rfl ?_
  refine lv_topl (fun y37 e37 => ?_)
  refine lv_lconst (v := 1) hx hb dX6_note_38 (by decide) ?_
  refine lv_land hx hb dX6_note_39 ?_
  refine lv_topl (fun y39 e39 => ?_)
  have r39 : ir y39.toInt 0 1 := by rw [e39]; exact lan_y (by decide)
  refine lv_lload hx hb dX6_note_40 (lv_at hl 3 rfl) ?_
  refine W.lcmp hx hb dX6_note_42 ?_
  refine lv_if_eq (tgt := 50) hx hb dX6_note_43 (by decide) (fun c43 => ?_) (fun c43 => ?_)
  rotate_left 1
  · have f43 := (show y39.toInt ≠ p2.toInt from y_ne rfl rfl c43)
    refine lv_iconst (v := 1) hx hb dX6_note_46 (by decide) ?_
    refine lv_goto (tgt := 51) hx hb dX6_note_47 (by decide) ?_
    refine va_put (D := g) (ci := 6) (v := .int 1) (ty := .boolean) (C := RX6) (T := TX6) (N := 4) hx hb hts iX6 tyX6 tyX6_ok nmX6 hown hK hP hD hS 0 rfl rfl 3 (by decide) (hts (.fieldLink RX6 21 "CardsAtYule$Seen" "clashes" "Z") (List.mem_cons_of_mem _ (List.mem_append_left _ (List.mem_of_getElem? (i := 5) rfl)))) (fun _ h9 => h9) rfl (by decide +kernel) rfl rfl (Nat.le_of_ble_eq_true rfl) dX6_note_51 (fun H locs hP hD hS => ?_)
    have hP : va_P g vwCl [(se, .inr (6, [.long se_years, .long se_got0, .long se_got1, .int 1]))] H := hP
    have hD : va_D A [(se, .inr (6, [.long se_years, .long se_got0, .long se_got1, .int 1]))] := hD
    subst hQ
    have hP9 := hP.sub (ws' := [(se, .inr (6, [.long se_years, .long se_got0, .long se_got1, .int 1]))]) [0] rfl
    have hD9 := hD.sub (ws' := [(se, .inr (6, [.long se_years, .long se_got0, .long se_got1, .int 1]))]) [0] (by decide) rfl
    exact W.vret hx hb hr (fun t ht hW => ⟨⟨(se_years, se_got0, se_got1, 1), rfl, (show ir (1 : Int32).toInt 0 1 by decide), ⟨by rw [ht]; exact hP9, va_K.moved hW.alike hK, hD9⟩⟩, hS.F ht⟩) hS.2.2 dX6_note_54
  have f43 := (show y39.toInt = p2.toInt from y_eq rfl rfl c43)
  have r43b : ir p2.toInt 0 1 := ir_eqb f43 r39 (rl_all p2) (by decide) (by decide)
  refine lv_iconst (v := 0) hx hb dX6_note_50 (by decide) ?_
  refine va_put (D := g) (ci := 6) (v := .int 0) (ty := .boolean) (C := RX6) (T := TX6) (N := 4) hx hb hts iX6 tyX6 tyX6_ok nmX6 hown hK hP hD hS 0 rfl rfl 3 (by decide) (hts (.fieldLink RX6 21 "CardsAtYule$Seen" "clashes" "Z") (List.mem_cons_of_mem _ (List.mem_append_left _ (List.mem_of_getElem? (i := 5) rfl)))) (fun _ h9 => h9) rfl (by decide +kernel) rfl rfl (Nat.le_of_ble_eq_true rfl) dX6_note_51 (fun H locs hP hD hS => ?_)
  have hP : va_P g vwCl [(se, .inr (6, [.long se_years, .long se_got0, .long se_got1, .int 0]))] H := hP
  have hD : va_D A [(se, .inr (6, [.long se_years, .long se_got0, .long se_got1, .int 0]))] := hD
  subst hQ
  have hP9 := hP.sub (ws' := [(se, .inr (6, [.long se_years, .long se_got0, .long se_got1, .int 0]))]) [0] rfl
  have hD9 := hD.sub (ws' := [(se, .inr (6, [.long se_years, .long se_got0, .long se_got1, .int 0]))]) [0] (by decide) rfl
  exact W.vret hx hb hr (fun t ht hW => ⟨⟨(se_years, se_got0, se_got1, 0), rfl, (show ir (0 : Int32).toInt 0 1 by decide), ⟨by rw [ht]; exact hP9, va_K.moved hW.alike hK, hD9⟩⟩, hS.F ht⟩) hS.2.2 dX6_note_54
def v_X6_readRow : List Cond := .code yX6_readRow cX6_readRow 11 (some .boolean) :: (([.fieldLink RX6 9 "CardsAtYule$Seen" "years" "J", .fieldLink RX6 15 "CardsAtYule$Seen" "got0" "J", .fieldLink RX6 18 "CardsAtYule$Seen" "got1" "J", .fieldLink RX6 21 "CardsAtYule$Seen" "clashes" "Z", .fieldLink RX6 25 "CardsAtYule$Slots" "size" "[I", .methodLink RX6 31 yX7_numberAt, .instanceMethod yX7_numberAt, .selects RX7 yX7_numberAt yX7_numberAt, .initialized RX7, .methodLink RX6 35 yX6_note, .instanceMethod yX6_note, .selects RX6 yX6_note yX6_note, .initialized RX6] : List Cond) ++ (v_X7_numberAt ++ (v_X6_note ++ (wsX60 ++ (wsX70 ++ ([] : List Cond))))))
theorem good_v_X6_readRow : v_X6_readRow.all goodWord = true := ga_c (by decide +kernel) (ga_a (by decide +kernel) (ga_a good_v_X7_numberAt (ga_a good_v_X6_note (ga_a good_wsX60 (ga_a good_wsX70 rfl)))))
set_option maxHeartbeats 4000000 in
set_option maxRecDepth 100000 in
theorem q_X6_readRow (l : Launch) (g : va_G) (cI cJ cB cZ cL : ClassId) (kA : Nat → Nat) (vA : Nat → Nat) (p1 : Int32) (p2 : Int32) (se : Nat) (sl : Nat) (se_years : Int64) (se_got0 : Int64) (se_got1 : Int64) (se_clashes : Int32) (sl_width : Nat) (sl_size : Nat) (sl_numbers : Nat) (sl_size_c : Nat → Int32) (sl_numbers_c : Nat → Int64) (sz : Nat) (hv_p1 : ir p1.toInt 0 3) (hv_se_clashes : ir se_clashes.toInt 0 1) (ha_sl_size_c : ar sl_size_c 4 (-1) 60) : Met l yX6_readRow v_X6_readRow ({ frames := 2, cells := 0, slots := 0, locals := 47 }) (va_Pc [.ref se, .ref sl, .int p1, .int p2] (eRW g (tyT cI cJ cB cZ cL) [(se, .inr (6, [.long se_years, .long se_got0, .long se_got1, .int se_clashes])), (sl, .inr (7, [.ref sl_width, .ref sl_size, .ref sl_numbers])), (sl_size, .inl (cI, 4, .inl sl_size_c)), (sl_numbers, .inl (cJ, 240, .inr (.inl sl_numbers_c)))] sz kA vA)) (va_Qi (fun (r : Int32) (u : Int64 × Int64 × Int64 × Int32) => match u with | (n_se_years, n_se_got0, n_se_got1, n_se_clashes) => (ir n_se_clashes.toInt 0 1) ∧ ((r = 1 ∧ (sl_size_c p1.toNatClampNeg).toInt % 3 = 0) ∨ (r = 0))) (fun (u : Int64 × Int64 × Int64 × Int32) (t : State) => bRW g (tyT cI cJ cB cZ cL) (va_A [(se, .inr (6, [.long se_years, .long se_got0, .long se_got1, .int se_clashes])), (sl, .inr (7, [.ref sl_width, .ref sl_size, .ref sl_numbers])), (sl_size, .inl (cI, 4, .inl sl_size_c)), (sl_numbers, .inl (cJ, 240, .inr (.inl sl_numbers_c)))] sz) (match u with | (n_se_years, n_se_got0, n_se_got1, n_se_clashes) => [(se, .inr (6, [.long n_se_years, .long n_se_got0, .long n_se_got1, .int n_se_clashes])), (sl, .inr (7, [.ref sl_width, .ref sl_size, .ref sl_numbers])), (sl_size, .inl (cI, 4, .inl sl_size_c)), (sl_numbers, .inl (cJ, 240, .inr (.inl sl_numbers_c)))]) t) (va_A [(se, .inr (6, [.long se_years, .long se_got0, .long se_got1, .int se_clashes])), (sl, .inr (7, [.ref sl_width, .ref sl_size, .ref sl_numbers])), (sl_size, .inl (cI, 4, .inl sl_size_c)), (sl_numbers, .inl (cJ, 240, .inr (.inl sl_numbers_c)))] sz)) 0 0 (va_A [(se, .inr (6, [.long se_years, .long se_got0, .long se_got1, .int se_clashes])), (sl, .inr (7, [.ref sl_width, .ref sl_size, .ref sl_numbers])), (sl_size, .inl (cI, 4, .inl sl_size_c)), (sl_numbers, .inl (cJ, 240, .inr (.inl sl_numbers_c)))] sz) := by
  refine Met.ofW (cc := cX6_readRow) (maxL := 11) (ret := (some .boolean)) (by decide) rfl ?_
  intro p e s m args below meth c s₁ B hml hv
  obtain ⟨rfl, ⟨hsz, hP, hK, hD0⟩, hE⟩ := hv
  have hx := B.exec
  have hb := B.bytes
  have hr := B.returns
  have hts := atoms_spec (ws := v_X6_readRow) B.pre
  have hown : s.vm.findClass RX6 = some m.cls := findClass_of_methodNamed B.named
  have hlocks := B.notSynchronized
  clear B
  subst hsz
  have iX6 : ∀ w ∈ wsX60, w ∈ v_X6_readRow := (fun _ h => List.mem_cons_of_mem _ (List.mem_append_right _ (List.mem_append_right _ (List.mem_append_right _ (List.mem_append_left _ h)))))
  have iX7 : ∀ w ∈ wsX70, w ∈ v_X6_readRow := (fun _ h => List.mem_cons_of_mem _ (List.mem_append_right _ (List.mem_append_right _ (List.mem_append_right _ (List.mem_append_right _ (List.mem_append_left _ h))))))
  have hD := hD0.self (sz := s.heap.size)
  generalize hAe : (va_A [(se, .inr (6, [.long se_years, .long se_got0, .long se_got1, .int se_clashes])), (sl, .inr (7, [.ref sl_width, .ref sl_size, .ref sl_numbers])), (sl_size, .inl (cI, 4, .inl sl_size_c)), (sl_numbers, .inl (cJ, 240, .inr (.inl sl_numbers_c)))] s.heap.size) = A at hD hE ⊢
  have hA : ∀ q : Nat, s.heap.size ≤ q → A q := fun q h => by rw [← hAe]; exact Or.inr h
  have hS : va_S A s.heap s.heap [] := va_S.rf
  have hl := lv_entry ([.ref se, .ref sl, .int p1, .int p2]) (n := 11) (Nat.le_of_ble_eq_true rfl)
  rw [lg_entry_eq]
  generalize (lg_sl ([.ref se, .ref sl, .int p1, .int p2]) ++ List.replicate (11 - (lg_sl ([.ref se, .ref sl, .int p1, .int p2])).length) Slot.unset).toArray = ls at hl ⊢
  generalize ([.ref se, .ref sl, .int p1, .int p2] : List Value).toArray = av at hts ⊢
  generalize hQ : MQ below _ av s _ _ A = QQ
  have hl : lv_has ls 11 [(0, .ref se), (1, .ref sl), (2, .int p1), (3, .int p2)] := hl
  have hP : va_P g vwCl [(se, .inr (6, [.long se_years, .long se_got0, .long se_got1, .int se_clashes])), (sl, .inr (7, [.ref sl_width, .ref sl_size, .ref sl_numbers])), (sl_size, .inl (cI, 4, .inl sl_size_c)), (sl_numbers, .inl (cJ, 240, .inr (.inl sl_numbers_c)))] s.heap := hP
  refine lv_aload_n hx hb dX6_readRow_0 rfl (lv_at hl 0 rfl) ?_
  refine lv_lconst (v := 0) hx hb dX6_readRow_1 (by decide) ?_
  refine va_put (D := g) (ci := 6) (v := .long 0) (ty := .long) (C := RX6) (T := TX6) (N := 4) hx hb hts iX6 tyX6 tyX6_ok nmX6 hown hK hP hD hS 0 rfl rfl 0 (by decide) (hts (.fieldLink RX6 9 "CardsAtYule$Seen" "years" "J") (List.mem_cons_of_mem _ (List.mem_append_left _ (List.mem_of_getElem? (i := 0) rfl)))) (fun _ h9 => h9) rfl (by decide +kernel) rfl rfl (Nat.le_of_ble_eq_true rfl) dX6_readRow_2 (fun H locs hP hD hS => ?_)
  have hP : va_P g vwCl [(se, .inr (6, [.long 0, .long se_got0, .long se_got1, .int se_clashes])), (sl, .inr (7, [.ref sl_width, .ref sl_size, .ref sl_numbers])), (sl_size, .inl (cI, 4, .inl sl_size_c)), (sl_numbers, .inl (cJ, 240, .inr (.inl sl_numbers_c)))] H := hP
  have hD : va_D A [(se, .inr (6, [.long 0, .long se_got0, .long se_got1, .int se_clashes])), (sl, .inr (7, [.ref sl_width, .ref sl_size, .ref sl_numbers])), (sl_size, .inl (cI, 4, .inl sl_size_c)), (sl_numbers, .inl (cJ, 240, .inr (.inl sl_numbers_c)))] := hD
  refine lv_aload_n hx hb dX6_readRow_5 rfl (lv_at hl 0 rfl) ?_
  refine lv_lconst (v := 0) hx hb dX6_readRow_6 (by decide) ?_
  refine va_put (D := g) (ci := 6) (v := .long 0) (ty := .long) (C := RX6) (T := TX6) (N := 4) hx hb hts iX6 tyX6 tyX6_ok nmX6 hown hK hP hD hS 0 rfl rfl 1 (by decide) (hts (.fieldLink RX6 15 "CardsAtYule$Seen" "got0" "J") (List.mem_cons_of_mem _ (List.mem_append_left _ (List.mem_of_getElem? (i := 1) rfl)))) (fun _ h9 => h9) rfl (by decide +kernel) rfl rfl (Nat.le_of_ble_eq_true rfl) dX6_readRow_7 (fun H locs hP hD hS => ?_)
  have hP : va_P g vwCl [(se, .inr (6, [.long 0, .long 0, .long se_got1, .int se_clashes])), (sl, .inr (7, [.ref sl_width, .ref sl_size, .ref sl_numbers])), (sl_size, .inl (cI, 4, .inl sl_size_c)), (sl_numbers, .inl (cJ, 240, .inr (.inl sl_numbers_c)))] H := hP
  have hD : va_D A [(se, .inr (6, [.long 0, .long 0, .long se_got1, .int se_clashes])), (sl, .inr (7, [.ref sl_width, .ref sl_size, .ref sl_numbers])), (sl_size, .inl (cI, 4, .inl sl_size_c)), (sl_numbers, .inl (cJ, 240, .inr (.inl sl_numbers_c)))] := hD
  refine lv_aload_n hx hb dX6_readRow_10 rfl (lv_at hl 0 rfl) ?_
  refine lv_lconst (v := 0) hx hb dX6_readRow_11 (by decide) ?_
  refine va_put (D := g) (ci := 6) (v := .long 0) (ty := .long) (C := RX6) (T := TX6) (N := 4) hx hb hts iX6 tyX6 tyX6_ok nmX6 hown hK hP hD hS 0 rfl rfl 2 (by decide) (hts (.fieldLink RX6 18 "CardsAtYule$Seen" "got1" "J") (List.mem_cons_of_mem _ (List.mem_append_left _ (List.mem_of_getElem? (i := 2) rfl)))) (fun _ h9 => h9) rfl (by decide +kernel) rfl rfl (Nat.le_of_ble_eq_true rfl) dX6_readRow_12 (fun H locs hP hD hS => ?_)
  have hP : va_P g vwCl [(se, .inr (6, [.long 0, .long 0, .long 0, .int se_clashes])), (sl, .inr (7, [.ref sl_width, .ref sl_size, .ref sl_numbers])), (sl_size, .inl (cI, 4, .inl sl_size_c)), (sl_numbers, .inl (cJ, 240, .inr (.inl sl_numbers_c)))] H := hP
  have hD : va_D A [(se, .inr (6, [.long 0, .long 0, .long 0, .int se_clashes])), (sl, .inr (7, [.ref sl_width, .ref sl_size, .ref sl_numbers])), (sl_size, .inl (cI, 4, .inl sl_size_c)), (sl_numbers, .inl (cJ, 240, .inr (.inl sl_numbers_c)))] := hD
  refine lv_aload_n hx hb dX6_readRow_15 rfl (lv_at hl 0 rfl) ?_
  refine lv_iconst (v := 0) hx hb dX6_readRow_16 (by decide) ?_
  refine va_put (D := g) (ci := 6) (v := .int 0) (ty := .boolean) (C := RX6) (T := TX6) (N := 4) hx hb hts iX6 tyX6 tyX6_ok nmX6 hown hK hP hD hS 0 rfl rfl 3 (by decide) (hts (.fieldLink RX6 21 "CardsAtYule$Seen" "clashes" "Z") (List.mem_cons_of_mem _ (List.mem_append_left _ (List.mem_of_getElem? (i := 3) rfl)))) (fun _ h9 => h9) rfl (by decide +kernel) rfl rfl (Nat.le_of_ble_eq_true rfl) dX6_readRow_17 (fun H locs hP hD hS => ?_)
  have hP : va_P g vwCl [(se, .inr (6, [.long 0, .long 0, .long 0, .int 0])), (sl, .inr (7, [.ref sl_width, .ref sl_size, .ref sl_numbers])), (sl_size, .inl (cI, 4, .inl sl_size_c)), (sl_numbers, .inl (cJ, 240, .inr (.inl sl_numbers_c)))] H := hP
  have hD : va_D A [(se, .inr (6, [.long 0, .long 0, .long 0, .int 0])), (sl, .inr (7, [.ref sl_width, .ref sl_size, .ref sl_numbers])), (sl_size, .inl (cI, 4, .inl sl_size_c)), (sl_numbers, .inl (cJ, 240, .inr (.inl sl_numbers_c)))] := hD
  refine lv_aload_n hx hb dX6_readRow_20 rfl (lv_at hl 1 rfl) ?_
  refine va_get (D := g) (ci := 7) (v := .ref sl_size) (C := RX7) (T := TX7) (N := 3) hx hb hts iX7 hown hK hP 1 rfl rfl 1 (by decide) (hts (.fieldLink RX6 25 "CardsAtYule$Slots" "size" "[I") (List.mem_cons_of_mem _ (List.mem_append_left _ (List.mem_of_getElem? (i := 4) rfl)))) (fun _ h9 => h9) rfl dX6_readRow_21 ?_
  refine lv_iload_n hx hb dX6_readRow_24 rfl (lv_at hl 2 rfl) ?_
  refine va_iald (D := g) hx hb hK hP 2 0 rfl rfl (vi_rg rfl hv_p1 (by decide) (by decide)) dX6_readRow_25 ?_
  refine lv_topi (fun y25 e25 => ?_)
  have r25 : ir y25.toInt (-1) 60 := by rw [e25]; exact ha_sl_size_c _ (vi_cl (vi_rg rfl hv_p1 (by decide) (by decide)))
  refine lv_iconst (v := 3) hx hb dX6_readRow_26 (by decide) ?_
  refine lv_irem hx hb dX6_readRow_27 (by decide) ?_
  refine lv_topi (fun y27 e27 => ?_)
  have h3 : y27.toInt = 0 → y25.toInt % 3 = 0 := rm3 e27 r25
  refine lv_if_eq (tgt := 33) hx hb dX6_readRow_28 (by decide) (fun c28 => ?_) (fun c28 => ?_)
  rotate_left 1
  · have f28 := (show y27.toInt ≠ 0 from z_ne rfl rfl c28)
    refine lv_iconst (v := 0) hx hb dX6_readRow_31 (by decide) ?_
    subst hQ
    have hP9 := hP.sub (ws' := [(se, .inr (6, [.long 0, .long 0, .long 0, .int 0])), (sl, .inr (7, [.ref sl_width, .ref sl_size, .ref sl_numbers])), (sl_size, .inl (cI, 4, .inl sl_size_c)), (sl_numbers, .inl (cJ, 240, .inr (.inl sl_numbers_c)))]) [0, 1, 2, 3] rfl
    have hD9 := hD.sub (ws' := [(se, .inr (6, [.long 0, .long 0, .long 0, .int 0])), (sl, .inr (7, [.ref sl_width, .ref sl_size, .ref sl_numbers])), (sl_size, .inl (cI, 4, .inl sl_size_c)), (sl_numbers, .inl (cJ, 240, .inr (.inl sl_numbers_c)))]) [0, 1, 2, 3] (by decide) rfl
    exact W.zret (v := 0) hx hb hr rfl (fun t ht hW => ⟨⟨0, (0, 0, 0, 0), rfl, ⟨(show ir (0 : Int32).toInt 0 1 by decide), (Or.inr rfl)⟩, ⟨by rw [ht]; exact hP9, va_K.moved hW.alike hK, hD9⟩⟩, hS.F ht⟩) hS.2.2 dX6_readRow_32
  have f28 := (show y27.toInt = 0 from z_eq rfl rfl c28)
  have r28a : ir y27.toInt 0 0 := ir_eqa f28 (rg_all y27) (ir_c 0) (by decide) (by decide)
  refine lv_iconst (v := 0) hx hb dX6_readRow_33 (by decide) ?_
  refine lv_istore (lv' := [(4, .int 0), (0, .ref se), (1, .ref sl), (2, .int p1), (3, .int p2)]) hx hb dX6_readRow_34 hl (by decide) rfl (fun ls hl => ?_)
  have J36 : ∀ (n36 : Nat) (j36_l4 : Int32) (j36_se_years : Int64) (j36_se_got0 : Int64) (j36_se_got1 : Int64) (j36_se_clashes : Int32) (H : Heap) (locs : List Loc) (ls : Array Slot), (64 - j36_l4.toInt).toNat < n36 → (ir j36_l4.toInt 0 63) → (ir j36_se_clashes.toInt 0 1) → (j36_l4.toInt % 3 = 0) → va_P g vwCl [(se, .inr (6, [.long j36_se_years, .long j36_se_got0, .long j36_se_got1, .int j36_se_clashes])), (sl, .inr (7, [.ref sl_width, .ref sl_size, .ref sl_numbers])), (sl_size, .inl (cI, 4, .inl sl_size_c)), (sl_numbers, .inl (cJ, 240, .inr (.inl sl_numbers_c)))] H → va_D A [(se, .inr (6, [.long j36_se_years, .long j36_se_got0, .long j36_se_got1, .int j36_se_clashes])), (sl, .inr (7, [.ref sl_width, .ref sl_size, .ref sl_numbers])), (sl_size, .inl (cI, 4, .inl sl_size_c)), (sl_numbers, .inl (cJ, 240, .inr (.inl sl_numbers_c)))] → va_S A s.heap H locs → lv_has ls 11 [(0, .ref se), (1, .ref sl), (2, .int p1), (3, .int p2), (4, .int j36_l4)] → W p l e (headSpec v_X6_readRow ({ frames := 2, cells := 0, slots := 0, locals := 47 })).room s m av below meth c H locs 0 0 QQ (F0 m 36 ls []) := by
    intro n36
    induction n36 with
    | zero => exact fun j36_l4 j36_se_years j36_se_got0 j36_se_got1 j36_se_clashes H locs ls hn => absurd hn (Nat.not_lt_zero _)
    | succ n36 ih36 =>
      intro j36_l4 j36_se_years j36_se_got0 j36_se_got1 j36_se_clashes H locs ls hn36 hj36_l4 hj36_se_clashes hi36_0 hP hD hS hl
      refine lv_iload hx hb dX6_readRow_36 (lv_at hl 4 rfl) ?_
      refine lv_aload_n hx hb dX6_readRow_38 rfl (lv_at hl 1 rfl) ?_
      refine va_get (D := g) (ci := 7) (v := .ref sl_size) (C := RX7) (T := TX7) (N := 3) hx hb hts iX7 hown hK hP 1 rfl rfl 1 (by decide) (hts (.fieldLink RX6 25 "CardsAtYule$Slots" "size" "[I") (List.mem_cons_of_mem _ (List.mem_append_left _ (List.mem_of_getElem? (i := 4) rfl)))) (fun _ h9 => h9) rfl dX6_readRow_39 ?_
      refine lv_iload_n hx hb dX6_readRow_42 rfl (lv_at hl 2 rfl) ?_
      refine va_iald (D := g) hx hb hK hP 2 0 rfl rfl (vi_rg rfl hv_p1 (by decide) (by decide)) dX6_readRow_43 ?_
      refine lv_topi (fun y43 e43 => ?_)
      have r43 : ir y43.toInt (-1) 60 := by rw [e43]; exact ha_sl_size_c _ (vi_cl (vi_rg rfl hv_p1 (by decide) (by decide)))
      have h5 : y43.toInt = y25.toInt := by rw [e43, e25]
      refine lv_icmp_ge (tgt := 140) hx hb dX6_readRow_44 (by decide) (fun c44 => ?_) (fun c44 => ?_)
      · have f44 := (show y43.toInt ≤ j36_l4.toInt from z_le rfl rfl c44)
        refine lv_iconst (v := 1) hx hb dX6_readRow_140 (by decide) ?_
        subst hQ
        have hP9 := hP.sub (ws' := [(se, .inr (6, [.long j36_se_years, .long j36_se_got0, .long j36_se_got1, .int j36_se_clashes])), (sl, .inr (7, [.ref sl_width, .ref sl_size, .ref sl_numbers])), (sl_size, .inl (cI, 4, .inl sl_size_c)), (sl_numbers, .inl (cJ, 240, .inr (.inl sl_numbers_c)))]) [0, 1, 2, 3] rfl
        have hD9 := hD.sub (ws' := [(se, .inr (6, [.long j36_se_years, .long j36_se_got0, .long j36_se_got1, .int j36_se_clashes])), (sl, .inr (7, [.ref sl_width, .ref sl_size, .ref sl_numbers])), (sl_size, .inl (cI, 4, .inl sl_size_c)), (sl_numbers, .inl (cJ, 240, .inr (.inl sl_numbers_c)))]) [0, 1, 2, 3] (by decide) rfl
        exact W.zret (v := 1) hx hb hr rfl (fun t ht hW => ⟨⟨1, (j36_se_years, j36_se_got0, j36_se_got1, j36_se_clashes), rfl, ⟨hj36_se_clashes, (Or.inl ⟨rfl, (by rw [← e25]; omega)⟩)⟩, ⟨by rw [ht]; exact hP9, va_K.moved hW.alike hK, hD9⟩⟩, hS.F ht⟩) hS.2.2 dX6_readRow_141
      have f44 := (show j36_l4.toInt < y43.toInt from z_nle rfl rfl c44)
      have r44a : ir j36_l4.toInt 0 59 := ir_lta f44 hj36_l4 r43 (by decide)
      have r44b : ir y43.toInt 1 60 := ir_ltb f44 hj36_l4 r43 (by decide)
      refine lv_aload_n hx hb dX6_readRow_47 rfl (lv_at hl 1 rfl) ?_
      refine lv_iload_n hx hb dX6_readRow_48 rfl (lv_at hl 2 rfl) ?_
      refine lv_iload hx hb dX6_readRow_49 (lv_at hl 4 rfl) ?_
      refine ro_l (va_runV (As := [.int p1, .int j36_l4]) (rest := []) ⟨hx, hb, hml, hown, hts⟩ (q_X7_numberAt l g cI cJ cB cZ cL p1 j36_l4 sl sl_width sl_size sl_numbers sl_numbers_c H.size hv_p1 r44a) (cwV 2 hts (goodIn_app (g_4 (List.mem_cons_of_mem _ (List.mem_append_left _ (List.mem_of_getElem? (i := 5) rfl))) (List.mem_cons_of_mem _ (List.mem_append_left _ (List.mem_of_getElem? (i := 6) rfl))) (List.mem_cons_of_mem _ (List.mem_append_left _ (List.mem_of_getElem? (i := 7) rfl))) (List.mem_cons_of_mem _ (List.mem_append_left _ (List.mem_of_getElem? (i := 8) rfl))) (by decide +kernel)) (goodIn_sub (fun _ h => List.mem_cons_of_mem _ (List.mem_append_right _ (List.mem_append_left _ h))) good_v_X7_numberAt)) rfl rfl rfl (by decide +kernel) ⟨Nat.le_of_ble_eq_true rfl, Nat.le_of_ble_eq_true rfl⟩) (pv_RO (q := (RX7, TX7, 3)) (ci := 7) (q0 := 0) (wc := [(sl, .inr (7, [.ref sl_width, .ref sl_size, .ref sl_numbers])), (sl_numbers, .inl (cJ, 240, .inr (.inl sl_numbers_c)))]) hK hP [1, 3] rfl rfl rfl) rfl rfl hl.1 rfl (lv_room (Nat.le_of_ble_eq_true rfl)) dX6_readRow_51 ⟨Nat.le_of_ble_eq_true rfl, Nat.le_of_ble_eq_true rfl⟩) hS hA hP (fun r51 u51 H locs hw51 hP hS => ?_)
      refine lv_lstore (lv' := [(5, .long r51), (0, .ref se), (1, .ref sl), (2, .int p1), (3, .int p2), (4, .int j36_l4)]) hx hb dX6_readRow_54 hl (by decide) rfl (fun ls hl => ?_)
      refine lv_aload_n hx hb dX6_readRow_56 rfl (lv_at hl 2 rfl) ?_
      refine lv_iload_n hx hb dX6_readRow_57 rfl (lv_at hl 3 rfl) ?_
      refine lv_iload hx hb dX6_readRow_58 (lv_at hl 5 rfl) ?_
      refine lv_iconst (v := 1) hx hb dX6_readRow_60 (by decide) ?_
      refine lv_iadd hx hb dX6_readRow_61 ?_
      refine lv_topi (fun y61 e61 => ?_)
      have q61 : y61.toInt = j36_l4.toInt + 1 := by rw [e61]; exact ad_z rfl rfl r44a (ir_c 1) (by decide) (by decide)
      have r61 : ir y61.toInt 1 60 := ad_r q61 r44a (ir_c 1) (by decide) (by decide)
      refine ro_l (va_runV (As := [.int p1, .int y61]) (rest := []) ⟨hx, hb, hml, hown, hts⟩ (q_X7_numberAt l g cI cJ cB cZ cL p1 y61 sl sl_width sl_size sl_numbers sl_numbers_c H.size hv_p1 (by omega)) (cwV 2 hts (goodIn_app (g_4 (List.mem_cons_of_mem _ (List.mem_append_left _ (List.mem_of_getElem? (i := 5) rfl))) (List.mem_cons_of_mem _ (List.mem_append_left _ (List.mem_of_getElem? (i := 6) rfl))) (List.mem_cons_of_mem _ (List.mem_append_left _ (List.mem_of_getElem? (i := 7) rfl))) (List.mem_cons_of_mem _ (List.mem_append_left _ (List.mem_of_getElem? (i := 8) rfl))) (by decide +kernel)) (goodIn_sub (fun _ h => List.mem_cons_of_mem _ (List.mem_append_right _ (List.mem_append_left _ h))) good_v_X7_numberAt)) rfl rfl rfl (by decide +kernel) ⟨Nat.le_of_ble_eq_true rfl, Nat.le_of_ble_eq_true rfl⟩) (pv_RO (q := (RX7, TX7, 3)) (ci := 7) (q0 := 0) (wc := [(sl, .inr (7, [.ref sl_width, .ref sl_size, .ref sl_numbers])), (sl_numbers, .inl (cJ, 240, .inr (.inl sl_numbers_c)))]) hK hP [1, 3] rfl rfl rfl) rfl rfl hl.1 rfl (lv_room (Nat.le_of_ble_eq_true rfl)) dX6_readRow_62 ⟨Nat.le_of_ble_eq_true rfl, Nat.le_of_ble_eq_true rfl⟩) hS hA hP (fun r62 u62 H locs hw62 hP hS => ?_)
      refine lv_lstore (lv' := [(7, .long r62), (5, .long r51), (0, .ref se), (1, .ref sl), (2, .int p1), (3, .int p2), (4, .int j36_l4)]) hx hb dX6_readRow_65 hl (by decide) rfl (fun ls hl => ?_)
      refine lv_aload_n hx hb dX6_readRow_67 rfl (lv_at hl 3 rfl) ?_
      refine lv_iload_n hx hb dX6_readRow_68 rfl (lv_at hl 4 rfl) ?_
      refine lv_iload hx hb dX6_readRow_69 (lv_at hl 6 rfl) ?_
      refine lv_iconst (v := 2) hx hb dX6_readRow_71 (by decide) ?_
      refine lv_iadd hx hb dX6_readRow_72 ?_
      refine lv_topi (fun y72 e72 => ?_)
      have q72 : y72.toInt = j36_l4.toInt + 2 := by rw [e72]; exact ad_z rfl rfl r44a (ir_c 2) (by decide) (by decide)
      have r72 : ir y72.toInt 2 61 := ad_r q72 r44a (ir_c 2) (by decide) (by decide)
      refine ro_l (va_runV (As := [.int p1, .int y72]) (rest := []) ⟨hx, hb, hml, hown, hts⟩ (q_X7_numberAt l g cI cJ cB cZ cL p1 y72 sl sl_width sl_size sl_numbers sl_numbers_c H.size hv_p1 (by omega)) (cwV 2 hts (goodIn_app (g_4 (List.mem_cons_of_mem _ (List.mem_append_left _ (List.mem_of_getElem? (i := 5) rfl))) (List.mem_cons_of_mem _ (List.mem_append_left _ (List.mem_of_getElem? (i := 6) rfl))) (List.mem_cons_of_mem _ (List.mem_append_left _ (List.mem_of_getElem? (i := 7) rfl))) (List.mem_cons_of_mem _ (List.mem_append_left _ (List.mem_of_getElem? (i := 8) rfl))) (by decide +kernel)) (goodIn_sub (fun _ h => List.mem_cons_of_mem _ (List.mem_append_right _ (List.mem_append_left _ h))) good_v_X7_numberAt)) rfl rfl rfl (by decide +kernel) ⟨Nat.le_of_ble_eq_true rfl, Nat.le_of_ble_eq_true rfl⟩) (pv_RO (q := (RX7, TX7, 3)) (ci := 7) (q0 := 0) (wc := [(sl, .inr (7, [.ref sl_width, .ref sl_size, .ref sl_numbers])), (sl_numbers, .inl (cJ, 240, .inr (.inl sl_numbers_c)))]) hK hP [1, 3] rfl rfl rfl) rfl rfl hl.1 rfl (lv_room (Nat.le_of_ble_eq_true rfl)) dX6_readRow_73 ⟨Nat.le_of_ble_eq_true rfl, Nat.le_of_ble_eq_true rfl⟩) hS hA hP (fun r73 u73 H locs hw73 hP hS => ?_)
      refine lv_lstore (lv' := [(9, .long r73), (7, .long r62), (5, .long r51), (0, .ref se), (1, .ref sl), (2, .int p1), (3, .int p2), (4, .int j36_l4)]) hx hb dX6_readRow_76 hl (by decide) rfl (fun ls hl => ?_)
      refine lv_lload hx hb dX6_readRow_78 (lv_at hl 2 rfl) ?_
      refine lv_lconst (v := 0) hx hb dX6_readRow_80 (by decide) ?_
      refine W.lcmp hx hb dX6_readRow_81 ?_
      refine lv_if_lt (tgt := 121) hx hb dX6_readRow_82 (by decide) (fun c82 => ?_) (fun c82 => ?_)
      · have f82 := (show r51.toInt < 0 from y_lt rfl rfl c82)
        have r82a : ir r51.toInt (-9223372036854775808) (-1) := ir_lta f82 (rl_all r51) (ir_c 0) (by decide)
        refine lv_iconst (v := 0) hx hb dX6_readRow_121 (by decide) ?_
        subst hQ
        have hP9 := hP.sub (ws' := [(se, .inr (6, [.long j36_se_years, .long j36_se_got0, .long j36_se_got1, .int j36_se_clashes])), (sl, .inr (7, [.ref sl_width, .ref sl_size, .ref sl_numbers])), (sl_size, .inl (cI, 4, .inl sl_size_c)), (sl_numbers, .inl (cJ, 240, .inr (.inl sl_numbers_c)))]) [0, 1, 2, 3] rfl
        have hD9 := hD.sub (ws' := [(se, .inr (6, [.long j36_se_years, .long j36_se_got0, .long j36_se_got1, .int j36_se_clashes])), (sl, .inr (7, [.ref sl_width, .ref sl_size, .ref sl_numbers])), (sl_size, .inl (cI, 4, .inl sl_size_c)), (sl_numbers, .inl (cJ, 240, .inr (.inl sl_numbers_c)))]) [0, 1, 2, 3] (by decide) rfl
        exact W.zret (v := 0) hx hb hr rfl (fun t ht hW => ⟨⟨0, (j36_se_years, j36_se_got0, j36_se_got1, j36_se_clashes), rfl, ⟨hj36_se_clashes, (Or.inr rfl)⟩, ⟨by rw [ht]; exact hP9, va_K.moved hW.alike hK, hD9⟩⟩, hS.F ht⟩) hS.2.2 dX6_readRow_122
      have f82 := (show 0 ≤ r51.toInt from y_nlt rfl rfl c82)
      have r82a : ir r51.toInt 0 9223372036854775807 := ir_leb f82 (ir_c 0) (rl_all r51) (by decide)
      refine lv_lload hx hb dX6_readRow_85 (lv_at hl 2 rfl) ?_
      refine lv_iload_n hx hb dX6_readRow_87 rfl (lv_at hl 6 rfl) ?_
      refine lv_i2l (v := p2.toInt64) hx hb dX6_readRow_88 rfl ?_
      refine W.lcmp hx hb dX6_readRow_89 ?_
      refine lv_if_ge (tgt := 121) hx hb dX6_readRow_90 (by decide) (fun c90 => ?_) (fun c90 => ?_)
      · have f90 := (show p2.toInt ≤ r51.toInt from y_ge rfl (z_i2l rfl) c90)
        refine lv_iconst (v := 0) hx hb dX6_readRow_121 (by decide) ?_
        subst hQ
        have hP9 := hP.sub (ws' := [(se, .inr (6, [.long j36_se_years, .long j36_se_got0, .long j36_se_got1, .int j36_se_clashes])), (sl, .inr (7, [.ref sl_width, .ref sl_size, .ref sl_numbers])), (sl_size, .inl (cI, 4, .inl sl_size_c)), (sl_numbers, .inl (cJ, 240, .inr (.inl sl_numbers_c)))]) [0, 1, 2, 3] rfl
        have hD9 := hD.sub (ws' := [(se, .inr (6, [.long j36_se_years, .long j36_se_got0, .long j36_se_got1, .int j36_se_clashes])), (sl, .inr (7, [.ref sl_width, .ref sl_size, .ref sl_numbers])), (sl_size, .inl (cI, 4, .inl sl_size_c)), (sl_numbers, .inl (cJ, 240, .inr (.inl sl_numbers_c)))]) [0, 1, 2, 3] (by decide) rfl
        exact W.zret (v := 0) hx hb hr rfl (fun t ht hW => ⟨⟨0, (j36_se_years, j36_se_got0, j36_se_got1, j36_se_clashes), rfl, ⟨hj36_se_clashes, (Or.inr rfl)⟩, ⟨by rw [ht]; exact hP9, va_K.moved hW.alike hK, hD9⟩⟩, hS.F ht⟩) hS.2.2 dX6_readRow_122
      have f90 := (show r51.toInt < p2.toInt from y_nge rfl (z_i2l rfl) c90)
      have r90a : ir r51.toInt 0 2147483646 := ir_lta f90 r82a (rg_all p2) (by decide)
      have r90b : ir p2.toInt 1 2147483647 := ir_ltb f90 r82a (rg_all p2) (by decide)
      refine lv_lload hx hb dX6_readRow_93 (lv_at hl 1 rfl) ?_
      refine lv_lconst (v := 0) hx hb dX6_readRow_95 (by decide) ?_
      refine W.lcmp hx hb dX6_readRow_96 ?_
      refine lv_if_lt (tgt := 121) hx hb dX6_readRow_97 (by decide) (fun c97 => ?_) (fun c97 => ?_)
      · have f97 := (show r62.toInt < 0 from y_lt rfl rfl c97)
        have r97a : ir r62.toInt (-9223372036854775808) (-1) := ir_lta f97 (rl_all r62) (ir_c 0) (by decide)
        refine lv_iconst (v := 0) hx hb dX6_readRow_121 (by decide) ?_
        subst hQ
        have hP9 := hP.sub (ws' := [(se, .inr (6, [.long j36_se_years, .long j36_se_got0, .long j36_se_got1, .int j36_se_clashes])), (sl, .inr (7, [.ref sl_width, .ref sl_size, .ref sl_numbers])), (sl_size, .inl (cI, 4, .inl sl_size_c)), (sl_numbers, .inl (cJ, 240, .inr (.inl sl_numbers_c)))]) [0, 1, 2, 3] rfl
        have hD9 := hD.sub (ws' := [(se, .inr (6, [.long j36_se_years, .long j36_se_got0, .long j36_se_got1, .int j36_se_clashes])), (sl, .inr (7, [.ref sl_width, .ref sl_size, .ref sl_numbers])), (sl_size, .inl (cI, 4, .inl sl_size_c)), (sl_numbers, .inl (cJ, 240, .inr (.inl sl_numbers_c)))]) [0, 1, 2, 3] (by decide) rfl
        exact W.zret (v := 0) hx hb hr rfl (fun t ht hW => ⟨⟨0, (j36_se_years, j36_se_got0, j36_se_got1, j36_se_clashes), rfl, ⟨hj36_se_clashes, (Or.inr rfl)⟩, ⟨by rw [ht]; exact hP9, va_K.moved hW.alike hK, hD9⟩⟩, hS.F ht⟩) hS.2.2 dX6_readRow_122
      have f97 := (show 0 ≤ r62.toInt from y_nlt rfl rfl c97)
      have r97a : ir r62.toInt 0 9223372036854775807 := ir_leb f97 (ir_c 0) (rl_all r62) (by decide)
      refine lv_lload hx hb dX6_readRow_100 (lv_at hl 1 rfl) ?_
      refine lv_lconst (v := 1) hx hb dX6_readRow_102 (by decide) ?_
      refine W.lcmp hx hb dX6_readRow_103 ?_
      refine lv_if_gt (tgt := 121) hx hb dX6_readRow_104 (by decide) (fun c104 => ?_) (fun c104 => ?_)
      · have f104 := (show 1 < r62.toInt from y_gt rfl rfl c104)
        have r104a : ir r62.toInt 2 9223372036854775807 := ir_ltb f104 (ir_c 1) r97a (by decide)
        refine lv_iconst (v := 0) hx hb dX6_readRow_121 (by decide) ?_
        subst hQ
        have hP9 := hP.sub (ws' := [(se, .inr (6, [.long j36_se_years, .long j36_se_got0, .long j36_se_got1, .int j36_se_clashes])), (sl, .inr (7, [.ref sl_width, .ref sl_size, .ref sl_numbers])), (sl_size, .inl (cI, 4, .inl sl_size_c)), (sl_numbers, .inl (cJ, 240, .inr (.inl sl_numbers_c)))]) [0, 1, 2, 3] rfl
        have hD9 := hD.sub (ws' := [(se, .inr (6, [.long j36_se_years, .long j36_se_got0, .long j36_se_got1, .int j36_se_clashes])), (sl, .inr (7, [.ref sl_width, .ref sl_size, .ref sl_numbers])), (sl_size, .inl (cI, 4, .inl sl_size_c)), (sl_numbers, .inl (cJ, 240, .inr (.inl sl_numbers_c)))]) [0, 1, 2, 3] (by decide) rfl
        exact W.zret (v := 0) hx hb hr rfl (fun t ht hW => ⟨⟨0, (j36_se_years, j36_se_got0, j36_se_got1, j36_se_clashes), rfl, ⟨hj36_se_clashes, (Or.inr rfl)⟩, ⟨by rw [ht]; exact hP9, va_K.moved hW.alike hK, hD9⟩⟩, hS.F ht⟩) hS.2.2 dX6_readRow_122
      have f104 := (show r62.toInt ≤ 1 from y_ngt rfl rfl c104)
      have r104a : ir r62.toInt 0 1 := ir_lea f104 r97a (ir_c 1) (by decide)
      refine lv_lload hx hb dX6_readRow_107 (lv_at hl 0 rfl) ?_
      refine lv_lconst (v := 0) hx hb dX6_readRow_109 (by decide) ?_
      refine W.lcmp hx hb dX6_readRow_110 ?_
      refine lv_if_lt (tgt := 121) hx hb dX6_readRow_111 (by decide) (fun c111 => ?_) (fun c111 => ?_)
      · have f111 := (show r73.toInt < 0 from y_lt rfl rfl c111)
        have r111a : ir r73.toInt (-9223372036854775808) (-1) := ir_lta f111 (rl_all r73) (ir_c 0) (by decide)
        refine lv_iconst (v := 0) hx hb dX6_readRow_121 (by decide) ?_
        subst hQ
        have hP9 := hP.sub (ws' := [(se, .inr (6, [.long j36_se_years, .long j36_se_got0, .long j36_se_got1, .int j36_se_clashes])), (sl, .inr (7, [.ref sl_width, .ref sl_size, .ref sl_numbers])), (sl_size, .inl (cI, 4, .inl sl_size_c)), (sl_numbers, .inl (cJ, 240, .inr (.inl sl_numbers_c)))]) [0, 1, 2, 3] rfl
        have hD9 := hD.sub (ws' := [(se, .inr (6, [.long j36_se_years, .long j36_se_got0, .long j36_se_got1, .int j36_se_clashes])), (sl, .inr (7, [.ref sl_width, .ref sl_size, .ref sl_numbers])), (sl_size, .inl (cI, 4, .inl sl_size_c)), (sl_numbers, .inl (cJ, 240, .inr (.inl sl_numbers_c)))]) [0, 1, 2, 3] (by decide) rfl
        exact W.zret (v := 0) hx hb hr rfl (fun t ht hW => ⟨⟨0, (j36_se_years, j36_se_got0, j36_se_got1, j36_se_clashes), rfl, ⟨hj36_se_clashes, (Or.inr rfl)⟩, ⟨by rw [ht]; exact hP9, va_K.moved hW.alike hK, hD9⟩⟩, hS.F ht⟩) hS.2.2 dX6_readRow_122
      have f111 := (show 0 ≤ r73.toInt from y_nlt rfl rfl c111)
      have r111a : ir r73.toInt 0 9223372036854775807 := ir_leb f111 (ir_c 0) (rl_all r73) (by decide)
      refine lv_lload hx hb dX6_readRow_114 (lv_at hl 0 rfl) ?_
      refine lv_lconst (v := 1) hx hb dX6_readRow_116 (by decide) ?_
      refine W.lcmp hx hb dX6_readRow_117 ?_
      refine lv_if_le (tgt := 123) hx hb dX6_readRow_118 (by decide) (fun c118 => ?_) (fun c118 => ?_)
      rotate_left 1
      · have f118 := (show 1 < r73.toInt from y_nle rfl rfl c118)
        have r118a : ir r73.toInt 2 9223372036854775807 := ir_ltb f118 (ir_c 1) r111a (by decide)
        refine lv_iconst (v := 0) hx hb dX6_readRow_121 (by decide) ?_
        subst hQ
        have hP9 := hP.sub (ws' := [(se, .inr (6, [.long j36_se_years, .long j36_se_got0, .long j36_se_got1, .int j36_se_clashes])), (sl, .inr (7, [.ref sl_width, .ref sl_size, .ref sl_numbers])), (sl_size, .inl (cI, 4, .inl sl_size_c)), (sl_numbers, .inl (cJ, 240, .inr (.inl sl_numbers_c)))]) [0, 1, 2, 3] rfl
        have hD9 := hD.sub (ws' := [(se, .inr (6, [.long j36_se_years, .long j36_se_got0, .long j36_se_got1, .int j36_se_clashes])), (sl, .inr (7, [.ref sl_width, .ref sl_size, .ref sl_numbers])), (sl_size, .inl (cI, 4, .inl sl_size_c)), (sl_numbers, .inl (cJ, 240, .inr (.inl sl_numbers_c)))]) [0, 1, 2, 3] (by decide) rfl
        exact W.zret (v := 0) hx hb hr rfl (fun t ht hW => ⟨⟨0, (j36_se_years, j36_se_got0, j36_se_got1, j36_se_clashes), rfl, ⟨hj36_se_clashes, (Or.inr rfl)⟩, ⟨by rw [ht]; exact hP9, va_K.moved hW.alike hK, hD9⟩⟩, hS.F ht⟩) hS.2.2 dX6_readRow_122
      have f118 := (show r73.toInt ≤ 1 from y_le rfl rfl c118)
      have r118a : ir r73.toInt 0 1 := ir_lea f118 r111a (ir_c 1) (by decide)
      refine lv_aload_n hx hb dX6_readRow_123 rfl (lv_at hl 3 rfl) ?_
      refine lv_lload hx hb dX6_readRow_124 (lv_at hl 2 rfl) ?_
      refine lv_l2i (v := r51.toInt32) hx hb dX6_readRow_126 rfl ?_
      refine lv_topi (fun y126 e126 => ?_)
      have q126 : y126.toInt = r51.toInt := by rw [e126]; exact li_z rfl r90a (by decide) (by decide)
      have r126 : ir y126.toInt 0 2147483646 := q126 ▸ r90a
      refine lv_lload hx hb dX6_readRow_127 (lv_at hl 1 rfl) ?_
      refine lv_lload hx hb dX6_readRow_129 (lv_at hl 0 rfl) ?_
      refine rw_v (wr := [(sl, .inr (7, [.ref sl_width, .ref sl_size, .ref sl_numbers])), (sl_size, .inl (cI, 4, .inl sl_size_c)), (sl_numbers, .inl (cJ, 240, .inr (.inl sl_numbers_c)))]) (va_runV (As := [.int y126, .long r62, .long r73]) (rest := []) ⟨hx, hb, hml, hown, hts⟩ (q_X6_note l g cI cJ cB cZ cL kA vA y126 r62 r73 se j36_se_years j36_se_got0 j36_se_got1 j36_se_clashes H.size hj36_se_clashes) (cwV 3 hts (goodIn_app (g_4 (List.mem_cons_of_mem _ (List.mem_append_left _ (List.mem_of_getElem? (i := 9) rfl))) (List.mem_cons_of_mem _ (List.mem_append_left _ (List.mem_of_getElem? (i := 10) rfl))) (List.mem_cons_of_mem _ (List.mem_append_left _ (List.mem_of_getElem? (i := 11) rfl))) (List.mem_cons_of_mem _ (List.mem_append_left _ (List.mem_of_getElem? (i := 12) rfl))) (by decide +kernel)) (goodIn_sub (fun _ h => List.mem_cons_of_mem _ (List.mem_append_right _ (List.mem_append_right _ (List.mem_append_left _ h)))) good_v_X6_note)) rfl rfl rfl (by decide +kernel) ⟨Nat.le_of_ble_eq_true rfl, Nat.le_of_ble_eq_true rfl⟩) (pvE_RW (pv_RW (q := (RX6, TX6, 4)) (ci := 6) (q0 := 0) (wc := [(se, .inr (6, [.long j36_se_years, .long j36_se_got0, .long j36_se_got1, .int j36_se_clashes]))]) hK hP hD [0] (by decide) rfl rfl rfl) hE hS (va_free hD hS hA [0] rfl)) rfl rfl hl.1 rfl (lv_room (Nat.le_of_ble_eq_true rfl)) dX6_readRow_131 ⟨Nat.le_of_ble_eq_true rfl, Nat.le_of_ble_eq_true rfl⟩) hS hA hP hD [0] [1, 2, 3] rfl rfl (by decide) (by decide) (fun u131 H locs hw131 hP hD hS => ?_)
      obtain ⟨n_se_years_131, n_se_got0_131, n_se_got1_131, n_se_clashes_131⟩ := u131
      have hP : va_P g vwCl [(sl, .inr (7, [.ref sl_width, .ref sl_size, .ref sl_numbers])), (sl_size, .inl (cI, 4, .inl sl_size_c)), (sl_numbers, .inl (cJ, 240, .inr (.inl sl_numbers_c))), (se, .inr (6, [.long n_se_years_131, .long n_se_got0_131, .long n_se_got1_131, .int n_se_clashes_131]))] H := hP
      have hD : va_D A [(sl, .inr (7, [.ref sl_width, .ref sl_size, .ref sl_numbers])), (sl_size, .inl (cI, 4, .inl sl_size_c)), (sl_numbers, .inl (cJ, 240, .inr (.inl sl_numbers_c))), (se, .inr (6, [.long n_se_years_131, .long n_se_got0_131, .long n_se_got1_131, .int n_se_clashes_131]))] := hD
      dsimp only at hw131
      have hw131_0 := hw131
      obtain ⟨y134, e134⟩ : ∃ y : Int32, y = j36_l4 + 3 := ⟨_, rfl⟩
      have q134 : y134.toInt = j36_l4.toInt + 3 := by rw [e134]; exact ad_z rfl rfl r44a (ir_c 3) (by decide) (by decide)
      have r134 : ir y134.toInt 3 62 := ad_r q134 r44a (ir_c 3) (by decide) (by decide)
      refine lv_iinc (v := y134) (lv' := [(4, .int y134), (9, .long r73), (7, .long r62), (5, .long r51), (0, .ref se), (1, .ref sl), (2, .int p1), (3, .int p2)]) hx hb dX6_readRow_134 hl (k := 7) rfl e134.symm (by decide) rfl (fun ls hl => ?_)
      refine lv_goto (tgt := 36) hx hb dX6_readRow_137 (by decide) ?_
      exact ih36 y134 n_se_years_131 n_se_got0_131 n_se_got1_131 n_se_clashes_131 _ _ _ (by omega) (ir_w r134 (by decide) (by decide)) hw131_0 (by first | omega | decide) (hP.sub [3, 0, 1, 2] rfl) (hD.sub [3, 0, 1, 2] (by decide) rfl) hS (lv_sub hl [4, 5, 6, 7, 0] rfl)
  exact J36 _ 0 0 0 0 0 _ _ _ (Nat.lt_succ_self _) (by decide) (by decide) (by first | omega | decide) (hP.sub [0, 1, 2, 3] rfl) (hD.sub [0, 1, 2, 3] (by decide) rfl) hS (lv_sub hl [1, 2, 3, 4, 0] rfl)
def v_X6_mayCome : List Cond := .code yX6_mayCome cX6_mayCome 4 (some .boolean) :: (([.fieldLink RX6 21 "CardsAtYule$Seen" "clashes" "Z", .fieldLink RX6 39 "CardsAtYule$Course" "rule" "[I", .fieldLink RX6 9 "CardsAtYule$Seen" "years" "J", .initialized RX11, .static yX11_highest, .fieldLink RX6 48 "CardsAtYule$Course" "years" "I", .fieldLink RX6 15 "CardsAtYule$Seen" "got0" "J", .fieldLink RX6 18 "CardsAtYule$Seen" "got1" "J", .methodLink RX6 51 yX2_runWhile, .instanceMethod yX2_runWhile, .selects RX2 yX2_runWhile yX2_runWhile, .initialized RX2] : List Cond) ++ (v_X11_highest ++ (v_X2_runWhile ++ (wsX60 ++ (wsX20 ++ ([] : List Cond))))))
theorem good_v_X6_mayCome : v_X6_mayCome.all goodWord = true := ga_c (by decide +kernel) (ga_a (by decide +kernel) (ga_a good_v_X11_highest (ga_a good_v_X2_runWhile (ga_a good_wsX60 (ga_a good_wsX20 rfl)))))
set_option maxHeartbeats 4000000 in
set_option maxRecDepth 100000 in
theorem q_X6_mayCome (l : Launch) (g : va_G) (cI cJ cB cZ cL : ClassId) (kA : Nat → Nat) (vA : Nat → Nat) (p1 : Int32) (p2 : Int32) (se : Nat) (co : Nat) (se_years : Int64) (se_got0 : Int64) (se_got1 : Int64) (se_clashes : Int32) (co_years : Int32) (co_begun : Int32) (co_rule : Nat) (co_may : Nat) (co_reach : Nat) (co_first : Nat) (co_back : Nat) (co_got : Nat) (co_rule_c : Nat → Int32) (co_first_c : Nat → Int64) (co_back_c : Nat → Int64) (co_got_c : Nat → Int64) (co_may_c : Nat → Int64) (co_reach_c : Nat → Int64) (sz : Nat) (hv_se_clashes : ir se_clashes.toInt 0 1) : Met l yX6_mayCome v_X6_mayCome ({ frames := 3, cells := 0, slots := 0, locals := 64 }) (va_Pc [.ref se, .ref co, .int p1, .int p2] (eRW g (tyT cI cJ cB cZ cL) [(se, .inr (6, [.long se_years, .long se_got0, .long se_got1, .int se_clashes])), (co, .inr (2, [.int co_years, .int co_begun, .ref co_rule, .ref co_may, .ref co_reach, .ref co_first, .ref co_back, .ref co_got])), (co_rule, .inl (cI, 2, .inl co_rule_c)), (co_first, .inl (cJ, 2, .inr (.inl co_first_c))), (co_back, .inl (cJ, 2, .inr (.inl co_back_c))), (co_got, .inl (cJ, 2, .inr (.inl co_got_c))), (co_may, .inl (cJ, 2, .inr (.inl co_may_c))), (co_reach, .inl (cJ, 2, .inr (.inl co_reach_c)))] sz kA vA)) (va_Qi (fun (r : Int32) (u : Int32 × (Nat → Int32) × (Nat → Int64) × (Nat → Int64) × (Nat → Int64)) => match u with | (n_co_years, n_co_rule_c, n_co_first_c, n_co_back_c, n_co_got_c) => (ir r.toInt 0 1)) (fun (u : Int32 × (Nat → Int32) × (Nat → Int64) × (Nat → Int64) × (Nat → Int64)) (t : State) => bRW g (tyT cI cJ cB cZ cL) (va_A [(se, .inr (6, [.long se_years, .long se_got0, .long se_got1, .int se_clashes])), (co, .inr (2, [.int co_years, .int co_begun, .ref co_rule, .ref co_may, .ref co_reach, .ref co_first, .ref co_back, .ref co_got])), (co_rule, .inl (cI, 2, .inl co_rule_c)), (co_first, .inl (cJ, 2, .inr (.inl co_first_c))), (co_back, .inl (cJ, 2, .inr (.inl co_back_c))), (co_got, .inl (cJ, 2, .inr (.inl co_got_c))), (co_may, .inl (cJ, 2, .inr (.inl co_may_c))), (co_reach, .inl (cJ, 2, .inr (.inl co_reach_c)))] sz) (match u with | (n_co_years, n_co_rule_c, n_co_first_c, n_co_back_c, n_co_got_c) => [(se, .inr (6, [.long se_years, .long se_got0, .long se_got1, .int se_clashes])), (co, .inr (2, [.int n_co_years, .int co_begun, .ref co_rule, .ref co_may, .ref co_reach, .ref co_first, .ref co_back, .ref co_got])), (co_rule, .inl (cI, 2, .inl n_co_rule_c)), (co_first, .inl (cJ, 2, .inr (.inl n_co_first_c))), (co_back, .inl (cJ, 2, .inr (.inl n_co_back_c))), (co_got, .inl (cJ, 2, .inr (.inl n_co_got_c))), (co_may, .inl (cJ, 2, .inr (.inl co_may_c))), (co_reach, .inl (cJ, 2, .inr (.inl co_reach_c)))]) t) (va_A [(se, .inr (6, [.long se_years, .long se_got0, .long se_got1, .int se_clashes])), (co, .inr (2, [.int co_years, .int co_begun, .ref co_rule, .ref co_may, .ref co_reach, .ref co_first, .ref co_back, .ref co_got])), (co_rule, .inl (cI, 2, .inl co_rule_c)), (co_first, .inl (cJ, 2, .inr (.inl co_first_c))), (co_back, .inl (cJ, 2, .inr (.inl co_back_c))), (co_got, .inl (cJ, 2, .inr (.inl co_got_c))), (co_may, .inl (cJ, 2, .inr (.inl co_may_c))), (co_reach, .inl (cJ, 2, .inr (.inl co_reach_c)))] sz)) 0 0 (va_A [(se, .inr (6, [.long se_years, .long se_got0, .long se_got1, .int se_clashes])), (co, .inr (2, [.int co_years, .int co_begun, .ref co_rule, .ref co_may, .ref co_reach, .ref co_first, .ref co_back, .ref co_got])), (co_rule, .inl (cI, 2, .inl co_rule_c)), (co_first, .inl (cJ, 2, .inr (.inl co_first_c))), (co_back, .inl (cJ, 2, .inr (.inl co_back_c))), (co_got, .inl (cJ, 2, .inr (.inl co_got_c))), (co_may, .inl (cJ, 2, .inr (.inl co_may_c))), (co_reach, .inl (cJ, 2, .inr (.inl co_reach_c)))] sz) := by
  refine Met.ofW (cc := cX6_mayCome) (maxL := 4) (ret := (some .boolean)) (by decide) rfl ?_
  intro p e s m args below meth c s₁ B hml hv
  obtain ⟨rfl, ⟨hsz, hP, hK, hD0⟩, hE⟩ := hv
  have hx := B.exec
  have hb := B.bytes
  have hr := B.returns
  have hts := atoms_spec (ws := v_X6_mayCome) B.pre
  have hown : s.vm.findClass RX6 = some m.cls := findClass_of_methodNamed B.named
  have hlocks := B.notSynchronized
  clear B
  subst hsz
  have iX6 : ∀ w ∈ wsX60, w ∈ v_X6_mayCome := (fun _ h => List.mem_cons_of_mem _ (List.mem_append_right _ (List.mem_append_right _ (List.mem_append_right _ (List.mem_append_left _ h)))))
  have iX2 : ∀ w ∈ wsX20, w ∈ v_X6_mayCome := (fun _ h => List.mem_cons_of_mem _ (List.mem_append_right _ (List.mem_append_right _ (List.mem_append_right _ (List.mem_append_right _ (List.mem_append_left _ h))))))
  have hD := hD0.self (sz := s.heap.size)
  generalize hAe : (va_A [(se, .inr (6, [.long se_years, .long se_got0, .long se_got1, .int se_clashes])), (co, .inr (2, [.int co_years, .int co_begun, .ref co_rule, .ref co_may, .ref co_reach, .ref co_first, .ref co_back, .ref co_got])), (co_rule, .inl (cI, 2, .inl co_rule_c)), (co_first, .inl (cJ, 2, .inr (.inl co_first_c))), (co_back, .inl (cJ, 2, .inr (.inl co_back_c))), (co_got, .inl (cJ, 2, .inr (.inl co_got_c))), (co_may, .inl (cJ, 2, .inr (.inl co_may_c))), (co_reach, .inl (cJ, 2, .inr (.inl co_reach_c)))] s.heap.size) = A at hD hE ⊢
  have hA : ∀ q : Nat, s.heap.size ≤ q → A q := fun q h => by rw [← hAe]; exact Or.inr h
  have hS : va_S A s.heap s.heap [] := va_S.rf
  have hl := lv_entry ([.ref se, .ref co, .int p1, .int p2]) (n := 4) (Nat.le_of_ble_eq_true rfl)
  rw [lg_entry_eq]
  generalize (lg_sl ([.ref se, .ref co, .int p1, .int p2]) ++ List.replicate (4 - (lg_sl ([.ref se, .ref co, .int p1, .int p2])).length) Slot.unset).toArray = ls at hl ⊢
  generalize ([.ref se, .ref co, .int p1, .int p2] : List Value).toArray = av at hts ⊢
  generalize hQ : MQ below _ av s _ _ A = QQ
  have hl : lv_has ls 4 [(0, .ref se), (1, .ref co), (2, .int p1), (3, .int p2)] := hl
  have hP : va_P g vwCl [(se, .inr (6, [.long se_years, .long se_got0, .long se_got1, .int se_clashes])), (co, .inr (2, [.int co_years, .int co_begun, .ref co_rule, .ref co_may, .ref co_reach, .ref co_first, .ref co_back, .ref co_got])), (co_rule, .inl (cI, 2, .inl co_rule_c)), (co_first, .inl (cJ, 2, .inr (.inl co_first_c))), (co_back, .inl (cJ, 2, .inr (.inl co_back_c))), (co_got, .inl (cJ, 2, .inr (.inl co_got_c))), (co_may, .inl (cJ, 2, .inr (.inl co_may_c))), (co_reach, .inl (cJ, 2, .inr (.inl co_reach_c)))] s.heap := hP
  refine lv_aload_n hx hb dX6_mayCome_0 rfl (lv_at hl 0 rfl) ?_
  refine va_get (D := g) (ci := 6) (v := .int se_clashes) (C := RX6) (T := TX6) (N := 4) hx hb hts iX6 hown hK hP 0 rfl rfl 3 (by decide) (hts (.fieldLink RX6 21 "CardsAtYule$Seen" "clashes" "Z") (List.mem_cons_of_mem _ (List.mem_append_left _ (List.mem_of_getElem? (i := 0) rfl)))) (fun _ h9 => h9) rfl dX6_mayCome_1 ?_
  refine lv_if_eq (tgt := 9) hx hb dX6_mayCome_4 (by decide) (fun c4 => ?_) (fun c4 => ?_)
  rotate_left 1
  · have f4 := (show se_clashes.toInt ≠ 0 from z_ne rfl rfl c4)
    have r4a : ir se_clashes.toInt 1 1 := ir_nel f4 hv_se_clashes (by decide) (by decide)
    refine lv_iconst (v := 0) hx hb dX6_mayCome_7 (by decide) ?_
    subst hQ
    have hP9 := hP.sub (ws' := [(se, .inr (6, [.long se_years, .long se_got0, .long se_got1, .int se_clashes])), (co, .inr (2, [.int co_years, .int co_begun, .ref co_rule, .ref co_may, .ref co_reach, .ref co_first, .ref co_back, .ref co_got])), (co_rule, .inl (cI, 2, .inl co_rule_c)), (co_first, .inl (cJ, 2, .inr (.inl co_first_c))), (co_back, .inl (cJ, 2, .inr (.inl co_back_c))), (co_got, .inl (cJ, 2, .inr (.inl co_got_c))), (co_may, .inl (cJ, 2, .inr (.inl co_may_c))), (co_reach, .inl (cJ, 2, .inr (.inl co_reach_c)))]) [0, 1, 2, 3, 4, 5, 6, 7] rfl
    have hD9 := hD.sub (ws' := [(se, .inr (6, [.long se_years, .long se_got0, .long se_got1, .int se_clashes])), (co, .inr (2, [.int co_years, .int co_begun, .ref co_rule, .ref co_may, .ref co_reach, .ref co_first, .ref co_back, .ref co_got])), (co_rule, .inl (cI, 2, .inl co_rule_c)), (co_first, .inl (cJ, 2, .inr (.inl co_first_c))), (co_back, .inl (cJ, 2, .inr (.inl co_back_c))), (co_got, .inl (cJ, 2, .inr (.inl co_got_c))), (co_may, .inl (cJ, 2, .inr (.inl co_may_c))), (co_reach, .inl (cJ, 2, .inr (.inl co_reach_c)))]) [0, 1, 2, 3, 4, 5, 6, 7] (by decide) rfl
    exact W.zret (v := 0) hx hb hr rfl (fun t ht hW => ⟨⟨0, (co_years, co_rule_c, co_first_c, co_back_c, co_got_c), rfl, (show ir (0 : Int32).toInt 0 1 by decide), ⟨by rw [ht]; exact hP9, va_K.moved hW.alike hK, hD9⟩⟩, hS.F ht⟩) hS.2.2 dX6_mayCome_8
  have f4 := (show se_clashes.toInt = 0 from z_eq rfl rfl c4)
  have r4a : ir se_clashes.toInt 0 0 := ir_eqa f4 hv_se_clashes (ir_c 0) (by decide) (by decide)
  refine lv_aload_n hx hb dX6_mayCome_9 rfl (lv_at hl 1 rfl) ?_
  refine va_get (D := g) (ci := 2) (v := .ref co_rule) (C := RX2) (T := TX2) (N := 8) hx hb hts iX2 hown hK hP 1 rfl rfl 2 (by decide) (hts (.fieldLink RX6 39 "CardsAtYule$Course" "rule" "[I") (List.mem_cons_of_mem _ (List.mem_append_left _ (List.mem_of_getElem? (i := 1) rfl)))) (fun _ h9 => h9) rfl dX6_mayCome_10 ?_
  refine lv_iconst (v := 0) hx hb dX6_mayCome_13 (by decide) ?_
  refine lv_iload_n hx hb dX6_mayCome_14 rfl (lv_at hl 2 rfl) ?_
  refine va_iast (D := g) hx hb hK hP hD hS 2 0 rfl rfl (vc_in (by decide)) dX6_mayCome_15 (fun H locs hP hD hS => ?_)
  obtain ⟨g15, e15⟩ : ∃ z, z = upd co_rule_c 0 p1 := ⟨_, rfl⟩
  have hP : va_P g vwCl [(se, .inr (6, [.long se_years, .long se_got0, .long se_got1, .int se_clashes])), (co, .inr (2, [.int co_years, .int co_begun, .ref co_rule, .ref co_may, .ref co_reach, .ref co_first, .ref co_back, .ref co_got])), (co_rule, .inl (cI, 2, .inl (upd co_rule_c 0 p1))), (co_first, .inl (cJ, 2, .inr (.inl co_first_c))), (co_back, .inl (cJ, 2, .inr (.inl co_back_c))), (co_got, .inl (cJ, 2, .inr (.inl co_got_c))), (co_may, .inl (cJ, 2, .inr (.inl co_may_c))), (co_reach, .inl (cJ, 2, .inr (.inl co_reach_c)))] H := hP
  have hD : va_D A [(se, .inr (6, [.long se_years, .long se_got0, .long se_got1, .int se_clashes])), (co, .inr (2, [.int co_years, .int co_begun, .ref co_rule, .ref co_may, .ref co_reach, .ref co_first, .ref co_back, .ref co_got])), (co_rule, .inl (cI, 2, .inl (upd co_rule_c 0 p1))), (co_first, .inl (cJ, 2, .inr (.inl co_first_c))), (co_back, .inl (cJ, 2, .inr (.inl co_back_c))), (co_got, .inl (cJ, 2, .inr (.inl co_got_c))), (co_may, .inl (cJ, 2, .inr (.inl co_may_c))), (co_reach, .inl (cJ, 2, .inr (.inl co_reach_c)))] := hD
  rw [← e15] at hP hD
  refine lv_aload_n hx hb dX6_mayCome_16 rfl (lv_at hl 1 rfl) ?_
  refine va_get (D := g) (ci := 2) (v := .ref co_rule) (C := RX2) (T := TX2) (N := 8) hx hb hts iX2 hown hK hP 1 rfl rfl 2 (by decide) (hts (.fieldLink RX6 39 "CardsAtYule$Course" "rule" "[I") (List.mem_cons_of_mem _ (List.mem_append_left _ (List.mem_of_getElem? (i := 1) rfl)))) (fun _ h9 => h9) rfl dX6_mayCome_17 ?_
  refine lv_iconst (v := 1) hx hb dX6_mayCome_20 (by decide) ?_
  refine lv_iload_n hx hb dX6_mayCome_21 rfl (lv_at hl 3 rfl) ?_
  refine va_iast (D := g) hx hb hK hP hD hS 2 0 rfl rfl (vc_in (by decide)) dX6_mayCome_22 (fun H locs hP hD hS => ?_)
  obtain ⟨g22, e22⟩ : ∃ z, z = upd g15 1 p2 := ⟨_, rfl⟩
  have hP : va_P g vwCl [(se, .inr (6, [.long se_years, .long se_got0, .long se_got1, .int se_clashes])), (co, .inr (2, [.int co_years, .int co_begun, .ref co_rule, .ref co_may, .ref co_reach, .ref co_first, .ref co_back, .ref co_got])), (co_rule, .inl (cI, 2, .inl (upd g15 1 p2))), (co_first, .inl (cJ, 2, .inr (.inl co_first_c))), (co_back, .inl (cJ, 2, .inr (.inl co_back_c))), (co_got, .inl (cJ, 2, .inr (.inl co_got_c))), (co_may, .inl (cJ, 2, .inr (.inl co_may_c))), (co_reach, .inl (cJ, 2, .inr (.inl co_reach_c)))] H := hP
  have hD : va_D A [(se, .inr (6, [.long se_years, .long se_got0, .long se_got1, .int se_clashes])), (co, .inr (2, [.int co_years, .int co_begun, .ref co_rule, .ref co_may, .ref co_reach, .ref co_first, .ref co_back, .ref co_got])), (co_rule, .inl (cI, 2, .inl (upd g15 1 p2))), (co_first, .inl (cJ, 2, .inr (.inl co_first_c))), (co_back, .inl (cJ, 2, .inr (.inl co_back_c))), (co_got, .inl (cJ, 2, .inr (.inl co_got_c))), (co_may, .inl (cJ, 2, .inr (.inl co_may_c))), (co_reach, .inl (cJ, 2, .inr (.inl co_reach_c)))] := hD
  rw [← e22] at hP hD
  refine lv_aload_n hx hb dX6_mayCome_23 rfl (lv_at hl 1 rfl) ?_
  refine lv_aload_n hx hb dX6_mayCome_24 rfl (lv_at hl 0 rfl) ?_
  refine va_get (D := g) (ci := 6) (v := .long se_years) (C := RX6) (T := TX6) (N := 4) hx hb hts iX6 hown hK hP 0 rfl rfl 0 (by decide) (hts (.fieldLink RX6 9 "CardsAtYule$Seen" "years" "J") (List.mem_cons_of_mem _ (List.mem_append_left _ (List.mem_of_getElem? (i := 2) rfl)))) (fun _ h9 => h9) rfl dX6_mayCome_25 ?_
  refine ro_i (va_runSN (As := [.long se_years]) (rest := [.ref co]) ⟨hx, hb, hml, hown, hts⟩ (q_X11_highest l g cI cJ cB cZ cL se_years H.size ) ⟨(va_cnB 1 hts (goodIn_sub (fun _ h => List.mem_cons_of_mem _ (List.mem_append_right _ (List.mem_append_left _ h))) good_v_X11_highest) rfl rfl rfl (hE.nest _ (List.mem_of_getElem? (i := 2) rfl)) (hts (.initialized RX11) (List.mem_cons_of_mem _ (List.mem_append_left _ (List.mem_of_getElem? (i := 3) rfl)))) (by decide +kernel) ⟨Nat.le_of_ble_eq_true rfl, Nat.le_of_ble_eq_true rfl⟩), (hts (.static yX11_highest) (List.mem_cons_of_mem _ (List.mem_append_left _ (List.mem_of_getElem? (i := 4) rfl)))), trivial⟩ (ps_RO (wc := []) hK hP [] rfl) rfl rfl hl.1 rfl (lv_room (Nat.le_of_ble_eq_true rfl)) dX6_mayCome_28 ⟨Nat.le_of_ble_eq_true rfl, Nat.le_of_ble_eq_true rfl⟩) hS hA hP (fun r28 u28 H locs hw28 hP hS => ?_)
  refine lv_iconst (v := 1) hx hb dX6_mayCome_31 (by decide) ?_
  refine lv_iadd hx hb dX6_mayCome_32 ?_
  refine lv_topi (fun y32 e32 => ?_)
  refine va_put (D := g) (ci := 2) (v := .int y32) (ty := .int) (C := RX2) (T := TX2) (N := 8) hx hb hts iX2 tyX2 tyX2_ok nmX2 hown hK hP hD hS 1 rfl rfl 0 (by decide) (hts (.fieldLink RX6 48 "CardsAtYule$Course" "years" "I") (List.mem_cons_of_mem _ (List.mem_append_left _ (List.mem_of_getElem? (i := 5) rfl)))) (fun _ h9 => h9) rfl (by decide +kernel) rfl rfl (Nat.le_of_ble_eq_true rfl) dX6_mayCome_33 (fun H locs hP hD hS => ?_)
  have hP : va_P g vwCl [(se, .inr (6, [.long se_years, .long se_got0, .long se_got1, .int se_clashes])), (co, .inr (2, [.int y32, .int co_begun, .ref co_rule, .ref co_may, .ref co_reach, .ref co_first, .ref co_back, .ref co_got])), (co_rule, .inl (cI, 2, .inl g22)), (co_first, .inl (cJ, 2, .inr (.inl co_first_c))), (co_back, .inl (cJ, 2, .inr (.inl co_back_c))), (co_got, .inl (cJ, 2, .inr (.inl co_got_c))), (co_may, .inl (cJ, 2, .inr (.inl co_may_c))), (co_reach, .inl (cJ, 2, .inr (.inl co_reach_c)))] H := hP
  have hD : va_D A [(se, .inr (6, [.long se_years, .long se_got0, .long se_got1, .int se_clashes])), (co, .inr (2, [.int y32, .int co_begun, .ref co_rule, .ref co_may, .ref co_reach, .ref co_first, .ref co_back, .ref co_got])), (co_rule, .inl (cI, 2, .inl g22)), (co_first, .inl (cJ, 2, .inr (.inl co_first_c))), (co_back, .inl (cJ, 2, .inr (.inl co_back_c))), (co_got, .inl (cJ, 2, .inr (.inl co_got_c))), (co_may, .inl (cJ, 2, .inr (.inl co_may_c))), (co_reach, .inl (cJ, 2, .inr (.inl co_reach_c)))] := hD
  refine lv_aload_n hx hb dX6_mayCome_36 rfl (lv_at hl 1 rfl) ?_
  refine lv_aload_n hx hb dX6_mayCome_37 rfl (lv_at hl 0 rfl) ?_
  refine va_get (D := g) (ci := 6) (v := .long se_years) (C := RX6) (T := TX6) (N := 4) hx hb hts iX6 hown hK hP 0 rfl rfl 0 (by decide) (hts (.fieldLink RX6 9 "CardsAtYule$Seen" "years" "J") (List.mem_cons_of_mem _ (List.mem_append_left _ (List.mem_of_getElem? (i := 2) rfl)))) (fun _ h9 => h9) rfl dX6_mayCome_38 ?_
  refine lv_aload_n hx hb dX6_mayCome_41 rfl (lv_at hl 0 rfl) ?_
  refine va_get (D := g) (ci := 6) (v := .long se_got0) (C := RX6) (T := TX6) (N := 4) hx hb hts iX6 hown hK hP 0 rfl rfl 1 (by decide) (hts (.fieldLink RX6 15 "CardsAtYule$Seen" "got0" "J") (List.mem_cons_of_mem _ (List.mem_append_left _ (List.mem_of_getElem? (i := 6) rfl)))) (fun _ h9 => h9) rfl dX6_mayCome_42 ?_
  refine lv_aload_n hx hb dX6_mayCome_45 rfl (lv_at hl 0 rfl) ?_
  refine va_get (D := g) (ci := 6) (v := .long se_got1) (C := RX6) (T := TX6) (N := 4) hx hb hts iX6 hown hK hP 0 rfl rfl 2 (by decide) (hts (.fieldLink RX6 18 "CardsAtYule$Seen" "got1" "J") (List.mem_cons_of_mem _ (List.mem_append_left _ (List.mem_of_getElem? (i := 7) rfl)))) (fun _ h9 => h9) rfl dX6_mayCome_46 ?_
  refine rw_i (wr := [(se, .inr (6, [.long se_years, .long se_got0, .long se_got1, .int se_clashes]))]) (va_runV (As := [.long se_years, .long se_got0, .long se_got1]) (rest := []) ⟨hx, hb, hml, hown, hts⟩ (q_X2_runWhile l g cI cJ cB cZ cL kA vA se_years se_got0 se_got1 co y32 co_begun co_rule co_may co_reach co_first co_back co_got co_first_c co_back_c co_got_c g22 co_may_c co_reach_c H.size ) (cwV 3 hts (goodIn_app (g_4 (List.mem_cons_of_mem _ (List.mem_append_left _ (List.mem_of_getElem? (i := 8) rfl))) (List.mem_cons_of_mem _ (List.mem_append_left _ (List.mem_of_getElem? (i := 9) rfl))) (List.mem_cons_of_mem _ (List.mem_append_left _ (List.mem_of_getElem? (i := 10) rfl))) (List.mem_cons_of_mem _ (List.mem_append_left _ (List.mem_of_getElem? (i := 11) rfl))) (by decide +kernel)) (goodIn_sub (fun _ h => List.mem_cons_of_mem _ (List.mem_append_right _ (List.mem_append_right _ (List.mem_append_left _ h)))) good_v_X2_runWhile)) rfl rfl rfl (by decide +kernel) ⟨Nat.le_of_ble_eq_true rfl, Nat.le_of_ble_eq_true rfl⟩) (pvE_RW (pv_RW (q := (RX2, TX2, 8)) (ci := 2) (q0 := 0) (wc := [(co, .inr (2, [.int y32, .int co_begun, .ref co_rule, .ref co_may, .ref co_reach, .ref co_first, .ref co_back, .ref co_got])), (co_first, .inl (cJ, 2, .inr (.inl co_first_c))), (co_back, .inl (cJ, 2, .inr (.inl co_back_c))), (co_got, .inl (cJ, 2, .inr (.inl co_got_c))), (co_rule, .inl (cI, 2, .inl g22)), (co_may, .inl (cJ, 2, .inr (.inl co_may_c))), (co_reach, .inl (cJ, 2, .inr (.inl co_reach_c)))]) hK hP hD [1, 3, 4, 5, 2, 6, 7] (by decide) rfl rfl rfl) hE hS (va_free hD hS hA [1, 3, 4, 5, 2, 6, 7] rfl)) rfl rfl hl.1 rfl (lv_room (Nat.le_of_ble_eq_true rfl)) dX6_mayCome_49 ⟨Nat.le_of_ble_eq_true rfl, Nat.le_of_ble_eq_true rfl⟩) hS hA hP hD [1, 3, 4, 5, 2, 6, 7] [0] rfl rfl (by decide) (by decide) (fun r49 u49 H locs hw49 hP hD hS => ?_)
  obtain ⟨n_co_first_c_49, n_co_back_c_49, n_co_got_c_49⟩ := u49
  have hP : va_P g vwCl [(se, .inr (6, [.long se_years, .long se_got0, .long se_got1, .int se_clashes])), (co, .inr (2, [.int y32, .int co_begun, .ref co_rule, .ref co_may, .ref co_reach, .ref co_first, .ref co_back, .ref co_got])), (co_first, .inl (cJ, 2, .inr (.inl n_co_first_c_49))), (co_back, .inl (cJ, 2, .inr (.inl n_co_back_c_49))), (co_got, .inl (cJ, 2, .inr (.inl n_co_got_c_49))), (co_rule, .inl (cI, 2, .inl g22)), (co_may, .inl (cJ, 2, .inr (.inl co_may_c))), (co_reach, .inl (cJ, 2, .inr (.inl co_reach_c)))] H := hP
  have hD : va_D A [(se, .inr (6, [.long se_years, .long se_got0, .long se_got1, .int se_clashes])), (co, .inr (2, [.int y32, .int co_begun, .ref co_rule, .ref co_may, .ref co_reach, .ref co_first, .ref co_back, .ref co_got])), (co_first, .inl (cJ, 2, .inr (.inl n_co_first_c_49))), (co_back, .inl (cJ, 2, .inr (.inl n_co_back_c_49))), (co_got, .inl (cJ, 2, .inr (.inl n_co_got_c_49))), (co_rule, .inl (cI, 2, .inl g22)), (co_may, .inl (cJ, 2, .inr (.inl co_may_c))), (co_reach, .inl (cJ, 2, .inr (.inl co_reach_c)))] := hD
  dsimp only at hw49
  have hw49_0 := hw49
  subst hQ
  have hP9 := hP.sub (ws' := [(se, .inr (6, [.long se_years, .long se_got0, .long se_got1, .int se_clashes])), (co, .inr (2, [.int y32, .int co_begun, .ref co_rule, .ref co_may, .ref co_reach, .ref co_first, .ref co_back, .ref co_got])), (co_rule, .inl (cI, 2, .inl g22)), (co_first, .inl (cJ, 2, .inr (.inl n_co_first_c_49))), (co_back, .inl (cJ, 2, .inr (.inl n_co_back_c_49))), (co_got, .inl (cJ, 2, .inr (.inl n_co_got_c_49))), (co_may, .inl (cJ, 2, .inr (.inl co_may_c))), (co_reach, .inl (cJ, 2, .inr (.inl co_reach_c)))]) [0, 1, 5, 2, 3, 4, 6, 7] rfl
  have hD9 := hD.sub (ws' := [(se, .inr (6, [.long se_years, .long se_got0, .long se_got1, .int se_clashes])), (co, .inr (2, [.int y32, .int co_begun, .ref co_rule, .ref co_may, .ref co_reach, .ref co_first, .ref co_back, .ref co_got])), (co_rule, .inl (cI, 2, .inl g22)), (co_first, .inl (cJ, 2, .inr (.inl n_co_first_c_49))), (co_back, .inl (cJ, 2, .inr (.inl n_co_back_c_49))), (co_got, .inl (cJ, 2, .inr (.inl n_co_got_c_49))), (co_may, .inl (cJ, 2, .inr (.inl co_may_c))), (co_reach, .inl (cJ, 2, .inr (.inl co_reach_c)))]) [0, 1, 5, 2, 3, 4, 6, 7] (by decide) rfl
  exact W.zret (v := r49) hx hb hr (bo_n hw49_0) (fun t ht hW => ⟨⟨r49, (y32, g22, n_co_first_c_49, n_co_back_c_49, n_co_got_c_49), rfl, hw49_0, ⟨by rw [ht]; exact hP9, va_K.moved hW.alike hK, hD9⟩⟩, hS.F ht⟩) hS.2.2 dX6_mayCome_52
def v_X5_nextDraw : List Cond := .code yX5_nextDraw cX5_nextDraw 1 (some .int) :: (([.constantLong RX5 107 (1103515245), .fieldLink RX5 25 "CardsAtYule$Lives" "x" "J", .constantLong RX5 109 (12345), .constantLong RX5 111 (2147483648), .constantLong RX5 113 (65536), .constantLong RX5 115 (100)] : List Cond) ++ (wsX50 ++ ([] : List Cond)))
theorem good_v_X5_nextDraw : v_X5_nextDraw.all goodWord = true := ga_c (by decide +kernel) (ga_a (by decide +kernel) (ga_a good_wsX50 rfl))
set_option maxHeartbeats 4000000 in
set_option maxRecDepth 100000 in
theorem q_X5_nextDraw (l : Launch) (g : va_G) (cI cJ cB cZ cL : ClassId) (dr : Nat) (dr_sent : Int32) (dr_forgot : Int32) (dr_lastSent : Nat) (dr_x : Int64) (dr_states : Nat) (dr_may : Nat) (dr_reach : Nat) (sz : Nat)  : Met l yX5_nextDraw v_X5_nextDraw ({ frames := 0, cells := 0, slots := 0, locals := 0 }) (va_Pc [.ref dr] (pRW g (tyT cI cJ cB cZ cL) [(dr, .inr (5, [.int dr_sent, .int dr_forgot, .ref dr_lastSent, .long dr_x, .ref dr_states, .ref dr_may, .ref dr_reach]))] sz)) (va_Qi (fun (r : Int32) (u : Int64) => match u with | n_dr_x => True) (fun (u : Int64) (t : State) => bRW g (tyT cI cJ cB cZ cL) (va_A [(dr, .inr (5, [.int dr_sent, .int dr_forgot, .ref dr_lastSent, .long dr_x, .ref dr_states, .ref dr_may, .ref dr_reach]))] sz) (match u with | n_dr_x => [(dr, .inr (5, [.int dr_sent, .int dr_forgot, .ref dr_lastSent, .long n_dr_x, .ref dr_states, .ref dr_may, .ref dr_reach]))]) t) (va_A [(dr, .inr (5, [.int dr_sent, .int dr_forgot, .ref dr_lastSent, .long dr_x, .ref dr_states, .ref dr_may, .ref dr_reach]))] sz)) 0 0 (va_A [(dr, .inr (5, [.int dr_sent, .int dr_forgot, .ref dr_lastSent, .long dr_x, .ref dr_states, .ref dr_may, .ref dr_reach]))] sz) := by
  refine Met.ofW (cc := cX5_nextDraw) (maxL := 1) (ret := (some .int)) (by decide) rfl ?_
  intro p e s m args below meth c s₁ B hml hv
  obtain ⟨rfl, hsz, hP, hK, hD0⟩ := hv
  have hx := B.exec
  have hb := B.bytes
  have hr := B.returns
  have hts := atoms_spec (ws := v_X5_nextDraw) B.pre
  have hown : s.vm.findClass RX5 = some m.cls := findClass_of_methodNamed B.named
  have hlocks := B.notSynchronized
  clear B
  subst hsz
  have iX5 : ∀ w ∈ wsX50, w ∈ v_X5_nextDraw := (fun _ h => List.mem_cons_of_mem _ (List.mem_append_right _ (List.mem_append_left _ h)))
  have hD := hD0.self (sz := s.heap.size)
  generalize hAe : (va_A [(dr, .inr (5, [.int dr_sent, .int dr_forgot, .ref dr_lastSent, .long dr_x, .ref dr_states, .ref dr_may, .ref dr_reach]))] s.heap.size) = A at hD ⊢
  have hA : ∀ q : Nat, s.heap.size ≤ q → A q := fun q h => by rw [← hAe]; exact Or.inr h
  have hS : va_S A s.heap s.heap [] := va_S.rf
  have hl := lv_entry ([.ref dr]) (n := 1) (Nat.le_of_ble_eq_true rfl)
  rw [lg_entry_eq]
  generalize (lg_sl ([.ref dr]) ++ List.replicate (1 - (lg_sl ([.ref dr])).length) Slot.unset).toArray = ls at hl ⊢
  generalize ([.ref dr] : List Value).toArray = av at hts ⊢
  generalize hQ : MQ below _ av s _ _ A = QQ
  have hl : lv_has ls 1 [(0, .ref dr)] := hl
  have hP : va_P g vwCl [(dr, .inr (5, [.int dr_sent, .int dr_forgot, .ref dr_lastSent, .long dr_x, .ref dr_states, .ref dr_may, .ref dr_reach]))] s.heap := hP
  refine lv_aload_n hx hb dX5_nextDraw_0 rfl (lv_at hl 0 rfl) ?_
  refine lv_ldc2 (v := 1103515245) hx hb hown (hts (.constantLong RX5 107 (1103515245)) (List.mem_cons_of_mem _ (List.mem_append_left _ (List.mem_of_getElem? (i := 0) rfl)))) dX5_nextDraw_1 ?_
  refine lv_aload_n hx hb dX5_nextDraw_4 rfl (lv_at hl 0 rfl) ?_
  refine va_get (D := g) (ci := 5) (v := .long dr_x) (C := RX5) (T := TX5) (N := 7) hx hb hts iX5 hown hK hP 0 rfl rfl 3 (by decide) (hts (.fieldLink RX5 25 "CardsAtYule$Lives" "x" "J") (List.mem_cons_of_mem _ (List.mem_append_left _ (List.mem_of_getElem? (i := 1) rfl)))) (fun _ h9 => h9) rfl dX5_nextDraw_5 ?_
  refine lv_lmul hx hb dX5_nextDraw_8 ?_
  refine lv_topl (fun y8 e8 => ?_)
  refine lv_ldc2 (v := 12345) hx hb hown (hts (.constantLong RX5 109 (12345)) (List.mem_cons_of_mem _ (List.mem_append_left _ (List.mem_of_getElem? (i := 2) rfl)))) dX5_nextDraw_9 ?_
  refine lv_ladd hx hb dX5_nextDraw_12 ?_
  refine lv_topl (fun y12 e12 => ?_)
  refine lv_ldc2 (v := 2147483648) hx hb hown (hts (.constantLong RX5 111 (2147483648)) (List.mem_cons_of_mem _ (List.mem_append_left _ (List.mem_of_getElem? (i := 3) rfl)))) dX5_nextDraw_13 ?_
  refine lv_lrem hx hb dX5_nextDraw_16 (by decide) ?_
  refine lv_topl (fun y16 e16 => ?_)
  refine va_put (D := g) (ci := 5) (v := .long y16) (ty := .long) (C := RX5) (T := TX5) (N := 7) hx hb hts iX5 tyX5 tyX5_ok nmX5 hown hK hP hD hS 0 rfl rfl 3 (by decide) (hts (.fieldLink RX5 25 "CardsAtYule$Lives" "x" "J") (List.mem_cons_of_mem _ (List.mem_append_left _ (List.mem_of_getElem? (i := 1) rfl)))) (fun _ h9 => h9) rfl (by decide +kernel) rfl rfl (Nat.le_of_ble_eq_true rfl) dX5_nextDraw_17 (fun H locs hP hD hS => ?_)
  have hP : va_P g vwCl [(dr, .inr (5, [.int dr_sent, .int dr_forgot, .ref dr_lastSent, .long y16, .ref dr_states, .ref dr_may, .ref dr_reach]))] H := hP
  have hD : va_D A [(dr, .inr (5, [.int dr_sent, .int dr_forgot, .ref dr_lastSent, .long y16, .ref dr_states, .ref dr_may, .ref dr_reach]))] := hD
  refine lv_aload_n hx hb dX5_nextDraw_20 rfl (lv_at hl 0 rfl) ?_
  refine va_get (D := g) (ci := 5) (v := .long y16) (C := RX5) (T := TX5) (N := 7) hx hb hts iX5 hown hK hP 0 rfl rfl 3 (by decide) (hts (.fieldLink RX5 25 "CardsAtYule$Lives" "x" "J") (List.mem_cons_of_mem _ (List.mem_append_left _ (List.mem_of_getElem? (i := 1) rfl)))) (fun _ h9 => h9) rfl dX5_nextDraw_21 ?_
  refine lv_ldc2 (v := 65536) hx hb hown (hts (.constantLong RX5 113 (65536)) (List.mem_cons_of_mem _ (List.mem_append_left _ (List.mem_of_getElem? (i := 4) rfl)))) dX5_nextDraw_24 ?_
  refine lv_ldiv hx hb dX5_nextDraw_27 (by decide) ?_
  refine lv_topl (fun y27 e27 => ?_)
  refine lv_ldc2 (v := 100) hx hb hown (hts (.constantLong RX5 115 (100)) (List.mem_cons_of_mem _ (List.mem_append_left _ (List.mem_of_getElem? (i := 5) rfl)))) dX5_nextDraw_28 ?_
  refine lv_lrem hx hb dX5_nextDraw_31 (by decide) ?_
  refine lv_topl (fun y31 e31 => ?_)
  refine lv_l2i (v := y31.toInt32) hx hb dX5_nextDraw_32 rfl ?_
  refine lv_topi (fun y32 e32 => ?_)
  subst hQ
  have hP9 := hP.sub (ws' := [(dr, .inr (5, [.int dr_sent, .int dr_forgot, .ref dr_lastSent, .long y16, .ref dr_states, .ref dr_may, .ref dr_reach]))]) [0] rfl
  have hD9 := hD.sub (ws' := [(dr, .inr (5, [.int dr_sent, .int dr_forgot, .ref dr_lastSent, .long y16, .ref dr_states, .ref dr_may, .ref dr_reach]))]) [0] (by decide) rfl
  exact W.iret (v := y32) hx hb hr (fun t ht hW => ⟨⟨y32, y16, rfl, trivial, ⟨by rw [ht]; exact hP9, va_K.moved hW.alike hK, hD9⟩⟩, hS.F ht⟩) hS.2.2 dX5_nextDraw_33
def v_X5_mindful : List Cond := .code yX5_mindful cX5_mindful 6 (some .int) :: (([.methodLink RX5 100 yX5_nextDraw, .instanceMethod yX5_nextDraw, .selects RX5 yX5_nextDraw yX5_nextDraw, .initialized RX5, .fieldLink RX5 104 "CardsAtYule$Land" "forgets" "[I", .fieldLink RX5 44 "CardsAtYule$Land" "who" "[I", .fieldLink RX5 33 "CardsAtYule$Lives" "forgot" "I"] : List Cond) ++ (v_X5_nextDraw ++ (wsX40 ++ (wsX50 ++ ([] : List Cond)))))
theorem good_v_X5_mindful : v_X5_mindful.all goodWord = true := ga_c (by decide +kernel) (ga_a (by decide +kernel) (ga_a good_v_X5_nextDraw (ga_a good_wsX40 (ga_a good_wsX50 rfl))))
set_option maxHeartbeats 4000000 in
set_option maxRecDepth 100000 in
theorem q_X5_mindful (l : Launch) (g : va_G) (cI cJ cB cZ cL : ClassId) (p1 : Int32) (p2 : Int32) (dr : Nat) (ld : Nat) (dr_sent : Int32) (dr_forgot : Int32) (dr_lastSent : Nat) (dr_x : Int64) (dr_states : Nat) (dr_may : Nat) (dr_reach : Nat) (ld_lines : Int32) (ld_years : Int32) (ld_card : Int32) (ld_hurt : Int32) (ld_people : Int32) (ld_pairs : Int32) (ld_strikes : Int64) (ld_rule : Nat) (ld_returns : Nat) (ld_forgets : Nat) (ld_death : Nat) (ld_move : Nat) (ld_begun : Nat) (ld_who : Nat) (ld_lost : Nat) (ld_who_c : Nat → Int32) (ld_forgets_c : Nat → Int32) (sz : Nat) (hv_p1 : ir p1.toInt 0 15) (hv_ld_years : ir ld_years.toInt 0 40) (hv_ld_people : ir ld_people.toInt 0 10) (hv_ld_pairs : ir ld_pairs.toInt 0 16) (ha_ld_who_c : ar ld_who_c 32 0 9) : Met l yX5_mindful v_X5_mindful ({ frames := 1, cells := 0, slots := 0, locals := 20 }) (va_Pc [.ref dr, .ref ld, .int p1, .int p2] (pRW g (tyT cI cJ cB cZ cL) [(dr, .inr (5, [.int dr_sent, .int dr_forgot, .ref dr_lastSent, .long dr_x, .ref dr_states, .ref dr_may, .ref dr_reach])), (ld, .inr (4, [.int ld_lines, .int ld_years, .int ld_card, .int ld_hurt, .int ld_people, .int ld_pairs, .long ld_strikes, .ref ld_rule, .ref ld_returns, .ref ld_forgets, .ref ld_death, .ref ld_move, .ref ld_begun, .ref ld_who, .ref ld_lost])), (ld_who, .inl (cI, 32, .inl ld_who_c)), (ld_forgets, .inl (cI, 10, .inl ld_forgets_c))] sz)) (va_Qi (fun (r : Int32) (u : Int32 × Int64) => match u with | (n_dr_forgot, n_dr_x) => True) (fun (u : Int32 × Int64) (t : State) => bRW g (tyT cI cJ cB cZ cL) (va_A [(dr, .inr (5, [.int dr_sent, .int dr_forgot, .ref dr_lastSent, .long dr_x, .ref dr_states, .ref dr_may, .ref dr_reach])), (ld, .inr (4, [.int ld_lines, .int ld_years, .int ld_card, .int ld_hurt, .int ld_people, .int ld_pairs, .long ld_strikes, .ref ld_rule, .ref ld_returns, .ref ld_forgets, .ref ld_death, .ref ld_move, .ref ld_begun, .ref ld_who, .ref ld_lost])), (ld_who, .inl (cI, 32, .inl ld_who_c)), (ld_forgets, .inl (cI, 10, .inl ld_forgets_c))] sz) (match u with | (n_dr_forgot, n_dr_x) => [(dr, .inr (5, [.int dr_sent, .int n_dr_forgot, .ref dr_lastSent, .long n_dr_x, .ref dr_states, .ref dr_may, .ref dr_reach])), (ld, .inr (4, [.int ld_lines, .int ld_years, .int ld_card, .int ld_hurt, .int ld_people, .int ld_pairs, .long ld_strikes, .ref ld_rule, .ref ld_returns, .ref ld_forgets, .ref ld_death, .ref ld_move, .ref ld_begun, .ref ld_who, .ref ld_lost])), (ld_who, .inl (cI, 32, .inl ld_who_c)), (ld_forgets, .inl (cI, 10, .inl ld_forgets_c))]) t) (va_A [(dr, .inr (5, [.int dr_sent, .int dr_forgot, .ref dr_lastSent, .long dr_x, .ref dr_states, .ref dr_may, .ref dr_reach])), (ld, .inr (4, [.int ld_lines, .int ld_years, .int ld_card, .int ld_hurt, .int ld_people, .int ld_pairs, .long ld_strikes, .ref ld_rule, .ref ld_returns, .ref ld_forgets, .ref ld_death, .ref ld_move, .ref ld_begun, .ref ld_who, .ref ld_lost])), (ld_who, .inl (cI, 32, .inl ld_who_c)), (ld_forgets, .inl (cI, 10, .inl ld_forgets_c))] sz)) 0 0 (va_A [(dr, .inr (5, [.int dr_sent, .int dr_forgot, .ref dr_lastSent, .long dr_x, .ref dr_states, .ref dr_may, .ref dr_reach])), (ld, .inr (4, [.int ld_lines, .int ld_years, .int ld_card, .int ld_hurt, .int ld_people, .int ld_pairs, .long ld_strikes, .ref ld_rule, .ref ld_returns, .ref ld_forgets, .ref ld_death, .ref ld_move, .ref ld_begun, .ref ld_who, .ref ld_lost])), (ld_who, .inl (cI, 32, .inl ld_who_c)), (ld_forgets, .inl (cI, 10, .inl ld_forgets_c))] sz) := by
  refine Met.ofW (cc := cX5_mindful) (maxL := 6) (ret := (some .int)) (by decide) rfl ?_
  intro p e s m args below meth c s₁ B hml hv
  obtain ⟨rfl, hsz, hP, hK, hD0⟩ := hv
  have hx := B.exec
  have hb := B.bytes
  have hr := B.returns
  have hts := atoms_spec (ws := v_X5_mindful) B.pre
  have hown : s.vm.findClass RX5 = some m.cls := findClass_of_methodNamed B.named
  have hlocks := B.notSynchronized
  clear B
  subst hsz
  have iX4 : ∀ w ∈ wsX40, w ∈ v_X5_mindful := (fun _ h => List.mem_cons_of_mem _ (List.mem_append_right _ (List.mem_append_right _ (List.mem_append_left _ h))))
  have iX5 : ∀ w ∈ wsX50, w ∈ v_X5_mindful := (fun _ h => List.mem_cons_of_mem _ (List.mem_append_right _ (List.mem_append_right _ (List.mem_append_right _ (List.mem_append_left _ h)))))
  have hD := hD0.self (sz := s.heap.size)
  generalize hAe : (va_A [(dr, .inr (5, [.int dr_sent, .int dr_forgot, .ref dr_lastSent, .long dr_x, .ref dr_states, .ref dr_may, .ref dr_reach])), (ld, .inr (4, [.int ld_lines, .int ld_years, .int ld_card, .int ld_hurt, .int ld_people, .int ld_pairs, .long ld_strikes, .ref ld_rule, .ref ld_returns, .ref ld_forgets, .ref ld_death, .ref ld_move, .ref ld_begun, .ref ld_who, .ref ld_lost])), (ld_who, .inl (cI, 32, .inl ld_who_c)), (ld_forgets, .inl (cI, 10, .inl ld_forgets_c))] s.heap.size) = A at hD ⊢
  have hA : ∀ q : Nat, s.heap.size ≤ q → A q := fun q h => by rw [← hAe]; exact Or.inr h
  have hS : va_S A s.heap s.heap [] := va_S.rf
  have hl := lv_entry ([.ref dr, .ref ld, .int p1, .int p2]) (n := 6) (Nat.le_of_ble_eq_true rfl)
  rw [lg_entry_eq]
  generalize (lg_sl ([.ref dr, .ref ld, .int p1, .int p2]) ++ List.replicate (6 - (lg_sl ([.ref dr, .ref ld, .int p1, .int p2])).length) Slot.unset).toArray = ls at hl ⊢
  generalize ([.ref dr, .ref ld, .int p1, .int p2] : List Value).toArray = av at hts ⊢
  generalize hQ : MQ below _ av s _ _ A = QQ
  have hl : lv_has ls 6 [(0, .ref dr), (1, .ref ld), (2, .int p1), (3, .int p2)] := hl
  have hP : va_P g vwCl [(dr, .inr (5, [.int dr_sent, .int dr_forgot, .ref dr_lastSent, .long dr_x, .ref dr_states, .ref dr_may, .ref dr_reach])), (ld, .inr (4, [.int ld_lines, .int ld_years, .int ld_card, .int ld_hurt, .int ld_people, .int ld_pairs, .long ld_strikes, .ref ld_rule, .ref ld_returns, .ref ld_forgets, .ref ld_death, .ref ld_move, .ref ld_begun, .ref ld_who, .ref ld_lost])), (ld_who, .inl (cI, 32, .inl ld_who_c)), (ld_forgets, .inl (cI, 10, .inl ld_forgets_c))] s.heap := hP
  refine lv_iload_n hx hb dX5_mindful_0 rfl (lv_at hl 3 rfl) ?_
  refine lv_istore (lv' := [(4, .int p2), (0, .ref dr), (1, .ref ld), (2, .int p1), (3, .int p2)]) hx hb dX5_mindful_1 hl (by decide) rfl (fun ls hl => ?_)
  refine lv_iconst (v := 0) hx hb dX5_mindful_3 (by decide) ?_
  refine lv_istore (lv' := [(5, .int 0), (4, .int p2), (0, .ref dr), (1, .ref ld), (2, .int p1), (3, .int p2)]) hx hb dX5_mindful_4 hl (by decide) rfl (fun ls hl => ?_)
  have J6 : ∀ (n6 : Nat) (j6_l4 : Int32) (j6_l5 : Int32) (j6_dr_forgot : Int32) (j6_dr_x : Int64) (H : Heap) (locs : List Loc) (ls : Array Slot), (3 - j6_l5.toInt).toNat < n6 → (ir j6_l5.toInt 0 2) → va_P g vwCl [(dr, .inr (5, [.int dr_sent, .int j6_dr_forgot, .ref dr_lastSent, .long j6_dr_x, .ref dr_states, .ref dr_may, .ref dr_reach])), (ld, .inr (4, [.int ld_lines, .int ld_years, .int ld_card, .int ld_hurt, .int ld_people, .int ld_pairs, .long ld_strikes, .ref ld_rule, .ref ld_returns, .ref ld_forgets, .ref ld_death, .ref ld_move, .ref ld_begun, .ref ld_who, .ref ld_lost])), (ld_who, .inl (cI, 32, .inl ld_who_c)), (ld_forgets, .inl (cI, 10, .inl ld_forgets_c))] H → va_D A [(dr, .inr (5, [.int dr_sent, .int j6_dr_forgot, .ref dr_lastSent, .long j6_dr_x, .ref dr_states, .ref dr_may, .ref dr_reach])), (ld, .inr (4, [.int ld_lines, .int ld_years, .int ld_card, .int ld_hurt, .int ld_people, .int ld_pairs, .long ld_strikes, .ref ld_rule, .ref ld_returns, .ref ld_forgets, .ref ld_death, .ref ld_move, .ref ld_begun, .ref ld_who, .ref ld_lost])), (ld_who, .inl (cI, 32, .inl ld_who_c)), (ld_forgets, .inl (cI, 10, .inl ld_forgets_c))] → va_S A s.heap H locs → lv_has ls 6 [(0, .ref dr), (1, .ref ld), (2, .int p1), (3, .int p2), (4, .int j6_l4), (5, .int j6_l5)] → W p l e (headSpec v_X5_mindful ({ frames := 1, cells := 0, slots := 0, locals := 20 })).room s m av below meth c H locs 0 0 QQ (F0 m 6 ls []) := by
    intro n6
    induction n6 with
    | zero => exact fun j6_l4 j6_l5 j6_dr_forgot j6_dr_x H locs ls hn => absurd hn (Nat.not_lt_zero _)
    | succ n6 ih6 =>
      intro j6_l4 j6_l5 j6_dr_forgot j6_dr_x H locs ls hn6 hj6_l5 hP hD hS hl
      refine lv_iload hx hb dX5_mindful_6 (lv_at hl 5 rfl) ?_
      refine lv_iconst (v := 2) hx hb dX5_mindful_8 (by decide) ?_
      refine lv_icmp_ge (tgt := 72) hx hb dX5_mindful_9 (by decide) (fun c9 => ?_) (fun c9 => ?_)
      · have f9 := (show 2 ≤ j6_l5.toInt from z_le rfl rfl c9)
        have r9a : ir j6_l5.toInt 2 2 := ir_leb f9 (ir_c 2) hj6_l5 (by decide)
        refine lv_iload hx hb dX5_mindful_72 (lv_at hl 4 rfl) ?_
        subst hQ
        have hP9 := hP.sub (ws' := [(dr, .inr (5, [.int dr_sent, .int j6_dr_forgot, .ref dr_lastSent, .long j6_dr_x, .ref dr_states, .ref dr_may, .ref dr_reach])), (ld, .inr (4, [.int ld_lines, .int ld_years, .int ld_card, .int ld_hurt, .int ld_people, .int ld_pairs, .long ld_strikes, .ref ld_rule, .ref ld_returns, .ref ld_forgets, .ref ld_death, .ref ld_move, .ref ld_begun, .ref ld_who, .ref ld_lost])), (ld_who, .inl (cI, 32, .inl ld_who_c)), (ld_forgets, .inl (cI, 10, .inl ld_forgets_c))]) [0, 1, 2, 3] rfl
        have hD9 := hD.sub (ws' := [(dr, .inr (5, [.int dr_sent, .int j6_dr_forgot, .ref dr_lastSent, .long j6_dr_x, .ref dr_states, .ref dr_may, .ref dr_reach])), (ld, .inr (4, [.int ld_lines, .int ld_years, .int ld_card, .int ld_hurt, .int ld_people, .int ld_pairs, .long ld_strikes, .ref ld_rule, .ref ld_returns, .ref ld_forgets, .ref ld_death, .ref ld_move, .ref ld_begun, .ref ld_who, .ref ld_lost])), (ld_who, .inl (cI, 32, .inl ld_who_c)), (ld_forgets, .inl (cI, 10, .inl ld_forgets_c))]) [0, 1, 2, 3] (by decide) rfl
        exact W.iret (v := j6_l4) hx hb hr (fun t ht hW => ⟨⟨j6_l4, (j6_dr_forgot, j6_dr_x), rfl, trivial, ⟨by rw [ht]; exact hP9, va_K.moved hW.alike hK, hD9⟩⟩, hS.F ht⟩) hS.2.2 dX5_mindful_74
      have f9 := (show j6_l5.toInt < 2 from z_nle rfl rfl c9)
      have r9a : ir j6_l5.toInt 0 1 := ir_lta f9 hj6_l5 (ir_c 2) (by decide)
      refine lv_iload_n hx hb dX5_mindful_12 rfl (lv_at hl 3 rfl) ?_
      refine lv_iload hx hb dX5_mindful_13 (lv_at hl 5 rfl) ?_
      refine lv_ishr hx hb dX5_mindful_15 ?_
      refine lv_topi (fun y15 e15 => ?_)
      refine lv_iconst (v := 1) hx hb dX5_mindful_16 (by decide) ?_
      refine lv_iand hx hb dX5_mindful_17 ?_
      refine lv_topi (fun y17 e17 => ?_)
      have r17 : ir y17.toInt 0 1 := by rw [e17]; exact an_y rfl (ir_c 1) (by decide)
      refine lv_iconst (v := 1) hx hb dX5_mindful_18 (by decide) ?_
      have J66 : ∀ (j66_dr_x : Int64) (j66_l4 : Int32) (j66_dr_forgot : Int32) (H : Heap) (locs : List Loc) (ls : Array Slot), va_P g vwCl [(dr, .inr (5, [.int dr_sent, .int j66_dr_forgot, .ref dr_lastSent, .long j66_dr_x, .ref dr_states, .ref dr_may, .ref dr_reach])), (ld, .inr (4, [.int ld_lines, .int ld_years, .int ld_card, .int ld_hurt, .int ld_people, .int ld_pairs, .long ld_strikes, .ref ld_rule, .ref ld_returns, .ref ld_forgets, .ref ld_death, .ref ld_move, .ref ld_begun, .ref ld_who, .ref ld_lost])), (ld_who, .inl (cI, 32, .inl ld_who_c)), (ld_forgets, .inl (cI, 10, .inl ld_forgets_c))] H → va_D A [(dr, .inr (5, [.int dr_sent, .int j66_dr_forgot, .ref dr_lastSent, .long j66_dr_x, .ref dr_states, .ref dr_may, .ref dr_reach])), (ld, .inr (4, [.int ld_lines, .int ld_years, .int ld_card, .int ld_hurt, .int ld_people, .int ld_pairs, .long ld_strikes, .ref ld_rule, .ref ld_returns, .ref ld_forgets, .ref ld_death, .ref ld_move, .ref ld_begun, .ref ld_who, .ref ld_lost])), (ld_who, .inl (cI, 32, .inl ld_who_c)), (ld_forgets, .inl (cI, 10, .inl ld_forgets_c))] → va_S A s.heap H locs → lv_has ls 6 [(0, .ref dr), (1, .ref ld), (2, .int p1), (3, .int p2), (4, .int j66_l4), (5, .int j6_l5)] → W p l e (headSpec v_X5_mindful ({ frames := 1, cells := 0, slots := 0, locals := 20 })).room s m av below meth c H locs 0 0 QQ (F0 m 66 ls []) := by
        intro j66_dr_x j66_l4 j66_dr_forgot H locs ls  hP hD hS hl
        obtain ⟨y66, e66⟩ : ∃ y : Int32, y = j6_l5 + 1 := ⟨_, rfl⟩
        have q66 : y66.toInt = j6_l5.toInt + 1 := by rw [e66]; exact ad_z rfl rfl r9a (ir_c 1) (by decide) (by decide)
        have r66 : ir y66.toInt 1 2 := ad_r q66 r9a (ir_c 1) (by decide) (by decide)
        refine lv_iinc (v := y66) (lv' := [(5, .int y66), (0, .ref dr), (1, .ref ld), (2, .int p1), (3, .int p2), (4, .int j66_l4)]) hx hb dX5_mindful_66 hl (k := 5) rfl e66.symm (by decide) rfl (fun ls hl => ?_)
        refine lv_goto (tgt := 6) hx hb dX5_mindful_69 (by decide) ?_
        exact ih6 j66_l4 y66 j66_dr_forgot j66_dr_x _ _ _ (by omega) (ir_w r66 (by decide) (by decide)) (hP.sub [0, 1, 2, 3] rfl) (hD.sub [0, 1, 2, 3] (by decide) rfl) hS (lv_sub hl [1, 2, 3, 4, 5, 0] rfl)
      refine lv_icmp_ne (tgt := 66) hx hb dX5_mindful_19 (by decide) (fun c19 => ?_) (fun c19 => ?_)
      · have f19 := (show y17.toInt ≠ 1 from z_ne rfl rfl c19)
        have r19a : ir y17.toInt 0 0 := ir_neh f19 r17 (by decide) (by decide)
        exact J66 j6_dr_x j6_l4 j6_dr_forgot _ _ _  (hP.sub [0, 1, 2, 3] rfl) (hD.sub [0, 1, 2, 3] (by decide) rfl) hS (lv_sub hl [0, 1, 2, 3, 4, 5] rfl)
      have f19 := (show y17.toInt = 1 from z_eq rfl rfl c19)
      have r19a : ir y17.toInt 1 1 := ir_eqa f19 r17 (ir_c 1) (by decide) (by decide)
      refine lv_aload_n hx hb dX5_mindful_22 rfl (lv_at hl 0 rfl) ?_
      refine rw_i (wr := [(ld, .inr (4, [.int ld_lines, .int ld_years, .int ld_card, .int ld_hurt, .int ld_people, .int ld_pairs, .long ld_strikes, .ref ld_rule, .ref ld_returns, .ref ld_forgets, .ref ld_death, .ref ld_move, .ref ld_begun, .ref ld_who, .ref ld_lost])), (ld_who, .inl (cI, 32, .inl ld_who_c)), (ld_forgets, .inl (cI, 10, .inl ld_forgets_c))]) (va_runV (As := []) (rest := []) ⟨hx, hb, hml, hown, hts⟩ (q_X5_nextDraw l g cI cJ cB cZ cL dr dr_sent j6_dr_forgot dr_lastSent j6_dr_x dr_states dr_may dr_reach H.size ) (cwV 0 hts (goodIn_app (g_4 (List.mem_cons_of_mem _ (List.mem_append_left _ (List.mem_of_getElem? (i := 0) rfl))) (List.mem_cons_of_mem _ (List.mem_append_left _ (List.mem_of_getElem? (i := 1) rfl))) (List.mem_cons_of_mem _ (List.mem_append_left _ (List.mem_of_getElem? (i := 2) rfl))) (List.mem_cons_of_mem _ (List.mem_append_left _ (List.mem_of_getElem? (i := 3) rfl))) (by decide +kernel)) (goodIn_sub (fun _ h => List.mem_cons_of_mem _ (List.mem_append_right _ (List.mem_append_left _ h))) good_v_X5_nextDraw)) rfl rfl rfl (by decide +kernel) ⟨Nat.le_of_ble_eq_true rfl, Nat.le_of_ble_eq_true rfl⟩) (pv_RW (q := (RX5, TX5, 7)) (ci := 5) (q0 := 0) (wc := [(dr, .inr (5, [.int dr_sent, .int j6_dr_forgot, .ref dr_lastSent, .long j6_dr_x, .ref dr_states, .ref dr_may, .ref dr_reach]))]) hK hP hD [0] (by decide) rfl rfl rfl) rfl rfl hl.1 rfl (lv_room (Nat.le_of_ble_eq_true rfl)) dX5_mindful_23 ⟨Nat.le_of_ble_eq_true rfl, Nat.le_of_ble_eq_true rfl⟩) hS hA hP hD [0] [1, 2, 3] rfl rfl (by decide) (by decide) (fun r23 u23 H locs hw23 hP hD hS => ?_)
      generalize u23 = n_dr_x_23 at hw23 hP hD
      have hP : va_P g vwCl [(ld, .inr (4, [.int ld_lines, .int ld_years, .int ld_card, .int ld_hurt, .int ld_people, .int ld_pairs, .long ld_strikes, .ref ld_rule, .ref ld_returns, .ref ld_forgets, .ref ld_death, .ref ld_move, .ref ld_begun, .ref ld_who, .ref ld_lost])), (ld_who, .inl (cI, 32, .inl ld_who_c)), (ld_forgets, .inl (cI, 10, .inl ld_forgets_c)), (dr, .inr (5, [.int dr_sent, .int j6_dr_forgot, .ref dr_lastSent, .long n_dr_x_23, .ref dr_states, .ref dr_may, .ref dr_reach]))] H := hP
      have hD : va_D A [(ld, .inr (4, [.int ld_lines, .int ld_years, .int ld_card, .int ld_hurt, .int ld_people, .int ld_pairs, .long ld_strikes, .ref ld_rule, .ref ld_returns, .ref ld_forgets, .ref ld_death, .ref ld_move, .ref ld_begun, .ref ld_who, .ref ld_lost])), (ld_who, .inl (cI, 32, .inl ld_who_c)), (ld_forgets, .inl (cI, 10, .inl ld_forgets_c)), (dr, .inr (5, [.int dr_sent, .int j6_dr_forgot, .ref dr_lastSent, .long n_dr_x_23, .ref dr_states, .ref dr_may, .ref dr_reach]))] := hD
      refine lv_aload_n hx hb dX5_mindful_26 rfl (lv_at hl 1 rfl) ?_
      refine va_get (D := g) (ci := 4) (v := .ref ld_forgets) (C := RX4) (T := TX4) (N := 15) hx hb hts iX4 hown hK hP 0 rfl rfl 9 (by decide) (hts (.fieldLink RX5 104 "CardsAtYule$Land" "forgets" "[I") (List.mem_cons_of_mem _ (List.mem_append_left _ (List.mem_of_getElem? (i := 4) rfl)))) (fun _ h9 => h9) rfl dX5_mindful_27 ?_
      refine lv_aload_n hx hb dX5_mindful_30 rfl (lv_at hl 1 rfl) ?_
      refine va_get (D := g) (ci := 4) (v := .ref ld_who) (C := RX4) (T := TX4) (N := 15) hx hb hts iX4 hown hK hP 0 rfl rfl 13 (by decide) (hts (.fieldLink RX5 44 "CardsAtYule$Land" "who" "[I") (List.mem_cons_of_mem _ (List.mem_append_left _ (List.mem_of_getElem? (i := 5) rfl)))) (fun _ h9 => h9) rfl dX5_mindful_31 ?_
      refine lv_iconst (v := 2) hx hb dX5_mindful_34 (by decide) ?_
      refine lv_iload_n hx hb dX5_mindful_35 rfl (lv_at hl 2 rfl) ?_
      refine lv_imul hx hb dX5_mindful_36 ?_
      refine lv_topi (fun y36 e36 => ?_)
      have q36 : y36.toInt = 2 * p1.toInt := by rw [e36]; exact mu_z rfl rfl (ir_c 2) hv_p1 (by decide) (by decide) (by decide)
      have r36 : ir y36.toInt 0 30 := mu_r q36 (ir_c 2) hv_p1 (by decide) (by decide) (by decide) (by decide)
      refine lv_iload hx hb dX5_mindful_37 (lv_at hl 5 rfl) ?_
      refine lv_iadd hx hb dX5_mindful_39 ?_
      refine lv_topi (fun y39 e39 => ?_)
      have q39 : y39.toInt = y36.toInt + j6_l5.toInt := by rw [e39]; exact ad_z rfl rfl r36 r9a (by decide) (by decide)
      have r39 : ir y39.toInt 0 31 := ad_r q39 r36 r9a (by decide) (by decide)
      refine va_iald (D := g) hx hb hK hP 1 0 rfl rfl (vi_rg rfl r39 (by decide) (by decide)) dX5_mindful_40 ?_
      refine lv_topi (fun y40 e40 => ?_)
      have r40 : ir y40.toInt 0 9 := by rw [e40]; exact ha_ld_who_c _ (vi_cl (vi_rg rfl r39 (by decide) (by decide)))
      refine va_iald (D := g) hx hb hK hP 2 0 rfl rfl (vi_rg rfl r40 (by decide) (by decide)) dX5_mindful_41 ?_
      refine lv_topi (fun y41 e41 => ?_)
      refine lv_icmp_ge (tgt := 66) hx hb dX5_mindful_42 (by decide) (fun c42 => ?_) (fun c42 => ?_)
      · have f42 := (show y41.toInt ≤ r23.toInt from z_le rfl rfl c42)
        exact J66 n_dr_x_23 j6_l4 j6_dr_forgot _ _ _  (hP.sub [3, 0, 1, 2] rfl) (hD.sub [3, 0, 1, 2] (by decide) rfl) hS (lv_sub hl [0, 1, 2, 3, 4, 5] rfl)
      have f42 := (show r23.toInt < y41.toInt from z_nle rfl rfl c42)
      have r42a : ir r23.toInt (-2147483648) 2147483646 := ir_lta f42 (rg_all r23) (rg_all y41) (by decide)
      have r42b : ir y41.toInt (-2147483647) 2147483647 := ir_ltb f42 (rg_all r23) (rg_all y41) (by decide)
      refine lv_iload hx hb dX5_mindful_45 (lv_at hl 4 rfl) ?_
      refine lv_iconst (v := 1) hx hb dX5_mindful_47 (by decide) ?_
      refine lv_iload hx hb dX5_mindful_48 (lv_at hl 5 rfl) ?_
      refine lv_ishl hx hb dX5_mindful_50 ?_
      refine lv_topi (fun y50 e50 => ?_)
      have r50 : ir y50.toInt 1 2 := by rw [e50]; exact s1_r 1 rfl r9a (by decide) (by decide)
      refine lv_iconst (v := (-1)) hx hb dX5_mindful_51 (by decide) ?_
      refine lv_ixor hx hb dX5_mindful_52 ?_
      refine lv_topi (fun y52 e52 => ?_)
      refine lv_iand hx hb dX5_mindful_53 ?_
      refine lv_topi (fun y53 e53 => ?_)
      refine lv_istore (lv' := [(4, .int y53), (0, .ref dr), (1, .ref ld), (2, .int p1), (3, .int p2), (5, .int j6_l5)]) hx hb dX5_mindful_54 hl (by decide) rfl (fun ls hl => ?_)
      refine lv_aload_n hx hb dX5_mindful_56 rfl (lv_at hl 1 rfl) ?_
      refine lv_dup hx hb dX5_mindful_57 rfl ?_
      refine va_get (D := g) (ci := 5) (v := .int j6_dr_forgot) (C := RX5) (T := TX5) (N := 7) hx hb hts iX5 hown hK hP 3 rfl rfl 1 (by decide) (hts (.fieldLink RX5 33 "CardsAtYule$Lives" "forgot" "I") (List.mem_cons_of_mem _ (List.mem_append_left _ (List.mem_of_getElem? (i := 6) rfl)))) (fun _ h9 => h9) rfl dX5_mindful_58 ?_
      refine lv_iconst (v := 1) hx hb dX5_mindful_61 (by decide) ?_
      refine lv_iadd hx hb dX5_mindful_62 ?_
      refine lv_topi (fun y62 e62 => ?_)
      refine va_put (D := g) (ci := 5) (v := .int y62) (ty := .int) (C := RX5) (T := TX5) (N := 7) hx hb hts iX5 tyX5 tyX5_ok nmX5 hown hK hP hD hS 3 rfl rfl 1 (by decide) (hts (.fieldLink RX5 33 "CardsAtYule$Lives" "forgot" "I") (List.mem_cons_of_mem _ (List.mem_append_left _ (List.mem_of_getElem? (i := 6) rfl)))) (fun _ h9 => h9) rfl (by decide +kernel) rfl rfl (Nat.le_of_ble_eq_true rfl) dX5_mindful_63 (fun H locs hP hD hS => ?_)
      have hP : va_P g vwCl [(ld, .inr (4, [.int ld_lines, .int ld_years, .int ld_card, .int ld_hurt, .int ld_people, .int ld_pairs, .long ld_strikes, .ref ld_rule, .ref ld_returns, .ref ld_forgets, .ref ld_death, .ref ld_move, .ref ld_begun, .ref ld_who, .ref ld_lost])), (ld_who, .inl (cI, 32, .inl ld_who_c)), (ld_forgets, .inl (cI, 10, .inl ld_forgets_c)), (dr, .inr (5, [.int dr_sent, .int y62, .ref dr_lastSent, .long n_dr_x_23, .ref dr_states, .ref dr_may, .ref dr_reach]))] H := hP
      have hD : va_D A [(ld, .inr (4, [.int ld_lines, .int ld_years, .int ld_card, .int ld_hurt, .int ld_people, .int ld_pairs, .long ld_strikes, .ref ld_rule, .ref ld_returns, .ref ld_forgets, .ref ld_death, .ref ld_move, .ref ld_begun, .ref ld_who, .ref ld_lost])), (ld_who, .inl (cI, 32, .inl ld_who_c)), (ld_forgets, .inl (cI, 10, .inl ld_forgets_c)), (dr, .inr (5, [.int dr_sent, .int y62, .ref dr_lastSent, .long n_dr_x_23, .ref dr_states, .ref dr_may, .ref dr_reach]))] := hD
      exact J66 n_dr_x_23 y53 y62 _ _ _  (hP.sub [3, 0, 1, 2] rfl) (hD.sub [3, 0, 1, 2] (by decide) rfl) hS (lv_sub hl [1, 2, 3, 4, 0, 5] rfl)
  exact J6 _ p2 0 dr_forgot dr_x _ _ _ (Nat.lt_succ_self _) (by decide) (hP.sub [0, 1, 2, 3] rfl) (hD.sub [0, 1, 2, 3] (by decide) rfl) hS (lv_sub hl [2, 3, 4, 5, 1, 0] rfl)
