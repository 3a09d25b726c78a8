def v_X12_pairOf : List Cond := .code yX12_pairOf cX12_pairOf 6 (some .int) :: (([.fieldLink RX12 34 "CardsAtYuleModel" "has" "[I", .fieldLink RX12 40 "CardsAtYuleModel" "pair" "[I"] : List Cond) ++ (wsX120 ++ ([] : List Cond)))
theorem good_v_X12_pairOf : v_X12_pairOf.all goodWord = true := ga_c (by decide +kernel) (ga_a (by decide +kernel) (ga_a good_wsX120 rfl))
set_option maxHeartbeats 4000000 in
set_option maxRecDepth 100000 in
theorem q_X12_pairOf (l : Launch) (g : va_G) (cI cJ cB cZ cL : ClassId) (p0 : Int32) (p1 : Int32) (p2 : Int32) (m : Nat) (m_a : Nat → Nat) (m_thrown : Int32) (m_taped : Int32) (m_at : Int32) (m_token : Int32) (m_place : Int32) (m_value : Int32) (m_word : Int64) (m_bad : Int32) (m_badPlace : Int32) (m_fault : Int32) (m_faultPlace : Int32) (m_willing : Int32) (m_will : Int32) (m_forgot : Int32) (m_isDrawn : Int32) (m_x : Int64) (m_begin : Int32) (m_round : Int32) (m_roundCards : Int32) (m_fate : Int32) (m_any : Int64) (m_bothSend : Int64) (m_meanCards : Int64) (m_bestSum : Int32) (m_fitMany : Int32) (m_fitFirst : Int64) (m_fitSecond : Int64) (m_has_c : Nat → Int32) (m_pair_c : Nat → Int32) (sz : Nat) (hv_p0 : ir p0.toInt 0 4) (hv_m_taped : ir m_taped.toInt 0 1600) (hv_m_at : ir m_at.toInt 0 1600) (hv_m_will : ir m_will.toInt 0 1) (hv_m_isDrawn : ir m_isDrawn.toInt 0 1) (ha_m_has_c : hasI m_has_c) (ha_m_pair_c : ar m_pair_c 240 0 15) : Met l yX12_pairOf v_X12_pairOf ({ frames := 0, cells := 0, slots := 0, locals := 0 }) (va_Pc [.ref m, .int p0, .int p1, .int p2] (pRO g (tyT cI cJ cB cZ cL) [(m, .inr (11, mG m_a m_thrown m_taped m_at m_token m_place m_value m_word m_bad m_badPlace m_fault m_faultPlace m_willing m_will m_forgot m_isDrawn m_x m_begin m_round m_roundCards m_fate m_any m_bothSend m_meanCards m_bestSum m_fitMany m_fitFirst m_fitSecond)), ((m_a 17), .inl (cI, 25, .inl m_has_c)), ((m_a 19), .inl (cI, 240, .inl m_pair_c))] sz)) (va_Qi (fun (r : Int32) (u : Unit) => (ir r.toInt (-1) 15)) (fun (_ : Unit) (_ : State) => True) (va_A [] sz)) 0 0 (va_A [] sz) := by
  refine Met.ofW (cc := cX12_pairOf) (maxL := 6) (ret := (some .int)) (by decide) rfl ?_
  intro p e s mth args below meth c s₁ B hml hv
  obtain ⟨rfl, hsz, hP, hK⟩ := hv
  have hx := B.exec
  have hb := B.bytes
  have hr := B.returns
  have hts := atoms_spec (ws := v_X12_pairOf) B.pre
  have hown : s.vm.findClass RX12 = some mth.cls := findClass_of_methodNamed B.named
  have hlocks := B.notSynchronized
  clear B
  subst hsz
  have iX12 : ∀ w ∈ wsX120, w ∈ v_X12_pairOf := (fun _ h => List.mem_cons_of_mem _ (List.mem_append_right _ (List.mem_append_left _ h)))
  generalize hAe : (va_A [] s.heap.size) = A
  have hA : ∀ q : Nat, s.heap.size ≤ q → A q := fun q h => by rw [← hAe]; exact Or.inr h
  have hS : va_S A s.heap s.heap [] := va_S.rf
  have hl := lv_entry ([.ref m, .int p0, .int p1, .int p2]) (n := 6) (Nat.le_of_ble_eq_true rfl)
  rw [lg_entry_eq]
  generalize (lg_sl ([.ref m, .int p0, .int p1, .int p2]) ++ List.replicate (6 - (lg_sl ([.ref m, .int p0, .int p1, .int p2])).length) Slot.unset).toArray = ls at hl ⊢
  generalize ([.ref m, .int p0, .int p1, .int p2] : List Value).toArray = av at hts ⊢
  generalize hQ : MQ below _ av s _ _ A = QQ
  have hl : lv_has ls 6 [(0, .ref m), (1, .int p0), (2, .int p1), (3, .int p2)] := hl
  have hP : va_P g vwCl [(m, .inr (11, mG m_a m_thrown m_taped m_at m_token m_place m_value m_word m_bad m_badPlace m_fault m_faultPlace m_willing m_will m_forgot m_isDrawn m_x m_begin m_round m_roundCards m_fate m_any m_bothSend m_meanCards m_bestSum m_fitMany m_fitFirst m_fitSecond)), ((m_a 17), .inl (cI, 25, .inl m_has_c)), ((m_a 19), .inl (cI, 240, .inl m_pair_c))] s.heap := hP
  refine lv_iconst (v := 0) hx hb dX12_pairOf_0 (by decide) ?_
  refine lv_istore (lv' := [(4, .int 0), (0, .ref m), (1, .int p0), (2, .int p1), (3, .int p2)]) hx hb dX12_pairOf_1 hl (by decide) rfl (fun ls hl => ?_)
  have J3 : ∀ (n3 : Nat) (j3_l4 : Int32) (H : Heap) (locs : List Loc) (ls : Array Slot), (17 - j3_l4.toInt).toNat < n3 → (ir j3_l4.toInt 0 16) → va_P g vwCl [(m, .inr (11, mG m_a m_thrown m_taped m_at m_token m_place m_value m_word m_bad m_badPlace m_fault m_faultPlace m_willing m_will m_forgot m_isDrawn m_x m_begin m_round m_roundCards m_fate m_any m_bothSend m_meanCards m_bestSum m_fitMany m_fitFirst m_fitSecond)), ((m_a 17), .inl (cI, 25, .inl m_has_c)), ((m_a 19), .inl (cI, 240, .inl m_pair_c))] H → va_S A s.heap H locs → lv_has ls 6 [(0, .ref m), (1, .int p0), (2, .int p1), (3, .int p2), (4, .int j3_l4)] → W p l e (headSpec v_X12_pairOf ({ frames := 0, cells := 0, slots := 0, locals := 0 })).room s mth av below meth c H locs 0 0 QQ (F0 mth 3 ls []) := by
    intro n3
    induction n3 with
    | zero => exact fun j3_l4 H locs ls hn => absurd hn (Nat.not_lt_zero _)
    | succ n3 ih3 =>
      intro j3_l4 H locs ls hn3 hj3_l4 hP hS hl
      refine lv_iload hx hb dX12_pairOf_3 (lv_at hl 4 rfl) ?_
      refine lv_aload_n hx hb dX12_pairOf_5 rfl (lv_at hl 0 rfl) ?_
      refine va_get (D := g) (ci := 11) (v := .ref (m_a 17)) (C := RX12) (T := TX12) (N := 56) hx hb hts iX12 hown hK hP 0 rfl rfl 17 (by decide) (hts (.fieldLink RX12 34 "CardsAtYuleModel" "has" "[I") (List.mem_cons_of_mem _ (List.mem_append_left _ (List.mem_of_getElem? (i := 0) rfl)))) (fun _ h9 => h9) rfl dX12_pairOf_6 ?_
      refine lv_iconst (v := 5) hx hb dX12_pairOf_9 (by decide) ?_
      refine lv_iload_n hx hb dX12_pairOf_10 rfl (lv_at hl 1 rfl) ?_
      refine lv_imul hx hb dX12_pairOf_11 ?_
      refine lv_topi (fun y11 e11 => ?_)
      have q11 : y11.toInt = 5 * p0.toInt := by rw [e11]; exact mu_z rfl rfl (ir_c 5) hv_p0 (by decide) (by decide) (by decide)
      have r11 : ir y11.toInt 0 20 := mu_r q11 (ir_c 5) hv_p0 (by decide) (by decide) (by decide) (by decide)
      refine lv_iconst (v := 4) hx hb dX12_pairOf_12 (by decide) ?_
      refine lv_iadd hx hb dX12_pairOf_13 ?_
      refine lv_topi (fun y13 e13 => ?_)
      have q13 : y13.toInt = y11.toInt + 4 := by rw [e13]; exact ad_z rfl rfl r11 (ir_c 4) (by decide) (by decide)
      have r13 : ir y13.toInt 4 24 := ad_r q13 r11 (ir_c 4) (by decide) (by decide)
      refine va_iald (D := g) hx hb hK hP 1 0 rfl rfl (vi_rg rfl r13 (by decide) (by decide)) dX12_pairOf_14 ?_
      refine lv_topi (fun y14 e14 => ?_)
      have r14 : ir y14.toInt 0 16 := by rw [e14]; exact hasI_i4 ha_m_has_c (x := p0) (by omega) (by omega)
      refine lv_icmp_ge (tgt := 86) hx hb dX12_pairOf_15 (by decide) (fun c15 => ?_) (fun c15 => ?_)
      · have f15 := (show y14.toInt ≤ j3_l4.toInt from z_le rfl rfl c15)
        refine lv_iconst (v := (-1)) hx hb dX12_pairOf_86 (by decide) ?_
        subst hQ
        exact W.iret (v := (-1)) hx hb hr (fun t ht hW => ⟨⟨(-1), (), rfl, (show ir ((-1) : Int32).toInt (-1) 15 by decide), trivial⟩, hS.F ht⟩) hS.2.2 dX12_pairOf_87
      have f15 := (show j3_l4.toInt < y14.toInt from z_nle rfl rfl c15)
      have r15a : ir j3_l4.toInt 0 15 := ir_lta f15 hj3_l4 r14 (by decide)
      have r15b : ir y14.toInt 1 16 := ir_ltb f15 hj3_l4 r14 (by decide)
      refine lv_iconst (v := 3) hx hb dX12_pairOf_18 (by decide) ?_
      refine lv_bipush (v := 16) hx hb dX12_pairOf_19 (by decide) ?_
      refine lv_iload_n hx hb dX12_pairOf_21 rfl (lv_at hl 1 rfl) ?_
      refine lv_imul hx hb dX12_pairOf_22 ?_
      refine lv_topi (fun y22 e22 => ?_)
      have q22 : y22.toInt = 16 * p0.toInt := by rw [e22]; exact mu_z rfl rfl (ir_c 16) hv_p0 (by decide) (by decide) (by decide)
      have r22 : ir y22.toInt 0 64 := mu_r q22 (ir_c 16) hv_p0 (by decide) (by decide) (by decide) (by decide)
      refine lv_iload hx hb dX12_pairOf_23 (lv_at hl 4 rfl) ?_
      refine lv_iadd hx hb dX12_pairOf_25 ?_
      refine lv_topi (fun y25 e25 => ?_)
      have q25 : y25.toInt = y22.toInt + j3_l4.toInt := by rw [e25]; exact ad_z rfl rfl r22 r15a (by decide) (by decide)
      have r25 : ir y25.toInt 0 79 := ad_r q25 r22 r15a (by decide) (by decide)
      refine lv_imul hx hb dX12_pairOf_26 ?_
      refine lv_topi (fun y26 e26 => ?_)
      have q26 : y26.toInt = 3 * y25.toInt := by rw [e26]; exact mu_z rfl rfl (ir_c 3) r25 (by decide) (by decide) (by decide)
      have r26 : ir y26.toInt 0 237 := mu_r q26 (ir_c 3) r25 (by decide) (by decide) (by decide) (by decide)
      refine lv_istore (lv' := [(5, .int y26), (0, .ref m), (1, .int p0), (2, .int p1), (3, .int p2), (4, .int j3_l4)]) hx hb dX12_pairOf_27 hl (by decide) rfl (fun ls hl => ?_)
      refine lv_aload_n hx hb dX12_pairOf_29 rfl (lv_at hl 1 rfl) ?_
      refine va_get (D := g) (ci := 11) (v := .ref (m_a 19)) (C := RX12) (T := TX12) (N := 56) hx hb hts iX12 hown hK hP 0 rfl rfl 19 (by decide) (hts (.fieldLink RX12 40 "CardsAtYuleModel" "pair" "[I") (List.mem_cons_of_mem _ (List.mem_append_left _ (List.mem_of_getElem? (i := 1) rfl)))) (fun _ h9 => h9) rfl dX12_pairOf_30 ?_
      refine lv_iload hx hb dX12_pairOf_33 (lv_at hl 0 rfl) ?_
      refine va_iald (D := g) hx hb hK hP 2 0 rfl rfl (vi_rg rfl r26 (by decide) (by decide)) dX12_pairOf_35 ?_
      refine lv_topi (fun y35 e35 => ?_)
      have r35 : ir y35.toInt 0 15 := by rw [e35]; exact ha_m_pair_c _ (vi_cl (vi_rg rfl r26 (by decide) (by decide)))
      refine lv_iload_n hx hb dX12_pairOf_36 rfl (lv_at hl 3 rfl) ?_
      have J53 : ∀  (H : Heap) (locs : List Loc) (ls : Array Slot), va_P g vwCl [(m, .inr (11, mG m_a m_thrown m_taped m_at m_token m_place m_value m_word m_bad m_badPlace m_fault m_faultPlace m_willing m_will m_forgot m_isDrawn m_x m_begin m_round m_roundCards m_fate m_any m_bothSend m_meanCards m_bestSum m_fitMany m_fitFirst m_fitSecond)), ((m_a 17), .inl (cI, 25, .inl m_has_c)), ((m_a 19), .inl (cI, 240, .inl m_pair_c))] H → va_S A s.heap H locs → lv_has ls 6 [(0, .ref m), (1, .int p0), (2, .int p1), (3, .int p2), (4, .int j3_l4), (5, .int y26)] → W p l e (headSpec v_X12_pairOf ({ frames := 0, cells := 0, slots := 0, locals := 0 })).room s mth av below meth c H locs 0 0 QQ (F0 mth 53 ls []) := by
        intro  H locs ls  hP hS hl
        refine lv_aload_n hx hb dX12_pairOf_53 rfl (lv_at hl 0 rfl) ?_
        refine va_get (D := g) (ci := 11) (v := .ref (m_a 19)) (C := RX12) (T := TX12) (N := 56) hx hb hts iX12 hown hK hP 0 rfl rfl 19 (by decide) (hts (.fieldLink RX12 40 "CardsAtYuleModel" "pair" "[I") (List.mem_cons_of_mem _ (List.mem_append_left _ (List.mem_of_getElem? (i := 1) rfl)))) (fun _ h9 => h9) rfl dX12_pairOf_54 ?_
        refine lv_iload hx hb dX12_pairOf_57 (lv_at hl 5 rfl) ?_
        refine va_iald (D := g) hx hb hK hP 2 0 rfl rfl (vi_rg rfl r26 (by decide) (by decide)) dX12_pairOf_59 ?_
        refine lv_topi (fun y59 e59 => ?_)
        have r59 : ir y59.toInt 0 15 := by rw [e59]; exact ha_m_pair_c _ (vi_cl (vi_rg rfl r26 (by decide) (by decide)))
        refine lv_iload_n hx hb dX12_pairOf_60 rfl (lv_at hl 3 rfl) ?_
        have J80 : ∀  (H : Heap) (locs : List Loc) (ls : Array Slot), va_P g vwCl [(m, .inr (11, mG m_a m_thrown m_taped m_at m_token m_place m_value m_word m_bad m_badPlace m_fault m_faultPlace m_willing m_will m_forgot m_isDrawn m_x m_begin m_round m_roundCards m_fate m_any m_bothSend m_meanCards m_bestSum m_fitMany m_fitFirst m_fitSecond)), ((m_a 17), .inl (cI, 25, .inl m_has_c)), ((m_a 19), .inl (cI, 240, .inl m_pair_c))] H → va_S A s.heap H locs → lv_has ls 6 [(0, .ref m), (1, .int p0), (2, .int p1), (3, .int p2), (4, .int j3_l4)] → W p l e (headSpec v_X12_pairOf ({ frames := 0, cells := 0, slots := 0, locals := 0 })).room s mth av below meth c H locs 0 0 QQ (F0 mth 80 ls []) := by
          intro  H locs ls  hP hS hl
          obtain ⟨y80, e80⟩ : ∃ y : Int32, y = j3_l4 + 1 := ⟨_, rfl⟩
          have q80 : y80.toInt = j3_l4.toInt + 1 := by rw [e80]; exact ad_z rfl rfl r15a (ir_c 1) (by decide) (by decide)
          have r80 : ir y80.toInt 1 16 := ad_r q80 r15a (ir_c 1) (by decide) (by decide)
          refine lv_iinc (v := y80) (lv' := [(4, .int y80), (0, .ref m), (1, .int p0), (2, .int p1), (3, .int p2)]) hx hb dX12_pairOf_80 hl (k := 4) rfl e80.symm (by decide) rfl (fun ls hl => ?_)
          refine lv_goto (tgt := 3) hx hb dX12_pairOf_83 (by decide) ?_
          exact ih3 y80 _ _ _ (by omega) (ir_w r80 (by decide) (by decide)) (hP.sub [0, 1, 2] rfl) hS (lv_sub hl [1, 2, 3, 4, 0] rfl)
        refine lv_icmp_ne (tgt := 80) hx hb dX12_pairOf_61 (by decide) (fun c61 => ?_) (fun c61 => ?_)
        · have f61 := (show y59.toInt ≠ p2.toInt from z_ne rfl rfl c61)
          exact J80  _ _ _  (hP.sub [0, 1, 2] rfl) hS (lv_sub hl [0, 1, 2, 3, 4] rfl)
        have f61 := (show y59.toInt = p2.toInt from z_eq rfl rfl c61)
        have r61b : ir p2.toInt 0 15 := ir_eqb f61 r59 (rg_all p2) (by decide) (by decide)
        refine lv_aload_n hx hb dX12_pairOf_64 rfl (lv_at hl 0 rfl) ?_
        refine va_get (D := g) (ci := 11) (v := .ref (m_a 19)) (C := RX12) (T := TX12) (N := 56) hx hb hts iX12 hown hK hP 0 rfl rfl 19 (by decide) (hts (.fieldLink RX12 40 "CardsAtYuleModel" "pair" "[I") (List.mem_cons_of_mem _ (List.mem_append_left _ (List.mem_of_getElem? (i := 1) rfl)))) (fun _ h9 => h9) rfl dX12_pairOf_65 ?_
        refine lv_iload hx hb dX12_pairOf_68 (lv_at hl 5 rfl) ?_
        refine lv_iconst (v := 1) hx hb dX12_pairOf_70 (by decide) ?_
        refine lv_iadd hx hb dX12_pairOf_71 ?_
        refine lv_topi (fun y71 e71 => ?_)
        have q71 : y71.toInt = y26.toInt + 1 := by rw [e71]; exact ad_z rfl rfl r26 (ir_c 1) (by decide) (by decide)
        have r71 : ir y71.toInt 1 238 := ad_r q71 r26 (ir_c 1) (by decide) (by decide)
        refine va_iald (D := g) hx hb hK hP 2 0 rfl rfl (vi_rg rfl r71 (by decide) (by decide)) dX12_pairOf_72 ?_
        refine lv_topi (fun y72 e72 => ?_)
        have r72 : ir y72.toInt 0 15 := by rw [e72]; exact ha_m_pair_c _ (vi_cl (vi_rg rfl r71 (by decide) (by decide)))
        refine lv_iload_n hx hb dX12_pairOf_73 rfl (lv_at hl 2 rfl) ?_
        refine lv_icmp_ne (tgt := 80) hx hb dX12_pairOf_74 (by decide) (fun c74 => ?_) (fun c74 => ?_)
        · have f74 := (show y72.toInt ≠ p1.toInt from z_ne rfl rfl c74)
          exact J80  _ _ _  (hP.sub [0, 1, 2] rfl) hS (lv_sub hl [0, 1, 2, 3, 4] rfl)
        have f74 := (show y72.toInt = p1.toInt from z_eq rfl rfl c74)
        have r74b : ir p1.toInt 0 15 := ir_eqb f74 r72 (rg_all p1) (by decide) (by decide)
        refine lv_iload hx hb dX12_pairOf_77 (lv_at hl 4 rfl) ?_
        subst hQ
        exact W.iret (v := j3_l4) hx hb hr (fun t ht hW => ⟨⟨j3_l4, (), rfl, (ir_w r15a (by decide) (by decide)), trivial⟩, hS.F ht⟩) hS.2.2 dX12_pairOf_79
      refine lv_icmp_ne (tgt := 53) hx hb dX12_pairOf_37 (by decide) (fun c37 => ?_) (fun c37 => ?_)
      · have f37 := (show y35.toInt ≠ p1.toInt from z_ne rfl rfl c37)
        exact J53  _ _ _  (hP.sub [0, 1, 2] rfl) hS (lv_sub hl [1, 2, 3, 4, 5, 0] rfl)
      have f37 := (show y35.toInt = p1.toInt from z_eq rfl rfl c37)
      have r37b : ir p1.toInt 0 15 := ir_eqb f37 r35 (rg_all p1) (by decide) (by decide)
      refine lv_aload_n hx hb dX12_pairOf_40 rfl (lv_at hl 1 rfl) ?_
      refine va_get (D := g) (ci := 11) (v := .ref (m_a 19)) (C := RX12) (T := TX12) (N := 56) hx hb hts iX12 hown hK hP 0 rfl rfl 19 (by decide) (hts (.fieldLink RX12 40 "CardsAtYuleModel" "pair" "[I") (List.mem_cons_of_mem _ (List.mem_append_left _ (List.mem_of_getElem? (i := 1) rfl)))) (fun _ h9 => h9) rfl dX12_pairOf_41 ?_
      refine lv_iload hx hb dX12_pairOf_44 (lv_at hl 0 rfl) ?_
      refine lv_iconst (v := 1) hx hb dX12_pairOf_46 (by decide) ?_
      refine lv_iadd hx hb dX12_pairOf_47 ?_
      refine lv_topi (fun y47 e47 => ?_)
      have q47 : y47.toInt = y26.toInt + 1 := by rw [e47]; exact ad_z rfl rfl r26 (ir_c 1) (by decide) (by decide)
      have r47 : ir y47.toInt 1 238 := ad_r q47 r26 (ir_c 1) (by decide) (by decide)
      refine va_iald (D := g) hx hb hK hP 2 0 rfl rfl (vi_rg rfl r47 (by decide) (by decide)) dX12_pairOf_48 ?_
      refine lv_topi (fun y48 e48 => ?_)
      have r48 : ir y48.toInt 0 15 := by rw [e48]; exact ha_m_pair_c _ (vi_cl (vi_rg rfl r47 (by decide) (by decide)))
      refine lv_iload_n hx hb dX12_pairOf_49 rfl (lv_at hl 4 rfl) ?_
      refine lv_icmp_eq (tgt := 77) hx hb dX12_pairOf_50 (by decide) (fun c50 => ?_) (fun c50 => ?_)
      rotate_left 1
      · have f50 := (show y48.toInt ≠ p2.toInt from z_ne rfl rfl c50)
        exact J53  _ _ _  (hP.sub [0, 1, 2] rfl) hS (lv_sub hl [1, 2, 3, 4, 5, 0] rfl)
      have f50 := (show y48.toInt = p2.toInt from z_eq rfl rfl c50)
      have r50b : ir p2.toInt 0 15 := ir_eqb f50 r48 (rg_all p2) (by decide) (by decide)
      refine lv_iload hx hb dX12_pairOf_77 (lv_at hl 5 rfl) ?_
      subst hQ
      exact W.iret (v := j3_l4) hx hb hr (fun t ht hW => ⟨⟨j3_l4, (), rfl, (ir_w r15a (by decide) (by decide)), trivial⟩, hS.F ht⟩) hS.2.2 dX12_pairOf_79
  exact J3 _ 0 _ _ _ (Nat.lt_succ_self _) (by decide) (hP.sub [0, 1, 2] rfl) hS (lv_sub hl [1, 2, 3, 4, 0] rfl)
def v_X12_pairLine : List Cond := .code yX12_pairLine cX12_pairLine 6 none :: (([.methodLink RX12 189 yX12_hasRead, .instanceMethod yX12_hasRead, .selects RX12 yX12_hasRead yX12_hasRead, .initialized RX12, .methodLink RX12 206 yX12_personHere, .instanceMethod yX12_personHere, .selects RX12 yX12_personHere yX12_personHere, .fieldLink RX12 159 "CardsAtYuleModel" "bad" "I", .constantLong RX12 214 (1166981), .methodLink RX12 195 yX12_number_, .instanceMethod yX12_number_, .selects RX12 yX12_number_ yX12_number_, .fieldLink RX12 40 "CardsAtYuleModel" "pair" "[I", .fieldLink RX12 43 "CardsAtYuleModel" "lost" "[J", .fieldLink RX12 34 "CardsAtYuleModel" "has" "[I", .fieldLink RX12 148 "CardsAtYuleModel" "token" "I", .fieldLink RX12 141 "CardsAtYuleModel" "value" "I", .methodLink RX12 175 yX12_fails, .instanceMethod yX12_fails, .selects RX12 yX12_fails yX12_fails, .methodLink RX12 210 yX12_pairOf, .instanceMethod yX12_pairOf, .selects RX12 yX12_pairOf yX12_pairOf] : List Cond) ++ (v_X12_hasRead4 ++ (v_X12_personHere ++ (v_X12_number_ ++ (v_X12_hasRead3 ++ (v_X12_fails ++ (v_X12_pairOf ++ (wsX120 ++ ([] : List Cond)))))))))
theorem good_v_X12_pairLine : v_X12_pairLine.all goodWord = true := ga_c (by decide +kernel) (ga_a (by decide +kernel) (ga_a good_v_X12_hasRead4 (ga_a good_v_X12_personHere (ga_a good_v_X12_number_ (ga_a good_v_X12_hasRead3 (ga_a good_v_X12_fails (ga_a good_v_X12_pairOf (ga_a good_wsX120 rfl))))))))
set_option maxHeartbeats 4000000 in
set_option maxRecDepth 100000 in
theorem q_X12_pairLine (l : Launch) (g : va_G) (cI cJ cB cZ cL : ClassId) (m : Nat) (m_a : Nat → Nat) (m_thrown : Int32) (m_taped : Int32) (m_at : Int32) (m_token : Int32) (m_place : Int32) (m_value : Int32) (m_word : Int64) (m_bad : Int32) (m_badPlace : Int32) (m_fault : Int32) (m_faultPlace : Int32) (m_willing : Int32) (m_will : Int32) (m_forgot : Int32) (m_isDrawn : Int32) (m_x : Int64) (m_begin : Int32) (m_round : Int32) (m_roundCards : Int32) (m_fate : Int32) (m_any : Int64) (m_bothSend : Int64) (m_meanCards : Int64) (m_bestSum : Int32) (m_fitMany : Int32) (m_fitFirst : Int64) (m_fitSecond : Int64) (m_has_c : Nat → Int32) (m_tape_c : Nat → Int32) (m_pair_c : Nat → Int32) (m_lost_c : Nat → Int64) (sz : Nat) (hv_m_taped : ir m_taped.toInt 0 1600) (hv_m_at : ir m_at.toInt 0 1600) (hv_m_will : ir m_will.toInt 0 1) (hv_m_isDrawn : ir m_isDrawn.toInt 0 1) (ha_m_has_c : hasI m_has_c) (ha_m_pair_c : ar m_pair_c 240 0 15) (ht_0 : ir (m_has_c 24).toInt 0 15) (hx_0 : m_at.toInt ≤ m_taped.toInt) : Met l yX12_pairLine v_X12_pairLine ({ frames := 5, cells := 0, slots := 0, locals := 112 }) (va_Pc [.ref m] (pRW g (tyT cI cJ cB cZ cL) [(m, .inr (11, mG m_a m_thrown m_taped m_at m_token m_place m_value m_word m_bad m_badPlace m_fault m_faultPlace m_willing m_will m_forgot m_isDrawn m_x m_begin m_round m_roundCards m_fate m_any m_bothSend m_meanCards m_bestSum m_fitMany m_fitFirst m_fitSecond)), ((m_a 17), .inl (cI, 25, .inl m_has_c)), ((m_a 5), .inl (cB, 1600, .inl m_tape_c)), ((m_a 19), .inl (cI, 240, .inl m_pair_c)), ((m_a 20), .inl (cJ, 160, .inr (.inl m_lost_c)))] sz)) (va_Qv (fun (u : Int32 × Int32 × Int32 × Int32 × Int64 × Int32 × Int32 × (Nat → Int32) × (Nat → Int32) × (Nat → Int64)) => match u with | (n_m_at, n_m_token, n_m_place, n_m_value, n_m_word, n_m_bad, n_m_badPlace, n_m_has_c, n_m_pair_c, n_m_lost_c) => (ir n_m_at.toInt 0 1600) ∧ (hasI n_m_has_c) ∧ (ar n_m_pair_c 240 0 15) ∧ ((n_m_at.toInt = m_at.toInt ∧ n_m_token.toInt = m_token.toInt) ∨ (m_at.toInt ≤ n_m_at.toInt ∧ n_m_at.toInt ≤ m_taped.toInt ∧ (m_at.toInt < n_m_at.toInt ∨ (n_m_token.toInt = 0 ∧ n_m_at.toInt = m_taped.toInt))))) (fun (u : Int32 × Int32 × Int32 × Int32 × Int64 × Int32 × Int32 × (Nat → Int32) × (Nat → Int32) × (Nat → Int64)) (t : State) => bRW g (tyT cI cJ cB cZ cL) (va_A [(m, .inr (11, mG m_a m_thrown m_taped m_at m_token m_place m_value m_word m_bad m_badPlace m_fault m_faultPlace m_willing m_will m_forgot m_isDrawn m_x m_begin m_round m_roundCards m_fate m_any m_bothSend m_meanCards m_bestSum m_fitMany m_fitFirst m_fitSecond)), ((m_a 17), .inl (cI, 25, .inl m_has_c)), ((m_a 5), .inl (cB, 1600, .inl m_tape_c)), ((m_a 19), .inl (cI, 240, .inl m_pair_c)), ((m_a 20), .inl (cJ, 160, .inr (.inl m_lost_c)))] sz) (match u with | (n_m_at, n_m_token, n_m_place, n_m_value, n_m_word, n_m_bad, n_m_badPlace, n_m_has_c, n_m_pair_c, n_m_lost_c) => [(m, .inr (11, mG m_a m_thrown m_taped n_m_at n_m_token n_m_place n_m_value n_m_word n_m_bad n_m_badPlace m_fault m_faultPlace m_willing m_will m_forgot m_isDrawn m_x m_begin m_round m_roundCards m_fate m_any m_bothSend m_meanCards m_bestSum m_fitMany m_fitFirst m_fitSecond)), ((m_a 17), .inl (cI, 25, .inl n_m_has_c)), ((m_a 5), .inl (cB, 1600, .inl m_tape_c)), ((m_a 19), .inl (cI, 240, .inl n_m_pair_c)), ((m_a 20), .inl (cJ, 160, .inr (.inl n_m_lost_c)))]) t) (va_A [(m, .inr (11, mG m_a m_thrown m_taped m_at m_token m_place m_value m_word m_bad m_badPlace m_fault m_faultPlace m_willing m_will m_forgot m_isDrawn m_x m_begin m_round m_roundCards m_fate m_any m_bothSend m_meanCards m_bestSum m_fitMany m_fitFirst m_fitSecond)), ((m_a 17), .inl (cI, 25, .inl m_has_c)), ((m_a 5), .inl (cB, 1600, .inl m_tape_c)), ((m_a 19), .inl (cI, 240, .inl m_pair_c)), ((m_a 20), .inl (cJ, 160, .inr (.inl m_lost_c)))] sz)) 0 0 (va_A [(m, .inr (11, mG m_a m_thrown m_taped m_at m_token m_place m_value m_word m_bad m_badPlace m_fault m_faultPlace m_willing m_will m_forgot m_isDrawn m_x m_begin m_round m_roundCards m_fate m_any m_bothSend m_meanCards m_bestSum m_fitMany m_fitFirst m_fitSecond)), ((m_a 17), .inl (cI, 25, .inl m_has_c)), ((m_a 5), .inl (cB, 1600, .inl m_tape_c)), ((m_a 19), .inl (cI, 240, .inl m_pair_c)), ((m_a 20), .inl (cJ, 160, .inr (.inl m_lost_c)))] sz) := by
  refine Met.ofW (cc := cX12_pairLine) (maxL := 6) (ret := none) (by decide) rfl ?_
  intro p e s mth args below meth c s₁ B hml hv
  obtain ⟨rfl, hsz, hP, hK, hD0⟩ := hv
  have hx := B.exec
  have hb := B.bytes
  have hr := B.returns
  have hts := atoms_spec (ws := v_X12_pairLine) B.pre
  have hown : s.vm.findClass RX12 = some mth.cls := findClass_of_methodNamed B.named
  have hlocks := B.notSynchronized
  clear B
  subst hsz
  have iX12 : ∀ w ∈ wsX120, w ∈ v_X12_pairLine := (fun _ h => List.mem_cons_of_mem _ (List.mem_append_right _ (List.mem_append_right _ (List.mem_append_right _ (List.mem_append_right _ (List.mem_append_right _ (List.mem_append_right _ (List.mem_append_right _ (List.mem_append_left _ h)))))))))
  have hD := hD0.self (sz := s.heap.size)
  generalize hAe : (va_A [(m, .inr (11, mG m_a m_thrown m_taped m_at m_token m_place m_value m_word m_bad m_badPlace m_fault m_faultPlace m_willing m_will m_forgot m_isDrawn m_x m_begin m_round m_roundCards m_fate m_any m_bothSend m_meanCards m_bestSum m_fitMany m_fitFirst m_fitSecond)), ((m_a 17), .inl (cI, 25, .inl m_has_c)), ((m_a 5), .inl (cB, 1600, .inl m_tape_c)), ((m_a 19), .inl (cI, 240, .inl m_pair_c)), ((m_a 20), .inl (cJ, 160, .inr (.inl m_lost_c)))] s.heap.size) = A at hD ⊢
  have hA : ∀ q : Nat, s.heap.size ≤ q → A q := fun q h => by rw [← hAe]; exact Or.inr h
  have hS : va_S A s.heap s.heap [] := va_S.rf
  have hl := lv_entry ([.ref m]) (n := 6) (Nat.le_of_ble_eq_true rfl)
  rw [lg_entry_eq]
  generalize (lg_sl ([.ref m]) ++ List.replicate (6 - (lg_sl ([.ref m])).length) Slot.unset).toArray = ls at hl ⊢
  generalize ([.ref m] : List Value).toArray = av at hts ⊢
  generalize hQ : MQ below _ av s _ _ A = QQ
  have hl : lv_has ls 6 [(0, .ref m)] := hl
  have hP : va_P g vwCl [(m, .inr (11, mG m_a m_thrown m_taped m_at m_token m_place m_value m_word m_bad m_badPlace m_fault m_faultPlace m_willing m_will m_forgot m_isDrawn m_x m_begin m_round m_roundCards m_fate m_any m_bothSend m_meanCards m_bestSum m_fitMany m_fitFirst m_fitSecond)), ((m_a 17), .inl (cI, 25, .inl m_has_c)), ((m_a 5), .inl (cB, 1600, .inl m_tape_c)), ((m_a 19), .inl (cI, 240, .inl m_pair_c)), ((m_a 20), .inl (cJ, 160, .inr (.inl m_lost_c)))] s.heap := hP
  refine lv_aload_n hx hb dX12_pairLine_0 rfl (lv_at hl 0 rfl) ?_
  refine lv_iconst (v := 4) hx hb dX12_pairLine_1 (by decide) ?_
  refine ro_i (va_runV (As := [.int 4]) (rest := []) ⟨hx, hb, hml, hown, hts⟩ (q_X12_hasRead4 l g cI cJ cB cZ cL m m_a m_thrown m_taped m_at m_token m_place m_value m_word m_bad m_badPlace m_fault m_faultPlace m_willing m_will m_forgot m_isDrawn m_x m_begin m_round m_roundCards m_fate m_any m_bothSend m_meanCards m_bestSum m_fitMany m_fitFirst m_fitSecond m_has_c s.heap.size hv_m_taped hv_m_at hv_m_will hv_m_isDrawn ha_m_has_c) (cwV 1 hts (goodIn_app (g_4 (List.mem_cons_of_mem _ (List.mem_append_left _ (List.mem_of_getElem? (i := 0) rfl))) (List.mem_cons_of_mem _ (List.mem_append_left _ (List.mem_of_getElem? (i := 1) rfl))) (List.mem_cons_of_mem _ (List.mem_append_left _ (List.mem_of_getElem? (i := 2) rfl))) (List.mem_cons_of_mem _ (List.mem_append_left _ (List.mem_of_getElem? (i := 3) rfl))) (by decide +kernel)) (goodIn_sub (fun _ h => List.mem_cons_of_mem _ (List.mem_append_right _ (List.mem_append_left _ h))) good_v_X12_hasRead4)) rfl rfl rfl (by decide +kernel) ⟨Nat.le_of_ble_eq_true rfl, Nat.le_of_ble_eq_true rfl⟩) (pv_RO (q := (RX12, TX12, 56)) (ci := 11) (q0 := 0) (wc := [(m, .inr (11, mG m_a m_thrown m_taped m_at m_token m_place m_value m_word m_bad m_badPlace m_fault m_faultPlace m_willing m_will m_forgot m_isDrawn m_x m_begin m_round m_roundCards m_fate m_any m_bothSend m_meanCards m_bestSum m_fitMany m_fitFirst m_fitSecond)), ((m_a 17), .inl (cI, 25, .inl m_has_c))]) hK hP [0, 1] rfl rfl rfl) rfl rfl hl.1 rfl (lv_room (Nat.le_of_ble_eq_true rfl)) dX12_pairLine_2 ⟨Nat.le_of_ble_eq_true rfl, Nat.le_of_ble_eq_true rfl⟩) hS hA hP (fun r2 u2 H locs hw2 hP hS => ?_)
  have hw2_0 := hw2
  subst hw2_0
  refine lv_istore_n (lv' := [(1, .int (m_has_c 24)), (0, .ref m)]) hx hb dX12_pairLine_5 rfl hl (by decide) rfl (fun ls hl => ?_)
  refine lv_iconst (v := 3) hx hb dX12_pairLine_6 (by decide) ?_
  refine lv_bipush (v := 64) hx hb dX12_pairLine_7 (by decide) ?_
  refine lv_iload_n hx hb dX12_pairLine_9 rfl (lv_at hl 0 rfl) ?_
  refine lv_iadd hx hb dX12_pairLine_10 ?_
  refine lv_topi (fun y10 e10 => ?_)
  have q10 : y10.toInt = 64 + (m_has_c 24).toInt := by rw [e10]; exact ad_z rfl rfl (ir_c 64) ht_0 (by decide) (by decide)
  have r10 : ir y10.toInt 64 79 := ad_r q10 (ir_c 64) ht_0 (by decide) (by decide)
  refine lv_imul hx hb dX12_pairLine_11 ?_
  refine lv_topi (fun y11 e11 => ?_)
  have q11 : y11.toInt = 3 * y10.toInt := by rw [e11]; exact mu_z rfl rfl (ir_c 3) r10 (by decide) (by decide) (by decide)
  have r11 : ir y11.toInt 192 237 := mu_r q11 (ir_c 3) r10 (by decide) (by decide) (by decide) (by decide)
  refine lv_istore_n (lv' := [(2, .int y11), (1, .int (m_has_c 24)), (0, .ref m)]) hx hb dX12_pairLine_12 rfl hl (by decide) rfl (fun ls hl => ?_)
  refine lv_aload_n hx hb dX12_pairLine_13 rfl (lv_at hl 2 rfl) ?_
  refine rw_i (wr := [((m_a 19), .inl (cI, 240, .inl m_pair_c)), ((m_a 20), .inl (cJ, 160, .inr (.inl m_lost_c)))]) (va_runV (As := []) (rest := []) ⟨hx, hb, hml, hown, hts⟩ (q_X12_personHere l g cI cJ cB cZ cL m m_a m_thrown m_taped m_at m_token m_place m_value m_word m_bad m_badPlace m_fault m_faultPlace m_willing m_will m_forgot m_isDrawn m_x m_begin m_round m_roundCards m_fate m_any m_bothSend m_meanCards m_bestSum m_fitMany m_fitFirst m_fitSecond m_has_c m_tape_c H.size hv_m_taped hv_m_at hv_m_will hv_m_isDrawn ha_m_has_c (by omega)) (cwV 0 hts (goodIn_app (g_4 (List.mem_cons_of_mem _ (List.mem_append_left _ (List.mem_of_getElem? (i := 4) rfl))) (List.mem_cons_of_mem _ (List.mem_append_left _ (List.mem_of_getElem? (i := 5) rfl))) (List.mem_cons_of_mem _ (List.mem_append_left _ (List.mem_of_getElem? (i := 6) rfl))) (List.mem_cons_of_mem _ (List.mem_append_left _ (List.mem_of_getElem? (i := 3) rfl))) (by decide +kernel)) (goodIn_sub (fun _ h => List.mem_cons_of_mem _ (List.mem_append_right _ (List.mem_append_right _ (List.mem_append_left _ h)))) good_v_X12_personHere)) rfl rfl rfl (by decide +kernel) ⟨Nat.le_of_ble_eq_true rfl, Nat.le_of_ble_eq_true rfl⟩) (pv_RW (q := (RX12, TX12, 56)) (ci := 11) (q0 := 0) (wc := [(m, .inr (11, mG m_a m_thrown m_taped m_at m_token m_place m_value m_word m_bad m_badPlace m_fault m_faultPlace m_willing m_will m_forgot m_isDrawn m_x m_begin m_round m_roundCards m_fate m_any m_bothSend m_meanCards m_bestSum m_fitMany m_fitFirst m_fitSecond)), ((m_a 17), .inl (cI, 25, .inl m_has_c)), ((m_a 5), .inl (cB, 1600, .inl m_tape_c))]) hK hP hD [0, 1, 2] (by decide) rfl rfl rfl) rfl rfl hl.1 rfl (lv_room (Nat.le_of_ble_eq_true rfl)) dX12_pairLine_14 ⟨Nat.le_of_ble_eq_true rfl, Nat.le_of_ble_eq_true rfl⟩) hS hA hP hD [0, 1, 2] [3, 4] rfl rfl (by decide) (by decide) (fun r14 u14 H locs hw14 hP hD hS => ?_)
  obtain ⟨n_m_at_14, n_m_token_14, n_m_place_14, n_m_value_14, n_m_word_14, n_m_bad_14, n_m_badPlace_14⟩ := u14
  have hP : va_P g vwCl [((m_a 19), .inl (cI, 240, .inl m_pair_c)), ((m_a 20), .inl (cJ, 160, .inr (.inl m_lost_c))), (m, .inr (11, mG m_a m_thrown m_taped n_m_at_14 n_m_token_14 n_m_place_14 n_m_value_14 n_m_word_14 n_m_bad_14 n_m_badPlace_14 m_fault m_faultPlace m_willing m_will m_forgot m_isDrawn m_x m_begin m_round m_roundCards m_fate m_any m_bothSend m_meanCards m_bestSum m_fitMany m_fitFirst m_fitSecond)), ((m_a 17), .inl (cI, 25, .inl m_has_c)), ((m_a 5), .inl (cB, 1600, .inl m_tape_c))] H := hP
  have hD : va_D A [((m_a 19), .inl (cI, 240, .inl m_pair_c)), ((m_a 20), .inl (cJ, 160, .inr (.inl m_lost_c))), (m, .inr (11, mG m_a m_thrown m_taped n_m_at_14 n_m_token_14 n_m_place_14 n_m_value_14 n_m_word_14 n_m_bad_14 n_m_badPlace_14 m_fault m_faultPlace m_willing m_will m_forgot m_isDrawn m_x m_begin m_round m_roundCards m_fate m_any m_bothSend m_meanCards m_bestSum m_fitMany m_fitFirst m_fitSecond)), ((m_a 17), .inl (cI, 25, .inl m_has_c)), ((m_a 5), .inl (cB, 1600, .inl m_tape_c))] := hD
  dsimp only at hw14
  obtain ⟨hw14_0, hw14_1, hw14_2⟩ := hw14
  have hw14_1 : (n_m_at_14.toInt = m_at.toInt ∧ n_m_token_14.toInt = m_token.toInt) ∨ (m_at.toInt ≤ n_m_at_14.toInt ∧ n_m_at_14.toInt ≤ m_taped.toInt ∧ (m_at.toInt < n_m_at_14.toInt ∨ (n_m_token_14.toInt = 0 ∧ n_m_at_14.toInt = m_taped.toInt))) := hw14_1
  refine lv_istore_n (lv' := [(3, .int r14), (2, .int y11), (1, .int (m_has_c 24)), (0, .ref m)]) hx hb dX12_pairLine_17 rfl hl (by decide) rfl (fun ls hl => ?_)
  refine lv_aload_n hx hb dX12_pairLine_18 rfl (lv_at hl 3 rfl) ?_
  refine va_get (D := g) (ci := 11) (v := .int n_m_bad_14) (C := RX12) (T := TX12) (N := 56) hx hb hts iX12 hown hK hP 2 rfl rfl 12 (by decide) (hts (.fieldLink RX12 159 "CardsAtYuleModel" "bad" "I") (List.mem_cons_of_mem _ (List.mem_append_left _ (List.mem_of_getElem? (i := 7) rfl)))) (fun _ h9 => h9) rfl dX12_pairLine_19 ?_
  have J72 : ∀ (j72_m_bad : Int32) (j72_m_badPlace : Int32) (H : Heap) (locs : List Loc) (ls : Array Slot), ((n_m_at_14.toInt = m_at.toInt ∧ n_m_token_14.toInt = m_token.toInt) ∨ (m_at.toInt ≤ n_m_at_14.toInt ∧ n_m_at_14.toInt ≤ m_taped.toInt ∧ (m_at.toInt < n_m_at_14.toInt ∨ (n_m_token_14.toInt = 0 ∧ n_m_at_14.toInt = m_taped.toInt)))) → va_P g vwCl [((m_a 19), .inl (cI, 240, .inl m_pair_c)), ((m_a 20), .inl (cJ, 160, .inr (.inl m_lost_c))), (m, .inr (11, mG m_a m_thrown m_taped n_m_at_14 n_m_token_14 n_m_place_14 n_m_value_14 n_m_word_14 j72_m_bad j72_m_badPlace m_fault m_faultPlace m_willing m_will m_forgot m_isDrawn m_x m_begin m_round m_roundCards m_fate m_any m_bothSend m_meanCards m_bestSum m_fitMany m_fitFirst m_fitSecond)), ((m_a 17), .inl (cI, 25, .inl m_has_c)), ((m_a 5), .inl (cB, 1600, .inl m_tape_c))] H → va_D A [((m_a 19), .inl (cI, 240, .inl m_pair_c)), ((m_a 20), .inl (cJ, 160, .inr (.inl m_lost_c))), (m, .inr (11, mG m_a m_thrown m_taped n_m_at_14 n_m_token_14 n_m_place_14 n_m_value_14 n_m_word_14 j72_m_bad j72_m_badPlace m_fault m_faultPlace m_willing m_will m_forgot m_isDrawn m_x m_begin m_round m_roundCards m_fate m_any m_bothSend m_meanCards m_bestSum m_fitMany m_fitFirst m_fitSecond)), ((m_a 17), .inl (cI, 25, .inl m_has_c)), ((m_a 5), .inl (cB, 1600, .inl m_tape_c))] → va_S A s.heap H locs → lv_has ls 6 [(0, .ref m), (1, .int (m_has_c 24)), (2, .int y11), (3, .int r14)] → W p l e (headSpec v_X12_pairLine ({ frames := 5, cells := 0, slots := 0, locals := 112 })).room s mth av below meth c H locs 0 0 QQ (F0 mth 72 ls []) := by
    intro j72_m_bad j72_m_badPlace H locs ls hi72_0 hP hD hS hl
    refine lv_aload_n hx hb dX12_pairLine_72 rfl (lv_at hl 0 rfl) ?_
    refine rw_i (wr := [((m_a 19), .inl (cI, 240, .inl m_pair_c)), ((m_a 20), .inl (cJ, 160, .inr (.inl m_lost_c)))]) (va_runV (As := []) (rest := []) ⟨hx, hb, hml, hown, hts⟩ (q_X12_personHere l g cI cJ cB cZ cL m m_a m_thrown m_taped n_m_at_14 n_m_token_14 n_m_place_14 n_m_value_14 n_m_word_14 j72_m_bad j72_m_badPlace m_fault m_faultPlace m_willing m_will m_forgot m_isDrawn m_x m_begin m_round m_roundCards m_fate m_any m_bothSend m_meanCards m_bestSum m_fitMany m_fitFirst m_fitSecond m_has_c m_tape_c H.size hv_m_taped hw14_0 hv_m_will hv_m_isDrawn ha_m_has_c (by omega)) (cwV 0 hts (goodIn_app (g_4 (List.mem_cons_of_mem _ (List.mem_append_left _ (List.mem_of_getElem? (i := 4) rfl))) (List.mem_cons_of_mem _ (List.mem_append_left _ (List.mem_of_getElem? (i := 5) rfl))) (List.mem_cons_of_mem _ (List.mem_append_left _ (List.mem_of_getElem? (i := 6) rfl))) (List.mem_cons_of_mem _ (List.mem_append_left _ (List.mem_of_getElem? (i := 3) rfl))) (by decide +kernel)) (goodIn_sub (fun _ h => List.mem_cons_of_mem _ (List.mem_append_right _ (List.mem_append_right _ (List.mem_append_left _ h)))) good_v_X12_personHere)) rfl rfl rfl (by decide +kernel) ⟨Nat.le_of_ble_eq_true rfl, Nat.le_of_ble_eq_true rfl⟩) (pv_RW (q := (RX12, TX12, 56)) (ci := 11) (q0 := 0) (wc := [(m, .inr (11, mG m_a m_thrown m_taped n_m_at_14 n_m_token_14 n_m_place_14 n_m_value_14 n_m_word_14 j72_m_bad j72_m_badPlace m_fault m_faultPlace m_willing m_will m_forgot m_isDrawn m_x m_begin m_round m_roundCards m_fate m_any m_bothSend m_meanCards m_bestSum m_fitMany m_fitFirst m_fitSecond)), ((m_a 17), .inl (cI, 25, .inl m_has_c)), ((m_a 5), .inl (cB, 1600, .inl m_tape_c))]) hK hP hD [2, 3, 4] (by decide) rfl rfl rfl) rfl rfl hl.1 rfl (lv_room (Nat.le_of_ble_eq_true rfl)) dX12_pairLine_73 ⟨Nat.le_of_ble_eq_true rfl, Nat.le_of_ble_eq_true rfl⟩) hS hA hP hD [2, 3, 4] [0, 1] rfl rfl (by decide) (by decide) (fun r73 u73 H locs hw73 hP hD hS => ?_)
    obtain ⟨n_m_at_73, n_m_token_73, n_m_place_73, n_m_value_73, n_m_word_73, n_m_bad_73, n_m_badPlace_73⟩ := u73
    have hP : va_P g vwCl [((m_a 19), .inl (cI, 240, .inl m_pair_c)), ((m_a 20), .inl (cJ, 160, .inr (.inl m_lost_c))), (m, .inr (11, mG m_a m_thrown m_taped n_m_at_73 n_m_token_73 n_m_place_73 n_m_value_73 n_m_word_73 n_m_bad_73 n_m_badPlace_73 m_fault m_faultPlace m_willing m_will m_forgot m_isDrawn m_x m_begin m_round m_roundCards m_fate m_any m_bothSend m_meanCards m_bestSum m_fitMany m_fitFirst m_fitSecond)), ((m_a 17), .inl (cI, 25, .inl m_has_c)), ((m_a 5), .inl (cB, 1600, .inl m_tape_c))] H := hP
    have hD : va_D A [((m_a 19), .inl (cI, 240, .inl m_pair_c)), ((m_a 20), .inl (cJ, 160, .inr (.inl m_lost_c))), (m, .inr (11, mG m_a m_thrown m_taped n_m_at_73 n_m_token_73 n_m_place_73 n_m_value_73 n_m_word_73 n_m_bad_73 n_m_badPlace_73 m_fault m_faultPlace m_willing m_will m_forgot m_isDrawn m_x m_begin m_round m_roundCards m_fate m_any m_bothSend m_meanCards m_bestSum m_fitMany m_fitFirst m_fitSecond)), ((m_a 17), .inl (cI, 25, .inl m_has_c)), ((m_a 5), .inl (cB, 1600, .inl m_tape_c))] := hD
    dsimp only at hw73
    obtain ⟨hw73_0, hw73_1, hw73_2⟩ := hw73
    have hw73_1 : (n_m_at_73.toInt = n_m_at_14.toInt ∧ n_m_token_73.toInt = n_m_token_14.toInt) ∨ (n_m_at_14.toInt ≤ n_m_at_73.toInt ∧ n_m_at_73.toInt ≤ m_taped.toInt ∧ (n_m_at_14.toInt < n_m_at_73.toInt ∨ (n_m_token_73.toInt = 0 ∧ n_m_at_73.toInt = m_taped.toInt))) := hw73_1
    refine lv_istore (lv' := [(4, .int r73), (0, .ref m), (1, .int (m_has_c 24)), (2, .int y11), (3, .int r14)]) hx hb dX12_pairLine_76 hl (by decide) rfl (fun ls hl => ?_)
    refine lv_aload_n hx hb dX12_pairLine_78 rfl (lv_at hl 1 rfl) ?_
    refine lv_ldc2 (v := 1166981) hx hb hown (hts (.constantLong RX12 214 (1166981)) (List.mem_cons_of_mem _ (List.mem_append_left _ (List.mem_of_getElem? (i := 8) rfl)))) dX12_pairLine_79 ?_
    refine lv_iconst (v := 0) hx hb dX12_pairLine_82 (by decide) ?_
    refine lv_bipush (v := 15) hx hb dX12_pairLine_83 (by decide) ?_
    refine rw_i (wr := [((m_a 19), .inl (cI, 240, .inl m_pair_c)), ((m_a 20), .inl (cJ, 160, .inr (.inl m_lost_c))), ((m_a 17), .inl (cI, 25, .inl m_has_c))]) (va_runV (As := [.long 1166981, .int 0, .int 15]) (rest := []) ⟨hx, hb, hml, hown, hts⟩ (q_X12_number_ l g cI cJ cB cZ cL 1166981 0 15 m m_a m_thrown m_taped n_m_at_73 n_m_token_73 n_m_place_73 n_m_value_73 n_m_word_73 n_m_bad_73 n_m_badPlace_73 m_fault m_faultPlace m_willing m_will m_forgot m_isDrawn m_x m_begin m_round m_roundCards m_fate m_any m_bothSend m_meanCards m_bestSum m_fitMany m_fitFirst m_fitSecond m_tape_c H.size hv_m_taped hw73_0 hv_m_will hv_m_isDrawn (by omega)) (cwV 3 hts (goodIn_app (g_4 (List.mem_cons_of_mem _ (List.mem_append_left _ (List.mem_of_getElem? (i := 9) rfl))) (List.mem_cons_of_mem _ (List.mem_append_left _ (List.mem_of_getElem? (i := 10) rfl))) (List.mem_cons_of_mem _ (List.mem_append_left _ (List.mem_of_getElem? (i := 11) rfl))) (List.mem_cons_of_mem _ (List.mem_append_left _ (List.mem_of_getElem? (i := 3) rfl))) (by decide +kernel)) (goodIn_sub (fun _ h => List.mem_cons_of_mem _ (List.mem_append_right _ (List.mem_append_right _ (List.mem_append_right _ (List.mem_append_left _ h))))) good_v_X12_number_)) rfl rfl rfl (by decide +kernel) ⟨Nat.le_of_ble_eq_true rfl, Nat.le_of_ble_eq_true rfl⟩) (pv_RW (q := (RX12, TX12, 56)) (ci := 11) (q0 := 0) (wc := [(m, .inr (11, mG m_a m_thrown m_taped n_m_at_73 n_m_token_73 n_m_place_73 n_m_value_73 n_m_word_73 n_m_bad_73 n_m_badPlace_73 m_fault m_faultPlace m_willing m_will m_forgot m_isDrawn m_x m_begin m_round m_roundCards m_fate m_any m_bothSend m_meanCards m_bestSum m_fitMany m_fitFirst m_fitSecond)), ((m_a 5), .inl (cB, 1600, .inl m_tape_c))]) hK hP hD [2, 4] (by decide) rfl rfl rfl) rfl rfl hl.1 rfl (lv_room (Nat.le_of_ble_eq_true rfl)) dX12_pairLine_85 ⟨Nat.le_of_ble_eq_true rfl, Nat.le_of_ble_eq_true rfl⟩) hS hA hP hD [2, 4] [0, 1, 3] rfl rfl (by decide) (by decide) (fun r85 u85 H locs hw85 hP hD hS => ?_)
    obtain ⟨n_m_at_85, n_m_token_85, n_m_place_85, n_m_value_85, n_m_word_85, n_m_bad_85, n_m_badPlace_85⟩ := u85
    have hP : va_P g vwCl [((m_a 19), .inl (cI, 240, .inl m_pair_c)), ((m_a 20), .inl (cJ, 160, .inr (.inl m_lost_c))), ((m_a 17), .inl (cI, 25, .inl m_has_c)), (m, .inr (11, mG m_a m_thrown m_taped n_m_at_85 n_m_token_85 n_m_place_85 n_m_value_85 n_m_word_85 n_m_bad_85 n_m_badPlace_85 m_fault m_faultPlace m_willing m_will m_forgot m_isDrawn m_x m_begin m_round m_roundCards m_fate m_any m_bothSend m_meanCards m_bestSum m_fitMany m_fitFirst m_fitSecond)), ((m_a 5), .inl (cB, 1600, .inl m_tape_c))] H := hP
    have hD : va_D A [((m_a 19), .inl (cI, 240, .inl m_pair_c)), ((m_a 20), .inl (cJ, 160, .inr (.inl m_lost_c))), ((m_a 17), .inl (cI, 25, .inl m_has_c)), (m, .inr (11, mG m_a m_thrown m_taped n_m_at_85 n_m_token_85 n_m_place_85 n_m_value_85 n_m_word_85 n_m_bad_85 n_m_badPlace_85 m_fault m_faultPlace m_willing m_will m_forgot m_isDrawn m_x m_begin m_round m_roundCards m_fate m_any m_bothSend m_meanCards m_bestSum m_fitMany m_fitFirst m_fitSecond)), ((m_a 5), .inl (cB, 1600, .inl m_tape_c))] := hD
    dsimp only at hw85
    obtain ⟨hw85_0, hw85_1, hw85_2⟩ := hw85
    have hw85_1 : (n_m_at_85.toInt = n_m_at_73.toInt ∧ n_m_token_85.toInt = n_m_token_73.toInt) ∨ (n_m_at_73.toInt ≤ n_m_at_85.toInt ∧ n_m_at_85.toInt ≤ m_taped.toInt ∧ (n_m_at_73.toInt < n_m_at_85.toInt ∨ (n_m_token_85.toInt = 0 ∧ n_m_at_85.toInt = m_taped.toInt))) := hw85_1
    have hw85_2 : r85.toInt = 0 ∨ (0 ≤ r85.toInt ∧ r85.toInt ≤ 15) := hw85_2
    have rc85 : ir r85.toInt 0 15 := by omega
    refine lv_istore (lv' := [(5, .int r85), (4, .int r73), (0, .ref m), (1, .int (m_has_c 24)), (2, .int y11), (3, .int r14)]) hx hb dX12_pairLine_88 hl (by decide) rfl (fun ls hl => ?_)
    refine lv_aload_n hx hb dX12_pairLine_90 rfl (lv_at hl 2 rfl) ?_
    refine va_get (D := g) (ci := 11) (v := .int n_m_bad_85) (C := RX12) (T := TX12) (N := 56) hx hb hts iX12 hown hK hP 3 rfl rfl 12 (by decide) (hts (.fieldLink RX12 159 "CardsAtYuleModel" "bad" "I") (List.mem_cons_of_mem _ (List.mem_append_left _ (List.mem_of_getElem? (i := 7) rfl)))) (fun _ h9 => h9) rfl dX12_pairLine_91 ?_
    refine lv_if_eq (tgt := 98) hx hb dX12_pairLine_94 (by decide) (fun c94 => ?_) (fun c94 => ?_)
    rotate_left 1
    · have f94 := (show n_m_bad_85.toInt ≠ 0 from z_ne rfl rfl c94)
      subst hQ
      have hP9 := hP.sub (ws' := [(m, .inr (11, mG m_a m_thrown m_taped n_m_at_85 n_m_token_85 n_m_place_85 n_m_value_85 n_m_word_85 n_m_bad_85 n_m_badPlace_85 m_fault m_faultPlace m_willing m_will m_forgot m_isDrawn m_x m_begin m_round m_roundCards m_fate m_any m_bothSend m_meanCards m_bestSum m_fitMany m_fitFirst m_fitSecond)), ((m_a 17), .inl (cI, 25, .inl m_has_c)), ((m_a 5), .inl (cB, 1600, .inl m_tape_c)), ((m_a 19), .inl (cI, 240, .inl m_pair_c)), ((m_a 20), .inl (cJ, 160, .inr (.inl m_lost_c)))]) [3, 2, 4, 0, 1] rfl
      have hD9 := hD.sub (ws' := [(m, .inr (11, mG m_a m_thrown m_taped n_m_at_85 n_m_token_85 n_m_place_85 n_m_value_85 n_m_word_85 n_m_bad_85 n_m_badPlace_85 m_fault m_faultPlace m_willing m_will m_forgot m_isDrawn m_x m_begin m_round m_roundCards m_fate m_any m_bothSend m_meanCards m_bestSum m_fitMany m_fitFirst m_fitSecond)), ((m_a 17), .inl (cI, 25, .inl m_has_c)), ((m_a 5), .inl (cB, 1600, .inl m_tape_c)), ((m_a 19), .inl (cI, 240, .inl m_pair_c)), ((m_a 20), .inl (cJ, 160, .inr (.inl m_lost_c)))]) [3, 2, 4, 0, 1] (by decide) rfl
      exact W.vret hx hb hr (fun t ht hW => ⟨⟨(n_m_at_85, n_m_token_85, n_m_place_85, n_m_value_85, n_m_word_85, n_m_bad_85, n_m_badPlace_85, m_has_c, m_pair_c, m_lost_c), rfl, ⟨hw85_0, ha_m_has_c, ha_m_pair_c, (by omega)⟩, ⟨by rw [ht]; exact hP9, va_K.moved hW.alike hK, hD9⟩⟩, hS.F ht⟩) hS.2.2 dX12_pairLine_97
    have f94 := (show n_m_bad_85.toInt = 0 from z_eq rfl rfl c94)
    have r94a : ir n_m_bad_85.toInt 0 0 := ir_eqa f94 (rg_all n_m_bad_85) (ir_c 0) (by decide) (by decide)
    refine lv_aload_n hx hb dX12_pairLine_98 rfl (lv_at hl 2 rfl) ?_
    refine va_get (D := g) (ci := 11) (v := .ref (m_a 19)) (C := RX12) (T := TX12) (N := 56) hx hb hts iX12 hown hK hP 3 rfl rfl 19 (by decide) (hts (.fieldLink RX12 40 "CardsAtYuleModel" "pair" "[I") (List.mem_cons_of_mem _ (List.mem_append_left _ (List.mem_of_getElem? (i := 12) rfl)))) (fun _ h9 => h9) rfl dX12_pairLine_99 ?_
    refine lv_iload_n hx hb dX12_pairLine_102 rfl (lv_at hl 4 rfl) ?_
    refine lv_iload_n hx hb dX12_pairLine_103 rfl (lv_at hl 5 rfl) ?_
    refine va_iast (D := g) hx hb hK hP hD hS 0 0 rfl rfl (vi_rg rfl r11 (by decide) (by decide)) dX12_pairLine_104 (fun H locs hP hD hS => ?_)
    obtain ⟨g104, e104⟩ : ∃ z, z = upd m_pair_c y11.toNatClampNeg r14 := ⟨_, rfl⟩
    have hP : va_P g vwCl [((m_a 19), .inl (cI, 240, .inl (upd m_pair_c y11.toNatClampNeg r14))), ((m_a 20), .inl (cJ, 160, .inr (.inl m_lost_c))), ((m_a 17), .inl (cI, 25, .inl m_has_c)), (m, .inr (11, mG m_a m_thrown m_taped n_m_at_85 n_m_token_85 n_m_place_85 n_m_value_85 n_m_word_85 n_m_bad_85 n_m_badPlace_85 m_fault m_faultPlace m_willing m_will m_forgot m_isDrawn m_x m_begin m_round m_roundCards m_fate m_any m_bothSend m_meanCards m_bestSum m_fitMany m_fitFirst m_fitSecond)), ((m_a 5), .inl (cB, 1600, .inl m_tape_c))] H := hP
    have hD : va_D A [((m_a 19), .inl (cI, 240, .inl (upd m_pair_c y11.toNatClampNeg r14))), ((m_a 20), .inl (cJ, 160, .inr (.inl m_lost_c))), ((m_a 17), .inl (cI, 25, .inl m_has_c)), (m, .inr (11, mG m_a m_thrown m_taped n_m_at_85 n_m_token_85 n_m_place_85 n_m_value_85 n_m_word_85 n_m_bad_85 n_m_badPlace_85 m_fault m_faultPlace m_willing m_will m_forgot m_isDrawn m_x m_begin m_round m_roundCards m_fate m_any m_bothSend m_meanCards m_bestSum m_fitMany m_fitFirst m_fitSecond)), ((m_a 5), .inl (cB, 1600, .inl m_tape_c))] := hD
    rw [← e104] at hP hD
    have a104 : ar g104 240 0 15 := by rw [e104]; exact ar_u ha_m_pair_c (ir_w hw14_2 (by decide) (by decide))
    refine lv_aload_n hx hb dX12_pairLine_105 rfl (lv_at hl 2 rfl) ?_
    refine va_get (D := g) (ci := 11) (v := .ref (m_a 19)) (C := RX12) (T := TX12) (N := 56) hx hb hts iX12 hown hK hP 3 rfl rfl 19 (by decide) (hts (.fieldLink RX12 40 "CardsAtYuleModel" "pair" "[I") (List.mem_cons_of_mem _ (List.mem_append_left _ (List.mem_of_getElem? (i := 12) rfl)))) (fun _ h9 => h9) rfl dX12_pairLine_106 ?_
    refine lv_iload_n hx hb dX12_pairLine_109 rfl (lv_at hl 4 rfl) ?_
    refine lv_iconst (v := 1) hx hb dX12_pairLine_110 (by decide) ?_
    refine lv_iadd hx hb dX12_pairLine_111 ?_
    refine lv_topi (fun y111 e111 => ?_)
    have q111 : y111.toInt = y11.toInt + 1 := by rw [e111]; exact ad_z rfl rfl r11 (ir_c 1) (by decide) (by decide)
    have r111 : ir y111.toInt 193 238 := ad_r q111 r11 (ir_c 1) (by decide) (by decide)
    refine lv_iload hx hb dX12_pairLine_112 (lv_at hl 1 rfl) ?_
    refine va_iast (D := g) hx hb hK hP hD hS 0 0 rfl rfl (vi_rg rfl r111 (by decide) (by decide)) dX12_pairLine_114 (fun H locs hP hD hS => ?_)
    obtain ⟨g114, e114⟩ : ∃ z, z = upd g104 y111.toNatClampNeg r73 := ⟨_, rfl⟩
    have hP : va_P g vwCl [((m_a 19), .inl (cI, 240, .inl (upd g104 y111.toNatClampNeg r73))), ((m_a 20), .inl (cJ, 160, .inr (.inl m_lost_c))), ((m_a 17), .inl (cI, 25, .inl m_has_c)), (m, .inr (11, mG m_a m_thrown m_taped n_m_at_85 n_m_token_85 n_m_place_85 n_m_value_85 n_m_word_85 n_m_bad_85 n_m_badPlace_85 m_fault m_faultPlace m_willing m_will m_forgot m_isDrawn m_x m_begin m_round m_roundCards m_fate m_any m_bothSend m_meanCards m_bestSum m_fitMany m_fitFirst m_fitSecond)), ((m_a 5), .inl (cB, 1600, .inl m_tape_c))] H := hP
    have hD : va_D A [((m_a 19), .inl (cI, 240, .inl (upd g104 y111.toNatClampNeg r73))), ((m_a 20), .inl (cJ, 160, .inr (.inl m_lost_c))), ((m_a 17), .inl (cI, 25, .inl m_has_c)), (m, .inr (11, mG m_a m_thrown m_taped n_m_at_85 n_m_token_85 n_m_place_85 n_m_value_85 n_m_word_85 n_m_bad_85 n_m_badPlace_85 m_fault m_faultPlace m_willing m_will m_forgot m_isDrawn m_x m_begin m_round m_roundCards m_fate m_any m_bothSend m_meanCards m_bestSum m_fitMany m_fitFirst m_fitSecond)), ((m_a 5), .inl (cB, 1600, .inl m_tape_c))] := hD
    rw [← e114] at hP hD
    have a114 : ar g114 240 0 15 := by rw [e114]; exact ar_u a104 (ir_w hw73_2 (by decide) (by decide))
    refine lv_aload_n hx hb dX12_pairLine_115 rfl (lv_at hl 2 rfl) ?_
    refine va_get (D := g) (ci := 11) (v := .ref (m_a 19)) (C := RX12) (T := TX12) (N := 56) hx hb hts iX12 hown hK hP 3 rfl rfl 19 (by decide) (hts (.fieldLink RX12 40 "CardsAtYuleModel" "pair" "[I") (List.mem_cons_of_mem _ (List.mem_append_left _ (List.mem_of_getElem? (i := 12) rfl)))) (fun _ h9 => h9) rfl dX12_pairLine_116 ?_
    refine lv_iload_n hx hb dX12_pairLine_119 rfl (lv_at hl 4 rfl) ?_
    refine lv_iconst (v := 2) hx hb dX12_pairLine_120 (by decide) ?_
    refine lv_iadd hx hb dX12_pairLine_121 ?_
    refine lv_topi (fun y121 e121 => ?_)
    have q121 : y121.toInt = y11.toInt + 2 := by rw [e121]; exact ad_z rfl rfl r11 (ir_c 2) (by decide) (by decide)
    have r121 : ir y121.toInt 194 239 := ad_r q121 r11 (ir_c 2) (by decide) (by decide)
    refine lv_iload hx hb dX12_pairLine_122 (lv_at hl 0 rfl) ?_
    refine va_iast (D := g) hx hb hK hP hD hS 0 0 rfl rfl (vi_rg rfl r121 (by decide) (by decide)) dX12_pairLine_124 (fun H locs hP hD hS => ?_)
    obtain ⟨g124, e124⟩ : ∃ z, z = upd g114 y121.toNatClampNeg r85 := ⟨_, rfl⟩
    have hP : va_P g vwCl [((m_a 19), .inl (cI, 240, .inl (upd g114 y121.toNatClampNeg r85))), ((m_a 20), .inl (cJ, 160, .inr (.inl m_lost_c))), ((m_a 17), .inl (cI, 25, .inl m_has_c)), (m, .inr (11, mG m_a m_thrown m_taped n_m_at_85 n_m_token_85 n_m_place_85 n_m_value_85 n_m_word_85 n_m_bad_85 n_m_badPlace_85 m_fault m_faultPlace m_willing m_will m_forgot m_isDrawn m_x m_begin m_round m_roundCards m_fate m_any m_bothSend m_meanCards m_bestSum m_fitMany m_fitFirst m_fitSecond)), ((m_a 5), .inl (cB, 1600, .inl m_tape_c))] H := hP
    have hD : va_D A [((m_a 19), .inl (cI, 240, .inl (upd g114 y121.toNatClampNeg r85))), ((m_a 20), .inl (cJ, 160, .inr (.inl m_lost_c))), ((m_a 17), .inl (cI, 25, .inl m_has_c)), (m, .inr (11, mG m_a m_thrown m_taped n_m_at_85 n_m_token_85 n_m_place_85 n_m_value_85 n_m_word_85 n_m_bad_85 n_m_badPlace_85 m_fault m_faultPlace m_willing m_will m_forgot m_isDrawn m_x m_begin m_round m_roundCards m_fate m_any m_bothSend m_meanCards m_bestSum m_fitMany m_fitFirst m_fitSecond)), ((m_a 5), .inl (cB, 1600, .inl m_tape_c))] := hD
    rw [← e124] at hP hD
    have a124 : ar g124 240 0 15 := by rw [e124]; exact ar_u a114 rc85
    refine lv_aload_n hx hb dX12_pairLine_125 rfl (lv_at hl 2 rfl) ?_
    refine va_get (D := g) (ci := 11) (v := .ref (m_a 20)) (C := RX12) (T := TX12) (N := 56) hx hb hts iX12 hown hK hP 3 rfl rfl 20 (by decide) (hts (.fieldLink RX12 43 "CardsAtYuleModel" "lost" "[J") (List.mem_cons_of_mem _ (List.mem_append_left _ (List.mem_of_getElem? (i := 13) rfl)))) (fun _ h9 => h9) rfl dX12_pairLine_126 ?_
    refine lv_iconst (v := 2) hx hb dX12_pairLine_129 (by decide) ?_
    refine lv_bipush (v := 64) hx hb dX12_pairLine_130 (by decide) ?_
    refine lv_iload_n hx hb dX12_pairLine_132 rfl (lv_at hl 3 rfl) ?_
    refine lv_iadd hx hb dX12_pairLine_133 ?_
    refine lv_topi (fun y133 e133 => ?_)
    have q133 : y133.toInt = 64 + (m_has_c 24).toInt := by rw [e133]; exact ad_z rfl rfl (ir_c 64) ht_0 (by decide) (by decide)
    have r133 : ir y133.toInt 64 79 := ad_r q133 (ir_c 64) ht_0 (by decide) (by decide)
    refine lv_imul hx hb dX12_pairLine_134 ?_
    refine lv_topi (fun y134 e134 => ?_)
    have q134 : y134.toInt = 2 * y133.toInt := by rw [e134]; exact mu_z rfl rfl (ir_c 2) r133 (by decide) (by decide) (by decide)
    have r134 : ir y134.toInt 128 158 := mu_r q134 (ir_c 2) r133 (by decide) (by decide) (by decide) (by decide)
    refine lv_lconst (v := 0) hx hb dX12_pairLine_135 (by decide) ?_
    refine va_last (D := g) hx hb hK hP hD hS 1 1 rfl rfl (vi_rg rfl r134 (by decide) (by decide)) dX12_pairLine_136 (fun H locs hP hD hS => ?_)
    obtain ⟨g136, e136⟩ : ∃ z, z = vp_updL m_lost_c y134.toNatClampNeg (0 : Int64) := ⟨_, rfl⟩
    have hP : va_P g vwCl [((m_a 19), .inl (cI, 240, .inl g124)), ((m_a 20), .inl (cJ, 160, .inr (.inl (vp_updL m_lost_c y134.toNatClampNeg (0 : Int64))))), ((m_a 17), .inl (cI, 25, .inl m_has_c)), (m, .inr (11, mG m_a m_thrown m_taped n_m_at_85 n_m_token_85 n_m_place_85 n_m_value_85 n_m_word_85 n_m_bad_85 n_m_badPlace_85 m_fault m_faultPlace m_willing m_will m_forgot m_isDrawn m_x m_begin m_round m_roundCards m_fate m_any m_bothSend m_meanCards m_bestSum m_fitMany m_fitFirst m_fitSecond)), ((m_a 5), .inl (cB, 1600, .inl m_tape_c))] H := hP
    have hD : va_D A [((m_a 19), .inl (cI, 240, .inl g124)), ((m_a 20), .inl (cJ, 160, .inr (.inl (vp_updL m_lost_c y134.toNatClampNeg (0 : Int64))))), ((m_a 17), .inl (cI, 25, .inl m_has_c)), (m, .inr (11, mG m_a m_thrown m_taped n_m_at_85 n_m_token_85 n_m_place_85 n_m_value_85 n_m_word_85 n_m_bad_85 n_m_badPlace_85 m_fault m_faultPlace m_willing m_will m_forgot m_isDrawn m_x m_begin m_round m_roundCards m_fate m_any m_bothSend m_meanCards m_bestSum m_fitMany m_fitFirst m_fitSecond)), ((m_a 5), .inl (cB, 1600, .inl m_tape_c))] := hD
    rw [← e136] at hP hD
    refine lv_aload_n hx hb dX12_pairLine_137 rfl (lv_at hl 2 rfl) ?_
    refine va_get (D := g) (ci := 11) (v := .ref (m_a 20)) (C := RX12) (T := TX12) (N := 56) hx hb hts iX12 hown hK hP 3 rfl rfl 20 (by decide) (hts (.fieldLink RX12 43 "CardsAtYuleModel" "lost" "[J") (List.mem_cons_of_mem _ (List.mem_append_left _ (List.mem_of_getElem? (i := 13) rfl)))) (fun _ h9 => h9) rfl dX12_pairLine_138 ?_
    refine lv_iconst (v := 2) hx hb dX12_pairLine_141 (by decide) ?_
    refine lv_bipush (v := 64) hx hb dX12_pairLine_142 (by decide) ?_
    refine lv_iload_n hx hb dX12_pairLine_144 rfl (lv_at hl 3 rfl) ?_
    refine lv_iadd hx hb dX12_pairLine_145 ?_
    refine lv_topi (fun y145 e145 => ?_)
    have q145 : y145.toInt = 64 + (m_has_c 24).toInt := by rw [e145]; exact ad_z rfl rfl (ir_c 64) ht_0 (by decide) (by decide)
    have r145 : ir y145.toInt 64 79 := ad_r q145 (ir_c 64) ht_0 (by decide) (by decide)
    refine lv_imul hx hb dX12_pairLine_146 ?_
    refine lv_topi (fun y146 e146 => ?_)
    have q146 : y146.toInt = 2 * y145.toInt := by rw [e146]; exact mu_z rfl rfl (ir_c 2) r145 (by decide) (by decide) (by decide)
    have r146 : ir y146.toInt 128 158 := mu_r q146 (ir_c 2) r145 (by decide) (by decide) (by decide) (by decide)
    refine lv_iconst (v := 1) hx hb dX12_pairLine_147 (by decide) ?_
    refine lv_iadd hx hb dX12_pairLine_148 ?_
    refine lv_topi (fun y148 e148 => ?_)
    have q148 : y148.toInt = y146.toInt + 1 := by rw [e148]; exact ad_z rfl rfl r146 (ir_c 1) (by decide) (by decide)
    have r148 : ir y148.toInt 129 159 := ad_r q148 r146 (ir_c 1) (by decide) (by decide)
    refine lv_lconst (v := 0) hx hb dX12_pairLine_149 (by decide) ?_
    refine va_last (D := g) hx hb hK hP hD hS 1 1 rfl rfl (vi_rg rfl r148 (by decide) (by decide)) dX12_pairLine_150 (fun H locs hP hD hS => ?_)
    obtain ⟨g150, e150⟩ : ∃ z, z = vp_updL g136 y148.toNatClampNeg (0 : Int64) := ⟨_, rfl⟩
    have hP : va_P g vwCl [((m_a 19), .inl (cI, 240, .inl g124)), ((m_a 20), .inl (cJ, 160, .inr (.inl (vp_updL g136 y148.toNatClampNeg (0 : Int64))))), ((m_a 17), .inl (cI, 25, .inl m_has_c)), (m, .inr (11, mG m_a m_thrown m_taped n_m_at_85 n_m_token_85 n_m_place_85 n_m_value_85 n_m_word_85 n_m_bad_85 n_m_badPlace_85 m_fault m_faultPlace m_willing m_will m_forgot m_isDrawn m_x m_begin m_round m_roundCards m_fate m_any m_bothSend m_meanCards m_bestSum m_fitMany m_fitFirst m_fitSecond)), ((m_a 5), .inl (cB, 1600, .inl m_tape_c))] H := hP
    have hD : va_D A [((m_a 19), .inl (cI, 240, .inl g124)), ((m_a 20), .inl (cJ, 160, .inr (.inl (vp_updL g136 y148.toNatClampNeg (0 : Int64))))), ((m_a 17), .inl (cI, 25, .inl m_has_c)), (m, .inr (11, mG m_a m_thrown m_taped n_m_at_85 n_m_token_85 n_m_place_85 n_m_value_85 n_m_word_85 n_m_bad_85 n_m_badPlace_85 m_fault m_faultPlace m_willing m_will m_forgot m_isDrawn m_x m_begin m_round m_roundCards m_fate m_any m_bothSend m_meanCards m_bestSum m_fitMany m_fitFirst m_fitSecond)), ((m_a 5), .inl (cB, 1600, .inl m_tape_c))] := hD
    rw [← e150] at hP hD
    refine lv_aload_n hx hb dX12_pairLine_151 rfl (lv_at hl 2 rfl) ?_
    refine va_get (D := g) (ci := 11) (v := .ref (m_a 17)) (C := RX12) (T := TX12) (N := 56) hx hb hts iX12 hown hK hP 3 rfl rfl 17 (by decide) (hts (.fieldLink RX12 34 "CardsAtYuleModel" "has" "[I") (List.mem_cons_of_mem _ (List.mem_append_left _ (List.mem_of_getElem? (i := 14) rfl)))) (fun _ h9 => h9) rfl dX12_pairLine_152 ?_
    refine lv_bipush (v := 24) hx hb dX12_pairLine_155 (by decide) ?_
    refine lv_dup2_11 hx hb dX12_pairLine_157 rfl rfl ?_
    refine va_iald (D := g) hx hb hK hP 2 0 rfl rfl (vc_in (by decide)) dX12_pairLine_158 ?_
    refine lv_topi (nm_r (e' := (m_has_c 24)) rfl ?_)
    refine lv_iconst (v := 1) hx hb dX12_pairLine_159 (by decide) ?_
    refine lv_iadd hx hb dX12_pairLine_160 ?_
    refine lv_topi (fun y160 e160 => ?_)
    have q160 : y160.toInt = (m_has_c 24).toInt + 1 := by rw [e160]; exact ad_z rfl rfl ht_0 (ir_c 1) (by decide) (by decide)
    have r160 : ir y160.toInt 1 16 := ad_r q160 ht_0 (ir_c 1) (by decide) (by decide)
    refine va_iast (D := g) hx hb hK hP hD hS 2 0 rfl rfl (vc_in (by decide)) dX12_pairLine_161 (fun H locs hP hD hS => ?_)
    obtain ⟨g161, e161⟩ : ∃ z, z = upd m_has_c 24 y160 := ⟨_, rfl⟩
    have hP : va_P g vwCl [((m_a 19), .inl (cI, 240, .inl g124)), ((m_a 20), .inl (cJ, 160, .inr (.inl g150))), ((m_a 17), .inl (cI, 25, .inl (upd m_has_c 24 y160))), (m, .inr (11, mG m_a m_thrown m_taped n_m_at_85 n_m_token_85 n_m_place_85 n_m_value_85 n_m_word_85 n_m_bad_85 n_m_badPlace_85 m_fault m_faultPlace m_willing m_will m_forgot m_isDrawn m_x m_begin m_round m_roundCards m_fate m_any m_bothSend m_meanCards m_bestSum m_fitMany m_fitFirst m_fitSecond)), ((m_a 5), .inl (cB, 1600, .inl m_tape_c))] H := hP
    have hD : va_D A [((m_a 19), .inl (cI, 240, .inl g124)), ((m_a 20), .inl (cJ, 160, .inr (.inl g150))), ((m_a 17), .inl (cI, 25, .inl (upd m_has_c 24 y160))), (m, .inr (11, mG m_a m_thrown m_taped n_m_at_85 n_m_token_85 n_m_place_85 n_m_value_85 n_m_word_85 n_m_bad_85 n_m_badPlace_85 m_fault m_faultPlace m_willing m_will m_forgot m_isDrawn m_x m_begin m_round m_roundCards m_fate m_any m_bothSend m_meanCards m_bestSum m_fitMany m_fitFirst m_fitSecond)), ((m_a 5), .inl (cB, 1600, .inl m_tape_c))] := hD
    rw [← e161] at hP hD
    have a161 : hasI g161 := by rw [e161]; exact hasI_u4 ha_m_has_c 4 (ir_w r160 (by decide) (by decide))
    subst hQ
    have hP9 := hP.sub (ws' := [(m, .inr (11, mG m_a m_thrown m_taped n_m_at_85 n_m_token_85 n_m_place_85 n_m_value_85 n_m_word_85 n_m_bad_85 n_m_badPlace_85 m_fault m_faultPlace m_willing m_will m_forgot m_isDrawn m_x m_begin m_round m_roundCards m_fate m_any m_bothSend m_meanCards m_bestSum m_fitMany m_fitFirst m_fitSecond)), ((m_a 17), .inl (cI, 25, .inl g161)), ((m_a 5), .inl (cB, 1600, .inl m_tape_c)), ((m_a 19), .inl (cI, 240, .inl g124)), ((m_a 20), .inl (cJ, 160, .inr (.inl g150)))]) [3, 2, 4, 0, 1] rfl
    have hD9 := hD.sub (ws' := [(m, .inr (11, mG m_a m_thrown m_taped n_m_at_85 n_m_token_85 n_m_place_85 n_m_value_85 n_m_word_85 n_m_bad_85 n_m_badPlace_85 m_fault m_faultPlace m_willing m_will m_forgot m_isDrawn m_x m_begin m_round m_roundCards m_fate m_any m_bothSend m_meanCards m_bestSum m_fitMany m_fitFirst m_fitSecond)), ((m_a 17), .inl (cI, 25, .inl g161)), ((m_a 5), .inl (cB, 1600, .inl m_tape_c)), ((m_a 19), .inl (cI, 240, .inl g124)), ((m_a 20), .inl (cJ, 160, .inr (.inl g150)))]) [3, 2, 4, 0, 1] (by decide) rfl
    exact W.vret hx hb hr (fun t ht hW => ⟨⟨(n_m_at_85, n_m_token_85, n_m_place_85, n_m_value_85, n_m_word_85, n_m_bad_85, n_m_badPlace_85, g161, g124, g150), rfl, ⟨hw85_0, a161, a124, (by omega)⟩, ⟨by rw [ht]; exact hP9, va_K.moved hW.alike hK, hD9⟩⟩, hS.F ht⟩) hS.2.2 dX12_pairLine_162
  refine lv_if_ne (tgt := 72) hx hb dX12_pairLine_22 (by decide) (fun c22 => ?_) (fun c22 => ?_)
  · have f22 := (show n_m_bad_14.toInt ≠ 0 from z_ne rfl rfl c22)
    exact J72 n_m_bad_14 n_m_badPlace_14 _ _ _ (by first | omega | decide) (hP.sub [0, 1, 2, 3, 4] rfl) (hD.sub [0, 1, 2, 3, 4] (by decide) rfl) hS (lv_sub hl [3, 2, 1, 0] rfl)
  have f22 := (show n_m_bad_14.toInt = 0 from z_eq rfl rfl c22)
  have r22a : ir n_m_bad_14.toInt 0 0 := ir_eqa f22 (rg_all n_m_bad_14) (ir_c 0) (by decide) (by decide)
  refine lv_aload_n hx hb dX12_pairLine_25 rfl (lv_at hl 3 rfl) ?_
  refine va_get (D := g) (ci := 11) (v := .int n_m_token_14) (C := RX12) (T := TX12) (N := 56) hx hb hts iX12 hown hK hP 2 rfl rfl 8 (by decide) (hts (.fieldLink RX12 148 "CardsAtYuleModel" "token" "I") (List.mem_cons_of_mem _ (List.mem_append_left _ (List.mem_of_getElem? (i := 15) rfl)))) (fun _ h9 => h9) rfl dX12_pairLine_26 ?_
  refine lv_iconst (v := 2) hx hb dX12_pairLine_29 (by decide) ?_
  refine lv_icmp_ne (tgt := 72) hx hb dX12_pairLine_30 (by decide) (fun c30 => ?_) (fun c30 => ?_)
  · have f30 := (show n_m_token_14.toInt ≠ 2 from z_ne rfl rfl c30)
    exact J72 n_m_bad_14 n_m_badPlace_14 _ _ _ (by first | omega | decide) (hP.sub [0, 1, 2, 3, 4] rfl) (hD.sub [0, 1, 2, 3, 4] (by decide) rfl) hS (lv_sub hl [3, 2, 1, 0] rfl)
  have f30 := (show n_m_token_14.toInt = 2 from z_eq rfl rfl c30)
  have r30a : ir n_m_token_14.toInt 2 2 := ir_eqa f30 (rg_all n_m_token_14) (ir_c 2) (by decide) (by decide)
  refine lv_aload_n hx hb dX12_pairLine_33 rfl (lv_at hl 3 rfl) ?_
  refine va_get (D := g) (ci := 11) (v := .int n_m_value_14) (C := RX12) (T := TX12) (N := 56) hx hb hts iX12 hown hK hP 2 rfl rfl 10 (by decide) (hts (.fieldLink RX12 141 "CardsAtYuleModel" "value" "I") (List.mem_cons_of_mem _ (List.mem_append_left _ (List.mem_of_getElem? (i := 16) rfl)))) (fun _ h9 => h9) rfl dX12_pairLine_34 ?_
  refine lv_aload_n hx hb dX12_pairLine_37 rfl (lv_at hl 3 rfl) ?_
  refine lv_iconst (v := 3) hx hb dX12_pairLine_38 (by decide) ?_
  refine ro_i (va_runV (As := [.int 3]) (rest := [.int n_m_value_14]) ⟨hx, hb, hml, hown, hts⟩ (q_X12_hasRead3 l g cI cJ cB cZ cL m m_a m_thrown m_taped n_m_at_14 n_m_token_14 n_m_place_14 n_m_value_14 n_m_word_14 n_m_bad_14 n_m_badPlace_14 m_fault m_faultPlace m_willing m_will m_forgot m_isDrawn m_x m_begin m_round m_roundCards m_fate m_any m_bothSend m_meanCards m_bestSum m_fitMany m_fitFirst m_fitSecond m_has_c H.size hv_m_taped hw14_0 hv_m_will hv_m_isDrawn ha_m_has_c) (cwV 1 hts (goodIn_app (g_4 (List.mem_cons_of_mem _ (List.mem_append_left _ (List.mem_of_getElem? (i := 0) rfl))) (List.mem_cons_of_mem _ (List.mem_append_left _ (List.mem_of_getElem? (i := 1) rfl))) (List.mem_cons_of_mem _ (List.mem_append_left _ (List.mem_of_getElem? (i := 2) rfl))) (List.mem_cons_of_mem _ (List.mem_append_left _ (List.mem_of_getElem? (i := 3) rfl))) (by decide +kernel)) (goodIn_sub (fun _ h => List.mem_cons_of_mem _ (List.mem_append_right _ (List.mem_append_right _ (List.mem_append_right _ (List.mem_append_right _ (List.mem_append_left _ h)))))) good_v_X12_hasRead3)) rfl rfl rfl (by decide +kernel) ⟨Nat.le_of_ble_eq_true rfl, Nat.le_of_ble_eq_true rfl⟩) (pv_RO (q := (RX12, TX12, 56)) (ci := 11) (q0 := 0) (wc := [(m, .inr (11, mG m_a m_thrown m_taped n_m_at_14 n_m_token_14 n_m_place_14 n_m_value_14 n_m_word_14 n_m_bad_14 n_m_badPlace_14 m_fault m_faultPlace m_willing m_will m_forgot m_isDrawn m_x m_begin m_round m_roundCards m_fate m_any m_bothSend m_meanCards m_bestSum m_fitMany m_fitFirst m_fitSecond)), ((m_a 17), .inl (cI, 25, .inl m_has_c))]) hK hP [2, 3] rfl rfl rfl) rfl rfl hl.1 rfl (lv_room (Nat.le_of_ble_eq_true rfl)) dX12_pairLine_39 ⟨Nat.le_of_ble_eq_true rfl, Nat.le_of_ble_eq_true rfl⟩) hS hA hP (fun r39 u39 H locs hw39 hP hS => ?_)
  have hw39_0 := hw39
  subst hw39_0
  have rt39 : ir (m_has_c 23).toInt 0 10 := hasI_3 ha_m_has_c 4 (by decide)
  refine lv_icmp_ge (tgt := 72) hx hb dX12_pairLine_42 (by decide) (fun c42 => ?_) (fun c42 => ?_)
  · have f42 := (show (m_has_c 23).toInt ≤ n_m_value_14.toInt from z_le rfl rfl c42)
    have r42a : ir n_m_value_14.toInt 0 2147483647 := ir_leb f42 rt39 (rg_all n_m_value_14) (by decide)
    exact J72 n_m_bad_14 n_m_badPlace_14 _ _ _ (by first | omega | decide) (hP.sub [0, 1, 2, 3, 4] rfl) (hD.sub [0, 1, 2, 3, 4] (by decide) rfl) hS (lv_sub hl [3, 2, 1, 0] rfl)
  have f42 := (show n_m_value_14.toInt < (m_has_c 23).toInt from z_nle rfl rfl c42)
  have r42a : ir n_m_value_14.toInt (-2147483648) 9 := ir_lta f42 (rg_all n_m_value_14) rt39 (by decide)
  refine lv_aload_n hx hb dX12_pairLine_45 rfl (lv_at hl 3 rfl) ?_
  refine va_get (D := g) (ci := 11) (v := .int n_m_value_14) (C := RX12) (T := TX12) (N := 56) hx hb hts iX12 hown hK hP 2 rfl rfl 10 (by decide) (hts (.fieldLink RX12 141 "CardsAtYuleModel" "value" "I") (List.mem_cons_of_mem _ (List.mem_append_left _ (List.mem_of_getElem? (i := 16) rfl)))) (fun _ h9 => h9) rfl dX12_pairLine_46 ?_
  refine lv_iload_n hx hb dX12_pairLine_49 rfl (lv_at hl 0 rfl) ?_
  have J67 : ∀  (H : Heap) (locs : List Loc) (ls : Array Slot), ((n_m_at_14.toInt = m_at.toInt ∧ n_m_token_14.toInt = m_token.toInt) ∨ (m_at.toInt ≤ n_m_at_14.toInt ∧ n_m_at_14.toInt ≤ m_taped.toInt ∧ (m_at.toInt < n_m_at_14.toInt ∨ (n_m_token_14.toInt = 0 ∧ n_m_at_14.toInt = m_taped.toInt)))) → va_P g vwCl [((m_a 19), .inl (cI, 240, .inl m_pair_c)), ((m_a 20), .inl (cJ, 160, .inr (.inl m_lost_c))), (m, .inr (11, mG m_a m_thrown m_taped n_m_at_14 n_m_token_14 n_m_place_14 n_m_value_14 n_m_word_14 n_m_bad_14 n_m_badPlace_14 m_fault m_faultPlace m_willing m_will m_forgot m_isDrawn m_x m_begin m_round m_roundCards m_fate m_any m_bothSend m_meanCards m_bestSum m_fitMany m_fitFirst m_fitSecond)), ((m_a 17), .inl (cI, 25, .inl m_has_c)), ((m_a 5), .inl (cB, 1600, .inl m_tape_c))] H → va_D A [((m_a 19), .inl (cI, 240, .inl m_pair_c)), ((m_a 20), .inl (cJ, 160, .inr (.inl m_lost_c))), (m, .inr (11, mG m_a m_thrown m_taped n_m_at_14 n_m_token_14 n_m_place_14 n_m_value_14 n_m_word_14 n_m_bad_14 n_m_badPlace_14 m_fault m_faultPlace m_willing m_will m_forgot m_isDrawn m_x m_begin m_round m_roundCards m_fate m_any m_bothSend m_meanCards m_bestSum m_fitMany m_fitFirst m_fitSecond)), ((m_a 17), .inl (cI, 25, .inl m_has_c)), ((m_a 5), .inl (cB, 1600, .inl m_tape_c))] → va_S A s.heap H locs → lv_has ls 6 [(0, .ref m), (1, .int (m_has_c 24)), (2, .int y11), (3, .int r14)] → W p l e (headSpec v_X12_pairLine ({ frames := 5, cells := 0, slots := 0, locals := 112 })).room s mth av below meth c H locs 0 0 QQ (F0 mth 67 ls []) := by
    intro  H locs ls hi67_0 hP hD hS hl
    refine lv_aload_n hx hb dX12_pairLine_67 rfl (lv_at hl 0 rfl) ?_
    refine lv_iconst (v := 2) hx hb dX12_pairLine_68 (by decide) ?_
    refine rw_v (wr := [((m_a 19), .inl (cI, 240, .inl m_pair_c)), ((m_a 20), .inl (cJ, 160, .inr (.inl m_lost_c))), ((m_a 17), .inl (cI, 25, .inl m_has_c)), ((m_a 5), .inl (cB, 1600, .inl m_tape_c))]) (va_runV (As := [.int 2]) (rest := []) ⟨hx, hb, hml, hown, hts⟩ (q_X12_fails l g cI cJ cB cZ cL 2 m m_a m_thrown m_taped n_m_at_14 n_m_token_14 n_m_place_14 n_m_value_14 n_m_word_14 n_m_bad_14 n_m_badPlace_14 m_fault m_faultPlace m_willing m_will m_forgot m_isDrawn m_x m_begin m_round m_roundCards m_fate m_any m_bothSend m_meanCards m_bestSum m_fitMany m_fitFirst m_fitSecond H.size (by decide) hv_m_taped hw14_0 hv_m_will hv_m_isDrawn) (cwV 1 hts (goodIn_app (g_4 (List.mem_cons_of_mem _ (List.mem_append_left _ (List.mem_of_getElem? (i := 17) rfl))) (List.mem_cons_of_mem _ (List.mem_append_left _ (List.mem_of_getElem? (i := 18) rfl))) (List.mem_cons_of_mem _ (List.mem_append_left _ (List.mem_of_getElem? (i := 19) rfl))) (List.mem_cons_of_mem _ (List.mem_append_left _ (List.mem_of_getElem? (i := 3) rfl))) (by decide +kernel)) (goodIn_sub (fun _ h => List.mem_cons_of_mem _ (List.mem_append_right _ (List.mem_append_right _ (List.mem_append_right _ (List.mem_append_right _ (List.mem_append_right _ (List.mem_append_left _ h))))))) good_v_X12_fails)) rfl rfl rfl (by decide +kernel) ⟨Nat.le_of_ble_eq_true rfl, Nat.le_of_ble_eq_true rfl⟩) (pv_RW (q := (RX12, TX12, 56)) (ci := 11) (q0 := 0) (wc := [(m, .inr (11, mG m_a m_thrown m_taped n_m_at_14 n_m_token_14 n_m_place_14 n_m_value_14 n_m_word_14 n_m_bad_14 n_m_badPlace_14 m_fault m_faultPlace m_willing m_will m_forgot m_isDrawn m_x m_begin m_round m_roundCards m_fate m_any m_bothSend m_meanCards m_bestSum m_fitMany m_fitFirst m_fitSecond))]) hK hP hD [2] (by decide) rfl rfl rfl) rfl rfl hl.1 rfl (lv_room (Nat.le_of_ble_eq_true rfl)) dX12_pairLine_69 ⟨Nat.le_of_ble_eq_true rfl, Nat.le_of_ble_eq_true rfl⟩) hS hA hP hD [2] [0, 1, 3, 4] rfl rfl (by decide) (by decide) (fun u69 H locs hw69 hP hD hS => ?_)
    obtain ⟨n_m_bad_69, n_m_badPlace_69⟩ := u69
    have hP : va_P g vwCl [((m_a 19), .inl (cI, 240, .inl m_pair_c)), ((m_a 20), .inl (cJ, 160, .inr (.inl m_lost_c))), ((m_a 17), .inl (cI, 25, .inl m_has_c)), ((m_a 5), .inl (cB, 1600, .inl m_tape_c)), (m, .inr (11, mG m_a m_thrown m_taped n_m_at_14 n_m_token_14 n_m_place_14 n_m_value_14 n_m_word_14 n_m_bad_69 n_m_badPlace_69 m_fault m_faultPlace m_willing m_will m_forgot m_isDrawn m_x m_begin m_round m_roundCards m_fate m_any m_bothSend m_meanCards m_bestSum m_fitMany m_fitFirst m_fitSecond))] H := hP
    have hD : va_D A [((m_a 19), .inl (cI, 240, .inl m_pair_c)), ((m_a 20), .inl (cJ, 160, .inr (.inl m_lost_c))), ((m_a 17), .inl (cI, 25, .inl m_has_c)), ((m_a 5), .inl (cB, 1600, .inl m_tape_c)), (m, .inr (11, mG m_a m_thrown m_taped n_m_at_14 n_m_token_14 n_m_place_14 n_m_value_14 n_m_word_14 n_m_bad_69 n_m_badPlace_69 m_fault m_faultPlace m_willing m_will m_forgot m_isDrawn m_x m_begin m_round m_roundCards m_fate m_any m_bothSend m_meanCards m_bestSum m_fitMany m_fitFirst m_fitSecond))] := hD
    dsimp only at hw69
    have hw69_0 := hw69
    have hw69_0 : n_m_bad_69.toInt ≠ 0 := hw69_0
    exact J72 n_m_bad_69 n_m_badPlace_69 _ _ _ (by first | omega | decide) (hP.sub [0, 1, 4, 2, 3] rfl) (hD.sub [0, 1, 4, 2, 3] (by decide) rfl) hS (lv_sub hl [0, 1, 2, 3] rfl)
  refine lv_icmp_eq (tgt := 67) hx hb dX12_pairLine_50 (by decide) (fun c50 => ?_) (fun c50 => ?_)
  · have f50 := (show n_m_value_14.toInt = r14.toInt from z_eq rfl rfl c50)
    have r50a : ir n_m_value_14.toInt 0 9 := ir_eqa f50 r42a hw14_2 (by decide) (by decide)
    exact J67  _ _ _ (by first | omega | decide) (hP.sub [0, 1, 2, 3, 4] rfl) (hD.sub [0, 1, 2, 3, 4] (by decide) rfl) hS (lv_sub hl [3, 2, 1, 0] rfl)
  have f50 := (show n_m_value_14.toInt ≠ r14.toInt from z_ne rfl rfl c50)
  refine lv_aload_n hx hb dX12_pairLine_53 rfl (lv_at hl 3 rfl) ?_
  refine lv_iconst (v := 4) hx hb dX12_pairLine_54 (by decide) ?_
  refine lv_iload_n hx hb dX12_pairLine_55 rfl (lv_at hl 0 rfl) ?_
  refine lv_aload_n hx hb dX12_pairLine_56 rfl (lv_at hl 3 rfl) ?_
  refine va_get (D := g) (ci := 11) (v := .int n_m_value_14) (C := RX12) (T := TX12) (N := 56) hx hb hts iX12 hown hK hP 2 rfl rfl 10 (by decide) (hts (.fieldLink RX12 141 "CardsAtYuleModel" "value" "I") (List.mem_cons_of_mem _ (List.mem_append_left _ (List.mem_of_getElem? (i := 16) rfl)))) (fun _ h9 => h9) rfl dX12_pairLine_57 ?_
  refine ro_i (va_runV (As := [.int 4, .int r14, .int n_m_value_14]) (rest := []) ⟨hx, hb, hml, hown, hts⟩ (q_X12_pairOf l g cI cJ cB cZ cL 4 r14 n_m_value_14 m m_a m_thrown m_taped n_m_at_14 n_m_token_14 n_m_place_14 n_m_value_14 n_m_word_14 n_m_bad_14 n_m_badPlace_14 m_fault m_faultPlace m_willing m_will m_forgot m_isDrawn m_x m_begin m_round m_roundCards m_fate m_any m_bothSend m_meanCards m_bestSum m_fitMany m_fitFirst m_fitSecond m_has_c m_pair_c H.size (by decide) hv_m_taped hw14_0 hv_m_will hv_m_isDrawn ha_m_has_c ha_m_pair_c) (cwV 3 hts (goodIn_app (g_4 (List.mem_cons_of_mem _ (List.mem_append_left _ (List.mem_of_getElem? (i := 20) rfl))) (List.mem_cons_of_mem _ (List.mem_append_left _ (List.mem_of_getElem? (i := 21) rfl))) (List.mem_cons_of_mem _ (List.mem_append_left _ (List.mem_of_getElem? (i := 22) rfl))) (List.mem_cons_of_mem _ (List.mem_append_left _ (List.mem_of_getElem? (i := 3) rfl))) (by decide +kernel)) (goodIn_sub (fun _ h => List.mem_cons_of_mem _ (List.mem_append_right _ (List.mem_append_right _ (List.mem_append_right _ (List.mem_append_right _ (List.mem_append_right _ (List.mem_append_right _ (List.mem_append_left _ h)))))))) good_v_X12_pairOf)) rfl rfl rfl (by decide +kernel) ⟨Nat.le_of_ble_eq_true rfl, Nat.le_of_ble_eq_true rfl⟩) (pv_RO (q := (RX12, TX12, 56)) (ci := 11) (q0 := 0) (wc := [(m, .inr (11, mG m_a m_thrown m_taped n_m_at_14 n_m_token_14 n_m_place_14 n_m_value_14 n_m_word_14 n_m_bad_14 n_m_badPlace_14 m_fault m_faultPlace m_willing m_will m_forgot m_isDrawn m_x m_begin m_round m_roundCards m_fate m_any m_bothSend m_meanCards m_bestSum m_fitMany m_fitFirst m_fitSecond)), ((m_a 17), .inl (cI, 25, .inl m_has_c)), ((m_a 19), .inl (cI, 240, .inl m_pair_c))]) hK hP [2, 3, 0] rfl rfl rfl) rfl rfl hl.1 rfl (lv_room (Nat.le_of_ble_eq_true rfl)) dX12_pairLine_60 ⟨Nat.le_of_ble_eq_true rfl, Nat.le_of_ble_eq_true rfl⟩) hS hA hP (fun r60 u60 H locs hw60 hP hS => ?_)
  have hw60_0 := hw60
  refine lv_iconst (v := (-1)) hx hb dX12_pairLine_63 (by decide) ?_
  refine lv_icmp_eq (tgt := 72) hx hb dX12_pairLine_64 (by decide) (fun c64 => ?_) (fun c64 => ?_)
  rotate_left 1
  · have f64 := (show r60.toInt ≠ (-1) from z_ne rfl rfl c64)
    have r64a : ir r60.toInt 0 15 := ir_nel f64 hw60_0 (by decide) (by decide)
    exact J67  _ _ _ (by first | omega | decide) (hP.sub [0, 1, 2, 3, 4] rfl) (hD.sub [0, 1, 2, 3, 4] (by decide) rfl) hS (lv_sub hl [3, 2, 1, 0] rfl)
  have f64 := (show r60.toInt = (-1) from z_eq rfl rfl c64)
  have r64a : ir r60.toInt (-1) (-1) := ir_eqa f64 hw60_0 (ir_c (-1)) (by decide) (by decide)
  exact J72 n_m_bad_14 n_m_badPlace_14 _ _ _ (by first | omega | decide) (hP.sub [0, 1, 2, 3, 4] rfl) (hD.sub [0, 1, 2, 3, 4] (by decide) rfl) hS (lv_sub hl [3, 2, 1, 0] rfl)
def v_X12_lostLine : List Cond := .code yX12_lostLine cX12_lostLine 6 none :: (([.methodLink RX12 216 yX12_yearHere, .instanceMethod yX12_yearHere, .selects RX12 yX12_yearHere yX12_yearHere, .initialized RX12, .methodLink RX12 206 yX12_personHere, .instanceMethod yX12_personHere, .selects RX12 yX12_personHere yX12_personHere, .fieldLink RX12 159 "CardsAtYuleModel" "bad" "I", .methodLink RX12 210 yX12_pairOf, .instanceMethod yX12_pairOf, .selects RX12 yX12_pairOf yX12_pairOf, .fieldLink RX12 40 "CardsAtYuleModel" "pair" "[I", .fieldLink RX12 43 "CardsAtYuleModel" "lost" "[J", .fieldLink RX12 148 "CardsAtYuleModel" "token" "I", .fieldLink RX12 141 "CardsAtYuleModel" "value" "I", .methodLink RX12 189 yX12_hasRead, .instanceMethod yX12_hasRead, .selects RX12 yX12_hasRead yX12_hasRead, .methodLink RX12 175 yX12_fails, .instanceMethod yX12_fails, .selects RX12 yX12_fails yX12_fails] : List Cond) ++ (v_X12_yearHere ++ (v_X12_personHere ++ (v_X12_pairOf ++ (v_X12_hasRead3 ++ (v_X12_fails ++ (wsX120 ++ ([] : List Cond))))))))
theorem good_v_X12_lostLine : v_X12_lostLine.all goodWord = true := ga_c (by decide +kernel) (ga_a (by decide +kernel) (ga_a good_v_X12_yearHere (ga_a good_v_X12_personHere (ga_a good_v_X12_pairOf (ga_a good_v_X12_hasRead3 (ga_a good_v_X12_fails (ga_a good_wsX120 rfl)))))))
set_option maxHeartbeats 4000000 in
set_option maxRecDepth 100000 in
theorem q_X12_lostLine (l : Launch) (g : va_G) (cI cJ cB cZ cL : ClassId) (m : Nat) (m_a : Nat → Nat) (m_thrown : Int32) (m_taped : Int32) (m_at : Int32) (m_token : Int32) (m_place : Int32) (m_value : Int32) (m_word : Int64) (m_bad : Int32) (m_badPlace : Int32) (m_fault : Int32) (m_faultPlace : Int32) (m_willing : Int32) (m_will : Int32) (m_forgot : Int32) (m_isDrawn : Int32) (m_x : Int64) (m_begin : Int32) (m_round : Int32) (m_roundCards : Int32) (m_fate : Int32) (m_any : Int64) (m_bothSend : Int64) (m_meanCards : Int64) (m_bestSum : Int32) (m_fitMany : Int32) (m_fitFirst : Int64) (m_fitSecond : Int64) (m_has_c : Nat → Int32) (m_tape_c : Nat → Int32) (m_pair_c : Nat → Int32) (m_lost_c : Nat → Int64) (sz : Nat) (hv_m_taped : ir m_taped.toInt 0 1600) (hv_m_at : ir m_at.toInt 0 1600) (hv_m_will : ir m_will.toInt 0 1) (hv_m_isDrawn : ir m_isDrawn.toInt 0 1) (ha_m_has_c : hasI m_has_c) (ha_m_pair_c : ar m_pair_c 240 0 15) (hx_0 : m_at.toInt ≤ m_taped.toInt) : Met l yX12_lostLine v_X12_lostLine ({ frames := 4, cells := 0, slots := 0, locals := 87 }) (va_Pc [.ref m] (pRW g (tyT cI cJ cB cZ cL) [(m, .inr (11, mG m_a m_thrown m_taped m_at m_token m_place m_value m_word m_bad m_badPlace m_fault m_faultPlace m_willing m_will m_forgot m_isDrawn m_x m_begin m_round m_roundCards m_fate m_any m_bothSend m_meanCards m_bestSum m_fitMany m_fitFirst m_fitSecond)), ((m_a 17), .inl (cI, 25, .inl m_has_c)), ((m_a 5), .inl (cB, 1600, .inl m_tape_c)), ((m_a 19), .inl (cI, 240, .inl m_pair_c)), ((m_a 20), .inl (cJ, 160, .inr (.inl m_lost_c)))] sz)) (va_Qv (fun (u : Int32 × Int32 × Int32 × Int32 × Int64 × Int32 × Int32 × (Nat → Int64)) => match u with | (n_m_at, n_m_token, n_m_place, n_m_value, n_m_word, n_m_bad, n_m_badPlace, n_m_lost_c) => (ir n_m_at.toInt 0 1600) ∧ ((n_m_at.toInt = m_at.toInt ∧ n_m_token.toInt = m_token.toInt) ∨ (m_at.toInt ≤ n_m_at.toInt ∧ n_m_at.toInt ≤ m_taped.toInt ∧ (m_at.toInt < n_m_at.toInt ∨ (n_m_token.toInt = 0 ∧ n_m_at.toInt = m_taped.toInt))))) (fun (u : Int32 × Int32 × Int32 × Int32 × Int64 × Int32 × Int32 × (Nat → Int64)) (t : State) => bRW g (tyT cI cJ cB cZ cL) (va_A [(m, .inr (11, mG m_a m_thrown m_taped m_at m_token m_place m_value m_word m_bad m_badPlace m_fault m_faultPlace m_willing m_will m_forgot m_isDrawn m_x m_begin m_round m_roundCards m_fate m_any m_bothSend m_meanCards m_bestSum m_fitMany m_fitFirst m_fitSecond)), ((m_a 17), .inl (cI, 25, .inl m_has_c)), ((m_a 5), .inl (cB, 1600, .inl m_tape_c)), ((m_a 19), .inl (cI, 240, .inl m_pair_c)), ((m_a 20), .inl (cJ, 160, .inr (.inl m_lost_c)))] sz) (match u with | (n_m_at, n_m_token, n_m_place, n_m_value, n_m_word, n_m_bad, n_m_badPlace, n_m_lost_c) => [(m, .inr (11, mG m_a m_thrown m_taped n_m_at n_m_token n_m_place n_m_value n_m_word n_m_bad n_m_badPlace m_fault m_faultPlace m_willing m_will m_forgot m_isDrawn m_x m_begin m_round m_roundCards m_fate m_any m_bothSend m_meanCards m_bestSum m_fitMany m_fitFirst m_fitSecond)), ((m_a 17), .inl (cI, 25, .inl m_has_c)), ((m_a 5), .inl (cB, 1600, .inl m_tape_c)), ((m_a 19), .inl (cI, 240, .inl m_pair_c)), ((m_a 20), .inl (cJ, 160, .inr (.inl n_m_lost_c)))]) t) (va_A [(m, .inr (11, mG m_a m_thrown m_taped m_at m_token m_place m_value m_word m_bad m_badPlace m_fault m_faultPlace m_willing m_will m_forgot m_isDrawn m_x m_begin m_round m_roundCards m_fate m_any m_bothSend m_meanCards m_bestSum m_fitMany m_fitFirst m_fitSecond)), ((m_a 17), .inl (cI, 25, .inl m_has_c)), ((m_a 5), .inl (cB, 1600, .inl m_tape_c)), ((m_a 19), .inl (cI, 240, .inl m_pair_c)), ((m_a 20), .inl (cJ, 160, .inr (.inl m_lost_c)))] sz)) 0 0 (va_A [(m, .inr (11, mG m_a m_thrown m_taped m_at m_token m_place m_value m_word m_bad m_badPlace m_fault m_faultPlace m_willing m_will m_forgot m_isDrawn m_x m_begin m_round m_roundCards m_fate m_any m_bothSend m_meanCards m_bestSum m_fitMany m_fitFirst m_fitSecond)), ((m_a 17), .inl (cI, 25, .inl m_has_c)), ((m_a 5), .inl (cB, 1600, .inl m_tape_c)), ((m_a 19), .inl (cI, 240, .inl m_pair_c)), ((m_a 20), .inl (cJ, 160, .inr (.inl m_lost_c)))] sz) := by
  refine Met.ofW (cc := cX12_lostLine) (maxL := 6) (ret := none) (by decide) rfl ?_
  intro p e s mth args below meth c s₁ B hml hv
  obtain ⟨rfl, hsz, hP, hK, hD0⟩ := hv
  have hx := B.exec
  have hb := B.bytes
  have hr := B.returns
  have hts := atoms_spec (ws := v_X12_lostLine) B.pre
  have hown : s.vm.findClass RX12 = some mth.cls := findClass_of_methodNamed B.named
  have hlocks := B.notSynchronized
  clear B
  subst hsz
  have iX12 : ∀ w ∈ wsX120, w ∈ v_X12_lostLine := (fun _ h => List.mem_cons_of_mem _ (List.mem_append_right _ (List.mem_append_right _ (List.mem_append_right _ (List.mem_append_right _ (List.mem_append_right _ (List.mem_append_right _ (List.mem_append_left _ h))))))))
  have hD := hD0.self (sz := s.heap.size)
  generalize hAe : (va_A [(m, .inr (11, mG m_a m_thrown m_taped m_at m_token m_place m_value m_word m_bad m_badPlace m_fault m_faultPlace m_willing m_will m_forgot m_isDrawn m_x m_begin m_round m_roundCards m_fate m_any m_bothSend m_meanCards m_bestSum m_fitMany m_fitFirst m_fitSecond)), ((m_a 17), .inl (cI, 25, .inl m_has_c)), ((m_a 5), .inl (cB, 1600, .inl m_tape_c)), ((m_a 19), .inl (cI, 240, .inl m_pair_c)), ((m_a 20), .inl (cJ, 160, .inr (.inl m_lost_c)))] s.heap.size) = A at hD ⊢
  have hA : ∀ q : Nat, s.heap.size ≤ q → A q := fun q h => by rw [← hAe]; exact Or.inr h
  have hS : va_S A s.heap s.heap [] := va_S.rf
  have hl := lv_entry ([.ref m]) (n := 6) (Nat.le_of_ble_eq_true rfl)
  rw [lg_entry_eq]
  generalize (lg_sl ([.ref m]) ++ List.replicate (6 - (lg_sl ([.ref m])).length) Slot.unset).toArray = ls at hl ⊢
  generalize ([.ref m] : List Value).toArray = av at hts ⊢
  generalize hQ : MQ below _ av s _ _ A = QQ
  have hl : lv_has ls 6 [(0, .ref m)] := hl
  have hP : va_P g vwCl [(m, .inr (11, mG m_a m_thrown m_taped m_at m_token m_place m_value m_word m_bad m_badPlace m_fault m_faultPlace m_willing m_will m_forgot m_isDrawn m_x m_begin m_round m_roundCards m_fate m_any m_bothSend m_meanCards m_bestSum m_fitMany m_fitFirst m_fitSecond)), ((m_a 17), .inl (cI, 25, .inl m_has_c)), ((m_a 5), .inl (cB, 1600, .inl m_tape_c)), ((m_a 19), .inl (cI, 240, .inl m_pair_c)), ((m_a 20), .inl (cJ, 160, .inr (.inl m_lost_c)))] s.heap := hP
  refine lv_aload_n hx hb dX12_lostLine_0 rfl (lv_at hl 0 rfl) ?_
  refine rw_i (wr := [((m_a 19), .inl (cI, 240, .inl m_pair_c)), ((m_a 20), .inl (cJ, 160, .inr (.inl m_lost_c)))]) (va_runV (As := []) (rest := []) ⟨hx, hb, hml, hown, hts⟩ (q_X12_yearHere l g cI cJ cB cZ cL m m_a m_thrown m_taped m_at m_token m_place m_value m_word m_bad m_badPlace m_fault m_faultPlace m_willing m_will m_forgot m_isDrawn m_x m_begin m_round m_roundCards m_fate m_any m_bothSend m_meanCards m_bestSum m_fitMany m_fitFirst m_fitSecond m_has_c m_tape_c s.heap.size hv_m_taped hv_m_at hv_m_will hv_m_isDrawn ha_m_has_c (by omega)) (cwV 0 hts (goodIn_app (g_4 (List.mem_cons_of_mem _ (List.mem_append_left _ (List.mem_of_getElem? (i := 0) rfl))) (List.mem_cons_of_mem _ (List.mem_append_left _ (List.mem_of_getElem? (i := 1) rfl))) (List.mem_cons_of_mem _ (List.mem_append_left _ (List.mem_of_getElem? (i := 2) rfl))) (List.mem_cons_of_mem _ (List.mem_append_left _ (List.mem_of_getElem? (i := 3) rfl))) (by decide +kernel)) (goodIn_sub (fun _ h => List.mem_cons_of_mem _ (List.mem_append_right _ (List.mem_append_left _ h))) good_v_X12_yearHere)) rfl rfl rfl (by decide +kernel) ⟨Nat.le_of_ble_eq_true rfl, Nat.le_of_ble_eq_true rfl⟩) (pv_RW (q := (RX12, TX12, 56)) (ci := 11) (q0 := 0) (wc := [(m, .inr (11, mG m_a m_thrown m_taped m_at m_token m_place m_value m_word m_bad m_badPlace m_fault m_faultPlace m_willing m_will m_forgot m_isDrawn m_x m_begin m_round m_roundCards m_fate m_any m_bothSend m_meanCards m_bestSum m_fitMany m_fitFirst m_fitSecond)), ((m_a 17), .inl (cI, 25, .inl m_has_c)), ((m_a 5), .inl (cB, 1600, .inl m_tape_c))]) hK hP hD [0, 1, 2] (by decide) rfl rfl rfl) rfl rfl hl.1 rfl (lv_room (Nat.le_of_ble_eq_true rfl)) dX12_lostLine_1 ⟨Nat.le_of_ble_eq_true rfl, Nat.le_of_ble_eq_true rfl⟩) hS hA hP hD [0, 1, 2] [3, 4] rfl rfl (by decide) (by decide) (fun r1 u1 H locs hw1 hP hD hS => ?_)
  obtain ⟨n_m_at_1, n_m_token_1, n_m_place_1, n_m_value_1, n_m_word_1, n_m_bad_1, n_m_badPlace_1⟩ := u1
  have hP : va_P g vwCl [((m_a 19), .inl (cI, 240, .inl m_pair_c)), ((m_a 20), .inl (cJ, 160, .inr (.inl m_lost_c))), (m, .inr (11, mG m_a m_thrown m_taped n_m_at_1 n_m_token_1 n_m_place_1 n_m_value_1 n_m_word_1 n_m_bad_1 n_m_badPlace_1 m_fault m_faultPlace m_willing m_will m_forgot m_isDrawn m_x m_begin m_round m_roundCards m_fate m_any m_bothSend m_meanCards m_bestSum m_fitMany m_fitFirst m_fitSecond)), ((m_a 17), .inl (cI, 25, .inl m_has_c)), ((m_a 5), .inl (cB, 1600, .inl m_tape_c))] H := hP
  have hD : va_D A [((m_a 19), .inl (cI, 240, .inl m_pair_c)), ((m_a 20), .inl (cJ, 160, .inr (.inl m_lost_c))), (m, .inr (11, mG m_a m_thrown m_taped n_m_at_1 n_m_token_1 n_m_place_1 n_m_value_1 n_m_word_1 n_m_bad_1 n_m_badPlace_1 m_fault m_faultPlace m_willing m_will m_forgot m_isDrawn m_x m_begin m_round m_roundCards m_fate m_any m_bothSend m_meanCards m_bestSum m_fitMany m_fitFirst m_fitSecond)), ((m_a 17), .inl (cI, 25, .inl m_has_c)), ((m_a 5), .inl (cB, 1600, .inl m_tape_c))] := hD
  dsimp only at hw1
  obtain ⟨hw1_0, hw1_1, hw1_2⟩ := hw1
  have hw1_1 : (n_m_at_1.toInt = m_at.toInt ∧ n_m_token_1.toInt = m_token.toInt) ∨ (m_at.toInt ≤ n_m_at_1.toInt ∧ n_m_at_1.toInt ≤ m_taped.toInt ∧ (m_at.toInt < n_m_at_1.toInt ∨ (n_m_token_1.toInt = 0 ∧ n_m_at_1.toInt = m_taped.toInt))) := hw1_1
  refine lv_istore_n (lv' := [(1, .int r1), (0, .ref m)]) hx hb dX12_lostLine_4 rfl hl (by decide) rfl (fun ls hl => ?_)
  refine lv_aload_n hx hb dX12_lostLine_5 rfl (lv_at hl 1 rfl) ?_
  refine rw_i (wr := [((m_a 19), .inl (cI, 240, .inl m_pair_c)), ((m_a 20), .inl (cJ, 160, .inr (.inl m_lost_c)))]) (va_runV (As := []) (rest := []) ⟨hx, hb, hml, hown, hts⟩ (q_X12_personHere l g cI cJ cB cZ cL m m_a m_thrown m_taped n_m_at_1 n_m_token_1 n_m_place_1 n_m_value_1 n_m_word_1 n_m_bad_1 n_m_badPlace_1 m_fault m_faultPlace m_willing m_will m_forgot m_isDrawn m_x m_begin m_round m_roundCards m_fate m_any m_bothSend m_meanCards m_bestSum m_fitMany m_fitFirst m_fitSecond m_has_c m_tape_c H.size hv_m_taped hw1_0 hv_m_will hv_m_isDrawn ha_m_has_c (by omega)) (cwV 0 hts (goodIn_app (g_4 (List.mem_cons_of_mem _ (List.mem_append_left _ (List.mem_of_getElem? (i := 4) rfl))) (List.mem_cons_of_mem _ (List.mem_append_left _ (List.mem_of_getElem? (i := 5) rfl))) (List.mem_cons_of_mem _ (List.mem_append_left _ (List.mem_of_getElem? (i := 6) rfl))) (List.mem_cons_of_mem _ (List.mem_append_left _ (List.mem_of_getElem? (i := 3) rfl))) (by decide +kernel)) (goodIn_sub (fun _ h => List.mem_cons_of_mem _ (List.mem_append_right _ (List.mem_append_right _ (List.mem_append_left _ h)))) good_v_X12_personHere)) rfl rfl rfl (by decide +kernel) ⟨Nat.le_of_ble_eq_true rfl, Nat.le_of_ble_eq_true rfl⟩) (pv_RW (q := (RX12, TX12, 56)) (ci := 11) (q0 := 0) (wc := [(m, .inr (11, mG m_a m_thrown m_taped n_m_at_1 n_m_token_1 n_m_place_1 n_m_value_1 n_m_word_1 n_m_bad_1 n_m_badPlace_1 m_fault m_faultPlace m_willing m_will m_forgot m_isDrawn m_x m_begin m_round m_roundCards m_fate m_any m_bothSend m_meanCards m_bestSum m_fitMany m_fitFirst m_fitSecond)), ((m_a 17), .inl (cI, 25, .inl m_has_c)), ((m_a 5), .inl (cB, 1600, .inl m_tape_c))]) hK hP hD [2, 3, 4] (by decide) rfl rfl rfl) rfl rfl hl.1 rfl (lv_room (Nat.le_of_ble_eq_true rfl)) dX12_lostLine_6 ⟨Nat.le_of_ble_eq_true rfl, Nat.le_of_ble_eq_true rfl⟩) hS hA hP hD [2, 3, 4] [0, 1] rfl rfl (by decide) (by decide) (fun r6 u6 H locs hw6 hP hD hS => ?_)
  obtain ⟨n_m_at_6, n_m_token_6, n_m_place_6, n_m_value_6, n_m_word_6, n_m_bad_6, n_m_badPlace_6⟩ := u6
  have hP : va_P g vwCl [((m_a 19), .inl (cI, 240, .inl m_pair_c)), ((m_a 20), .inl (cJ, 160, .inr (.inl m_lost_c))), (m, .inr (11, mG m_a m_thrown m_taped n_m_at_6 n_m_token_6 n_m_place_6 n_m_value_6 n_m_word_6 n_m_bad_6 n_m_badPlace_6 m_fault m_faultPlace m_willing m_will m_forgot m_isDrawn m_x m_begin m_round m_roundCards m_fate m_any m_bothSend m_meanCards m_bestSum m_fitMany m_fitFirst m_fitSecond)), ((m_a 17), .inl (cI, 25, .inl m_has_c)), ((m_a 5), .inl (cB, 1600, .inl m_tape_c))] H := hP
  have hD : va_D A [((m_a 19), .inl (cI, 240, .inl m_pair_c)), ((m_a 20), .inl (cJ, 160, .inr (.inl m_lost_c))), (m, .inr (11, mG m_a m_thrown m_taped n_m_at_6 n_m_token_6 n_m_place_6 n_m_value_6 n_m_word_6 n_m_bad_6 n_m_badPlace_6 m_fault m_faultPlace m_willing m_will m_forgot m_isDrawn m_x m_begin m_round m_roundCards m_fate m_any m_bothSend m_meanCards m_bestSum m_fitMany m_fitFirst m_fitSecond)), ((m_a 17), .inl (cI, 25, .inl m_has_c)), ((m_a 5), .inl (cB, 1600, .inl m_tape_c))] := hD
  dsimp only at hw6
  obtain ⟨hw6_0, hw6_1, hw6_2⟩ := hw6
  have hw6_1 : (n_m_at_6.toInt = n_m_at_1.toInt ∧ n_m_token_6.toInt = n_m_token_1.toInt) ∨ (n_m_at_1.toInt ≤ n_m_at_6.toInt ∧ n_m_at_6.toInt ≤ m_taped.toInt ∧ (n_m_at_1.toInt < n_m_at_6.toInt ∨ (n_m_token_6.toInt = 0 ∧ n_m_at_6.toInt = m_taped.toInt))) := hw6_1
  refine lv_istore_n (lv' := [(2, .int r6), (1, .int r1), (0, .ref m)]) hx hb dX12_lostLine_9 rfl hl (by decide) rfl (fun ls hl => ?_)
  refine lv_aload_n hx hb dX12_lostLine_10 rfl (lv_at hl 2 rfl) ?_
  refine va_get (D := g) (ci := 11) (v := .int n_m_bad_6) (C := RX12) (T := TX12) (N := 56) hx hb hts iX12 hown hK hP 2 rfl rfl 12 (by decide) (hts (.fieldLink RX12 159 "CardsAtYuleModel" "bad" "I") (List.mem_cons_of_mem _ (List.mem_append_left _ (List.mem_of_getElem? (i := 7) rfl)))) (fun _ h9 => h9) rfl dX12_lostLine_11 ?_
  have J56 : ∀ (j56_m_bad : Int32) (j56_m_badPlace : Int32) (H : Heap) (locs : List Loc) (ls : Array Slot), ((n_m_at_6.toInt = m_at.toInt ∧ n_m_token_6.toInt = m_token.toInt) ∨ (m_at.toInt ≤ n_m_at_6.toInt ∧ n_m_at_6.toInt ≤ m_taped.toInt ∧ (m_at.toInt < n_m_at_6.toInt ∨ (n_m_token_6.toInt = 0 ∧ n_m_at_6.toInt = m_taped.toInt)))) → va_P g vwCl [((m_a 19), .inl (cI, 240, .inl m_pair_c)), ((m_a 20), .inl (cJ, 160, .inr (.inl m_lost_c))), (m, .inr (11, mG m_a m_thrown m_taped n_m_at_6 n_m_token_6 n_m_place_6 n_m_value_6 n_m_word_6 j56_m_bad j56_m_badPlace m_fault m_faultPlace m_willing m_will m_forgot m_isDrawn m_x m_begin m_round m_roundCards m_fate m_any m_bothSend m_meanCards m_bestSum m_fitMany m_fitFirst m_fitSecond)), ((m_a 17), .inl (cI, 25, .inl m_has_c)), ((m_a 5), .inl (cB, 1600, .inl m_tape_c))] H → va_D A [((m_a 19), .inl (cI, 240, .inl m_pair_c)), ((m_a 20), .inl (cJ, 160, .inr (.inl m_lost_c))), (m, .inr (11, mG m_a m_thrown m_taped n_m_at_6 n_m_token_6 n_m_place_6 n_m_value_6 n_m_word_6 j56_m_bad j56_m_badPlace m_fault m_faultPlace m_willing m_will m_forgot m_isDrawn m_x m_begin m_round m_roundCards m_fate m_any m_bothSend m_meanCards m_bestSum m_fitMany m_fitFirst m_fitSecond)), ((m_a 17), .inl (cI, 25, .inl m_has_c)), ((m_a 5), .inl (cB, 1600, .inl m_tape_c))] → va_S A s.heap H locs → lv_has ls 6 [(0, .ref m), (1, .int r1), (2, .int r6)] → W p l e (headSpec v_X12_lostLine ({ frames := 4, cells := 0, slots := 0, locals := 87 })).room s mth av below meth c H locs 0 0 QQ (F0 mth 56 ls []) := by
    intro j56_m_bad j56_m_badPlace H locs ls hi56_0 hP hD hS hl
    refine lv_aload_n hx hb dX12_lostLine_56 rfl (lv_at hl 0 rfl) ?_
    refine rw_i (wr := [((m_a 19), .inl (cI, 240, .inl m_pair_c)), ((m_a 20), .inl (cJ, 160, .inr (.inl m_lost_c)))]) (va_runV (As := []) (rest := []) ⟨hx, hb, hml, hown, hts⟩ (q_X12_personHere l g cI cJ cB cZ cL m m_a m_thrown m_taped n_m_at_6 n_m_token_6 n_m_place_6 n_m_value_6 n_m_word_6 j56_m_bad j56_m_badPlace m_fault m_faultPlace m_willing m_will m_forgot m_isDrawn m_x m_begin m_round m_roundCards m_fate m_any m_bothSend m_meanCards m_bestSum m_fitMany m_fitFirst m_fitSecond m_has_c m_tape_c H.size hv_m_taped hw6_0 hv_m_will hv_m_isDrawn ha_m_has_c (by omega)) (cwV 0 hts (goodIn_app (g_4 (List.mem_cons_of_mem _ (List.mem_append_left _ (List.mem_of_getElem? (i := 4) rfl))) (List.mem_cons_of_mem _ (List.mem_append_left _ (List.mem_of_getElem? (i := 5) rfl))) (List.mem_cons_of_mem _ (List.mem_append_left _ (List.mem_of_getElem? (i := 6) rfl))) (List.mem_cons_of_mem _ (List.mem_append_left _ (List.mem_of_getElem? (i := 3) rfl))) (by decide +kernel)) (goodIn_sub (fun _ h => List.mem_cons_of_mem _ (List.mem_append_right _ (List.mem_append_right _ (List.mem_append_left _ h)))) good_v_X12_personHere)) rfl rfl rfl (by decide +kernel) ⟨Nat.le_of_ble_eq_true rfl, Nat.le_of_ble_eq_true rfl⟩) (pv_RW (q := (RX12, TX12, 56)) (ci := 11) (q0 := 0) (wc := [(m, .inr (11, mG m_a m_thrown m_taped n_m_at_6 n_m_token_6 n_m_place_6 n_m_value_6 n_m_word_6 j56_m_bad j56_m_badPlace m_fault m_faultPlace m_willing m_will m_forgot m_isDrawn m_x m_begin m_round m_roundCards m_fate m_any m_bothSend m_meanCards m_bestSum m_fitMany m_fitFirst m_fitSecond)), ((m_a 17), .inl (cI, 25, .inl m_has_c)), ((m_a 5), .inl (cB, 1600, .inl m_tape_c))]) hK hP hD [2, 3, 4] (by decide) rfl rfl rfl) rfl rfl hl.1 rfl (lv_room (Nat.le_of_ble_eq_true rfl)) dX12_lostLine_57 ⟨Nat.le_of_ble_eq_true rfl, Nat.le_of_ble_eq_true rfl⟩) hS hA hP hD [2, 3, 4] [0, 1] rfl rfl (by decide) (by decide) (fun r57 u57 H locs hw57 hP hD hS => ?_)
    obtain ⟨n_m_at_57, n_m_token_57, n_m_place_57, n_m_value_57, n_m_word_57, n_m_bad_57, n_m_badPlace_57⟩ := u57
    have hP : va_P g vwCl [((m_a 19), .inl (cI, 240, .inl m_pair_c)), ((m_a 20), .inl (cJ, 160, .inr (.inl m_lost_c))), (m, .inr (11, mG m_a m_thrown m_taped n_m_at_57 n_m_token_57 n_m_place_57 n_m_value_57 n_m_word_57 n_m_bad_57 n_m_badPlace_57 m_fault m_faultPlace m_willing m_will m_forgot m_isDrawn m_x m_begin m_round m_roundCards m_fate m_any m_bothSend m_meanCards m_bestSum m_fitMany m_fitFirst m_fitSecond)), ((m_a 17), .inl (cI, 25, .inl m_has_c)), ((m_a 5), .inl (cB, 1600, .inl m_tape_c))] H := hP
    have hD : va_D A [((m_a 19), .inl (cI, 240, .inl m_pair_c)), ((m_a 20), .inl (cJ, 160, .inr (.inl m_lost_c))), (m, .inr (11, mG m_a m_thrown m_taped n_m_at_57 n_m_token_57 n_m_place_57 n_m_value_57 n_m_word_57 n_m_bad_57 n_m_badPlace_57 m_fault m_faultPlace m_willing m_will m_forgot m_isDrawn m_x m_begin m_round m_roundCards m_fate m_any m_bothSend m_meanCards m_bestSum m_fitMany m_fitFirst m_fitSecond)), ((m_a 17), .inl (cI, 25, .inl m_has_c)), ((m_a 5), .inl (cB, 1600, .inl m_tape_c))] := hD
    dsimp only at hw57
    obtain ⟨hw57_0, hw57_1, hw57_2⟩ := hw57
    have hw57_1 : (n_m_at_57.toInt = n_m_at_6.toInt ∧ n_m_token_57.toInt = n_m_token_6.toInt) ∨ (n_m_at_6.toInt ≤ n_m_at_57.toInt ∧ n_m_at_57.toInt ≤ m_taped.toInt ∧ (n_m_at_6.toInt < n_m_at_57.toInt ∨ (n_m_token_57.toInt = 0 ∧ n_m_at_57.toInt = m_taped.toInt))) := hw57_1
    refine lv_istore_n (lv' := [(3, .int r57), (0, .ref m), (1, .int r1), (2, .int r6)]) hx hb dX12_lostLine_60 rfl hl (by decide) rfl (fun ls hl => ?_)
    refine lv_aload_n hx hb dX12_lostLine_61 rfl (lv_at hl 1 rfl) ?_
    refine va_get (D := g) (ci := 11) (v := .int n_m_bad_57) (C := RX12) (T := TX12) (N := 56) hx hb hts iX12 hown hK hP 2 rfl rfl 12 (by decide) (hts (.fieldLink RX12 159 "CardsAtYuleModel" "bad" "I") (List.mem_cons_of_mem _ (List.mem_append_left _ (List.mem_of_getElem? (i := 7) rfl)))) (fun _ h9 => h9) rfl dX12_lostLine_62 ?_
    refine lv_if_eq (tgt := 69) hx hb dX12_lostLine_65 (by decide) (fun c65 => ?_) (fun c65 => ?_)
    rotate_left 1
    · have f65 := (show n_m_bad_57.toInt ≠ 0 from z_ne rfl rfl c65)
      subst hQ
      have hP9 := hP.sub (ws' := [(m, .inr (11, mG m_a m_thrown m_taped n_m_at_57 n_m_token_57 n_m_place_57 n_m_value_57 n_m_word_57 n_m_bad_57 n_m_badPlace_57 m_fault m_faultPlace m_willing m_will m_forgot m_isDrawn m_x m_begin m_round m_roundCards m_fate m_any m_bothSend m_meanCards m_bestSum m_fitMany m_fitFirst m_fitSecond)), ((m_a 17), .inl (cI, 25, .inl m_has_c)), ((m_a 5), .inl (cB, 1600, .inl m_tape_c)), ((m_a 19), .inl (cI, 240, .inl m_pair_c)), ((m_a 20), .inl (cJ, 160, .inr (.inl m_lost_c)))]) [2, 3, 4, 0, 1] rfl
      have hD9 := hD.sub (ws' := [(m, .inr (11, mG m_a m_thrown m_taped n_m_at_57 n_m_token_57 n_m_place_57 n_m_value_57 n_m_word_57 n_m_bad_57 n_m_badPlace_57 m_fault m_faultPlace m_willing m_will m_forgot m_isDrawn m_x m_begin m_round m_roundCards m_fate m_any m_bothSend m_meanCards m_bestSum m_fitMany m_fitFirst m_fitSecond)), ((m_a 17), .inl (cI, 25, .inl m_has_c)), ((m_a 5), .inl (cB, 1600, .inl m_tape_c)), ((m_a 19), .inl (cI, 240, .inl m_pair_c)), ((m_a 20), .inl (cJ, 160, .inr (.inl m_lost_c)))]) [2, 3, 4, 0, 1] (by decide) rfl
      exact W.vret hx hb hr (fun t ht hW => ⟨⟨(n_m_at_57, n_m_token_57, n_m_place_57, n_m_value_57, n_m_word_57, n_m_bad_57, n_m_badPlace_57, m_lost_c), rfl, ⟨hw57_0, (by omega)⟩, ⟨by rw [ht]; exact hP9, va_K.moved hW.alike hK, hD9⟩⟩, hS.F ht⟩) hS.2.2 dX12_lostLine_68
    have f65 := (show n_m_bad_57.toInt = 0 from z_eq rfl rfl c65)
    have r65a : ir n_m_bad_57.toInt 0 0 := ir_eqa f65 (rg_all n_m_bad_57) (ir_c 0) (by decide) (by decide)
    refine lv_aload_n hx hb dX12_lostLine_69 rfl (lv_at hl 1 rfl) ?_
    refine lv_iconst (v := 4) hx hb dX12_lostLine_70 (by decide) ?_
    refine lv_iload_n hx hb dX12_lostLine_71 rfl (lv_at hl 3 rfl) ?_
    refine lv_iload_n hx hb dX12_lostLine_72 rfl (lv_at hl 0 rfl) ?_
    refine ro_i (va_runV (As := [.int 4, .int r6, .int r57]) (rest := []) ⟨hx, hb, hml, hown, hts⟩ (q_X12_pairOf l g cI cJ cB cZ cL 4 r6 r57 m m_a m_thrown m_taped n_m_at_57 n_m_token_57 n_m_place_57 n_m_value_57 n_m_word_57 n_m_bad_57 n_m_badPlace_57 m_fault m_faultPlace m_willing m_will m_forgot m_isDrawn m_x m_begin m_round m_roundCards m_fate m_any m_bothSend m_meanCards m_bestSum m_fitMany m_fitFirst m_fitSecond m_has_c m_pair_c H.size (by decide) hv_m_taped hw57_0 hv_m_will hv_m_isDrawn ha_m_has_c ha_m_pair_c) (cwV 3 hts (goodIn_app (g_4 (List.mem_cons_of_mem _ (List.mem_append_left _ (List.mem_of_getElem? (i := 8) rfl))) (List.mem_cons_of_mem _ (List.mem_append_left _ (List.mem_of_getElem? (i := 9) rfl))) (List.mem_cons_of_mem _ (List.mem_append_left _ (List.mem_of_getElem? (i := 10) rfl))) (List.mem_cons_of_mem _ (List.mem_append_left _ (List.mem_of_getElem? (i := 3) rfl))) (by decide +kernel)) (goodIn_sub (fun _ h => List.mem_cons_of_mem _ (List.mem_append_right _ (List.mem_append_right _ (List.mem_append_right _ (List.mem_append_left _ h))))) good_v_X12_pairOf)) rfl rfl rfl (by decide +kernel) ⟨Nat.le_of_ble_eq_true rfl, Nat.le_of_ble_eq_true rfl⟩) (pv_RO (q := (RX12, TX12, 56)) (ci := 11) (q0 := 0) (wc := [(m, .inr (11, mG m_a m_thrown m_taped n_m_at_57 n_m_token_57 n_m_place_57 n_m_value_57 n_m_word_57 n_m_bad_57 n_m_badPlace_57 m_fault m_faultPlace m_willing m_will m_forgot m_isDrawn m_x m_begin m_round m_roundCards m_fate m_any m_bothSend m_meanCards m_bestSum m_fitMany m_fitFirst m_fitSecond)), ((m_a 17), .inl (cI, 25, .inl m_has_c)), ((m_a 19), .inl (cI, 240, .inl m_pair_c))]) hK hP [2, 3, 0] rfl rfl rfl) rfl rfl hl.1 rfl (lv_room (Nat.le_of_ble_eq_true rfl)) dX12_lostLine_73 ⟨Nat.le_of_ble_eq_true rfl, Nat.le_of_ble_eq_true rfl⟩) hS hA hP (fun r73 u73 H locs hw73 hP hS => ?_)
    have hw73_0 := hw73
    refine lv_istore (lv' := [(4, .int r73), (3, .int r57), (0, .ref m), (1, .int r1), (2, .int r6)]) hx hb dX12_lostLine_76 hl (by decide) rfl (fun ls hl => ?_)
    refine lv_aload_n hx hb dX12_lostLine_78 rfl (lv_at hl 2 rfl) ?_
    refine va_get (D := g) (ci := 11) (v := .ref (m_a 19)) (C := RX12) (T := TX12) (N := 56) hx hb hts iX12 hown hK hP 2 rfl rfl 19 (by decide) (hts (.fieldLink RX12 40 "CardsAtYuleModel" "pair" "[I") (List.mem_cons_of_mem _ (List.mem_append_left _ (List.mem_of_getElem? (i := 11) rfl)))) (fun _ h9 => h9) rfl dX12_lostLine_79 ?_
    refine lv_iconst (v := 3) hx hb dX12_lostLine_82 (by decide) ?_
    refine lv_bipush (v := 64) hx hb dX12_lostLine_83 (by decide) ?_
    refine lv_iload hx hb dX12_lostLine_85 (lv_at hl 0 rfl) ?_
    refine lv_iadd hx hb dX12_lostLine_87 ?_
    refine lv_topi (fun y87 e87 => ?_)
    have q87 : y87.toInt = 64 + r73.toInt := by rw [e87]; exact ad_z rfl rfl (ir_c 64) hw73_0 (by decide) (by decide)
    have r87 : ir y87.toInt 63 79 := ad_r q87 (ir_c 64) hw73_0 (by decide) (by decide)
    refine lv_imul hx hb dX12_lostLine_88 ?_
    refine lv_topi (fun y88 e88 => ?_)
    have q88 : y88.toInt = 3 * y87.toInt := by rw [e88]; exact mu_z rfl rfl (ir_c 3) r87 (by decide) (by decide) (by decide)
    have r88 : ir y88.toInt 189 237 := mu_r q88 (ir_c 3) r87 (by decide) (by decide) (by decide) (by decide)
    refine va_iald (D := g) hx hb hK hP 0 0 rfl rfl (vi_rg rfl r88 (by decide) (by decide)) dX12_lostLine_89 ?_
    refine lv_topi (fun y89 e89 => ?_)
    have r89 : ir y89.toInt 0 15 := by rw [e89]; exact ha_m_pair_c _ (vi_cl (vi_rg rfl r88 (by decide) (by decide)))
    refine lv_iload_n hx hb dX12_lostLine_90 rfl (lv_at hl 4 rfl) ?_
    have J99 : ∀ (j99_s0 : Int32) (H : Heap) (locs : List Loc) (ls : Array Slot), (ir j99_s0.toInt 0 1) → ((n_m_at_57.toInt = m_at.toInt ∧ n_m_token_57.toInt = m_token.toInt) ∨ (m_at.toInt ≤ n_m_at_57.toInt ∧ n_m_at_57.toInt ≤ m_taped.toInt ∧ (m_at.toInt < n_m_at_57.toInt ∨ (n_m_token_57.toInt = 0 ∧ n_m_at_57.toInt = m_taped.toInt)))) → va_P g vwCl [((m_a 19), .inl (cI, 240, .inl m_pair_c)), ((m_a 20), .inl (cJ, 160, .inr (.inl m_lost_c))), (m, .inr (11, mG m_a m_thrown m_taped n_m_at_57 n_m_token_57 n_m_place_57 n_m_value_57 n_m_word_57 n_m_bad_57 n_m_badPlace_57 m_fault m_faultPlace m_willing m_will m_forgot m_isDrawn m_x m_begin m_round m_roundCards m_fate m_any m_bothSend m_meanCards m_bestSum m_fitMany m_fitFirst m_fitSecond)), ((m_a 17), .inl (cI, 25, .inl m_has_c)), ((m_a 5), .inl (cB, 1600, .inl m_tape_c))] H → va_D A [((m_a 19), .inl (cI, 240, .inl m_pair_c)), ((m_a 20), .inl (cJ, 160, .inr (.inl m_lost_c))), (m, .inr (11, mG m_a m_thrown m_taped n_m_at_57 n_m_token_57 n_m_place_57 n_m_value_57 n_m_word_57 n_m_bad_57 n_m_badPlace_57 m_fault m_faultPlace m_willing m_will m_forgot m_isDrawn m_x m_begin m_round m_roundCards m_fate m_any m_bothSend m_meanCards m_bestSum m_fitMany m_fitFirst m_fitSecond)), ((m_a 17), .inl (cI, 25, .inl m_has_c)), ((m_a 5), .inl (cB, 1600, .inl m_tape_c))] → va_S A s.heap H locs → lv_has ls 6 [(0, .ref m), (1, .int r1), (4, .int r73)] → W p l e (headSpec v_X12_lostLine ({ frames := 4, cells := 0, slots := 0, locals := 87 })).room s mth av below meth c H locs 0 0 QQ (F0 mth 99 ls [.int j99_s0]) := by
      intro j99_s0 H locs ls hj99_s0 hi99_0 hP hD hS hl
      refine lv_istore (lv' := [(5, .int j99_s0), (0, .ref m), (1, .int r1), (4, .int r73)]) hx hb dX12_lostLine_99 hl (by decide) rfl (fun ls hl => ?_)
      refine lv_aload_n hx hb dX12_lostLine_101 rfl (lv_at hl 1 rfl) ?_
      refine va_get (D := g) (ci := 11) (v := .ref (m_a 20)) (C := RX12) (T := TX12) (N := 56) hx hb hts iX12 hown hK hP 2 rfl rfl 20 (by decide) (hts (.fieldLink RX12 43 "CardsAtYuleModel" "lost" "[J") (List.mem_cons_of_mem _ (List.mem_append_left _ (List.mem_of_getElem? (i := 12) rfl)))) (fun _ h9 => h9) rfl dX12_lostLine_102 ?_
      refine lv_iconst (v := 2) hx hb dX12_lostLine_105 (by decide) ?_
      refine lv_bipush (v := 64) hx hb dX12_lostLine_106 (by decide) ?_
      refine lv_iload hx hb dX12_lostLine_108 (lv_at hl 3 rfl) ?_
      refine lv_iadd hx hb dX12_lostLine_110 ?_
      refine lv_topi (fun y110 e110 => ?_)
      have q110 : y110.toInt = 64 + r73.toInt := by rw [e110]; exact ad_z rfl rfl (ir_c 64) hw73_0 (by decide) (by decide)
      have r110 : ir y110.toInt 63 79 := ad_r q110 (ir_c 64) hw73_0 (by decide) (by decide)
      refine lv_imul hx hb dX12_lostLine_111 ?_
      refine lv_topi (fun y111 e111 => ?_)
      have q111 : y111.toInt = 2 * y110.toInt := by rw [e111]; exact mu_z rfl rfl (ir_c 2) r110 (by decide) (by decide) (by decide)
      have r111 : ir y111.toInt 126 158 := mu_r q111 (ir_c 2) r110 (by decide) (by decide) (by decide) (by decide)
      refine lv_iload hx hb dX12_lostLine_112 (lv_at hl 0 rfl) ?_
      refine lv_iadd hx hb dX12_lostLine_114 ?_
      refine lv_topi (fun y114 e114 => ?_)
      have q114 : y114.toInt = y111.toInt + j99_s0.toInt := by rw [e114]; exact ad_z rfl rfl r111 hj99_s0 (by decide) (by decide)
      have r114 : ir y114.toInt 126 159 := ad_r q114 r111 hj99_s0 (by decide) (by decide)
      refine lv_dup2_11 hx hb dX12_lostLine_115 rfl rfl ?_
      refine va_lald (D := g) hx hb hK hP 1 1 rfl rfl (vi_rg rfl r114 (by decide) (by decide)) dX12_lostLine_116 ?_
      refine lv_topl (fun y116 e116 => ?_)
      refine lv_lconst (v := 1) hx hb dX12_lostLine_117 (by decide) ?_
      refine lv_iload_n hx hb dX12_lostLine_118 rfl (lv_at hl 2 rfl) ?_
      refine lv_lshl (v := (1 <<< (r1.toInt64 &&& 63))) hx hb dX12_lostLine_119 rfl ?_
      refine lv_topl (fun y119 e119 => ?_)
      refine lv_lor hx hb dX12_lostLine_120 ?_
      refine lv_topl (fun y120 e120 => ?_)
      refine va_last (D := g) hx hb hK hP hD hS 1 1 rfl rfl (vi_rg rfl r114 (by decide) (by decide)) dX12_lostLine_121 (fun H locs hP hD hS => ?_)
      obtain ⟨g121, e121⟩ : ∃ z, z = vp_updL m_lost_c y114.toNatClampNeg y120 := ⟨_, rfl⟩
      have hP : va_P g vwCl [((m_a 19), .inl (cI, 240, .inl m_pair_c)), ((m_a 20), .inl (cJ, 160, .inr (.inl (vp_updL m_lost_c y114.toNatClampNeg y120)))), (m, .inr (11, mG m_a m_thrown m_taped n_m_at_57 n_m_token_57 n_m_place_57 n_m_value_57 n_m_word_57 n_m_bad_57 n_m_badPlace_57 m_fault m_faultPlace m_willing m_will m_forgot m_isDrawn m_x m_begin m_round m_roundCards m_fate m_any m_bothSend m_meanCards m_bestSum m_fitMany m_fitFirst m_fitSecond)), ((m_a 17), .inl (cI, 25, .inl m_has_c)), ((m_a 5), .inl (cB, 1600, .inl m_tape_c))] H := hP
      have hD : va_D A [((m_a 19), .inl (cI, 240, .inl m_pair_c)), ((m_a 20), .inl (cJ, 160, .inr (.inl (vp_updL m_lost_c y114.toNatClampNeg y120)))), (m, .inr (11, mG m_a m_thrown m_taped n_m_at_57 n_m_token_57 n_m_place_57 n_m_value_57 n_m_word_57 n_m_bad_57 n_m_badPlace_57 m_fault m_faultPlace m_willing m_will m_forgot m_isDrawn m_x m_begin m_round m_roundCards m_fate m_any m_bothSend m_meanCards m_bestSum m_fitMany m_fitFirst m_fitSecond)), ((m_a 17), .inl (cI, 25, .inl m_has_c)), ((m_a 5), .inl (cB, 1600, .inl m_tape_c))] := hD
      rw [← e121] at hP hD
      subst hQ
      have hP9 := hP.sub (ws' := [(m, .inr (11, mG m_a m_thrown m_taped n_m_at_57 n_m_token_57 n_m_place_57 n_m_value_57 n_m_word_57 n_m_bad_57 n_m_badPlace_57 m_fault m_faultPlace m_willing m_will m_forgot m_isDrawn m_x m_begin m_round m_roundCards m_fate m_any m_bothSend m_meanCards m_bestSum m_fitMany m_fitFirst m_fitSecond)), ((m_a 17), .inl (cI, 25, .inl m_has_c)), ((m_a 5), .inl (cB, 1600, .inl m_tape_c)), ((m_a 19), .inl (cI, 240, .inl m_pair_c)), ((m_a 20), .inl (cJ, 160, .inr (.inl g121)))]) [2, 3, 4, 0, 1] rfl
      have hD9 := hD.sub (ws' := [(m, .inr (11, mG m_a m_thrown m_taped n_m_at_57 n_m_token_57 n_m_place_57 n_m_value_57 n_m_word_57 n_m_bad_57 n_m_badPlace_57 m_fault m_faultPlace m_willing m_will m_forgot m_isDrawn m_x m_begin m_round m_roundCards m_fate m_any m_bothSend m_meanCards m_bestSum m_fitMany m_fitFirst m_fitSecond)), ((m_a 17), .inl (cI, 25, .inl m_has_c)), ((m_a 5), .inl (cB, 1600, .inl m_tape_c)), ((m_a 19), .inl (cI, 240, .inl m_pair_c)), ((m_a 20), .inl (cJ, 160, .inr (.inl g121)))]) [2, 3, 4, 0, 1] (by decide) rfl
      exact W.vret hx hb hr (fun t ht hW => ⟨⟨(n_m_at_57, n_m_token_57, n_m_place_57, n_m_value_57, n_m_word_57, n_m_bad_57, n_m_badPlace_57, g121), rfl, ⟨hw57_0, (by omega)⟩, ⟨by rw [ht]; exact hP9, va_K.moved hW.alike hK, hD9⟩⟩, hS.F ht⟩) hS.2.2 dX12_lostLine_122
    refine lv_icmp_ne (tgt := 98) hx hb dX12_lostLine_91 (by decide) (fun c91 => ?_) (fun c91 => ?_)
    · have f91 := (show y89.toInt ≠ r6.toInt from z_ne rfl rfl c91)
      refine lv_iconst (v := 1) hx hb dX12_lostLine_98 (by decide) ?_
      exact J99 1 _ _ _ (by decide) (by have kc0 : (1 : Int32).toInt = 1 := rfl; first | omega | decide) (hP.sub [0, 1, 2, 3, 4] rfl) (hD.sub [0, 1, 2, 3, 4] (by decide) rfl) hS (lv_sub hl [2, 3, 0] rfl)
    have f91 := (show y89.toInt = r6.toInt from z_eq rfl rfl c91)
    have r91a : ir y89.toInt 0 9 := ir_eqa f91 r89 hw6_2 (by decide) (by decide)
    refine lv_iconst (v := 0) hx hb dX12_lostLine_94 (by decide) ?_
    refine lv_goto (tgt := 99) hx hb dX12_lostLine_95 (by decide) ?_
    exact J99 0 _ _ _ (by decide) (by have kc0 : (0 : Int32).toInt = 0 := rfl; first | omega | decide) (hP.sub [0, 1, 2, 3, 4] rfl) (hD.sub [0, 1, 2, 3, 4] (by decide) rfl) hS (lv_sub hl [2, 3, 0] rfl)
  refine lv_if_ne (tgt := 56) hx hb dX12_lostLine_14 (by decide) (fun c14 => ?_) (fun c14 => ?_)
  · have f14 := (show n_m_bad_6.toInt ≠ 0 from z_ne rfl rfl c14)
    exact J56 n_m_bad_6 n_m_badPlace_6 _ _ _ (by first | omega | decide) (hP.sub [0, 1, 2, 3, 4] rfl) (hD.sub [0, 1, 2, 3, 4] (by decide) rfl) hS (lv_sub hl [2, 1, 0] rfl)
  have f14 := (show n_m_bad_6.toInt = 0 from z_eq rfl rfl c14)
  have r14a : ir n_m_bad_6.toInt 0 0 := ir_eqa f14 (rg_all n_m_bad_6) (ir_c 0) (by decide) (by decide)
  refine lv_aload_n hx hb dX12_lostLine_17 rfl (lv_at hl 2 rfl) ?_
  refine va_get (D := g) (ci := 11) (v := .int n_m_token_6) (C := RX12) (T := TX12) (N := 56) hx hb hts iX12 hown hK hP 2 rfl rfl 8 (by decide) (hts (.fieldLink RX12 148 "CardsAtYuleModel" "token" "I") (List.mem_cons_of_mem _ (List.mem_append_left _ (List.mem_of_getElem? (i := 13) rfl)))) (fun _ h9 => h9) rfl dX12_lostLine_18 ?_
  refine lv_iconst (v := 2) hx hb dX12_lostLine_21 (by decide) ?_
  refine lv_icmp_ne (tgt := 56) hx hb dX12_lostLine_22 (by decide) (fun c22 => ?_) (fun c22 => ?_)
  · have f22 := (show n_m_token_6.toInt ≠ 2 from z_ne rfl rfl c22)
    exact J56 n_m_bad_6 n_m_badPlace_6 _ _ _ (by first | omega | decide) (hP.sub [0, 1, 2, 3, 4] rfl) (hD.sub [0, 1, 2, 3, 4] (by decide) rfl) hS (lv_sub hl [2, 1, 0] rfl)
  have f22 := (show n_m_token_6.toInt = 2 from z_eq rfl rfl c22)
  have r22a : ir n_m_token_6.toInt 2 2 := ir_eqa f22 (rg_all n_m_token_6) (ir_c 2) (by decide) (by decide)
  refine lv_aload_n hx hb dX12_lostLine_25 rfl (lv_at hl 2 rfl) ?_
  refine va_get (D := g) (ci := 11) (v := .int n_m_value_6) (C := RX12) (T := TX12) (N := 56) hx hb hts iX12 hown hK hP 2 rfl rfl 10 (by decide) (hts (.fieldLink RX12 141 "CardsAtYuleModel" "value" "I") (List.mem_cons_of_mem _ (List.mem_append_left _ (List.mem_of_getElem? (i := 14) rfl)))) (fun _ h9 => h9) rfl dX12_lostLine_26 ?_
  refine lv_aload_n hx hb dX12_lostLine_29 rfl (lv_at hl 2 rfl) ?_
  refine lv_iconst (v := 3) hx hb dX12_lostLine_30 (by decide) ?_
  refine ro_i (va_runV (As := [.int 3]) (rest := [.int n_m_value_6]) ⟨hx, hb, hml, hown, hts⟩ (q_X12_hasRead3 l g cI cJ cB cZ cL m m_a m_thrown m_taped n_m_at_6 n_m_token_6 n_m_place_6 n_m_value_6 n_m_word_6 n_m_bad_6 n_m_badPlace_6 m_fault m_faultPlace m_willing m_will m_forgot m_isDrawn m_x m_begin m_round m_roundCards m_fate m_any m_bothSend m_meanCards m_bestSum m_fitMany m_fitFirst m_fitSecond m_has_c H.size hv_m_taped hw6_0 hv_m_will hv_m_isDrawn ha_m_has_c) (cwV 1 hts (goodIn_app (g_4 (List.mem_cons_of_mem _ (List.mem_append_left _ (List.mem_of_getElem? (i := 15) rfl))) (List.mem_cons_of_mem _ (List.mem_append_left _ (List.mem_of_getElem? (i := 16) rfl))) (List.mem_cons_of_mem _ (List.mem_append_left _ (List.mem_of_getElem? (i := 17) rfl))) (List.mem_cons_of_mem _ (List.mem_append_left _ (List.mem_of_getElem? (i := 3) rfl))) (by decide +kernel)) (goodIn_sub (fun _ h => List.mem_cons_of_mem _ (List.mem_append_right _ (List.mem_append_right _ (List.mem_append_right _ (List.mem_append_right _ (List.mem_append_left _ h)))))) good_v_X12_hasRead3)) rfl rfl rfl (by decide +kernel) ⟨Nat.le_of_ble_eq_true rfl, Nat.le_of_ble_eq_true rfl⟩) (pv_RO (q := (RX12, TX12, 56)) (ci := 11) (q0 := 0) (wc := [(m, .inr (11, mG m_a m_thrown m_taped n_m_at_6 n_m_token_6 n_m_place_6 n_m_value_6 n_m_word_6 n_m_bad_6 n_m_badPlace_6 m_fault m_faultPlace m_willing m_will m_forgot m_isDrawn m_x m_begin m_round m_roundCards m_fate m_any m_bothSend m_meanCards m_bestSum m_fitMany m_fitFirst m_fitSecond)), ((m_a 17), .inl (cI, 25, .inl m_has_c))]) hK hP [2, 3] rfl rfl rfl) rfl rfl hl.1 rfl (lv_room (Nat.le_of_ble_eq_true rfl)) dX12_lostLine_31 ⟨Nat.le_of_ble_eq_true rfl, Nat.le_of_ble_eq_true rfl⟩) hS hA hP (fun r31 u31 H locs hw31 hP hS => ?_)
  have hw31_0 := hw31
  subst hw31_0
  have rt31 : ir (m_has_c 23).toInt 0 10 := hasI_3 ha_m_has_c 4 (by decide)
  refine lv_icmp_ge (tgt := 56) hx hb dX12_lostLine_34 (by decide) (fun c34 => ?_) (fun c34 => ?_)
  · have f34 := (show (m_has_c 23).toInt ≤ n_m_value_6.toInt from z_le rfl rfl c34)
    have r34a : ir n_m_value_6.toInt 0 2147483647 := ir_leb f34 rt31 (rg_all n_m_value_6) (by decide)
    exact J56 n_m_bad_6 n_m_badPlace_6 _ _ _ (by first | omega | decide) (hP.sub [0, 1, 2, 3, 4] rfl) (hD.sub [0, 1, 2, 3, 4] (by decide) rfl) hS (lv_sub hl [2, 1, 0] rfl)
  have f34 := (show n_m_value_6.toInt < (m_has_c 23).toInt from z_nle rfl rfl c34)
  have r34a : ir n_m_value_6.toInt (-2147483648) 9 := ir_lta f34 (rg_all n_m_value_6) rt31 (by decide)
  refine lv_aload_n hx hb dX12_lostLine_37 rfl (lv_at hl 2 rfl) ?_
  refine lv_iconst (v := 4) hx hb dX12_lostLine_38 (by decide) ?_
  refine lv_iload_n hx hb dX12_lostLine_39 rfl (lv_at hl 0 rfl) ?_
  refine lv_aload_n hx hb dX12_lostLine_40 rfl (lv_at hl 2 rfl) ?_
  refine va_get (D := g) (ci := 11) (v := .int n_m_value_6) (C := RX12) (T := TX12) (N := 56) hx hb hts iX12 hown hK hP 2 rfl rfl 10 (by decide) (hts (.fieldLink RX12 141 "CardsAtYuleModel" "value" "I") (List.mem_cons_of_mem _ (List.mem_append_left _ (List.mem_of_getElem? (i := 14) rfl)))) (fun _ h9 => h9) rfl dX12_lostLine_41 ?_
  refine ro_i (va_runV (As := [.int 4, .int r6, .int n_m_value_6]) (rest := []) ⟨hx, hb, hml, hown, hts⟩ (q_X12_pairOf l g cI cJ cB cZ cL 4 r6 n_m_value_6 m m_a m_thrown m_taped n_m_at_6 n_m_token_6 n_m_place_6 n_m_value_6 n_m_word_6 n_m_bad_6 n_m_badPlace_6 m_fault m_faultPlace m_willing m_will m_forgot m_isDrawn m_x m_begin m_round m_roundCards m_fate m_any m_bothSend m_meanCards m_bestSum m_fitMany m_fitFirst m_fitSecond m_has_c m_pair_c H.size (by decide) hv_m_taped hw6_0 hv_m_will hv_m_isDrawn ha_m_has_c ha_m_pair_c) (cwV 3 hts (goodIn_app (g_4 (List.mem_cons_of_mem _ (List.mem_append_left _ (List.mem_of_getElem? (i := 8) rfl))) (List.mem_cons_of_mem _ (List.mem_append_left _ (List.mem_of_getElem? (i := 9) rfl))) (List.mem_cons_of_mem _ (List.mem_append_left _ (List.mem_of_getElem? (i := 10) rfl))) (List.mem_cons_of_mem _ (List.mem_append_left _ (List.mem_of_getElem? (i := 3) rfl))) (by decide +kernel)) (goodIn_sub (fun _ h => List.mem_cons_of_mem _ (List.mem_append_right _ (List.mem_append_right _ (List.mem_append_right _ (List.mem_append_left _ h))))) good_v_X12_pairOf)) rfl rfl rfl (by decide +kernel) ⟨Nat.le_of_ble_eq_true rfl, Nat.le_of_ble_eq_true rfl⟩) (pv_RO (q := (RX12, TX12, 56)) (ci := 11) (q0 := 0) (wc := [(m, .inr (11, mG m_a m_thrown m_taped n_m_at_6 n_m_token_6 n_m_place_6 n_m_value_6 n_m_word_6 n_m_bad_6 n_m_badPlace_6 m_fault m_faultPlace m_willing m_will m_forgot m_isDrawn m_x m_begin m_round m_roundCards m_fate m_any m_bothSend m_meanCards m_bestSum m_fitMany m_fitFirst m_fitSecond)), ((m_a 17), .inl (cI, 25, .inl m_has_c)), ((m_a 19), .inl (cI, 240, .inl m_pair_c))]) hK hP [2, 3, 0] rfl rfl rfl) rfl rfl hl.1 rfl (lv_room (Nat.le_of_ble_eq_true rfl)) dX12_lostLine_44 ⟨Nat.le_of_ble_eq_true rfl, Nat.le_of_ble_eq_true rfl⟩) hS hA hP (fun r44 u44 H locs hw44 hP hS => ?_)
  have hw44_0 := hw44
  refine lv_iconst (v := (-1)) hx hb dX12_lostLine_47 (by decide) ?_
  refine lv_icmp_ne (tgt := 56) hx hb dX12_lostLine_48 (by decide) (fun c48 => ?_) (fun c48 => ?_)
  · have f48 := (show r44.toInt ≠ (-1) from z_ne rfl rfl c48)
    have r48a : ir r44.toInt 0 15 := ir_nel f48 hw44_0 (by decide) (by decide)
    exact J56 n_m_bad_6 n_m_badPlace_6 _ _ _ (by first | omega | decide) (hP.sub [0, 1, 2, 3, 4] rfl) (hD.sub [0, 1, 2, 3, 4] (by decide) rfl) hS (lv_sub hl [2, 1, 0] rfl)
  have f48 := (show r44.toInt = (-1) from z_eq rfl rfl c48)
  have r48a : ir r44.toInt (-1) (-1) := ir_eqa f48 hw44_0 (ir_c (-1)) (by decide) (by decide)
  refine lv_aload_n hx hb dX12_lostLine_51 rfl (lv_at hl 2 rfl) ?_
  refine lv_iconst (v := 2) hx hb dX12_lostLine_52 (by decide) ?_
  refine rw_v (wr := [((m_a 19), .inl (cI, 240, .inl m_pair_c)), ((m_a 20), .inl (cJ, 160, .inr (.inl m_lost_c))), ((m_a 17), .inl (cI, 25, .inl m_has_c)), ((m_a 5), .inl (cB, 1600, .inl m_tape_c))]) (va_runV (As := [.int 2]) (rest := []) ⟨hx, hb, hml, hown, hts⟩ (q_X12_fails l g cI cJ cB cZ cL 2 m m_a m_thrown m_taped n_m_at_6 n_m_token_6 n_m_place_6 n_m_value_6 n_m_word_6 n_m_bad_6 n_m_badPlace_6 m_fault m_faultPlace m_willing m_will m_forgot m_isDrawn m_x m_begin m_round m_roundCards m_fate m_any m_bothSend m_meanCards m_bestSum m_fitMany m_fitFirst m_fitSecond H.size (by decide) hv_m_taped hw6_0 hv_m_will hv_m_isDrawn) (cwV 1 hts (goodIn_app (g_4 (List.mem_cons_of_mem _ (List.mem_append_left _ (List.mem_of_getElem? (i := 18) rfl))) (List.mem_cons_of_mem _ (List.mem_append_left _ (List.mem_of_getElem? (i := 19) rfl))) (List.mem_cons_of_mem _ (List.mem_append_left _ (List.mem_of_getElem? (i := 20) rfl))) (List.mem_cons_of_mem _ (List.mem_append_left _ (List.mem_of_getElem? (i := 3) rfl))) (by decide +kernel)) (goodIn_sub (fun _ h => List.mem_cons_of_mem _ (List.mem_append_right _ (List.mem_append_right _ (List.mem_append_right _ (List.mem_append_right _ (List.mem_append_right _ (List.mem_append_left _ h))))))) good_v_X12_fails)) rfl rfl rfl (by decide +kernel) ⟨Nat.le_of_ble_eq_true rfl, Nat.le_of_ble_eq_true rfl⟩) (pv_RW (q := (RX12, TX12, 56)) (ci := 11) (q0 := 0) (wc := [(m, .inr (11, mG m_a m_thrown m_taped n_m_at_6 n_m_token_6 n_m_place_6 n_m_value_6 n_m_word_6 n_m_bad_6 n_m_badPlace_6 m_fault m_faultPlace m_willing m_will m_forgot m_isDrawn m_x m_begin m_round m_roundCards m_fate m_any m_bothSend m_meanCards m_bestSum m_fitMany m_fitFirst m_fitSecond))]) hK hP hD [2] (by decide) rfl rfl rfl) rfl rfl hl.1 rfl (lv_room (Nat.le_of_ble_eq_true rfl)) dX12_lostLine_53 ⟨Nat.le_of_ble_eq_true rfl, Nat.le_of_ble_eq_true rfl⟩) hS hA hP hD [2] [0, 1, 3, 4] rfl rfl (by decide) (by decide) (fun u53 H locs hw53 hP hD hS => ?_)
  obtain ⟨n_m_bad_53, n_m_badPlace_53⟩ := u53
  have hP : va_P g vwCl [((m_a 19), .inl (cI, 240, .inl m_pair_c)), ((m_a 20), .inl (cJ, 160, .inr (.inl m_lost_c))), ((m_a 17), .inl (cI, 25, .inl m_has_c)), ((m_a 5), .inl (cB, 1600, .inl m_tape_c)), (m, .inr (11, mG m_a m_thrown m_taped n_m_at_6 n_m_token_6 n_m_place_6 n_m_value_6 n_m_word_6 n_m_bad_53 n_m_badPlace_53 m_fault m_faultPlace m_willing m_will m_forgot m_isDrawn m_x m_begin m_round m_roundCards m_fate m_any m_bothSend m_meanCards m_bestSum m_fitMany m_fitFirst m_fitSecond))] H := hP
  have hD : va_D A [((m_a 19), .inl (cI, 240, .inl m_pair_c)), ((m_a 20), .inl (cJ, 160, .inr (.inl m_lost_c))), ((m_a 17), .inl (cI, 25, .inl m_has_c)), ((m_a 5), .inl (cB, 1600, .inl m_tape_c)), (m, .inr (11, mG m_a m_thrown m_taped n_m_at_6 n_m_token_6 n_m_place_6 n_m_value_6 n_m_word_6 n_m_bad_53 n_m_badPlace_53 m_fault m_faultPlace m_willing m_will m_forgot m_isDrawn m_x m_begin m_round m_roundCards m_fate m_any m_bothSend m_meanCards m_bestSum m_fitMany m_fitFirst m_fitSecond))] := hD
  dsimp only at hw53
  have hw53_0 := hw53
  have hw53_0 : n_m_bad_53.toInt ≠ 0 := hw53_0
  exact J56 n_m_bad_53 n_m_badPlace_53 _ _ _ (by first | omega | decide) (hP.sub [0, 1, 4, 2, 3] rfl) (hD.sub [0, 1, 4, 2, 3] (by decide) rfl) hS (lv_sub hl [2, 1, 0] rfl)
