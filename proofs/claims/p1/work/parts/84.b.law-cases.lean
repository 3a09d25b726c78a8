set_option maxHeartbeats 4000000 in
set_option maxRecDepth 100000 in
theorem lw_c0 {p : Program} {e : Env} {s : State} {m : MethodId} {below : List Frame} {meth : Method} {c : Code} (l : Launch) {sb : Nat} {xs : Nat → Int32} (C0 : lw_At p s m meth c sb 6 xs) {g : va_G} {cI cJ cB cZ cL : ClassId} (hK : va_K g vwCl (tyT cI cJ cB cZ cL) s) (hNX : nX lwNest s) {x y : Nat} {b a : Nat → Nat} {fz fw : Nat → Int32} (hS_fz : ∀ k, k < 4 → fz k = (-1)) (hS_fw : ∀ k, k < 4 → fw k = (-1)) {H : Heap} {locs : List Loc} (hP : va_P g vwCl (LW cI cJ cB cZ cL x y b a fz fw) H) (hD : va_D (fun q : Nat => s.heap.size ≤ q) (LW cI cJ cB cZ cL x y b a fz fw)) (hS : va_S (fun q : Nat => s.heap.size ≤ q) s.heap H locs) {ls : Array Slot} (hl : lv_has ls 4 [(0, .ref sb), (1, .ref x), (2, .ref y), (3, .int 0)]) : W p l e room_1 s m #[Value.ref sb] below meth c H locs 1000 100000 (lw_Z below #[Value.ref sb] s) (F0 m 300 ls []) := by
  obtain ⟨hx, hb, hr, hml, hown, hts0, hX, hbl, hlocks, hgv⟩ := id C0
  have hts : ∀ w ∈ v_L_law, w.before #[Value.ref sb] s = true := fun w h => hts0 w (in_v_L_law w h)
  have hown : s.vm.findClass RL = some m.cls := hown
  have hA : ∀ q : Nat, s.heap.size ≤ q → (fun q : Nat => s.heap.size ≤ q) q := fun _ h => h
  have hbA : ¬ (fun q : Nat => s.heap.size ≤ q) sb := Nat.not_le.mpr hbl
  have hNX : nX [(RX11, 9, yX8_init, "CardsAtYule"), (RX8, 17, yX4_init, "CardsAtYule"), (RX11, 18, yX4_init, "CardsAtYule"), (RX11, 29, yX0_init, "CardsAtYule"), (RX11, 36, yX2_init, "CardsAtYule"), (RX11, 43, yX3_init, "CardsAtYule"), (RX11, 50, yX1_init, "CardsAtYule"), (RX11, 57, yX9_init, "CardsAtYule"), (RX11, 64, yX7_init, "CardsAtYule"), (RX11, 71, yX6_init, "CardsAtYule"), (RX11, 78, yX5_init, "CardsAtYule")] s := hNX
  have hP := hP.sub (ws' := [(x, .inr (10, [.ref (b 0), .ref (b 1), .ref (b 2), .ref (b 3), .ref (b 4), .ref (b 5), .ref (b 6), .ref (b 7), .ref (b 8), .ref (b 9), .ref (b 10)])), ((b 0), .inr (8, [.int 0, .ref (b 11), .int 0, .int (-1), .ref (b 12), .int 0, .int 0, .int 0, .int 0, .int 0])), ((b 12), .inl (cB, 1600, .inl (fun _ => 0))), (y, .inr (11, mO a)), ((a 5), .inl (cB, 1600, .inl (fun _ => 0)))]) [0, 1, 11, 29, 34] rfl
  have hD := hD.sub (ws' := [(x, .inr (10, [.ref (b 0), .ref (b 1), .ref (b 2), .ref (b 3), .ref (b 4), .ref (b 5), .ref (b 6), .ref (b 7), .ref (b 8), .ref (b 9), .ref (b 10)])), ((b 0), .inr (8, [.int 0, .ref (b 11), .int 0, .int (-1), .ref (b 12), .int 0, .int 0, .int 0, .int 0, .int 0])), ((b 12), .inl (cB, 1600, .inl (fun _ => 0))), (y, .inr (11, mO a)), ((a 5), .inl (cB, 1600, .inl (fun _ => 0)))]) [0, 1, 11, 29, 34] (by decide) rfl
  refine lv_aload_n hx hb dL_law_300 rfl (lv_at hl 1 rfl) ?_
  refine lv_aload_n hx hb dL_law_301 rfl (lv_at hl 0 rfl) ?_
  refine lv_iload_n hx hb dL_law_302 rfl (lv_at hl 3 rfl) ?_
  refine lv_iconst (v := 1) hx hb dL_law_303 (by decide) ?_
  refine lv_iadd hx hb dL_law_304 ?_
  refine lv_topi (nm_r (e' := 1) (by decide) ?_)
  refine va_sld hx hb hX hbl hbA hS (vc_in (by decide)) dL_law_305 ?_
  refine lv_topi (nm_r (e' := xs 1) rfl ?_)
  refine lv_aload_n hx hb dL_law_306 rfl (lv_at hl 0 rfl) ?_
  refine lv_iload_n hx hb dL_law_307 rfl (lv_at hl 3 rfl) ?_
  refine lv_iconst (v := 2) hx hb dL_law_308 (by decide) ?_
  refine lv_iadd hx hb dL_law_309 ?_
  refine lv_topi (nm_r (e' := 2) (by decide) ?_)
  refine va_sld hx hb hX hbl hbA hS (vc_in (by decide)) dL_law_310 ?_
  refine lv_topi (nm_r (e' := xs 2) rfl ?_)
  refine lv_aload_n hx hb dL_law_311 rfl (lv_at hl 0 rfl) ?_
  refine lv_iload_n hx hb dL_law_312 rfl (lv_at hl 3 rfl) ?_
  refine lv_iconst (v := 3) hx hb dL_law_313 (by decide) ?_
  refine lv_iadd hx hb dL_law_314 ?_
  refine lv_topi (nm_r (e' := 3) (by decide) ?_)
  refine va_sld hx hb hX hbl hbA hS (vc_in (by decide)) dL_law_315 ?_
  refine lv_topi (nm_r (e' := xs 3) rfl ?_)
  refine lv_aload_n hx hb dL_law_316 rfl (lv_at hl 0 rfl) ?_
  refine lv_iload_n hx hb dL_law_317 rfl (lv_at hl 3 rfl) ?_
  refine lv_iconst (v := 4) hx hb dL_law_318 (by decide) ?_
  refine lv_iadd hx hb dL_law_319 ?_
  refine lv_topi (nm_r (e' := 4) (by decide) ?_)
  refine va_sld hx hb hX hbl hbA hS (vc_in (by decide)) dL_law_320 ?_
  refine lv_topi (nm_r (e' := xs 4) rfl ?_)
  refine lv_aload_n hx hb dL_law_321 rfl (lv_at hl 0 rfl) ?_
  refine lv_iload_n hx hb dL_law_322 rfl (lv_at hl 3 rfl) ?_
  refine lv_iconst (v := 5) hx hb dL_law_323 (by decide) ?_
  refine lv_iadd hx hb dL_law_324 ?_
  refine lv_topi (nm_r (e' := 5) (by decide) ?_)
  refine va_sld hx hb hX hbl hbA hS (vc_in (by decide)) dL_law_325 ?_
  refine lv_topi (nm_r (e' := xs 5) rfl ?_)
  refine rw_i (wr := [(y, .inr (11, mO a)), ((a 5), .inl (cB, 1600, .inl (fun _ => 0)))]) (va_runV (As := [.int (xs 1), .int (xs 2), .int (xs 3), .int (xs 4), .int (xs 5)]) (rest := []) ⟨hx, hb, hml, hown, hts⟩ (k_X11_feed l g cI cJ cB cZ cL x (b 0) (b 1) (b 2) (b 3) (b 4) (b 5) (b 6) (b 7) (b 8) (b 9) (b 10) (b 11) (b 12) (xs 1) (xs 2) (xs 3) (xs 4) (xs 5) ((xs 1).toInt) ((xs 2).toInt) ((xs 3).toInt) ((xs 4).toInt) ((xs 5).toInt) H.size rfl rfl rfl rfl rfl) (cwV 5 hts (goodIn_app (g_4 (List.mem_cons_of_mem _ (List.mem_append_left _ (List.mem_of_getElem? (i := 0) rfl))) (List.mem_cons_of_mem _ (List.mem_append_left _ (List.mem_of_getElem? (i := 1) rfl))) (List.mem_cons_of_mem _ (List.mem_append_left _ (List.mem_of_getElem? (i := 2) rfl))) (List.mem_cons_of_mem _ (List.mem_append_left _ (List.mem_of_getElem? (i := 3) rfl))) (by decide +kernel)) (goodIn_sub (fun _ h => List.mem_cons_of_mem _ (List.mem_append_right _ (List.mem_append_left _ h))) good_v_X11_feed)) rfl rfl rfl (by decide +kernel) ⟨Nat.le_of_ble_eq_true rfl, Nat.le_of_ble_eq_true rfl⟩) (pv_RW (q := (RX11, TX11, 11)) (ci := 10) (q0 := 0) (wc := [(x, .inr (10, [.ref (b 0), .ref (b 1), .ref (b 2), .ref (b 3), .ref (b 4), .ref (b 5), .ref (b 6), .ref (b 7), .ref (b 8), .ref (b 9), .ref (b 10)])), ((b 0), .inr (8, [.int 0, .ref (b 11), .int 0, .int (-1), .ref (b 12), .int 0, .int 0, .int 0, .int 0, .int 0])), ((b 12), .inl (cB, 1600, .inl (fun _ => 0)))]) hK hP hD [0, 1, 2] (by decide) rfl rfl rfl) rfl rfl hl.1 rfl (lv_room (Nat.le_of_ble_eq_true rfl)) dL_law_326 ⟨Nat.le_of_ble_eq_true rfl, Nat.le_of_ble_eq_true rfl⟩) hS hA hP hD [0, 1, 2] [3, 4] rfl rfl (by decide) (by decide) (fun r1 u2 H locs hw3 hP hD hS => ?_)
  have hP : va_P g vwCl [(y, .inr (11, mO a)), ((a 5), .inl (cB, 1600, .inl (fun _ => 0)))] H := hP
  have hD : va_D (fun q : Nat => s.heap.size ≤ q) [(y, .inr (11, mO a)), ((a 5), .inl (cB, 1600, .inl (fun _ => 0)))] := hD
  subst hw3
  refine lv_aload_n hx hb dL_law_329 rfl (lv_at hl 2 rfl) ?_
  refine lv_aload_n hx hb dL_law_330 rfl (lv_at hl 0 rfl) ?_
  refine lv_iload_n hx hb dL_law_331 rfl (lv_at hl 3 rfl) ?_
  refine lv_iconst (v := 1) hx hb dL_law_332 (by decide) ?_
  refine lv_iadd hx hb dL_law_333 ?_
  refine lv_topi (nm_r (e' := 1) (by decide) ?_)
  refine va_sld hx hb hX hbl hbA hS (vc_in (by decide)) dL_law_334 ?_
  refine lv_topi (nm_r (e' := xs 1) rfl ?_)
  refine lv_aload_n hx hb dL_law_335 rfl (lv_at hl 0 rfl) ?_
  refine lv_iload_n hx hb dL_law_336 rfl (lv_at hl 3 rfl) ?_
  refine lv_iconst (v := 2) hx hb dL_law_337 (by decide) ?_
  refine lv_iadd hx hb dL_law_338 ?_
  refine lv_topi (nm_r (e' := 2) (by decide) ?_)
  refine va_sld hx hb hX hbl hbA hS (vc_in (by decide)) dL_law_339 ?_
  refine lv_topi (nm_r (e' := xs 2) rfl ?_)
  refine lv_aload_n hx hb dL_law_340 rfl (lv_at hl 0 rfl) ?_
  refine lv_iload_n hx hb dL_law_341 rfl (lv_at hl 3 rfl) ?_
  refine lv_iconst (v := 3) hx hb dL_law_342 (by decide) ?_
  refine lv_iadd hx hb dL_law_343 ?_
  refine lv_topi (nm_r (e' := 3) (by decide) ?_)
  refine va_sld hx hb hX hbl hbA hS (vc_in (by decide)) dL_law_344 ?_
  refine lv_topi (nm_r (e' := xs 3) rfl ?_)
  refine lv_aload_n hx hb dL_law_345 rfl (lv_at hl 0 rfl) ?_
  refine lv_iload_n hx hb dL_law_346 rfl (lv_at hl 3 rfl) ?_
  refine lv_iconst (v := 4) hx hb dL_law_347 (by decide) ?_
  refine lv_iadd hx hb dL_law_348 ?_
  refine lv_topi (nm_r (e' := 4) (by decide) ?_)
  refine va_sld hx hb hX hbl hbA hS (vc_in (by decide)) dL_law_349 ?_
  refine lv_topi (nm_r (e' := xs 4) rfl ?_)
  refine lv_aload_n hx hb dL_law_350 rfl (lv_at hl 0 rfl) ?_
  refine lv_iload_n hx hb dL_law_351 rfl (lv_at hl 3 rfl) ?_
  refine lv_iconst (v := 5) hx hb dL_law_352 (by decide) ?_
  refine lv_iadd hx hb dL_law_353 ?_
  refine lv_topi (nm_r (e' := 5) (by decide) ?_)
  refine va_sld hx hb hX hbl hbA hS (vc_in (by decide)) dL_law_354 ?_
  refine lv_topi (nm_r (e' := xs 5) rfl ?_)
  refine rw_i (wr := []) (va_runV (As := [.int (xs 1), .int (xs 2), .int (xs 3), .int (xs 4), .int (xs 5)]) (rest := [.int 20]) ⟨hx, hb, hml, hown, hts⟩ (k_X12_feed l g cI cJ cB cZ cL y a (xs 1) (xs 2) (xs 3) (xs 4) (xs 5) ((xs 1).toInt) ((xs 2).toInt) ((xs 3).toInt) ((xs 4).toInt) ((xs 5).toInt) H.size rfl rfl rfl rfl rfl) (cwV 5 hts (goodIn_app (g_4 (List.mem_cons_of_mem _ (List.mem_append_left _ (List.mem_of_getElem? (i := 4) rfl))) (List.mem_cons_of_mem _ (List.mem_append_left _ (List.mem_of_getElem? (i := 5) rfl))) (List.mem_cons_of_mem _ (List.mem_append_left _ (List.mem_of_getElem? (i := 6) rfl))) (List.mem_cons_of_mem _ (List.mem_append_left _ (List.mem_of_getElem? (i := 7) rfl))) (by decide +kernel)) (goodIn_sub (fun _ h => List.mem_cons_of_mem _ (List.mem_append_right _ (List.mem_append_right _ (List.mem_append_left _ h)))) good_v_X12_feed)) rfl rfl rfl (by decide +kernel) ⟨Nat.le_of_ble_eq_true rfl, Nat.le_of_ble_eq_true rfl⟩) (pv_RW (q := (RX12, TX12, 56)) (ci := 11) (q0 := 0) (wc := [(y, .inr (11, mO a)), ((a 5), .inl (cB, 1600, .inl (fun _ => 0)))]) hK hP hD [0, 1] (by decide) rfl rfl rfl) rfl rfl hl.1 rfl (lv_room (Nat.le_of_ble_eq_true rfl)) dL_law_355 ⟨Nat.le_of_ble_eq_true rfl, Nat.le_of_ble_eq_true rfl⟩) hS hA hP hD [0, 1] [] rfl rfl (by decide) (by decide) (fun r4 u5 H locs hw6 hP hD hS => ?_)
  have hP : va_P g vwCl [] H := hP
  have hD : va_D (fun q : Nat => s.heap.size ≤ q) [] := hD
  subst hw6
  refine lv_icmp_eq (tgt := 2463) hx hb dL_law_358 (by decide) (fun _ => ?_) (fun c7 => absurd c7 (by decide))
  refine lv_iinc (v := 6) (lv' := [(3, .int 6), (0, .ref sb), (1, .ref x), (2, .ref y)]) hx hb dL_law_2463 hl (k := 3) rfl (by decide) (by decide) rfl (fun ls hl => ?_)
  refine lv_goto (tgt := 18) hx hb dL_law_2466 (by decide) ?_
  refine lv_iload_n hx hb dL_law_18 rfl (lv_at hl 0 rfl) ?_
  refine lv_aload_n hx hb dL_law_19 rfl (lv_at hl 1 rfl) ?_
  refine va_slen hx hb hX hbl hbA hS dL_law_20 ?_
  refine lv_topi (nm_r (e' := 6) rfl ?_)
  refine lv_bipush (v := 6) hx hb dL_law_21 (by decide) ?_
  refine lv_isub hx hb dL_law_23 ?_
  refine lv_topi (nm_r (e' := 0) (by decide) ?_)
  refine lv_icmp_gt (tgt := 2469) hx hb dL_law_24 (by decide) (fun _ => ?_) (fun c8 => absurd c8 (by decide))
  refine lv_iconst (v := 1) hx hb dL_law_2469 (by decide) ?_
  refine va_forget (fun q hq => hS.2.2 q hq) ?_
  refine W.widen (k := 600000) (n := 7302250) (Nat.le_of_ble_eq_true rfl) (Nat.le_of_ble_eq_true rfl) ?_
  exact lw_ret hx hb hr hlocks dL_law_2470
set_option maxHeartbeats 4000000 in
set_option maxRecDepth 100000 in
theorem lw_c1 {p : Program} {e : Env} {s : State} {m : MethodId} {below : List Frame} {meth : Method} {c : Code} (l : Launch) {sb : Nat} {xs : Nat → Int32} (C0 : lw_At p s m meth c sb 6 xs) {g : va_G} {cI cJ cB cZ cL : ClassId} (hK : va_K g vwCl (tyT cI cJ cB cZ cL) s) (hNX : nX lwNest s) {x y : Nat} {b a : Nat → Nat} {fz fw : Nat → Int32} (hS_fz : ∀ k, k < 4 → fz k = (-1)) (hS_fw : ∀ k, k < 4 → fw k = (-1)) {H : Heap} {locs : List Loc} (hP : va_P g vwCl (LW cI cJ cB cZ cL x y b a fz fw) H) (hD : va_D (fun q : Nat => s.heap.size ≤ q) (LW cI cJ cB cZ cL x y b a fz fw)) (hS : va_S (fun q : Nat => s.heap.size ≤ q) s.heap H locs) {ls : Array Slot} (hl : lv_has ls 4 [(0, .ref sb), (1, .ref x), (2, .ref y), (3, .int 0)]) : W p l e room_1 s m #[Value.ref sb] below meth c H locs 1000 100000 (lw_Z below #[Value.ref sb] s) (F0 m 363 ls []) := by
  obtain ⟨hx, hb, hr, hml, hown, hts0, hX, hbl, hlocks, hgv⟩ := id C0
  have hts : ∀ w ∈ v_L_law, w.before #[Value.ref sb] s = true := fun w h => hts0 w (in_v_L_law w h)
  have hown : s.vm.findClass RL = some m.cls := hown
  have hA : ∀ q : Nat, s.heap.size ≤ q → (fun q : Nat => s.heap.size ≤ q) q := fun _ h => h
  have hbA : ¬ (fun q : Nat => s.heap.size ≤ q) sb := Nat.not_le.mpr hbl
  have hNX : nX [(RX11, 9, yX8_init, "CardsAtYule"), (RX8, 17, yX4_init, "CardsAtYule"), (RX11, 18, yX4_init, "CardsAtYule"), (RX11, 29, yX0_init, "CardsAtYule"), (RX11, 36, yX2_init, "CardsAtYule"), (RX11, 43, yX3_init, "CardsAtYule"), (RX11, 50, yX1_init, "CardsAtYule"), (RX11, 57, yX9_init, "CardsAtYule"), (RX11, 64, yX7_init, "CardsAtYule"), (RX11, 71, yX6_init, "CardsAtYule"), (RX11, 78, yX5_init, "CardsAtYule")] s := hNX
  have hP := hP.sub (ws' := [(x, .inr (10, [.ref (b 0), .ref (b 1), .ref (b 2), .ref (b 3), .ref (b 4), .ref (b 5), .ref (b 6), .ref (b 7), .ref (b 8), .ref (b 9), .ref (b 10)])), ((b 0), .inr (8, [.int 0, .ref (b 11), .int 0, .int (-1), .ref (b 12), .int 0, .int 0, .int 0, .int 0, .int 0])), (y, .inr (11, mO a))]) [0, 1, 29] rfl
  have hD := hD.sub (ws' := [(x, .inr (10, [.ref (b 0), .ref (b 1), .ref (b 2), .ref (b 3), .ref (b 4), .ref (b 5), .ref (b 6), .ref (b 7), .ref (b 8), .ref (b 9), .ref (b 10)])), ((b 0), .inr (8, [.int 0, .ref (b 11), .int 0, .int (-1), .ref (b 12), .int 0, .int 0, .int 0, .int 0, .int 0])), (y, .inr (11, mO a))]) [0, 1, 29] (by decide) rfl
  refine lv_aload_n hx hb dL_law_363 rfl (lv_at hl 1 rfl) ?_
  refine lv_aload_n hx hb dL_law_364 rfl (lv_at hl 0 rfl) ?_
  refine lv_iload_n hx hb dL_law_365 rfl (lv_at hl 3 rfl) ?_
  refine lv_iconst (v := 1) hx hb dL_law_366 (by decide) ?_
  refine lv_iadd hx hb dL_law_367 ?_
  refine lv_topi (nm_r (e' := 1) (by decide) ?_)
  refine va_sld hx hb hX hbl hbA hS (vc_in (by decide)) dL_law_368 ?_
  refine lv_topi (nm_r (e' := xs 1) rfl ?_)
  refine rw_i (wr := [(y, .inr (11, mO a))]) (va_runV (As := [.int (xs 1)]) (rest := []) ⟨hx, hb, hml, hown, hts⟩ (k_X11_end l g cI cJ cB cZ cL x (b 0) (b 1) (b 2) (b 3) (b 4) (b 5) (b 6) (b 7) (b 8) (b 9) (b 10) (b 11) (b 12) (xs 1) ((xs 1).toInt) H.size rfl) (cwV 1 hts (goodIn_app (g_4 (List.mem_cons_of_mem _ (List.mem_append_left _ (List.mem_of_getElem? (i := 8) rfl))) (List.mem_cons_of_mem _ (List.mem_append_left _ (List.mem_of_getElem? (i := 9) rfl))) (List.mem_cons_of_mem _ (List.mem_append_left _ (List.mem_of_getElem? (i := 10) rfl))) (List.mem_cons_of_mem _ (List.mem_append_left _ (List.mem_of_getElem? (i := 3) rfl))) (by decide +kernel)) (goodIn_sub (fun _ h => List.mem_cons_of_mem _ (List.mem_append_right _ (List.mem_append_right _ (List.mem_append_right _ (List.mem_append_left _ h))))) good_v_X11_end)) rfl rfl rfl (by decide +kernel) ⟨Nat.le_of_ble_eq_true rfl, Nat.le_of_ble_eq_true rfl⟩) (pv_RW (q := (RX11, TX11, 11)) (ci := 10) (q0 := 0) (wc := [(x, .inr (10, [.ref (b 0), .ref (b 1), .ref (b 2), .ref (b 3), .ref (b 4), .ref (b 5), .ref (b 6), .ref (b 7), .ref (b 8), .ref (b 9), .ref (b 10)])), ((b 0), .inr (8, [.int 0, .ref (b 11), .int 0, .int (-1), .ref (b 12), .int 0, .int 0, .int 0, .int 0, .int 0]))]) hK hP hD [0, 1] (by decide) rfl rfl rfl) rfl rfl hl.1 rfl (lv_room (Nat.le_of_ble_eq_true rfl)) dL_law_369 ⟨Nat.le_of_ble_eq_true rfl, Nat.le_of_ble_eq_true rfl⟩) hS hA hP hD [0, 1] [2] rfl rfl (by decide) (by decide) (fun r1 u2 H locs hw3 hP hD hS => ?_)
  have hP : va_P g vwCl [(y, .inr (11, mO a))] H := hP
  have hD : va_D (fun q : Nat => s.heap.size ≤ q) [(y, .inr (11, mO a))] := hD
  refine lv_aload_n hx hb dL_law_372 rfl (lv_at hl 2 rfl) ?_
  refine lv_aload_n hx hb dL_law_373 rfl (lv_at hl 0 rfl) ?_
  refine lv_iload_n hx hb dL_law_374 rfl (lv_at hl 3 rfl) ?_
  refine lv_iconst (v := 1) hx hb dL_law_375 (by decide) ?_
  refine lv_iadd hx hb dL_law_376 ?_
  refine lv_topi (nm_r (e' := 1) (by decide) ?_)
  refine va_sld hx hb hX hbl hbA hS (vc_in (by decide)) dL_law_377 ?_
  refine lv_topi (nm_r (e' := xs 1) rfl ?_)
  refine rw_i (wr := []) (va_runV (As := [.int (xs 1)]) (rest := [.int r1]) ⟨hx, hb, hml, hown, hts⟩ (k_X12_end l g cI cJ cB cZ cL y a (xs 1) ((xs 1).toInt) H.size rfl) (cwV 1 hts (goodIn_app (g_4 (List.mem_cons_of_mem _ (List.mem_append_left _ (List.mem_of_getElem? (i := 11) rfl))) (List.mem_cons_of_mem _ (List.mem_append_left _ (List.mem_of_getElem? (i := 12) rfl))) (List.mem_cons_of_mem _ (List.mem_append_left _ (List.mem_of_getElem? (i := 13) rfl))) (List.mem_cons_of_mem _ (List.mem_append_left _ (List.mem_of_getElem? (i := 7) rfl))) (by decide +kernel)) (goodIn_sub (fun _ h => List.mem_cons_of_mem _ (List.mem_append_right _ (List.mem_append_right _ (List.mem_append_right _ (List.mem_append_right _ (List.mem_append_left _ h)))))) good_v_X12_end)) rfl rfl rfl (by decide +kernel) ⟨Nat.le_of_ble_eq_true rfl, Nat.le_of_ble_eq_true rfl⟩) (pv_RW (q := (RX12, TX12, 56)) (ci := 11) (q0 := 0) (wc := [(y, .inr (11, mO a))]) hK hP hD [0] (by decide) rfl rfl rfl) rfl rfl hl.1 rfl (lv_room (Nat.le_of_ble_eq_true rfl)) dL_law_378 ⟨Nat.le_of_ble_eq_true rfl, Nat.le_of_ble_eq_true rfl⟩) hS hA hP hD [0] [] rfl rfl (by decide) (by decide) (fun r4 u5 H locs hw6 hP hD hS => ?_)
  have hP : va_P g vwCl [] H := hP
  have hD : va_D (fun q : Nat => s.heap.size ≤ q) [] := hD
  have he : r1 = r4 := (by rcases hw3 with ⟨e1, g1⟩ | ⟨e1, g1⟩ <;> rcases hw6 with ⟨e2, g2⟩ | ⟨e2, g2⟩ <;> first | (rw [e1, e2]; done) | (exfalso; omega))
  refine lv_icmp_eq (tgt := 2463) hx hb dL_law_381 (by decide) (fun _ => ?_) (fun cc => absurd he cc)
  refine lv_iinc (v := 6) (lv' := [(3, .int 6), (0, .ref sb), (1, .ref x), (2, .ref y)]) hx hb dL_law_2463 hl (k := 3) rfl (by decide) (by decide) rfl (fun ls hl => ?_)
  refine lv_goto (tgt := 18) hx hb dL_law_2466 (by decide) ?_
  refine lv_iload_n hx hb dL_law_18 rfl (lv_at hl 0 rfl) ?_
  refine lv_aload_n hx hb dL_law_19 rfl (lv_at hl 1 rfl) ?_
  refine va_slen hx hb hX hbl hbA hS dL_law_20 ?_
  refine lv_topi (nm_r (e' := 6) rfl ?_)
  refine lv_bipush (v := 6) hx hb dL_law_21 (by decide) ?_
  refine lv_isub hx hb dL_law_23 ?_
  refine lv_topi (nm_r (e' := 0) (by decide) ?_)
  refine lv_icmp_gt (tgt := 2469) hx hb dL_law_24 (by decide) (fun _ => ?_) (fun c7 => absurd c7 (by decide))
  refine lv_iconst (v := 1) hx hb dL_law_2469 (by decide) ?_
  refine va_forget (fun q hq => hS.2.2 q hq) ?_
  refine W.widen (k := 600000) (n := 7302250) (Nat.le_of_ble_eq_true rfl) (Nat.le_of_ble_eq_true rfl) ?_
  exact lw_ret hx hb hr hlocks dL_law_2470
set_option maxHeartbeats 4000000 in
set_option maxRecDepth 100000 in
theorem lw_c2 {p : Program} {e : Env} {s : State} {m : MethodId} {below : List Frame} {meth : Method} {c : Code} (l : Launch) {sb : Nat} {xs : Nat → Int32} (C0 : lw_At p s m meth c sb 6 xs) {g : va_G} {cI cJ cB cZ cL : ClassId} (hK : va_K g vwCl (tyT cI cJ cB cZ cL) s) (hNX : nX lwNest s) {x y : Nat} {b a : Nat → Nat} {fz fw : Nat → Int32} (hS_fz : ∀ k, k < 4 → fz k = (-1)) (hS_fw : ∀ k, k < 4 → fw k = (-1)) {H : Heap} {locs : List Loc} (hP : va_P g vwCl (LW cI cJ cB cZ cL x y b a fz fw) H) (hD : va_D (fun q : Nat => s.heap.size ≤ q) (LW cI cJ cB cZ cL x y b a fz fw)) (hS : va_S (fun q : Nat => s.heap.size ≤ q) s.heap H locs) {ls : Array Slot} (hl : lv_has ls 4 [(0, .ref sb), (1, .ref x), (2, .ref y), (3, .int 0)]) : W p l e room_1 s m #[Value.ref sb] below meth c H locs 1000 100000 (lw_Z below #[Value.ref sb] s) (F0 m 386 ls []) := by
  obtain ⟨hx, hb, hr, hml, hown, hts0, hX, hbl, hlocks, hgv⟩ := id C0
  have hts : ∀ w ∈ v_L_law, w.before #[Value.ref sb] s = true := fun w h => hts0 w (in_v_L_law w h)
  have hown : s.vm.findClass RL = some m.cls := hown
  have hA : ∀ q : Nat, s.heap.size ≤ q → (fun q : Nat => s.heap.size ≤ q) q := fun _ h => h
  have hbA : ¬ (fun q : Nat => s.heap.size ≤ q) sb := Nat.not_le.mpr hbl
  have hNX : nX [(RX11, 9, yX8_init, "CardsAtYule"), (RX8, 17, yX4_init, "CardsAtYule"), (RX11, 18, yX4_init, "CardsAtYule"), (RX11, 29, yX0_init, "CardsAtYule"), (RX11, 36, yX2_init, "CardsAtYule"), (RX11, 43, yX3_init, "CardsAtYule"), (RX11, 50, yX1_init, "CardsAtYule"), (RX11, 57, yX9_init, "CardsAtYule"), (RX11, 64, yX7_init, "CardsAtYule"), (RX11, 71, yX6_init, "CardsAtYule"), (RX11, 78, yX5_init, "CardsAtYule")] s := hNX
  have hP := hP.sub (ws' := [(x, .inr (10, [.ref (b 0), .ref (b 1), .ref (b 2), .ref (b 3), .ref (b 4), .ref (b 5), .ref (b 6), .ref (b 7), .ref (b 8), .ref (b 9), .ref (b 10)])), ((b 0), .inr (8, [.int 0, .ref (b 11), .int 0, .int (-1), .ref (b 12), .int 0, .int 0, .int 0, .int 0, .int 0])), ((b 11), .inr (4, [.int 0, .int 0, .int 0, .int 0, .int 0, .int 0, .long 0, .ref (b 13), .ref (b 14), .ref (b 15), .ref (b 16), .ref (b 17), .ref (b 18), .ref (b 19), .ref (b 20)])), ((b 13), .inl (cI, 10, .inl (fun _ => 0))), ((b 14), .inl (cI, 10, .inl (fun _ => 0))), ((b 15), .inl (cI, 10, .inl (fun _ => 0))), ((b 16), .inl (cI, 10, .inl (fun _ => 0))), ((b 17), .inl (cI, 10, .inl (fun _ => 0))), ((b 18), .inl (cI, 16, .inl (fun _ => 0))), ((b 19), .inl (cI, 32, .inl (fun _ => 0))), ((b 20), .inl (cJ, 32, .inr (.inl (fun _ => 0)))), ((b 1), .inr (4, [.int 0, .int 0, .int 0, .int 0, .int 0, .int 0, .long 0, .ref (b 21), .ref (b 22), .ref (b 23), .ref (b 24), .ref (b 25), .ref (b 26), .ref (b 27), .ref (b 28)])), ((b 21), .inl (cI, 10, .inl (fun _ => 0))), ((b 22), .inl (cI, 10, .inl (fun _ => 0))), ((b 23), .inl (cI, 10, .inl (fun _ => 0))), ((b 24), .inl (cI, 10, .inl (fun _ => 0))), ((b 25), .inl (cI, 10, .inl (fun _ => 0))), ((b 26), .inl (cI, 16, .inl (fun _ => 0))), ((b 27), .inl (cI, 32, .inl (fun _ => 0))), ((b 28), .inl (cJ, 32, .inr (.inl (fun _ => 0)))), ((b 3), .inr (0, [.int 1, .ref (b 29), .ref (b 30), .ref (b 31)])), (y, .inr (11, mO a)), ((a 16), .inl (cI, 5, .inl (fun _ => 0))), ((a 17), .inl (cI, 25, .inl (fun _ => 0))), ((a 18), .inl (cI, 250, .inl (fun _ => 0))), ((a 19), .inl (cI, 240, .inl (fun _ => 0))), ((a 20), .inl (cJ, 160, .inr (.inl (fun _ => 0)))), ((a 21), .inl (cJ, 5, .inr (.inl (fun _ => 0))))]) [0, 1, 2, 3, 4, 5, 6, 7, 8, 9, 10, 12, 13, 14, 15, 16, 17, 18, 19, 20, 22, 29, 35, 36, 37, 38, 39, 40] rfl
  have hD := hD.sub (ws' := [(x, .inr (10, [.ref (b 0), .ref (b 1), .ref (b 2), .ref (b 3), .ref (b 4), .ref (b 5), .ref (b 6), .ref (b 7), .ref (b 8), .ref (b 9), .ref (b 10)])), ((b 0), .inr (8, [.int 0, .ref (b 11), .int 0, .int (-1), .ref (b 12), .int 0, .int 0, .int 0, .int 0, .int 0])), ((b 11), .inr (4, [.int 0, .int 0, .int 0, .int 0, .int 0, .int 0, .long 0, .ref (b 13), .ref (b 14), .ref (b 15), .ref (b 16), .ref (b 17), .ref (b 18), .ref (b 19), .ref (b 20)])), ((b 13), .inl (cI, 10, .inl (fun _ => 0))), ((b 14), .inl (cI, 10, .inl (fun _ => 0))), ((b 15), .inl (cI, 10, .inl (fun _ => 0))), ((b 16), .inl (cI, 10, .inl (fun _ => 0))), ((b 17), .inl (cI, 10, .inl (fun _ => 0))), ((b 18), .inl (cI, 16, .inl (fun _ => 0))), ((b 19), .inl (cI, 32, .inl (fun _ => 0))), ((b 20), .inl (cJ, 32, .inr (.inl (fun _ => 0)))), ((b 1), .inr (4, [.int 0, .int 0, .int 0, .int 0, .int 0, .int 0, .long 0, .ref (b 21), .ref (b 22), .ref (b 23), .ref (b 24), .ref (b 25), .ref (b 26), .ref (b 27), .ref (b 28)])), ((b 21), .inl (cI, 10, .inl (fun _ => 0))), ((b 22), .inl (cI, 10, .inl (fun _ => 0))), ((b 23), .inl (cI, 10, .inl (fun _ => 0))), ((b 24), .inl (cI, 10, .inl (fun _ => 0))), ((b 25), .inl (cI, 10, .inl (fun _ => 0))), ((b 26), .inl (cI, 16, .inl (fun _ => 0))), ((b 27), .inl (cI, 32, .inl (fun _ => 0))), ((b 28), .inl (cJ, 32, .inr (.inl (fun _ => 0)))), ((b 3), .inr (0, [.int 1, .ref (b 29), .ref (b 30), .ref (b 31)])), (y, .inr (11, mO a)), ((a 16), .inl (cI, 5, .inl (fun _ => 0))), ((a 17), .inl (cI, 25, .inl (fun _ => 0))), ((a 18), .inl (cI, 250, .inl (fun _ => 0))), ((a 19), .inl (cI, 240, .inl (fun _ => 0))), ((a 20), .inl (cJ, 160, .inr (.inl (fun _ => 0)))), ((a 21), .inl (cJ, 5, .inr (.inl (fun _ => 0))))]) [0, 1, 2, 3, 4, 5, 6, 7, 8, 9, 10, 12, 13, 14, 15, 16, 17, 18, 19, 20, 22, 29, 35, 36, 37, 38, 39, 40] (by decide) rfl
  refine lv_aload_n hx hb dL_law_386 rfl (lv_at hl 1 rfl) ?_
  refine rw_i (wr := [(y, .inr (11, mO a)), ((a 16), .inl (cI, 5, .inl (fun _ => 0))), ((a 17), .inl (cI, 25, .inl (fun _ => 0))), ((a 18), .inl (cI, 250, .inl (fun _ => 0))), ((a 19), .inl (cI, 240, .inl (fun _ => 0))), ((a 20), .inl (cJ, 160, .inr (.inl (fun _ => 0)))), ((a 21), .inl (cJ, 5, .inr (.inl (fun _ => 0))))]) (va_runV (As := []) (rest := []) ⟨hx, hb, hml, hown, hts⟩ (k_X11_land l g cI cJ cB cZ cL x (b 0) (b 1) (b 2) (b 3) (b 4) (b 5) (b 6) (b 7) (b 8) (b 9) (b 10) (b 11) (b 12) (b 21) (b 22) (b 23) (b 24) (b 25) (b 26) (b 27) (b 28) (b 13) (b 14) (b 15) (b 16) (b 17) (b 18) (b 19) (b 20) (b 29) (b 30) (b 31) H.size ) (cwV 0 hts (goodIn_app (g_4 (List.mem_cons_of_mem _ (List.mem_append_left _ (List.mem_of_getElem? (i := 14) rfl))) (List.mem_cons_of_mem _ (List.mem_append_left _ (List.mem_of_getElem? (i := 15) rfl))) (List.mem_cons_of_mem _ (List.mem_append_left _ (List.mem_of_getElem? (i := 16) rfl))) (List.mem_cons_of_mem _ (List.mem_append_left _ (List.mem_of_getElem? (i := 3) rfl))) (by decide +kernel)) (goodIn_sub (fun _ h => List.mem_cons_of_mem _ (List.mem_append_right _ (List.mem_append_right _ (List.mem_append_right _ (List.mem_append_right _ (List.mem_append_right _ (List.mem_append_left _ h))))))) good_v_X11_land)) rfl rfl rfl (by decide +kernel) ⟨Nat.le_of_ble_eq_true rfl, Nat.le_of_ble_eq_true rfl⟩) (pv_RW (q := (RX11, TX11, 11)) (ci := 10) (q0 := 0) (wc := [(x, .inr (10, [.ref (b 0), .ref (b 1), .ref (b 2), .ref (b 3), .ref (b 4), .ref (b 5), .ref (b 6), .ref (b 7), .ref (b 8), .ref (b 9), .ref (b 10)])), ((b 0), .inr (8, [.int 0, .ref (b 11), .int 0, .int (-1), .ref (b 12), .int 0, .int 0, .int 0, .int 0, .int 0])), ((b 11), .inr (4, [.int 0, .int 0, .int 0, .int 0, .int 0, .int 0, .long 0, .ref (b 13), .ref (b 14), .ref (b 15), .ref (b 16), .ref (b 17), .ref (b 18), .ref (b 19), .ref (b 20)])), ((b 13), .inl (cI, 10, .inl (fun _ => 0))), ((b 14), .inl (cI, 10, .inl (fun _ => 0))), ((b 15), .inl (cI, 10, .inl (fun _ => 0))), ((b 16), .inl (cI, 10, .inl (fun _ => 0))), ((b 17), .inl (cI, 10, .inl (fun _ => 0))), ((b 18), .inl (cI, 16, .inl (fun _ => 0))), ((b 19), .inl (cI, 32, .inl (fun _ => 0))), ((b 20), .inl (cJ, 32, .inr (.inl (fun _ => 0)))), ((b 1), .inr (4, [.int 0, .int 0, .int 0, .int 0, .int 0, .int 0, .long 0, .ref (b 21), .ref (b 22), .ref (b 23), .ref (b 24), .ref (b 25), .ref (b 26), .ref (b 27), .ref (b 28)])), ((b 21), .inl (cI, 10, .inl (fun _ => 0))), ((b 22), .inl (cI, 10, .inl (fun _ => 0))), ((b 23), .inl (cI, 10, .inl (fun _ => 0))), ((b 24), .inl (cI, 10, .inl (fun _ => 0))), ((b 25), .inl (cI, 10, .inl (fun _ => 0))), ((b 26), .inl (cI, 16, .inl (fun _ => 0))), ((b 27), .inl (cI, 32, .inl (fun _ => 0))), ((b 28), .inl (cJ, 32, .inr (.inl (fun _ => 0)))), ((b 3), .inr (0, [.int 1, .ref (b 29), .ref (b 30), .ref (b 31)]))]) hK hP hD [0, 1, 2, 3, 4, 5, 6, 7, 8, 9, 10, 11, 12, 13, 14, 15, 16, 17, 18, 19, 20] (by decide) rfl rfl rfl) rfl rfl hl.1 rfl (lv_room (Nat.le_of_ble_eq_true rfl)) dL_law_387 ⟨Nat.le_of_ble_eq_true rfl, Nat.le_of_ble_eq_true rfl⟩) hS hA hP hD [0, 1, 2, 3, 4, 5, 6, 7, 8, 9, 10, 11, 12, 13, 14, 15, 16, 17, 18, 19, 20] [21, 22, 23, 24, 25, 26, 27] rfl rfl (by decide) (by decide) (fun r1 u2 H locs hw3 hP hD hS => ?_)
  have hP : va_P g vwCl [(y, .inr (11, mO a)), ((a 16), .inl (cI, 5, .inl (fun _ => 0))), ((a 17), .inl (cI, 25, .inl (fun _ => 0))), ((a 18), .inl (cI, 250, .inl (fun _ => 0))), ((a 19), .inl (cI, 240, .inl (fun _ => 0))), ((a 20), .inl (cJ, 160, .inr (.inl (fun _ => 0)))), ((a 21), .inl (cJ, 5, .inr (.inl (fun _ => 0))))] H := hP
  have hD : va_D (fun q : Nat => s.heap.size ≤ q) [(y, .inr (11, mO a)), ((a 16), .inl (cI, 5, .inl (fun _ => 0))), ((a 17), .inl (cI, 25, .inl (fun _ => 0))), ((a 18), .inl (cI, 250, .inl (fun _ => 0))), ((a 19), .inl (cI, 240, .inl (fun _ => 0))), ((a 20), .inl (cJ, 160, .inr (.inl (fun _ => 0)))), ((a 21), .inl (cJ, 5, .inr (.inl (fun _ => 0))))] := hD
  subst hw3
  refine lv_aload_n hx hb dL_law_390 rfl (lv_at hl 2 rfl) ?_
  refine rw_i (wr := []) (va_runV (As := []) (rest := [.int 0]) ⟨hx, hb, hml, hown, hts⟩ (k_X12_land l g cI cJ cB cZ cL y a H.size ) (cwV 0 hts (goodIn_app (g_4 (List.mem_cons_of_mem _ (List.mem_append_left _ (List.mem_of_getElem? (i := 17) rfl))) (List.mem_cons_of_mem _ (List.mem_append_left _ (List.mem_of_getElem? (i := 18) rfl))) (List.mem_cons_of_mem _ (List.mem_append_left _ (List.mem_of_getElem? (i := 19) rfl))) (List.mem_cons_of_mem _ (List.mem_append_left _ (List.mem_of_getElem? (i := 7) rfl))) (by decide +kernel)) (goodIn_sub (fun _ h => List.mem_cons_of_mem _ (List.mem_append_right _ (List.mem_append_right _ (List.mem_append_right _ (List.mem_append_right _ (List.mem_append_right _ (List.mem_append_right _ (List.mem_append_left _ h)))))))) good_v_X12_land)) rfl rfl rfl (by decide +kernel) ⟨Nat.le_of_ble_eq_true rfl, Nat.le_of_ble_eq_true rfl⟩) (pv_RW (q := (RX12, TX12, 56)) (ci := 11) (q0 := 0) (wc := [(y, .inr (11, mO a)), ((a 16), .inl (cI, 5, .inl (fun _ => 0))), ((a 21), .inl (cJ, 5, .inr (.inl (fun _ => 0)))), ((a 17), .inl (cI, 25, .inl (fun _ => 0))), ((a 18), .inl (cI, 250, .inl (fun _ => 0))), ((a 19), .inl (cI, 240, .inl (fun _ => 0))), ((a 20), .inl (cJ, 160, .inr (.inl (fun _ => 0))))]) hK hP hD [0, 1, 6, 2, 3, 4, 5] (by decide) rfl rfl rfl) rfl rfl hl.1 rfl (lv_room (Nat.le_of_ble_eq_true rfl)) dL_law_391 ⟨Nat.le_of_ble_eq_true rfl, Nat.le_of_ble_eq_true rfl⟩) hS hA hP hD [0, 1, 6, 2, 3, 4, 5] [] rfl rfl (by decide) (by decide) (fun r4 u5 H locs hw6 hP hD hS => ?_)
  have hP : va_P g vwCl [] H := hP
  have hD : va_D (fun q : Nat => s.heap.size ≤ q) [] := hD
  subst hw6
  refine lv_icmp_eq (tgt := 2463) hx hb dL_law_394 (by decide) (fun _ => ?_) (fun c7 => absurd c7 (by decide))
  refine lv_iinc (v := 6) (lv' := [(3, .int 6), (0, .ref sb), (1, .ref x), (2, .ref y)]) hx hb dL_law_2463 hl (k := 3) rfl (by decide) (by decide) rfl (fun ls hl => ?_)
  refine lv_goto (tgt := 18) hx hb dL_law_2466 (by decide) ?_
  refine lv_iload_n hx hb dL_law_18 rfl (lv_at hl 0 rfl) ?_
  refine lv_aload_n hx hb dL_law_19 rfl (lv_at hl 1 rfl) ?_
  refine va_slen hx hb hX hbl hbA hS dL_law_20 ?_
  refine lv_topi (nm_r (e' := 6) rfl ?_)
  refine lv_bipush (v := 6) hx hb dL_law_21 (by decide) ?_
  refine lv_isub hx hb dL_law_23 ?_
  refine lv_topi (nm_r (e' := 0) (by decide) ?_)
  refine lv_icmp_gt (tgt := 2469) hx hb dL_law_24 (by decide) (fun _ => ?_) (fun c8 => absurd c8 (by decide))
  refine lv_iconst (v := 1) hx hb dL_law_2469 (by decide) ?_
  refine va_forget (fun q hq => hS.2.2 q hq) ?_
  refine W.widen (k := 600000) (n := 7302250) (Nat.le_of_ble_eq_true rfl) (Nat.le_of_ble_eq_true rfl) ?_
  exact lw_ret hx hb hr hlocks dL_law_2470
set_option maxHeartbeats 4000000 in
set_option maxRecDepth 100000 in
theorem lw_c3 {p : Program} {e : Env} {s : State} {m : MethodId} {below : List Frame} {meth : Method} {c : Code} (l : Launch) {sb : Nat} {xs : Nat → Int32} (C0 : lw_At p s m meth c sb 6 xs) {g : va_G} {cI cJ cB cZ cL : ClassId} (hK : va_K g vwCl (tyT cI cJ cB cZ cL) s) (hNX : nX lwNest s) {x y : Nat} {b a : Nat → Nat} {fz fw : Nat → Int32} (hS_fz : ∀ k, k < 4 → fz k = (-1)) (hS_fw : ∀ k, k < 4 → fw k = (-1)) {H : Heap} {locs : List Loc} (hP : va_P g vwCl (LW cI cJ cB cZ cL x y b a fz fw) H) (hD : va_D (fun q : Nat => s.heap.size ≤ q) (LW cI cJ cB cZ cL x y b a fz fw)) (hS : va_S (fun q : Nat => s.heap.size ≤ q) s.heap H locs) {ls : Array Slot} (hl : lv_has ls 4 [(0, .ref sb), (1, .ref x), (2, .ref y), (3, .int 0)]) : W p l e room_1 s m #[Value.ref sb] below meth c H locs 1000 100000 (lw_Z below #[Value.ref sb] s) (F0 m 399 ls []) := by
  obtain ⟨hx, hb, hr, hml, hown, hts0, hX, hbl, hlocks, hgv⟩ := id C0
  have hts : ∀ w ∈ v_L_law, w.before #[Value.ref sb] s = true := fun w h => hts0 w (in_v_L_law w h)
  have hown : s.vm.findClass RL = some m.cls := hown
  have hA : ∀ q : Nat, s.heap.size ≤ q → (fun q : Nat => s.heap.size ≤ q) q := fun _ h => h
  have hbA : ¬ (fun q : Nat => s.heap.size ≤ q) sb := Nat.not_le.mpr hbl
  have hNX : nX [(RX11, 9, yX8_init, "CardsAtYule"), (RX8, 17, yX4_init, "CardsAtYule"), (RX11, 18, yX4_init, "CardsAtYule"), (RX11, 29, yX0_init, "CardsAtYule"), (RX11, 36, yX2_init, "CardsAtYule"), (RX11, 43, yX3_init, "CardsAtYule"), (RX11, 50, yX1_init, "CardsAtYule"), (RX11, 57, yX9_init, "CardsAtYule"), (RX11, 64, yX7_init, "CardsAtYule"), (RX11, 71, yX6_init, "CardsAtYule"), (RX11, 78, yX5_init, "CardsAtYule")] s := hNX
  have hP := hP.sub (ws' := [(x, .inr (10, [.ref (b 0), .ref (b 1), .ref (b 2), .ref (b 3), .ref (b 4), .ref (b 5), .ref (b 6), .ref (b 7), .ref (b 8), .ref (b 9), .ref (b 10)])), ((b 0), .inr (8, [.int 0, .ref (b 11), .int 0, .int (-1), .ref (b 12), .int 0, .int 0, .int 0, .int 0, .int 0])), (y, .inr (11, mO a))]) [0, 1, 29] rfl
  have hD := hD.sub (ws' := [(x, .inr (10, [.ref (b 0), .ref (b 1), .ref (b 2), .ref (b 3), .ref (b 4), .ref (b 5), .ref (b 6), .ref (b 7), .ref (b 8), .ref (b 9), .ref (b 10)])), ((b 0), .inr (8, [.int 0, .ref (b 11), .int 0, .int (-1), .ref (b 12), .int 0, .int 0, .int 0, .int 0, .int 0])), (y, .inr (11, mO a))]) [0, 1, 29] (by decide) rfl
  refine lv_aload_n hx hb dL_law_399 rfl (lv_at hl 1 rfl) ?_
  refine lv_aload_n hx hb dL_law_400 rfl (lv_at hl 0 rfl) ?_
  refine lv_iload_n hx hb dL_law_401 rfl (lv_at hl 3 rfl) ?_
  refine lv_iconst (v := 1) hx hb dL_law_402 (by decide) ?_
  refine lv_iadd hx hb dL_law_403 ?_
  refine lv_topi (nm_r (e' := 1) (by decide) ?_)
  refine va_sld hx hb hX hbl hbA hS (vc_in (by decide)) dL_law_404 ?_
  refine lv_topi (nm_r (e' := xs 1) rfl ?_)
  refine ro_i (va_runV (As := [.int (xs 1)]) (rest := []) ⟨hx, hb, hml, hown, hts⟩ (k_X11_fault l g cI cJ cB cZ cL x (b 0) (b 1) (b 2) (b 3) (b 4) (b 5) (b 6) (b 7) (b 8) (b 9) (b 10) (b 11) (b 12) (xs 1) ((xs 1).toInt) H.size rfl) (cwV 1 hts (goodIn_app (g_4 (List.mem_cons_of_mem _ (List.mem_append_left _ (List.mem_of_getElem? (i := 20) rfl))) (List.mem_cons_of_mem _ (List.mem_append_left _ (List.mem_of_getElem? (i := 21) rfl))) (List.mem_cons_of_mem _ (List.mem_append_left _ (List.mem_of_getElem? (i := 22) rfl))) (List.mem_cons_of_mem _ (List.mem_append_left _ (List.mem_of_getElem? (i := 3) rfl))) (by decide +kernel)) (goodIn_sub (fun _ h => List.mem_cons_of_mem _ (List.mem_append_right _ (List.mem_append_right _ (List.mem_append_right _ (List.mem_append_right _ (List.mem_append_right _ (List.mem_append_right _ (List.mem_append_right _ (List.mem_append_left _ h))))))))) good_v_X11_fault)) rfl rfl rfl (by decide +kernel) ⟨Nat.le_of_ble_eq_true rfl, Nat.le_of_ble_eq_true rfl⟩) (pv_RO (q := (RX11, TX11, 11)) (ci := 10) (q0 := 0) (wc := [(x, .inr (10, [.ref (b 0), .ref (b 1), .ref (b 2), .ref (b 3), .ref (b 4), .ref (b 5), .ref (b 6), .ref (b 7), .ref (b 8), .ref (b 9), .ref (b 10)])), ((b 0), .inr (8, [.int 0, .ref (b 11), .int 0, .int (-1), .ref (b 12), .int 0, .int 0, .int 0, .int 0, .int 0]))]) hK hP [0, 1] rfl rfl rfl) rfl rfl hl.1 rfl (lv_room (Nat.le_of_ble_eq_true rfl)) dL_law_405 ⟨Nat.le_of_ble_eq_true rfl, Nat.le_of_ble_eq_true rfl⟩) hS hA hP (fun r1 u2 H locs hw3 hP hS => ?_)
  refine lv_aload_n hx hb dL_law_408 rfl (lv_at hl 2 rfl) ?_
  refine lv_aload_n hx hb dL_law_409 rfl (lv_at hl 0 rfl) ?_
  refine lv_iload_n hx hb dL_law_410 rfl (lv_at hl 3 rfl) ?_
  refine lv_iconst (v := 1) hx hb dL_law_411 (by decide) ?_
  refine lv_iadd hx hb dL_law_412 ?_
  refine lv_topi (nm_r (e' := 1) (by decide) ?_)
  refine va_sld hx hb hX hbl hbA hS (vc_in (by decide)) dL_law_413 ?_
  refine lv_topi (nm_r (e' := xs 1) rfl ?_)
  refine rw_i (wr := [(x, .inr (10, [.ref (b 0), .ref (b 1), .ref (b 2), .ref (b 3), .ref (b 4), .ref (b 5), .ref (b 6), .ref (b 7), .ref (b 8), .ref (b 9), .ref (b 10)])), ((b 0), .inr (8, [.int 0, .ref (b 11), .int 0, .int (-1), .ref (b 12), .int 0, .int 0, .int 0, .int 0, .int 0]))]) (va_runV (As := [.int (xs 1)]) (rest := [.int r1]) ⟨hx, hb, hml, hown, hts⟩ (k_X12_fault l g cI cJ cB cZ cL y a (xs 1) ((xs 1).toInt) H.size rfl) (cwV 1 hts (goodIn_app (g_4 (List.mem_cons_of_mem _ (List.mem_append_left _ (List.mem_of_getElem? (i := 23) rfl))) (List.mem_cons_of_mem _ (List.mem_append_left _ (List.mem_of_getElem? (i := 24) rfl))) (List.mem_cons_of_mem _ (List.mem_append_left _ (List.mem_of_getElem? (i := 25) rfl))) (List.mem_cons_of_mem _ (List.mem_append_left _ (List.mem_of_getElem? (i := 7) rfl))) (by decide +kernel)) (goodIn_sub (fun _ h => List.mem_cons_of_mem _ (List.mem_append_right _ (List.mem_append_right _ (List.mem_append_right _ (List.mem_append_right _ (List.mem_append_right _ (List.mem_append_right _ (List.mem_append_right _ (List.mem_append_right _ (List.mem_append_left _ h)))))))))) good_v_X12_fault)) rfl rfl rfl (by decide +kernel) ⟨Nat.le_of_ble_eq_true rfl, Nat.le_of_ble_eq_true rfl⟩) (pv_RW (q := (RX12, TX12, 56)) (ci := 11) (q0 := 0) (wc := [(y, .inr (11, mO a))]) hK hP hD [2] (by decide) rfl rfl rfl) rfl rfl hl.1 rfl (lv_room (Nat.le_of_ble_eq_true rfl)) dL_law_414 ⟨Nat.le_of_ble_eq_true rfl, Nat.le_of_ble_eq_true rfl⟩) hS hA hP hD [2] [0, 1] rfl rfl (by decide) (by decide) (fun r4 u5 H locs hw6 hP hD hS => ?_)
  have hP : va_P g vwCl [(x, .inr (10, [.ref (b 0), .ref (b 1), .ref (b 2), .ref (b 3), .ref (b 4), .ref (b 5), .ref (b 6), .ref (b 7), .ref (b 8), .ref (b 9), .ref (b 10)])), ((b 0), .inr (8, [.int 0, .ref (b 11), .int 0, .int (-1), .ref (b 12), .int 0, .int 0, .int 0, .int 0, .int 0]))] H := hP
  have hD : va_D (fun q : Nat => s.heap.size ≤ q) [(x, .inr (10, [.ref (b 0), .ref (b 1), .ref (b 2), .ref (b 3), .ref (b 4), .ref (b 5), .ref (b 6), .ref (b 7), .ref (b 8), .ref (b 9), .ref (b 10)])), ((b 0), .inr (8, [.int 0, .ref (b 11), .int 0, .int (-1), .ref (b 12), .int 0, .int 0, .int 0, .int 0, .int 0]))] := hD
  have he : r1 = r4 := (by rcases hw3 with ⟨e1, g1⟩ | ⟨e1, g1⟩ <;> rcases hw6 with ⟨e2, g2⟩ | ⟨e2, g2⟩ <;> first | (rw [e1, e2]; done) | (exfalso; omega))
  refine lv_icmp_eq (tgt := 2463) hx hb dL_law_417 (by decide) (fun _ => ?_) (fun cc => absurd he cc)
  refine lv_iinc (v := 6) (lv' := [(3, .int 6), (0, .ref sb), (1, .ref x), (2, .ref y)]) hx hb dL_law_2463 hl (k := 3) rfl (by decide) (by decide) rfl (fun ls hl => ?_)
  refine lv_goto (tgt := 18) hx hb dL_law_2466 (by decide) ?_
  refine lv_iload_n hx hb dL_law_18 rfl (lv_at hl 0 rfl) ?_
  refine lv_aload_n hx hb dL_law_19 rfl (lv_at hl 1 rfl) ?_
  refine va_slen hx hb hX hbl hbA hS dL_law_20 ?_
  refine lv_topi (nm_r (e' := 6) rfl ?_)
  refine lv_bipush (v := 6) hx hb dL_law_21 (by decide) ?_
  refine lv_isub hx hb dL_law_23 ?_
  refine lv_topi (nm_r (e' := 0) (by decide) ?_)
  refine lv_icmp_gt (tgt := 2469) hx hb dL_law_24 (by decide) (fun _ => ?_) (fun c7 => absurd c7 (by decide))
  refine lv_iconst (v := 1) hx hb dL_law_2469 (by decide) ?_
  refine va_forget (fun q hq => hS.2.2 q hq) ?_
  refine W.widen (k := 600000) (n := 7302250) (Nat.le_of_ble_eq_true rfl) (Nat.le_of_ble_eq_true rfl) ?_
  exact lw_ret hx hb hr hlocks dL_law_2470
set_option maxHeartbeats 4000000 in
set_option maxRecDepth 100000 in
theorem lw_c4 {p : Program} {e : Env} {s : State} {m : MethodId} {below : List Frame} {meth : Method} {c : Code} (l : Launch) {sb : Nat} {xs : Nat → Int32} (C0 : lw_At p s m meth c sb 6 xs) {g : va_G} {cI cJ cB cZ cL : ClassId} (hK : va_K g vwCl (tyT cI cJ cB cZ cL) s) (hNX : nX lwNest s) {x y : Nat} {b a : Nat → Nat} {fz fw : Nat → Int32} (hS_fz : ∀ k, k < 4 → fz k = (-1)) (hS_fw : ∀ k, k < 4 → fw k = (-1)) {H : Heap} {locs : List Loc} (hP : va_P g vwCl (LW cI cJ cB cZ cL x y b a fz fw) H) (hD : va_D (fun q : Nat => s.heap.size ≤ q) (LW cI cJ cB cZ cL x y b a fz fw)) (hS : va_S (fun q : Nat => s.heap.size ≤ q) s.heap H locs) {ls : Array Slot} (hl : lv_has ls 4 [(0, .ref sb), (1, .ref x), (2, .ref y), (3, .int 0)]) : W p l e room_1 s m #[Value.ref sb] below meth c H locs 1000 100000 (lw_Z below #[Value.ref sb] s) (F0 m 422 ls []) := by
  obtain ⟨hx, hb, hr, hml, hown, hts0, hX, hbl, hlocks, hgv⟩ := id C0
  have hts : ∀ w ∈ v_L_law, w.before #[Value.ref sb] s = true := fun w h => hts0 w (in_v_L_law w h)
  have hown : s.vm.findClass RL = some m.cls := hown
  have hA : ∀ q : Nat, s.heap.size ≤ q → (fun q : Nat => s.heap.size ≤ q) q := fun _ h => h
  have hbA : ¬ (fun q : Nat => s.heap.size ≤ q) sb := Nat.not_le.mpr hbl
  have hNX : nX [(RX11, 9, yX8_init, "CardsAtYule"), (RX8, 17, yX4_init, "CardsAtYule"), (RX11, 18, yX4_init, "CardsAtYule"), (RX11, 29, yX0_init, "CardsAtYule"), (RX11, 36, yX2_init, "CardsAtYule"), (RX11, 43, yX3_init, "CardsAtYule"), (RX11, 50, yX1_init, "CardsAtYule"), (RX11, 57, yX9_init, "CardsAtYule"), (RX11, 64, yX7_init, "CardsAtYule"), (RX11, 71, yX6_init, "CardsAtYule"), (RX11, 78, yX5_init, "CardsAtYule")] s := hNX
  have hP := hP.sub (ws' := [(x, .inr (10, [.ref (b 0), .ref (b 1), .ref (b 2), .ref (b 3), .ref (b 4), .ref (b 5), .ref (b 6), .ref (b 7), .ref (b 8), .ref (b 9), .ref (b 10)])), ((b 1), .inr (4, [.int 0, .int 0, .int 0, .int 0, .int 0, .int 0, .long 0, .ref (b 21), .ref (b 22), .ref (b 23), .ref (b 24), .ref (b 25), .ref (b 26), .ref (b 27), .ref (b 28)])), (y, .inr (11, mO a)), ((a 16), .inl (cI, 5, .inl (fun _ => 0))), ((a 17), .inl (cI, 25, .inl (fun _ => 0)))]) [0, 12, 29, 35, 36] rfl
  have hD := hD.sub (ws' := [(x, .inr (10, [.ref (b 0), .ref (b 1), .ref (b 2), .ref (b 3), .ref (b 4), .ref (b 5), .ref (b 6), .ref (b 7), .ref (b 8), .ref (b 9), .ref (b 10)])), ((b 1), .inr (4, [.int 0, .int 0, .int 0, .int 0, .int 0, .int 0, .long 0, .ref (b 21), .ref (b 22), .ref (b 23), .ref (b 24), .ref (b 25), .ref (b 26), .ref (b 27), .ref (b 28)])), (y, .inr (11, mO a)), ((a 16), .inl (cI, 5, .inl (fun _ => 0))), ((a 17), .inl (cI, 25, .inl (fun _ => 0)))]) [0, 12, 29, 35, 36] (by decide) rfl
  refine lv_aload_n hx hb dL_law_422 rfl (lv_at hl 1 rfl) ?_
  refine lv_aload_n hx hb dL_law_423 rfl (lv_at hl 0 rfl) ?_
  refine lv_iload_n hx hb dL_law_424 rfl (lv_at hl 3 rfl) ?_
  refine lv_iconst (v := 1) hx hb dL_law_425 (by decide) ?_
  refine lv_iadd hx hb dL_law_426 ?_
  refine lv_topi (nm_r (e' := 1) (by decide) ?_)
  refine va_sld hx hb hX hbl hbA hS (vc_in (by decide)) dL_law_427 ?_
  refine lv_topi (nm_r (e' := xs 1) rfl ?_)
  refine lv_aload_n hx hb dL_law_428 rfl (lv_at hl 0 rfl) ?_
  refine lv_iload_n hx hb dL_law_429 rfl (lv_at hl 3 rfl) ?_
  refine lv_iconst (v := 2) hx hb dL_law_430 (by decide) ?_
  refine lv_iadd hx hb dL_law_431 ?_
  refine lv_topi (nm_r (e' := 2) (by decide) ?_)
  refine va_sld hx hb hX hbl hbA hS (vc_in (by decide)) dL_law_432 ?_
  refine lv_topi (nm_r (e' := xs 2) rfl ?_)
  refine ro_i (va_runV (As := [.int (xs 1), .int (xs 2)]) (rest := []) ⟨hx, hb, hml, hown, hts⟩ (k_X11_person l g cI cJ cB cZ cL x (b 0) (b 1) (b 2) (b 3) (b 4) (b 5) (b 6) (b 7) (b 8) (b 9) (b 10) (b 21) (b 22) (b 23) (b 24) (b 25) (b 26) (b 27) (b 28) (xs 1) (xs 2) ((xs 1).toInt) ((xs 2).toInt) H.size rfl rfl) (cwV 2 hts (goodIn_app (g_4 (List.mem_cons_of_mem _ (List.mem_append_left _ (List.mem_of_getElem? (i := 26) rfl))) (List.mem_cons_of_mem _ (List.mem_append_left _ (List.mem_of_getElem? (i := 27) rfl))) (List.mem_cons_of_mem _ (List.mem_append_left _ (List.mem_of_getElem? (i := 28) rfl))) (List.mem_cons_of_mem _ (List.mem_append_left _ (List.mem_of_getElem? (i := 3) rfl))) (by decide +kernel)) (goodIn_sub (fun _ h => List.mem_cons_of_mem _ (List.mem_append_right _ (List.mem_append_right _ (List.mem_append_right _ (List.mem_append_right _ (List.mem_append_right _ (List.mem_append_right _ (List.mem_append_right _ (List.mem_append_right _ (List.mem_append_right _ (List.mem_append_left _ h))))))))))) good_v_X11_person)) rfl rfl rfl (by decide +kernel) ⟨Nat.le_of_ble_eq_true rfl, Nat.le_of_ble_eq_true rfl⟩) (pv_RO (q := (RX11, TX11, 11)) (ci := 10) (q0 := 0) (wc := [(x, .inr (10, [.ref (b 0), .ref (b 1), .ref (b 2), .ref (b 3), .ref (b 4), .ref (b 5), .ref (b 6), .ref (b 7), .ref (b 8), .ref (b 9), .ref (b 10)])), ((b 1), .inr (4, [.int 0, .int 0, .int 0, .int 0, .int 0, .int 0, .long 0, .ref (b 21), .ref (b 22), .ref (b 23), .ref (b 24), .ref (b 25), .ref (b 26), .ref (b 27), .ref (b 28)]))]) hK hP [0, 1] rfl rfl rfl) rfl rfl hl.1 rfl (lv_room (Nat.le_of_ble_eq_true rfl)) dL_law_433 ⟨Nat.le_of_ble_eq_true rfl, Nat.le_of_ble_eq_true rfl⟩) hS hA hP (fun r1 u2 H locs hw3 hP hS => ?_)
  subst hw3
  refine lv_aload_n hx hb dL_law_436 rfl (lv_at hl 2 rfl) ?_
  refine lv_aload_n hx hb dL_law_437 rfl (lv_at hl 0 rfl) ?_
  refine lv_iload_n hx hb dL_law_438 rfl (lv_at hl 3 rfl) ?_
  refine lv_iconst (v := 1) hx hb dL_law_439 (by decide) ?_
  refine lv_iadd hx hb dL_law_440 ?_
  refine lv_topi (nm_r (e' := 1) (by decide) ?_)
  refine va_sld hx hb hX hbl hbA hS (vc_in (by decide)) dL_law_441 ?_
  refine lv_topi (nm_r (e' := xs 1) rfl ?_)
  refine lv_aload_n hx hb dL_law_442 rfl (lv_at hl 0 rfl) ?_
  refine lv_iload_n hx hb dL_law_443 rfl (lv_at hl 3 rfl) ?_
  refine lv_iconst (v := 2) hx hb dL_law_444 (by decide) ?_
  refine lv_iadd hx hb dL_law_445 ?_
  refine lv_topi (nm_r (e' := 2) (by decide) ?_)
  refine va_sld hx hb hX hbl hbA hS (vc_in (by decide)) dL_law_446 ?_
  refine lv_topi (nm_r (e' := xs 2) rfl ?_)
  refine rw_i (wr := [(x, .inr (10, [.ref (b 0), .ref (b 1), .ref (b 2), .ref (b 3), .ref (b 4), .ref (b 5), .ref (b 6), .ref (b 7), .ref (b 8), .ref (b 9), .ref (b 10)])), ((b 1), .inr (4, [.int 0, .int 0, .int 0, .int 0, .int 0, .int 0, .long 0, .ref (b 21), .ref (b 22), .ref (b 23), .ref (b 24), .ref (b 25), .ref (b 26), .ref (b 27), .ref (b 28)]))]) (va_runV (As := [.int (xs 1), .int (xs 2)]) (rest := [.int (-2)]) ⟨hx, hb, hml, hown, hts⟩ (k_X12_person l g cI cJ cB cZ cL y a (xs 1) (xs 2) ((xs 1).toInt) ((xs 2).toInt) H.size rfl rfl) (cwV 2 hts (goodIn_app (g_4 (List.mem_cons_of_mem _ (List.mem_append_left _ (List.mem_of_getElem? (i := 29) rfl))) (List.mem_cons_of_mem _ (List.mem_append_left _ (List.mem_of_getElem? (i := 30) rfl))) (List.mem_cons_of_mem _ (List.mem_append_left _ (List.mem_of_getElem? (i := 31) rfl))) (List.mem_cons_of_mem _ (List.mem_append_left _ (List.mem_of_getElem? (i := 7) rfl))) (by decide +kernel)) (goodIn_sub (fun _ h => List.mem_cons_of_mem _ (List.mem_append_right _ (List.mem_append_right _ (List.mem_append_right _ (List.mem_append_right _ (List.mem_append_right _ (List.mem_append_right _ (List.mem_append_right _ (List.mem_append_right _ (List.mem_append_right _ (List.mem_append_right _ (List.mem_append_left _ h)))))))))))) good_v_X12_person)) rfl rfl rfl (by decide +kernel) ⟨Nat.le_of_ble_eq_true rfl, Nat.le_of_ble_eq_true rfl⟩) (pv_RW (q := (RX12, TX12, 56)) (ci := 11) (q0 := 0) (wc := [(y, .inr (11, mO a)), ((a 17), .inl (cI, 25, .inl (fun _ => 0))), ((a 16), .inl (cI, 5, .inl (fun _ => 0)))]) hK hP hD [2, 4, 3] (by decide) rfl rfl rfl) rfl rfl hl.1 rfl (lv_room (Nat.le_of_ble_eq_true rfl)) dL_law_447 ⟨Nat.le_of_ble_eq_true rfl, Nat.le_of_ble_eq_true rfl⟩) hS hA hP hD [2, 4, 3] [0, 1] rfl rfl (by decide) (by decide) (fun r4 u5 H locs hw6 hP hD hS => ?_)
  have hP : va_P g vwCl [(x, .inr (10, [.ref (b 0), .ref (b 1), .ref (b 2), .ref (b 3), .ref (b 4), .ref (b 5), .ref (b 6), .ref (b 7), .ref (b 8), .ref (b 9), .ref (b 10)])), ((b 1), .inr (4, [.int 0, .int 0, .int 0, .int 0, .int 0, .int 0, .long 0, .ref (b 21), .ref (b 22), .ref (b 23), .ref (b 24), .ref (b 25), .ref (b 26), .ref (b 27), .ref (b 28)]))] H := hP
  have hD : va_D (fun q : Nat => s.heap.size ≤ q) [(x, .inr (10, [.ref (b 0), .ref (b 1), .ref (b 2), .ref (b 3), .ref (b 4), .ref (b 5), .ref (b 6), .ref (b 7), .ref (b 8), .ref (b 9), .ref (b 10)])), ((b 1), .inr (4, [.int 0, .int 0, .int 0, .int 0, .int 0, .int 0, .long 0, .ref (b 21), .ref (b 22), .ref (b 23), .ref (b 24), .ref (b 25), .ref (b 26), .ref (b 27), .ref (b 28)]))] := hD
  subst hw6
  refine lv_icmp_eq (tgt := 2463) hx hb dL_law_450 (by decide) (fun _ => ?_) (fun c7 => absurd c7 (by decide))
  refine lv_iinc (v := 6) (lv' := [(3, .int 6), (0, .ref sb), (1, .ref x), (2, .ref y)]) hx hb dL_law_2463 hl (k := 3) rfl (by decide) (by decide) rfl (fun ls hl => ?_)
  refine lv_goto (tgt := 18) hx hb dL_law_2466 (by decide) ?_
  refine lv_iload_n hx hb dL_law_18 rfl (lv_at hl 0 rfl) ?_
  refine lv_aload_n hx hb dL_law_19 rfl (lv_at hl 1 rfl) ?_
  refine va_slen hx hb hX hbl hbA hS dL_law_20 ?_
  refine lv_topi (nm_r (e' := 6) rfl ?_)
  refine lv_bipush (v := 6) hx hb dL_law_21 (by decide) ?_
  refine lv_isub hx hb dL_law_23 ?_
  refine lv_topi (nm_r (e' := 0) (by decide) ?_)
  refine lv_icmp_gt (tgt := 2469) hx hb dL_law_24 (by decide) (fun _ => ?_) (fun c8 => absurd c8 (by decide))
  refine lv_iconst (v := 1) hx hb dL_law_2469 (by decide) ?_
  refine va_forget (fun q hq => hS.2.2 q hq) ?_
  refine W.widen (k := 600000) (n := 7302250) (Nat.le_of_ble_eq_true rfl) (Nat.le_of_ble_eq_true rfl) ?_
  exact lw_ret hx hb hr hlocks dL_law_2470
set_option maxHeartbeats 4000000 in
set_option maxRecDepth 100000 in
theorem lw_c5 {p : Program} {e : Env} {s : State} {m : MethodId} {below : List Frame} {meth : Method} {c : Code} (l : Launch) {sb : Nat} {xs : Nat → Int32} (C0 : lw_At p s m meth c sb 6 xs) {g : va_G} {cI cJ cB cZ cL : ClassId} (hK : va_K g vwCl (tyT cI cJ cB cZ cL) s) (hNX : nX lwNest s) {x y : Nat} {b a : Nat → Nat} {fz fw : Nat → Int32} (hS_fz : ∀ k, k < 4 → fz k = (-1)) (hS_fw : ∀ k, k < 4 → fw k = (-1)) {H : Heap} {locs : List Loc} (hP : va_P g vwCl (LW cI cJ cB cZ cL x y b a fz fw) H) (hD : va_D (fun q : Nat => s.heap.size ≤ q) (LW cI cJ cB cZ cL x y b a fz fw)) (hS : va_S (fun q : Nat => s.heap.size ≤ q) s.heap H locs) {ls : Array Slot} (hl : lv_has ls 4 [(0, .ref sb), (1, .ref x), (2, .ref y), (3, .int 0)]) : W p l e room_1 s m #[Value.ref sb] below meth c H locs 1000 100000 (lw_Z below #[Value.ref sb] s) (F0 m 455 ls []) := by
  obtain ⟨hx, hb, hr, hml, hown, hts0, hX, hbl, hlocks, hgv⟩ := id C0
  have hts : ∀ w ∈ v_L_law, w.before #[Value.ref sb] s = true := fun w h => hts0 w (in_v_L_law w h)
  have hown : s.vm.findClass RL = some m.cls := hown
  have hA : ∀ q : Nat, s.heap.size ≤ q → (fun q : Nat => s.heap.size ≤ q) q := fun _ h => h
  have hbA : ¬ (fun q : Nat => s.heap.size ≤ q) sb := Nat.not_le.mpr hbl
  have hNX : nX [(RX11, 9, yX8_init, "CardsAtYule"), (RX8, 17, yX4_init, "CardsAtYule"), (RX11, 18, yX4_init, "CardsAtYule"), (RX11, 29, yX0_init, "CardsAtYule"), (RX11, 36, yX2_init, "CardsAtYule"), (RX11, 43, yX3_init, "CardsAtYule"), (RX11, 50, yX1_init, "CardsAtYule"), (RX11, 57, yX9_init, "CardsAtYule"), (RX11, 64, yX7_init, "CardsAtYule"), (RX11, 71, yX6_init, "CardsAtYule"), (RX11, 78, yX5_init, "CardsAtYule")] s := hNX
  have hP := hP.sub (ws' := [(x, .inr (10, [.ref (b 0), .ref (b 1), .ref (b 2), .ref (b 3), .ref (b 4), .ref (b 5), .ref (b 6), .ref (b 7), .ref (b 8), .ref (b 9), .ref (b 10)])), ((b 1), .inr (4, [.int 0, .int 0, .int 0, .int 0, .int 0, .int 0, .long 0, .ref (b 21), .ref (b 22), .ref (b 23), .ref (b 24), .ref (b 25), .ref (b 26), .ref (b 27), .ref (b 28)])), (y, .inr (11, mO a)), ((a 16), .inl (cI, 5, .inl (fun _ => 0))), ((a 17), .inl (cI, 25, .inl (fun _ => 0)))]) [0, 12, 29, 35, 36] rfl
  have hD := hD.sub (ws' := [(x, .inr (10, [.ref (b 0), .ref (b 1), .ref (b 2), .ref (b 3), .ref (b 4), .ref (b 5), .ref (b 6), .ref (b 7), .ref (b 8), .ref (b 9), .ref (b 10)])), ((b 1), .inr (4, [.int 0, .int 0, .int 0, .int 0, .int 0, .int 0, .long 0, .ref (b 21), .ref (b 22), .ref (b 23), .ref (b 24), .ref (b 25), .ref (b 26), .ref (b 27), .ref (b 28)])), (y, .inr (11, mO a)), ((a 16), .inl (cI, 5, .inl (fun _ => 0))), ((a 17), .inl (cI, 25, .inl (fun _ => 0)))]) [0, 12, 29, 35, 36] (by decide) rfl
  refine lv_aload_n hx hb dL_law_455 rfl (lv_at hl 1 rfl) ?_
  refine lv_aload_n hx hb dL_law_456 rfl (lv_at hl 0 rfl) ?_
  refine lv_iload_n hx hb dL_law_457 rfl (lv_at hl 3 rfl) ?_
  refine lv_iconst (v := 1) hx hb dL_law_458 (by decide) ?_
  refine lv_iadd hx hb dL_law_459 ?_
  refine lv_topi (nm_r (e' := 1) (by decide) ?_)
  refine va_sld hx hb hX hbl hbA hS (vc_in (by decide)) dL_law_460 ?_
  refine lv_topi (nm_r (e' := xs 1) rfl ?_)
  refine lv_aload_n hx hb dL_law_461 rfl (lv_at hl 0 rfl) ?_
  refine lv_iload_n hx hb dL_law_462 rfl (lv_at hl 3 rfl) ?_
  refine lv_iconst (v := 2) hx hb dL_law_463 (by decide) ?_
  refine lv_iadd hx hb dL_law_464 ?_
  refine lv_topi (nm_r (e' := 2) (by decide) ?_)
  refine va_sld hx hb hX hbl hbA hS (vc_in (by decide)) dL_law_465 ?_
  refine lv_topi (nm_r (e' := xs 2) rfl ?_)
  refine ro_i (va_runV (As := [.int (xs 1), .int (xs 2)]) (rest := []) ⟨hx, hb, hml, hown, hts⟩ (k_X11_pair l g cI cJ cB cZ cL x (b 0) (b 1) (b 2) (b 3) (b 4) (b 5) (b 6) (b 7) (b 8) (b 9) (b 10) (b 21) (b 22) (b 23) (b 24) (b 25) (b 26) (b 27) (b 28) (xs 1) (xs 2) ((xs 1).toInt) ((xs 2).toInt) H.size rfl rfl) (cwV 2 hts (goodIn_app (g_4 (List.mem_cons_of_mem _ (List.mem_append_left _ (List.mem_of_getElem? (i := 32) rfl))) (List.mem_cons_of_mem _ (List.mem_append_left _ (List.mem_of_getElem? (i := 33) rfl))) (List.mem_cons_of_mem _ (List.mem_append_left _ (List.mem_of_getElem? (i := 34) rfl))) (List.mem_cons_of_mem _ (List.mem_append_left _ (List.mem_of_getElem? (i := 3) rfl))) (by decide +kernel)) (goodIn_sub (fun _ h => List.mem_cons_of_mem _ (List.mem_append_right _ (List.mem_append_right _ (List.mem_append_right _ (List.mem_append_right _ (List.mem_append_right _ (List.mem_append_right _ (List.mem_append_right _ (List.mem_append_right _ (List.mem_append_right _ (List.mem_append_right _ (List.mem_append_right _ (List.mem_append_left _ h))))))))))))) good_v_X11_pair)) rfl rfl rfl (by decide +kernel) ⟨Nat.le_of_ble_eq_true rfl, Nat.le_of_ble_eq_true rfl⟩) (pv_RO (q := (RX11, TX11, 11)) (ci := 10) (q0 := 0) (wc := [(x, .inr (10, [.ref (b 0), .ref (b 1), .ref (b 2), .ref (b 3), .ref (b 4), .ref (b 5), .ref (b 6), .ref (b 7), .ref (b 8), .ref (b 9), .ref (b 10)])), ((b 1), .inr (4, [.int 0, .int 0, .int 0, .int 0, .int 0, .int 0, .long 0, .ref (b 21), .ref (b 22), .ref (b 23), .ref (b 24), .ref (b 25), .ref (b 26), .ref (b 27), .ref (b 28)]))]) hK hP [0, 1] rfl rfl rfl) rfl rfl hl.1 rfl (lv_room (Nat.le_of_ble_eq_true rfl)) dL_law_466 ⟨Nat.le_of_ble_eq_true rfl, Nat.le_of_ble_eq_true rfl⟩) hS hA hP (fun r1 u2 H locs hw3 hP hS => ?_)
  subst hw3
  refine lv_aload_n hx hb dL_law_469 rfl (lv_at hl 2 rfl) ?_
  refine lv_aload_n hx hb dL_law_470 rfl (lv_at hl 0 rfl) ?_
  refine lv_iload_n hx hb dL_law_471 rfl (lv_at hl 3 rfl) ?_
  refine lv_iconst (v := 1) hx hb dL_law_472 (by decide) ?_
  refine lv_iadd hx hb dL_law_473 ?_
  refine lv_topi (nm_r (e' := 1) (by decide) ?_)
  refine va_sld hx hb hX hbl hbA hS (vc_in (by decide)) dL_law_474 ?_
  refine lv_topi (nm_r (e' := xs 1) rfl ?_)
  refine lv_aload_n hx hb dL_law_475 rfl (lv_at hl 0 rfl) ?_
  refine lv_iload_n hx hb dL_law_476 rfl (lv_at hl 3 rfl) ?_
  refine lv_iconst (v := 2) hx hb dL_law_477 (by decide) ?_
  refine lv_iadd hx hb dL_law_478 ?_
  refine lv_topi (nm_r (e' := 2) (by decide) ?_)
  refine va_sld hx hb hX hbl hbA hS (vc_in (by decide)) dL_law_479 ?_
  refine lv_topi (nm_r (e' := xs 2) rfl ?_)
  refine rw_i (wr := [(x, .inr (10, [.ref (b 0), .ref (b 1), .ref (b 2), .ref (b 3), .ref (b 4), .ref (b 5), .ref (b 6), .ref (b 7), .ref (b 8), .ref (b 9), .ref (b 10)])), ((b 1), .inr (4, [.int 0, .int 0, .int 0, .int 0, .int 0, .int 0, .long 0, .ref (b 21), .ref (b 22), .ref (b 23), .ref (b 24), .ref (b 25), .ref (b 26), .ref (b 27), .ref (b 28)]))]) (va_runV (As := [.int (xs 1), .int (xs 2)]) (rest := [.int (-2)]) ⟨hx, hb, hml, hown, hts⟩ (k_X12_pair l g cI cJ cB cZ cL y a (xs 1) (xs 2) ((xs 1).toInt) ((xs 2).toInt) H.size rfl rfl) (cwV 2 hts (goodIn_app (g_4 (List.mem_cons_of_mem _ (List.mem_append_left _ (List.mem_of_getElem? (i := 35) rfl))) (List.mem_cons_of_mem _ (List.mem_append_left _ (List.mem_of_getElem? (i := 36) rfl))) (List.mem_cons_of_mem _ (List.mem_append_left _ (List.mem_of_getElem? (i := 37) rfl))) (List.mem_cons_of_mem _ (List.mem_append_left _ (List.mem_of_getElem? (i := 7) rfl))) (by decide +kernel)) (goodIn_sub (fun _ h => List.mem_cons_of_mem _ (List.mem_append_right _ (List.mem_append_right _ (List.mem_append_right _ (List.mem_append_right _ (List.mem_append_right _ (List.mem_append_right _ (List.mem_append_right _ (List.mem_append_right _ (List.mem_append_right _ (List.mem_append_right _ (List.mem_append_right _ (List.mem_append_right _ (List.mem_append_left _ h)))))))))))))) good_v_X12_pair)) rfl rfl rfl (by decide +kernel) ⟨Nat.le_of_ble_eq_true rfl, Nat.le_of_ble_eq_true rfl⟩) (pv_RW (q := (RX12, TX12, 56)) (ci := 11) (q0 := 0) (wc := [(y, .inr (11, mO a)), ((a 17), .inl (cI, 25, .inl (fun _ => 0))), ((a 16), .inl (cI, 5, .inl (fun _ => 0)))]) hK hP hD [2, 4, 3] (by decide) rfl rfl rfl) rfl rfl hl.1 rfl (lv_room (Nat.le_of_ble_eq_true rfl)) dL_law_480 ⟨Nat.le_of_ble_eq_true rfl, Nat.le_of_ble_eq_true rfl⟩) hS hA hP hD [2, 4, 3] [0, 1] rfl rfl (by decide) (by decide) (fun r4 u5 H locs hw6 hP hD hS => ?_)
  have hP : va_P g vwCl [(x, .inr (10, [.ref (b 0), .ref (b 1), .ref (b 2), .ref (b 3), .ref (b 4), .ref (b 5), .ref (b 6), .ref (b 7), .ref (b 8), .ref (b 9), .ref (b 10)])), ((b 1), .inr (4, [.int 0, .int 0, .int 0, .int 0, .int 0, .int 0, .long 0, .ref (b 21), .ref (b 22), .ref (b 23), .ref (b 24), .ref (b 25), .ref (b 26), .ref (b 27), .ref (b 28)]))] H := hP
  have hD : va_D (fun q : Nat => s.heap.size ≤ q) [(x, .inr (10, [.ref (b 0), .ref (b 1), .ref (b 2), .ref (b 3), .ref (b 4), .ref (b 5), .ref (b 6), .ref (b 7), .ref (b 8), .ref (b 9), .ref (b 10)])), ((b 1), .inr (4, [.int 0, .int 0, .int 0, .int 0, .int 0, .int 0, .long 0, .ref (b 21), .ref (b 22), .ref (b 23), .ref (b 24), .ref (b 25), .ref (b 26), .ref (b 27), .ref (b 28)]))] := hD
  subst hw6
  refine lv_icmp_eq (tgt := 2463) hx hb dL_law_483 (by decide) (fun _ => ?_) (fun c7 => absurd c7 (by decide))
  refine lv_iinc (v := 6) (lv' := [(3, .int 6), (0, .ref sb), (1, .ref x), (2, .ref y)]) hx hb dL_law_2463 hl (k := 3) rfl (by decide) (by decide) rfl (fun ls hl => ?_)
  refine lv_goto (tgt := 18) hx hb dL_law_2466 (by decide) ?_
  refine lv_iload_n hx hb dL_law_18 rfl (lv_at hl 0 rfl) ?_
  refine lv_aload_n hx hb dL_law_19 rfl (lv_at hl 1 rfl) ?_
  refine va_slen hx hb hX hbl hbA hS dL_law_20 ?_
  refine lv_topi (nm_r (e' := 6) rfl ?_)
  refine lv_bipush (v := 6) hx hb dL_law_21 (by decide) ?_
  refine lv_isub hx hb dL_law_23 ?_
  refine lv_topi (nm_r (e' := 0) (by decide) ?_)
  refine lv_icmp_gt (tgt := 2469) hx hb dL_law_24 (by decide) (fun _ => ?_) (fun c8 => absurd c8 (by decide))
  refine lv_iconst (v := 1) hx hb dL_law_2469 (by decide) ?_
  refine va_forget (fun q hq => hS.2.2 q hq) ?_
  refine W.widen (k := 600000) (n := 7302250) (Nat.le_of_ble_eq_true rfl) (Nat.le_of_ble_eq_true rfl) ?_
  exact lw_ret hx hb hr hlocks dL_law_2470
set_option maxHeartbeats 4000000 in
set_option maxRecDepth 100000 in
theorem lw_c6 {p : Program} {e : Env} {s : State} {m : MethodId} {below : List Frame} {meth : Method} {c : Code} (l : Launch) {sb : Nat} {xs : Nat → Int32} (C0 : lw_At p s m meth c sb 6 xs) {g : va_G} {cI cJ cB cZ cL : ClassId} (hK : va_K g vwCl (tyT cI cJ cB cZ cL) s) (hNX : nX lwNest s) {x y : Nat} {b a : Nat → Nat} {fz fw : Nat → Int32} (hS_fz : ∀ k, k < 4 → fz k = (-1)) (hS_fw : ∀ k, k < 4 → fw k = (-1)) {H : Heap} {locs : List Loc} (hP : va_P g vwCl (LW cI cJ cB cZ cL x y b a fz fw) H) (hD : va_D (fun q : Nat => s.heap.size ≤ q) (LW cI cJ cB cZ cL x y b a fz fw)) (hS : va_S (fun q : Nat => s.heap.size ≤ q) s.heap H locs) {ls : Array Slot} (hl : lv_has ls 4 [(0, .ref sb), (1, .ref x), (2, .ref y), (3, .int 0)]) : W p l e room_1 s m #[Value.ref sb] below meth c H locs 1000 100000 (lw_Z below #[Value.ref sb] s) (F0 m 488 ls []) := by
  obtain ⟨hx, hb, hr, hml, hown, hts0, hX, hbl, hlocks, hgv⟩ := id C0
  have hts : ∀ w ∈ v_L_law, w.before #[Value.ref sb] s = true := fun w h => hts0 w (in_v_L_law w h)
  have hown : s.vm.findClass RL = some m.cls := hown
  have hA : ∀ q : Nat, s.heap.size ≤ q → (fun q : Nat => s.heap.size ≤ q) q := fun _ h => h
  have hbA : ¬ (fun q : Nat => s.heap.size ≤ q) sb := Nat.not_le.mpr hbl
  have hNX : nX [(RX11, 9, yX8_init, "CardsAtYule"), (RX8, 17, yX4_init, "CardsAtYule"), (RX11, 18, yX4_init, "CardsAtYule"), (RX11, 29, yX0_init, "CardsAtYule"), (RX11, 36, yX2_init, "CardsAtYule"), (RX11, 43, yX3_init, "CardsAtYule"), (RX11, 50, yX1_init, "CardsAtYule"), (RX11, 57, yX9_init, "CardsAtYule"), (RX11, 64, yX7_init, "CardsAtYule"), (RX11, 71, yX6_init, "CardsAtYule"), (RX11, 78, yX5_init, "CardsAtYule")] s := hNX
  have hP := hP.sub (ws' := [(x, .inr (10, [.ref (b 0), .ref (b 1), .ref (b 2), .ref (b 3), .ref (b 4), .ref (b 5), .ref (b 6), .ref (b 7), .ref (b 8), .ref (b 9), .ref (b 10)])), ((b 1), .inr (4, [.int 0, .int 0, .int 0, .int 0, .int 0, .int 0, .long 0, .ref (b 21), .ref (b 22), .ref (b 23), .ref (b 24), .ref (b 25), .ref (b 26), .ref (b 27), .ref (b 28)])), (y, .inr (11, mO a)), ((a 16), .inl (cI, 5, .inl (fun _ => 0))), ((a 17), .inl (cI, 25, .inl (fun _ => 0)))]) [0, 12, 29, 35, 36] rfl
  have hD := hD.sub (ws' := [(x, .inr (10, [.ref (b 0), .ref (b 1), .ref (b 2), .ref (b 3), .ref (b 4), .ref (b 5), .ref (b 6), .ref (b 7), .ref (b 8), .ref (b 9), .ref (b 10)])), ((b 1), .inr (4, [.int 0, .int 0, .int 0, .int 0, .int 0, .int 0, .long 0, .ref (b 21), .ref (b 22), .ref (b 23), .ref (b 24), .ref (b 25), .ref (b 26), .ref (b 27), .ref (b 28)])), (y, .inr (11, mO a)), ((a 16), .inl (cI, 5, .inl (fun _ => 0))), ((a 17), .inl (cI, 25, .inl (fun _ => 0)))]) [0, 12, 29, 35, 36] (by decide) rfl
  refine lv_aload_n hx hb dL_law_488 rfl (lv_at hl 1 rfl) ?_
  refine lv_aload_n hx hb dL_law_489 rfl (lv_at hl 0 rfl) ?_
  refine lv_iload_n hx hb dL_law_490 rfl (lv_at hl 3 rfl) ?_
  refine lv_iconst (v := 1) hx hb dL_law_491 (by decide) ?_
  refine lv_iadd hx hb dL_law_492 ?_
  refine lv_topi (nm_r (e' := 1) (by decide) ?_)
  refine va_sld hx hb hX hbl hbA hS (vc_in (by decide)) dL_law_493 ?_
  refine lv_topi (nm_r (e' := xs 1) rfl ?_)
  refine lv_aload_n hx hb dL_law_494 rfl (lv_at hl 0 rfl) ?_
  refine lv_iload_n hx hb dL_law_495 rfl (lv_at hl 3 rfl) ?_
  refine lv_iconst (v := 2) hx hb dL_law_496 (by decide) ?_
  refine lv_iadd hx hb dL_law_497 ?_
  refine lv_topi (nm_r (e' := 2) (by decide) ?_)
  refine va_sld hx hb hX hbl hbA hS (vc_in (by decide)) dL_law_498 ?_
  refine lv_topi (nm_r (e' := xs 2) rfl ?_)
  refine ro_i (va_runV (As := [.int (xs 1), .int (xs 2)]) (rest := []) ⟨hx, hb, hml, hown, hts⟩ (k_X11_of l g cI cJ cB cZ cL x (b 0) (b 1) (b 2) (b 3) (b 4) (b 5) (b 6) (b 7) (b 8) (b 9) (b 10) (b 21) (b 22) (b 23) (b 24) (b 25) (b 26) (b 27) (b 28) (xs 1) (xs 2) ((xs 1).toInt) ((xs 2).toInt) H.size rfl rfl) (cwV 2 hts (goodIn_app (g_4 (List.mem_cons_of_mem _ (List.mem_append_left _ (List.mem_of_getElem? (i := 38) rfl))) (List.mem_cons_of_mem _ (List.mem_append_left _ (List.mem_of_getElem? (i := 39) rfl))) (List.mem_cons_of_mem _ (List.mem_append_left _ (List.mem_of_getElem? (i := 40) rfl))) (List.mem_cons_of_mem _ (List.mem_append_left _ (List.mem_of_getElem? (i := 3) rfl))) (by decide +kernel)) (goodIn_sub (fun _ h => List.mem_cons_of_mem _ (List.mem_append_right _ (List.mem_append_right _ (List.mem_append_right _ (List.mem_append_right _ (List.mem_append_right _ (List.mem_append_right _ (List.mem_append_right _ (List.mem_append_right _ (List.mem_append_right _ (List.mem_append_right _ (List.mem_append_right _ (List.mem_append_right _ (List.mem_append_right _ (List.mem_append_left _ h))))))))))))))) good_v_X11_of)) rfl rfl rfl (by decide +kernel) ⟨Nat.le_of_ble_eq_true rfl, Nat.le_of_ble_eq_true rfl⟩) (pv_RO (q := (RX11, TX11, 11)) (ci := 10) (q0 := 0) (wc := [(x, .inr (10, [.ref (b 0), .ref (b 1), .ref (b 2), .ref (b 3), .ref (b 4), .ref (b 5), .ref (b 6), .ref (b 7), .ref (b 8), .ref (b 9), .ref (b 10)])), ((b 1), .inr (4, [.int 0, .int 0, .int 0, .int 0, .int 0, .int 0, .long 0, .ref (b 21), .ref (b 22), .ref (b 23), .ref (b 24), .ref (b 25), .ref (b 26), .ref (b 27), .ref (b 28)]))]) hK hP [0, 1] rfl rfl rfl) rfl rfl hl.1 rfl (lv_room (Nat.le_of_ble_eq_true rfl)) dL_law_499 ⟨Nat.le_of_ble_eq_true rfl, Nat.le_of_ble_eq_true rfl⟩) hS hA hP (fun r1 u2 H locs hw3 hP hS => ?_)
  subst hw3
  refine lv_aload_n hx hb dL_law_502 rfl (lv_at hl 2 rfl) ?_
  refine lv_aload_n hx hb dL_law_503 rfl (lv_at hl 0 rfl) ?_
  refine lv_iload_n hx hb dL_law_504 rfl (lv_at hl 3 rfl) ?_
  refine lv_iconst (v := 1) hx hb dL_law_505 (by decide) ?_
  refine lv_iadd hx hb dL_law_506 ?_
  refine lv_topi (nm_r (e' := 1) (by decide) ?_)
  refine va_sld hx hb hX hbl hbA hS (vc_in (by decide)) dL_law_507 ?_
  refine lv_topi (nm_r (e' := xs 1) rfl ?_)
  refine lv_aload_n hx hb dL_law_508 rfl (lv_at hl 0 rfl) ?_
  refine lv_iload_n hx hb dL_law_509 rfl (lv_at hl 3 rfl) ?_
  refine lv_iconst (v := 2) hx hb dL_law_510 (by decide) ?_
  refine lv_iadd hx hb dL_law_511 ?_
  refine lv_topi (nm_r (e' := 2) (by decide) ?_)
  refine va_sld hx hb hX hbl hbA hS (vc_in (by decide)) dL_law_512 ?_
  refine lv_topi (nm_r (e' := xs 2) rfl ?_)
  refine rw_i (wr := [(x, .inr (10, [.ref (b 0), .ref (b 1), .ref (b 2), .ref (b 3), .ref (b 4), .ref (b 5), .ref (b 6), .ref (b 7), .ref (b 8), .ref (b 9), .ref (b 10)])), ((b 1), .inr (4, [.int 0, .int 0, .int 0, .int 0, .int 0, .int 0, .long 0, .ref (b 21), .ref (b 22), .ref (b 23), .ref (b 24), .ref (b 25), .ref (b 26), .ref (b 27), .ref (b 28)]))]) (va_runV (As := [.int (xs 1), .int (xs 2)]) (rest := [.int (-2)]) ⟨hx, hb, hml, hown, hts⟩ (k_X12_of l g cI cJ cB cZ cL y a (xs 1) (xs 2) ((xs 1).toInt) ((xs 2).toInt) H.size rfl rfl) (cwV 2 hts (goodIn_app (g_4 (List.mem_cons_of_mem _ (List.mem_append_left _ (List.mem_of_getElem? (i := 41) rfl))) (List.mem_cons_of_mem _ (List.mem_append_left _ (List.mem_of_getElem? (i := 42) rfl))) (List.mem_cons_of_mem _ (List.mem_append_left _ (List.mem_of_getElem? (i := 43) rfl))) (List.mem_cons_of_mem _ (List.mem_append_left _ (List.mem_of_getElem? (i := 7) rfl))) (by decide +kernel)) (goodIn_sub (fun _ h => List.mem_cons_of_mem _ (List.mem_append_right _ (List.mem_append_right _ (List.mem_append_right _ (List.mem_append_right _ (List.mem_append_right _ (List.mem_append_right _ (List.mem_append_right _ (List.mem_append_right _ (List.mem_append_right _ (List.mem_append_right _ (List.mem_append_right _ (List.mem_append_right _ (List.mem_append_right _ (List.mem_append_right _ (List.mem_append_left _ h)))))))))))))))) good_v_X12_of)) rfl rfl rfl (by decide +kernel) ⟨Nat.le_of_ble_eq_true rfl, Nat.le_of_ble_eq_true rfl⟩) (pv_RW (q := (RX12, TX12, 56)) (ci := 11) (q0 := 0) (wc := [(y, .inr (11, mO a)), ((a 17), .inl (cI, 25, .inl (fun _ => 0))), ((a 16), .inl (cI, 5, .inl (fun _ => 0)))]) hK hP hD [2, 4, 3] (by decide) rfl rfl rfl) rfl rfl hl.1 rfl (lv_room (Nat.le_of_ble_eq_true rfl)) dL_law_513 ⟨Nat.le_of_ble_eq_true rfl, Nat.le_of_ble_eq_true rfl⟩) hS hA hP hD [2, 4, 3] [0, 1] rfl rfl (by decide) (by decide) (fun r4 u5 H locs hw6 hP hD hS => ?_)
  have hP : va_P g vwCl [(x, .inr (10, [.ref (b 0), .ref (b 1), .ref (b 2), .ref (b 3), .ref (b 4), .ref (b 5), .ref (b 6), .ref (b 7), .ref (b 8), .ref (b 9), .ref (b 10)])), ((b 1), .inr (4, [.int 0, .int 0, .int 0, .int 0, .int 0, .int 0, .long 0, .ref (b 21), .ref (b 22), .ref (b 23), .ref (b 24), .ref (b 25), .ref (b 26), .ref (b 27), .ref (b 28)]))] H := hP
  have hD : va_D (fun q : Nat => s.heap.size ≤ q) [(x, .inr (10, [.ref (b 0), .ref (b 1), .ref (b 2), .ref (b 3), .ref (b 4), .ref (b 5), .ref (b 6), .ref (b 7), .ref (b 8), .ref (b 9), .ref (b 10)])), ((b 1), .inr (4, [.int 0, .int 0, .int 0, .int 0, .int 0, .int 0, .long 0, .ref (b 21), .ref (b 22), .ref (b 23), .ref (b 24), .ref (b 25), .ref (b 26), .ref (b 27), .ref (b 28)]))] := hD
  subst hw6
  refine lv_icmp_eq (tgt := 2463) hx hb dL_law_516 (by decide) (fun _ => ?_) (fun c7 => absurd c7 (by decide))
  refine lv_iinc (v := 6) (lv' := [(3, .int 6), (0, .ref sb), (1, .ref x), (2, .ref y)]) hx hb dL_law_2463 hl (k := 3) rfl (by decide) (by decide) rfl (fun ls hl => ?_)
  refine lv_goto (tgt := 18) hx hb dL_law_2466 (by decide) ?_
  refine lv_iload_n hx hb dL_law_18 rfl (lv_at hl 0 rfl) ?_
  refine lv_aload_n hx hb dL_law_19 rfl (lv_at hl 1 rfl) ?_
  refine va_slen hx hb hX hbl hbA hS dL_law_20 ?_
  refine lv_topi (nm_r (e' := 6) rfl ?_)
  refine lv_bipush (v := 6) hx hb dL_law_21 (by decide) ?_
  refine lv_isub hx hb dL_law_23 ?_
  refine lv_topi (nm_r (e' := 0) (by decide) ?_)
  refine lv_icmp_gt (tgt := 2469) hx hb dL_law_24 (by decide) (fun _ => ?_) (fun c8 => absurd c8 (by decide))
  refine lv_iconst (v := 1) hx hb dL_law_2469 (by decide) ?_
  refine va_forget (fun q hq => hS.2.2 q hq) ?_
  refine W.widen (k := 600000) (n := 7302250) (Nat.le_of_ble_eq_true rfl) (Nat.le_of_ble_eq_true rfl) ?_
  exact lw_ret hx hb hr hlocks dL_law_2470
set_option maxHeartbeats 4000000 in
set_option maxRecDepth 100000 in
theorem lw_c7 {p : Program} {e : Env} {s : State} {m : MethodId} {below : List Frame} {meth : Method} {c : Code} (l : Launch) {sb : Nat} {xs : Nat → Int32} (C0 : lw_At p s m meth c sb 6 xs) {g : va_G} {cI cJ cB cZ cL : ClassId} (hK : va_K g vwCl (tyT cI cJ cB cZ cL) s) (hNX : nX lwNest s) {x y : Nat} {b a : Nat → Nat} {fz fw : Nat → Int32} (hS_fz : ∀ k, k < 4 → fz k = (-1)) (hS_fw : ∀ k, k < 4 → fw k = (-1)) {H : Heap} {locs : List Loc} (hP : va_P g vwCl (LW cI cJ cB cZ cL x y b a fz fw) H) (hD : va_D (fun q : Nat => s.heap.size ≤ q) (LW cI cJ cB cZ cL x y b a fz fw)) (hS : va_S (fun q : Nat => s.heap.size ≤ q) s.heap H locs) {ls : Array Slot} (hl : lv_has ls 4 [(0, .ref sb), (1, .ref x), (2, .ref y), (3, .int 0)]) : W p l e room_1 s m #[Value.ref sb] below meth c H locs 1000 100000 (lw_Z below #[Value.ref sb] s) (F0 m 521 ls []) := by
  obtain ⟨hx, hb, hr, hml, hown, hts0, hX, hbl, hlocks, hgv⟩ := id C0
  have hts : ∀ w ∈ v_L_law, w.before #[Value.ref sb] s = true := fun w h => hts0 w (in_v_L_law w h)
  have hown : s.vm.findClass RL = some m.cls := hown
  have hA : ∀ q : Nat, s.heap.size ≤ q → (fun q : Nat => s.heap.size ≤ q) q := fun _ h => h
  have hbA : ¬ (fun q : Nat => s.heap.size ≤ q) sb := Nat.not_le.mpr hbl
  have hNX : nX [(RX11, 9, yX8_init, "CardsAtYule"), (RX8, 17, yX4_init, "CardsAtYule"), (RX11, 18, yX4_init, "CardsAtYule"), (RX11, 29, yX0_init, "CardsAtYule"), (RX11, 36, yX2_init, "CardsAtYule"), (RX11, 43, yX3_init, "CardsAtYule"), (RX11, 50, yX1_init, "CardsAtYule"), (RX11, 57, yX9_init, "CardsAtYule"), (RX11, 64, yX7_init, "CardsAtYule"), (RX11, 71, yX6_init, "CardsAtYule"), (RX11, 78, yX5_init, "CardsAtYule")] s := hNX
  have hP := hP.sub (ws' := [(x, .inr (10, [.ref (b 0), .ref (b 1), .ref (b 2), .ref (b 3), .ref (b 4), .ref (b 5), .ref (b 6), .ref (b 7), .ref (b 8), .ref (b 9), .ref (b 10)])), (y, .inr (11, mO a))]) [0, 29] rfl
  have hD := hD.sub (ws' := [(x, .inr (10, [.ref (b 0), .ref (b 1), .ref (b 2), .ref (b 3), .ref (b 4), .ref (b 5), .ref (b 6), .ref (b 7), .ref (b 8), .ref (b 9), .ref (b 10)])), (y, .inr (11, mO a))]) [0, 29] (by decide) rfl
  refine lv_aload_n hx hb dL_law_521 rfl (lv_at hl 1 rfl) ?_
  refine lv_aload_n hx hb dL_law_522 rfl (lv_at hl 0 rfl) ?_
  refine lv_iload_n hx hb dL_law_523 rfl (lv_at hl 3 rfl) ?_
  refine lv_iconst (v := 1) hx hb dL_law_524 (by decide) ?_
  refine lv_iadd hx hb dL_law_525 ?_
  refine lv_topi (nm_r (e' := 1) (by decide) ?_)
  refine va_sld hx hb hX hbl hbA hS (vc_in (by decide)) dL_law_526 ?_
  refine lv_topi (nm_r (e' := xs 1) rfl ?_)
  refine lv_aload_n hx hb dL_law_527 rfl (lv_at hl 0 rfl) ?_
  refine lv_iload_n hx hb dL_law_528 rfl (lv_at hl 3 rfl) ?_
  refine lv_iconst (v := 2) hx hb dL_law_529 (by decide) ?_
  refine lv_iadd hx hb dL_law_530 ?_
  refine lv_topi (nm_r (e' := 2) (by decide) ?_)
  refine va_sld hx hb hX hbl hbA hS (vc_in (by decide)) dL_law_531 ?_
  refine lv_topi (nm_r (e' := xs 2) rfl ?_)
  refine lv_aload_n hx hb dL_law_532 rfl (lv_at hl 0 rfl) ?_
  refine lv_iload_n hx hb dL_law_533 rfl (lv_at hl 3 rfl) ?_
  refine lv_iconst (v := 3) hx hb dL_law_534 (by decide) ?_
  refine lv_iadd hx hb dL_law_535 ?_
  refine lv_topi (nm_r (e' := 3) (by decide) ?_)
  refine va_sld hx hb hX hbl hbA hS (vc_in (by decide)) dL_law_536 ?_
  refine lv_topi (nm_r (e' := xs 3) rfl ?_)
  refine ro_i (va_runV (As := [.int (xs 1), .int (xs 2), .int (xs 3)]) (rest := []) ⟨hx, hb, hml, hown, hts⟩ (k_X11_does l g cI cJ cB cZ cL x (b 0) (b 1) (b 2) (b 3) (b 4) (b 5) (b 6) (b 7) (b 8) (b 9) (b 10) (xs 1) (xs 2) (xs 3) ((xs 1).toInt) ((xs 2).toInt) ((xs 3).toInt) H.size rfl rfl rfl) (cwV 3 hts (goodIn_app (g_4 (List.mem_cons_of_mem _ (List.mem_append_left _ (List.mem_of_getElem? (i := 44) rfl))) (List.mem_cons_of_mem _ (List.mem_append_left _ (List.mem_of_getElem? (i := 45) rfl))) (List.mem_cons_of_mem _ (List.mem_append_left _ (List.mem_of_getElem? (i := 46) rfl))) (List.mem_cons_of_mem _ (List.mem_append_left _ (List.mem_of_getElem? (i := 3) rfl))) (by decide +kernel)) (goodIn_sub (fun _ h => List.mem_cons_of_mem _ (List.mem_append_right _ (List.mem_append_right _ (List.mem_append_right _ (List.mem_append_right _ (List.mem_append_right _ (List.mem_append_right _ (List.mem_append_right _ (List.mem_append_right _ (List.mem_append_right _ (List.mem_append_right _ (List.mem_append_right _ (List.mem_append_right _ (List.mem_append_right _ (List.mem_append_right _ (List.mem_append_right _ (List.mem_append_left _ h))))))))))))))))) good_v_X11_does)) rfl rfl rfl (by decide +kernel) ⟨Nat.le_of_ble_eq_true rfl, Nat.le_of_ble_eq_true rfl⟩) (pv_RO (q := (RX11, TX11, 11)) (ci := 10) (q0 := 0) (wc := [(x, .inr (10, [.ref (b 0), .ref (b 1), .ref (b 2), .ref (b 3), .ref (b 4), .ref (b 5), .ref (b 6), .ref (b 7), .ref (b 8), .ref (b 9), .ref (b 10)]))]) hK hP [0] rfl rfl rfl) rfl rfl hl.1 rfl (lv_room (Nat.le_of_ble_eq_true rfl)) dL_law_537 ⟨Nat.le_of_ble_eq_true rfl, Nat.le_of_ble_eq_true rfl⟩) hS hA hP (fun r1 u2 H locs hw3 hP hS => ?_)
  subst hw3
  refine lv_aload_n hx hb dL_law_540 rfl (lv_at hl 2 rfl) ?_
  refine lv_aload_n hx hb dL_law_541 rfl (lv_at hl 0 rfl) ?_
  refine lv_iload_n hx hb dL_law_542 rfl (lv_at hl 3 rfl) ?_
  refine lv_iconst (v := 1) hx hb dL_law_543 (by decide) ?_
  refine lv_iadd hx hb dL_law_544 ?_
  refine lv_topi (nm_r (e' := 1) (by decide) ?_)
  refine va_sld hx hb hX hbl hbA hS (vc_in (by decide)) dL_law_545 ?_
  refine lv_topi (nm_r (e' := xs 1) rfl ?_)
  refine lv_aload_n hx hb dL_law_546 rfl (lv_at hl 0 rfl) ?_
  refine lv_iload_n hx hb dL_law_547 rfl (lv_at hl 3 rfl) ?_
  refine lv_iconst (v := 2) hx hb dL_law_548 (by decide) ?_
  refine lv_iadd hx hb dL_law_549 ?_
  refine lv_topi (nm_r (e' := 2) (by decide) ?_)
  refine va_sld hx hb hX hbl hbA hS (vc_in (by decide)) dL_law_550 ?_
  refine lv_topi (nm_r (e' := xs 2) rfl ?_)
  refine lv_aload_n hx hb dL_law_551 rfl (lv_at hl 0 rfl) ?_
  refine lv_iload_n hx hb dL_law_552 rfl (lv_at hl 3 rfl) ?_
  refine lv_iconst (v := 3) hx hb dL_law_553 (by decide) ?_
  refine lv_iadd hx hb dL_law_554 ?_
  refine lv_topi (nm_r (e' := 3) (by decide) ?_)
  refine va_sld hx hb hX hbl hbA hS (vc_in (by decide)) dL_law_555 ?_
  refine lv_topi (nm_r (e' := xs 3) rfl ?_)
  refine rw_i (wr := [(x, .inr (10, [.ref (b 0), .ref (b 1), .ref (b 2), .ref (b 3), .ref (b 4), .ref (b 5), .ref (b 6), .ref (b 7), .ref (b 8), .ref (b 9), .ref (b 10)]))]) (va_runV (As := [.int (xs 1), .int (xs 2), .int (xs 3)]) (rest := [.int (doesV (xs 1) (xs 2) (xs 3) ((xs 1).toInt) ((xs 2).toInt) ((xs 3).toInt))]) ⟨hx, hb, hml, hown, hts⟩ (k_X12_does l g cI cJ cB cZ cL y a (xs 1) (xs 2) (xs 3) ((xs 1).toInt) ((xs 2).toInt) ((xs 3).toInt) H.size rfl rfl rfl) (cwV 3 hts (goodIn_app (g_4 (List.mem_cons_of_mem _ (List.mem_append_left _ (List.mem_of_getElem? (i := 47) rfl))) (List.mem_cons_of_mem _ (List.mem_append_left _ (List.mem_of_getElem? (i := 48) rfl))) (List.mem_cons_of_mem _ (List.mem_append_left _ (List.mem_of_getElem? (i := 49) rfl))) (List.mem_cons_of_mem _ (List.mem_append_left _ (List.mem_of_getElem? (i := 7) rfl))) (by decide +kernel)) (goodIn_sub (fun _ h => List.mem_cons_of_mem _ (List.mem_append_right _ (List.mem_append_right _ (List.mem_append_right _ (List.mem_append_right _ (List.mem_append_right _ (List.mem_append_right _ (List.mem_append_right _ (List.mem_append_right _ (List.mem_append_right _ (List.mem_append_right _ (List.mem_append_right _ (List.mem_append_right _ (List.mem_append_right _ (List.mem_append_right _ (List.mem_append_right _ (List.mem_append_right _ (List.mem_append_left _ h)))))))))))))))))) good_v_X12_does)) rfl rfl rfl (by decide +kernel) ⟨Nat.le_of_ble_eq_true rfl, Nat.le_of_ble_eq_true rfl⟩) (pv_RW (q := (RX12, TX12, 56)) (ci := 11) (q0 := 0) (wc := [(y, .inr (11, mO a))]) hK hP hD [1] (by decide) rfl rfl rfl) rfl rfl hl.1 rfl (lv_room (Nat.le_of_ble_eq_true rfl)) dL_law_556 ⟨Nat.le_of_ble_eq_true rfl, Nat.le_of_ble_eq_true rfl⟩) hS hA hP hD [1] [0] rfl rfl (by decide) (by decide) (fun r4 u5 H locs hw6 hP hD hS => ?_)
  have hP : va_P g vwCl [(x, .inr (10, [.ref (b 0), .ref (b 1), .ref (b 2), .ref (b 3), .ref (b 4), .ref (b 5), .ref (b 6), .ref (b 7), .ref (b 8), .ref (b 9), .ref (b 10)]))] H := hP
  have hD : va_D (fun q : Nat => s.heap.size ≤ q) [(x, .inr (10, [.ref (b 0), .ref (b 1), .ref (b 2), .ref (b 3), .ref (b 4), .ref (b 5), .ref (b 6), .ref (b 7), .ref (b 8), .ref (b 9), .ref (b 10)]))] := hD
  subst hw6
  have he : (doesV (xs 1) (xs 2) (xs 3) ((xs 1).toInt) ((xs 2).toInt) ((xs 3).toInt)) = (doesV (xs 1) (xs 2) (xs 3) ((xs 1).toInt) ((xs 2).toInt) ((xs 3).toInt)) := rfl
  refine lv_icmp_eq (tgt := 2463) hx hb dL_law_559 (by decide) (fun _ => ?_) (fun cc => absurd he cc)
  refine lv_iinc (v := 6) (lv' := [(3, .int 6), (0, .ref sb), (1, .ref x), (2, .ref y)]) hx hb dL_law_2463 hl (k := 3) rfl (by decide) (by decide) rfl (fun ls hl => ?_)
  refine lv_goto (tgt := 18) hx hb dL_law_2466 (by decide) ?_
  refine lv_iload_n hx hb dL_law_18 rfl (lv_at hl 0 rfl) ?_
  refine lv_aload_n hx hb dL_law_19 rfl (lv_at hl 1 rfl) ?_
  refine va_slen hx hb hX hbl hbA hS dL_law_20 ?_
  refine lv_topi (nm_r (e' := 6) rfl ?_)
  refine lv_bipush (v := 6) hx hb dL_law_21 (by decide) ?_
  refine lv_isub hx hb dL_law_23 ?_
  refine lv_topi (nm_r (e' := 0) (by decide) ?_)
  refine lv_icmp_gt (tgt := 2469) hx hb dL_law_24 (by decide) (fun _ => ?_) (fun c7 => absurd c7 (by decide))
  refine lv_iconst (v := 1) hx hb dL_law_2469 (by decide) ?_
  refine va_forget (fun q hq => hS.2.2 q hq) ?_
  refine W.widen (k := 600000) (n := 7302250) (Nat.le_of_ble_eq_true rfl) (Nat.le_of_ble_eq_true rfl) ?_
  exact lw_ret hx hb hr hlocks dL_law_2470
set_option maxHeartbeats 4000000 in
set_option maxRecDepth 100000 in
theorem lw_c8 {p : Program} {e : Env} {s : State} {m : MethodId} {below : List Frame} {meth : Method} {c : Code} (l : Launch) {sb : Nat} {xs : Nat → Int32} (C0 : lw_At p s m meth c sb 6 xs) {g : va_G} {cI cJ cB cZ cL : ClassId} (hK : va_K g vwCl (tyT cI cJ cB cZ cL) s) (hNX : nX lwNest s) {x y : Nat} {b a : Nat → Nat} {fz fw : Nat → Int32} (hS_fz : ∀ k, k < 4 → fz k = (-1)) (hS_fw : ∀ k, k < 4 → fw k = (-1)) {H : Heap} {locs : List Loc} (hP : va_P g vwCl (LW cI cJ cB cZ cL x y b a fz fw) H) (hD : va_D (fun q : Nat => s.heap.size ≤ q) (LW cI cJ cB cZ cL x y b a fz fw)) (hS : va_S (fun q : Nat => s.heap.size ≤ q) s.heap H locs) {ls : Array Slot} (hl : lv_has ls 4 [(0, .ref sb), (1, .ref x), (2, .ref y), (3, .int 0)]) : W p l e room_1 s m #[Value.ref sb] below meth c H locs 1000 100000 (lw_Z below #[Value.ref sb] s) (F0 m 564 ls []) := by
  obtain ⟨hx, hb, hr, hml, hown, hts0, hX, hbl, hlocks, hgv⟩ := id C0
  have hts : ∀ w ∈ v_L_law, w.before #[Value.ref sb] s = true := fun w h => hts0 w (in_v_L_law w h)
  have hown : s.vm.findClass RL = some m.cls := hown
  have hA : ∀ q : Nat, s.heap.size ≤ q → (fun q : Nat => s.heap.size ≤ q) q := fun _ h => h
  have hbA : ¬ (fun q : Nat => s.heap.size ≤ q) sb := Nat.not_le.mpr hbl
  have hNX : nX [(RX11, 9, yX8_init, "CardsAtYule"), (RX8, 17, yX4_init, "CardsAtYule"), (RX11, 18, yX4_init, "CardsAtYule"), (RX11, 29, yX0_init, "CardsAtYule"), (RX11, 36, yX2_init, "CardsAtYule"), (RX11, 43, yX3_init, "CardsAtYule"), (RX11, 50, yX1_init, "CardsAtYule"), (RX11, 57, yX9_init, "CardsAtYule"), (RX11, 64, yX7_init, "CardsAtYule"), (RX11, 71, yX6_init, "CardsAtYule"), (RX11, 78, yX5_init, "CardsAtYule")] s := hNX
  have hP := hP.sub (ws' := [(x, .inr (10, [.ref (b 0), .ref (b 1), .ref (b 2), .ref (b 3), .ref (b 4), .ref (b 5), .ref (b 6), .ref (b 7), .ref (b 8), .ref (b 9), .ref (b 10)])), ((b 1), .inr (4, [.int 0, .int 0, .int 0, .int 0, .int 0, .int 0, .long 0, .ref (b 21), .ref (b 22), .ref (b 23), .ref (b 24), .ref (b 25), .ref (b 26), .ref (b 27), .ref (b 28)])), (y, .inr (11, mO a)), ((a 16), .inl (cI, 5, .inl (fun _ => 0))), ((a 17), .inl (cI, 25, .inl (fun _ => 0)))]) [0, 12, 29, 35, 36] rfl
  have hD := hD.sub (ws' := [(x, .inr (10, [.ref (b 0), .ref (b 1), .ref (b 2), .ref (b 3), .ref (b 4), .ref (b 5), .ref (b 6), .ref (b 7), .ref (b 8), .ref (b 9), .ref (b 10)])), ((b 1), .inr (4, [.int 0, .int 0, .int 0, .int 0, .int 0, .int 0, .long 0, .ref (b 21), .ref (b 22), .ref (b 23), .ref (b 24), .ref (b 25), .ref (b 26), .ref (b 27), .ref (b 28)])), (y, .inr (11, mO a)), ((a 16), .inl (cI, 5, .inl (fun _ => 0))), ((a 17), .inl (cI, 25, .inl (fun _ => 0)))]) [0, 12, 29, 35, 36] (by decide) rfl
  refine lv_aload_n hx hb dL_law_564 rfl (lv_at hl 1 rfl) ?_
  refine lv_aload_n hx hb dL_law_565 rfl (lv_at hl 0 rfl) ?_
  refine lv_iload_n hx hb dL_law_566 rfl (lv_at hl 3 rfl) ?_
  refine lv_iconst (v := 1) hx hb dL_law_567 (by decide) ?_
  refine lv_iadd hx hb dL_law_568 ?_
  refine lv_topi (nm_r (e' := 1) (by decide) ?_)
  refine va_sld hx hb hX hbl hbA hS (vc_in (by decide)) dL_law_569 ?_
  refine lv_topi (nm_r (e' := xs 1) rfl ?_)
  refine lv_aload_n hx hb dL_law_570 rfl (lv_at hl 0 rfl) ?_
  refine lv_iload_n hx hb dL_law_571 rfl (lv_at hl 3 rfl) ?_
  refine lv_iconst (v := 2) hx hb dL_law_572 (by decide) ?_
  refine lv_iadd hx hb dL_law_573 ?_
  refine lv_topi (nm_r (e' := 2) (by decide) ?_)
  refine va_sld hx hb hX hbl hbA hS (vc_in (by decide)) dL_law_574 ?_
  refine lv_topi (nm_r (e' := xs 2) rfl ?_)
  refine lv_aload_n hx hb dL_law_575 rfl (lv_at hl 0 rfl) ?_
  refine lv_iload_n hx hb dL_law_576 rfl (lv_at hl 3 rfl) ?_
  refine lv_iconst (v := 3) hx hb dL_law_577 (by decide) ?_
  refine lv_iadd hx hb dL_law_578 ?_
  refine lv_topi (nm_r (e' := 3) (by decide) ?_)
  refine va_sld hx hb hX hbl hbA hS (vc_in (by decide)) dL_law_579 ?_
  refine lv_topi (nm_r (e' := xs 3) rfl ?_)
  refine ro_i (va_runV (As := [.int (xs 1), .int (xs 2), .int (xs 3)]) (rest := []) ⟨hx, hb, hml, hown, hts⟩ (k_X11_sends l g cI cJ cB cZ cL x (b 0) (b 1) (b 2) (b 3) (b 4) (b 5) (b 6) (b 7) (b 8) (b 9) (b 10) (b 21) (b 22) (b 23) (b 24) (b 25) (b 26) (b 27) (b 28) (xs 1) (xs 2) (xs 3) ((xs 1).toInt) ((xs 2).toInt) ((xs 3).toInt) H.size rfl rfl rfl) (cwV 3 hts (goodIn_app (g_4 (List.mem_cons_of_mem _ (List.mem_append_left _ (List.mem_of_getElem? (i := 50) rfl))) (List.mem_cons_of_mem _ (List.mem_append_left _ (List.mem_of_getElem? (i := 51) rfl))) (List.mem_cons_of_mem _ (List.mem_append_left _ (List.mem_of_getElem? (i := 52) rfl))) (List.mem_cons_of_mem _ (List.mem_append_left _ (List.mem_of_getElem? (i := 3) rfl))) (by decide +kernel)) (goodIn_sub (fun _ h => List.mem_cons_of_mem _ (List.mem_append_right _ (List.mem_append_right _ (List.mem_append_right _ (List.mem_append_right _ (List.mem_append_right _ (List.mem_append_right _ (List.mem_append_right _ (List.mem_append_right _ (List.mem_append_right _ (List.mem_append_right _ (List.mem_append_right _ (List.mem_append_right _ (List.mem_append_right _ (List.mem_append_right _ (List.mem_append_right _ (List.mem_append_right _ (List.mem_append_right _ (List.mem_append_left _ h))))))))))))))))))) good_v_X11_sends)) rfl rfl rfl (by decide +kernel) ⟨Nat.le_of_ble_eq_true rfl, Nat.le_of_ble_eq_true rfl⟩) (pv_RO (q := (RX11, TX11, 11)) (ci := 10) (q0 := 0) (wc := [(x, .inr (10, [.ref (b 0), .ref (b 1), .ref (b 2), .ref (b 3), .ref (b 4), .ref (b 5), .ref (b 6), .ref (b 7), .ref (b 8), .ref (b 9), .ref (b 10)])), ((b 1), .inr (4, [.int 0, .int 0, .int 0, .int 0, .int 0, .int 0, .long 0, .ref (b 21), .ref (b 22), .ref (b 23), .ref (b 24), .ref (b 25), .ref (b 26), .ref (b 27), .ref (b 28)]))]) hK hP [0, 1] rfl rfl rfl) rfl rfl hl.1 rfl (lv_room (Nat.le_of_ble_eq_true rfl)) dL_law_580 ⟨Nat.le_of_ble_eq_true rfl, Nat.le_of_ble_eq_true rfl⟩) hS hA hP (fun r1 u2 H locs hw3 hP hS => ?_)
  subst hw3
  refine lv_aload_n hx hb dL_law_583 rfl (lv_at hl 2 rfl) ?_
  refine lv_aload_n hx hb dL_law_584 rfl (lv_at hl 0 rfl) ?_
  refine lv_iload_n hx hb dL_law_585 rfl (lv_at hl 3 rfl) ?_
  refine lv_iconst (v := 1) hx hb dL_law_586 (by decide) ?_
  refine lv_iadd hx hb dL_law_587 ?_
  refine lv_topi (nm_r (e' := 1) (by decide) ?_)
  refine va_sld hx hb hX hbl hbA hS (vc_in (by decide)) dL_law_588 ?_
  refine lv_topi (nm_r (e' := xs 1) rfl ?_)
  refine lv_aload_n hx hb dL_law_589 rfl (lv_at hl 0 rfl) ?_
  refine lv_iload_n hx hb dL_law_590 rfl (lv_at hl 3 rfl) ?_
  refine lv_iconst (v := 2) hx hb dL_law_591 (by decide) ?_
  refine lv_iadd hx hb dL_law_592 ?_
  refine lv_topi (nm_r (e' := 2) (by decide) ?_)
  refine va_sld hx hb hX hbl hbA hS (vc_in (by decide)) dL_law_593 ?_
  refine lv_topi (nm_r (e' := xs 2) rfl ?_)
  refine lv_aload_n hx hb dL_law_594 rfl (lv_at hl 0 rfl) ?_
  refine lv_iload_n hx hb dL_law_595 rfl (lv_at hl 3 rfl) ?_
  refine lv_iconst (v := 3) hx hb dL_law_596 (by decide) ?_
  refine lv_iadd hx hb dL_law_597 ?_
  refine lv_topi (nm_r (e' := 3) (by decide) ?_)
  refine va_sld hx hb hX hbl hbA hS (vc_in (by decide)) dL_law_598 ?_
  refine lv_topi (nm_r (e' := xs 3) rfl ?_)
  refine rw_i (wr := [(x, .inr (10, [.ref (b 0), .ref (b 1), .ref (b 2), .ref (b 3), .ref (b 4), .ref (b 5), .ref (b 6), .ref (b 7), .ref (b 8), .ref (b 9), .ref (b 10)])), ((b 1), .inr (4, [.int 0, .int 0, .int 0, .int 0, .int 0, .int 0, .long 0, .ref (b 21), .ref (b 22), .ref (b 23), .ref (b 24), .ref (b 25), .ref (b 26), .ref (b 27), .ref (b 28)]))]) (va_runV (As := [.int (xs 1), .int (xs 2), .int (xs 3)]) (rest := [.int (-2)]) ⟨hx, hb, hml, hown, hts⟩ (k_X12_sends l g cI cJ cB cZ cL y a (xs 1) (xs 2) (xs 3) ((xs 1).toInt) ((xs 2).toInt) ((xs 3).toInt) H.size rfl rfl rfl) (cwV 3 hts (goodIn_app (g_4 (List.mem_cons_of_mem _ (List.mem_append_left _ (List.mem_of_getElem? (i := 53) rfl))) (List.mem_cons_of_mem _ (List.mem_append_left _ (List.mem_of_getElem? (i := 54) rfl))) (List.mem_cons_of_mem _ (List.mem_append_left _ (List.mem_of_getElem? (i := 55) rfl))) (List.mem_cons_of_mem _ (List.mem_append_left _ (List.mem_of_getElem? (i := 7) rfl))) (by decide +kernel)) (goodIn_sub (fun _ h => List.mem_cons_of_mem _ (List.mem_append_right _ (List.mem_append_right _ (List.mem_append_right _ (List.mem_append_right _ (List.mem_append_right _ (List.mem_append_right _ (List.mem_append_right _ (List.mem_append_right _ (List.mem_append_right _ (List.mem_append_right _ (List.mem_append_right _ (List.mem_append_right _ (List.mem_append_right _ (List.mem_append_right _ (List.mem_append_right _ (List.mem_append_right _ (List.mem_append_right _ (List.mem_append_right _ (List.mem_append_left _ h)))))))))))))))))))) good_v_X12_sends)) rfl rfl rfl (by decide +kernel) ⟨Nat.le_of_ble_eq_true rfl, Nat.le_of_ble_eq_true rfl⟩) (pv_RW (q := (RX12, TX12, 56)) (ci := 11) (q0 := 0) (wc := [(y, .inr (11, mO a)), ((a 17), .inl (cI, 25, .inl (fun _ => 0))), ((a 16), .inl (cI, 5, .inl (fun _ => 0)))]) hK hP hD [2, 4, 3] (by decide) rfl rfl rfl) rfl rfl hl.1 rfl (lv_room (Nat.le_of_ble_eq_true rfl)) dL_law_599 ⟨Nat.le_of_ble_eq_true rfl, Nat.le_of_ble_eq_true rfl⟩) hS hA hP hD [2, 4, 3] [0, 1] rfl rfl (by decide) (by decide) (fun r4 u5 H locs hw6 hP hD hS => ?_)
  have hP : va_P g vwCl [(x, .inr (10, [.ref (b 0), .ref (b 1), .ref (b 2), .ref (b 3), .ref (b 4), .ref (b 5), .ref (b 6), .ref (b 7), .ref (b 8), .ref (b 9), .ref (b 10)])), ((b 1), .inr (4, [.int 0, .int 0, .int 0, .int 0, .int 0, .int 0, .long 0, .ref (b 21), .ref (b 22), .ref (b 23), .ref (b 24), .ref (b 25), .ref (b 26), .ref (b 27), .ref (b 28)]))] H := hP
  have hD : va_D (fun q : Nat => s.heap.size ≤ q) [(x, .inr (10, [.ref (b 0), .ref (b 1), .ref (b 2), .ref (b 3), .ref (b 4), .ref (b 5), .ref (b 6), .ref (b 7), .ref (b 8), .ref (b 9), .ref (b 10)])), ((b 1), .inr (4, [.int 0, .int 0, .int 0, .int 0, .int 0, .int 0, .long 0, .ref (b 21), .ref (b 22), .ref (b 23), .ref (b 24), .ref (b 25), .ref (b 26), .ref (b 27), .ref (b 28)]))] := hD
  subst hw6
  refine lv_icmp_eq (tgt := 2463) hx hb dL_law_602 (by decide) (fun _ => ?_) (fun c7 => absurd c7 (by decide))
  refine lv_iinc (v := 6) (lv' := [(3, .int 6), (0, .ref sb), (1, .ref x), (2, .ref y)]) hx hb dL_law_2463 hl (k := 3) rfl (by decide) (by decide) rfl (fun ls hl => ?_)
  refine lv_goto (tgt := 18) hx hb dL_law_2466 (by decide) ?_
  refine lv_iload_n hx hb dL_law_18 rfl (lv_at hl 0 rfl) ?_
  refine lv_aload_n hx hb dL_law_19 rfl (lv_at hl 1 rfl) ?_
  refine va_slen hx hb hX hbl hbA hS dL_law_20 ?_
  refine lv_topi (nm_r (e' := 6) rfl ?_)
  refine lv_bipush (v := 6) hx hb dL_law_21 (by decide) ?_
  refine lv_isub hx hb dL_law_23 ?_
  refine lv_topi (nm_r (e' := 0) (by decide) ?_)
  refine lv_icmp_gt (tgt := 2469) hx hb dL_law_24 (by decide) (fun _ => ?_) (fun c8 => absurd c8 (by decide))
  refine lv_iconst (v := 1) hx hb dL_law_2469 (by decide) ?_
  refine va_forget (fun q hq => hS.2.2 q hq) ?_
  refine W.widen (k := 600000) (n := 7302250) (Nat.le_of_ble_eq_true rfl) (Nat.le_of_ble_eq_true rfl) ?_
  exact lw_ret hx hb hr hlocks dL_law_2470
set_option maxHeartbeats 4000000 in
set_option maxRecDepth 100000 in
theorem lw_c9 {p : Program} {e : Env} {s : State} {m : MethodId} {below : List Frame} {meth : Method} {c : Code} (l : Launch) {sb : Nat} {xs : Nat → Int32} (C0 : lw_At p s m meth c sb 6 xs) {g : va_G} {cI cJ cB cZ cL : ClassId} (hK : va_K g vwCl (tyT cI cJ cB cZ cL) s) (hNX : nX lwNest s) {x y : Nat} {b a : Nat → Nat} {fz fw : Nat → Int32} (hS_fz : ∀ k, k < 4 → fz k = (-1)) (hS_fw : ∀ k, k < 4 → fw k = (-1)) {H : Heap} {locs : List Loc} (hP : va_P g vwCl (LW cI cJ cB cZ cL x y b a fz fw) H) (hD : va_D (fun q : Nat => s.heap.size ≤ q) (LW cI cJ cB cZ cL x y b a fz fw)) (hS : va_S (fun q : Nat => s.heap.size ≤ q) s.heap H locs) {ls : Array Slot} (hl : lv_has ls 4 [(0, .ref sb), (1, .ref x), (2, .ref y), (3, .int 0)]) : W p l e room_1 s m #[Value.ref sb] below meth c H locs 1000 100000 (lw_Z below #[Value.ref sb] s) (F0 m 607 ls []) := by
  obtain ⟨hx, hb, hr, hml, hown, hts0, hX, hbl, hlocks, hgv⟩ := id C0
  have hts : ∀ w ∈ v_L_law, w.before #[Value.ref sb] s = true := fun w h => hts0 w (in_v_L_law w h)
  have hown : s.vm.findClass RL = some m.cls := hown
  have hA : ∀ q : Nat, s.heap.size ≤ q → (fun q : Nat => s.heap.size ≤ q) q := fun _ h => h
  have hbA : ¬ (fun q : Nat => s.heap.size ≤ q) sb := Nat.not_le.mpr hbl
  have hNX : nX [(RX11, 9, yX8_init, "CardsAtYule"), (RX8, 17, yX4_init, "CardsAtYule"), (RX11, 18, yX4_init, "CardsAtYule"), (RX11, 29, yX0_init, "CardsAtYule"), (RX11, 36, yX2_init, "CardsAtYule"), (RX11, 43, yX3_init, "CardsAtYule"), (RX11, 50, yX1_init, "CardsAtYule"), (RX11, 57, yX9_init, "CardsAtYule"), (RX11, 64, yX7_init, "CardsAtYule"), (RX11, 71, yX6_init, "CardsAtYule"), (RX11, 78, yX5_init, "CardsAtYule")] s := hNX
  have hP := hP.sub (ws' := [(x, .inr (10, [.ref (b 0), .ref (b 1), .ref (b 2), .ref (b 3), .ref (b 4), .ref (b 5), .ref (b 6), .ref (b 7), .ref (b 8), .ref (b 9), .ref (b 10)])), ((b 1), .inr (4, [.int 0, .int 0, .int 0, .int 0, .int 0, .int 0, .long 0, .ref (b 21), .ref (b 22), .ref (b 23), .ref (b 24), .ref (b 25), .ref (b 26), .ref (b 27), .ref (b 28)])), (y, .inr (11, mO a)), ((a 16), .inl (cI, 5, .inl (fun _ => 0))), ((a 17), .inl (cI, 25, .inl (fun _ => 0)))]) [0, 12, 29, 35, 36] rfl
  have hD := hD.sub (ws' := [(x, .inr (10, [.ref (b 0), .ref (b 1), .ref (b 2), .ref (b 3), .ref (b 4), .ref (b 5), .ref (b 6), .ref (b 7), .ref (b 8), .ref (b 9), .ref (b 10)])), ((b 1), .inr (4, [.int 0, .int 0, .int 0, .int 0, .int 0, .int 0, .long 0, .ref (b 21), .ref (b 22), .ref (b 23), .ref (b 24), .ref (b 25), .ref (b 26), .ref (b 27), .ref (b 28)])), (y, .inr (11, mO a)), ((a 16), .inl (cI, 5, .inl (fun _ => 0))), ((a 17), .inl (cI, 25, .inl (fun _ => 0)))]) [0, 12, 29, 35, 36] (by decide) rfl
  refine lv_aload_n hx hb dL_law_607 rfl (lv_at hl 1 rfl) ?_
  refine lv_aload_n hx hb dL_law_608 rfl (lv_at hl 0 rfl) ?_
  refine lv_iload_n hx hb dL_law_609 rfl (lv_at hl 3 rfl) ?_
  refine lv_iconst (v := 1) hx hb dL_law_610 (by decide) ?_
  refine lv_iadd hx hb dL_law_611 ?_
  refine lv_topi (nm_r (e' := 1) (by decide) ?_)
  refine va_sld hx hb hX hbl hbA hS (vc_in (by decide)) dL_law_612 ?_
  refine lv_topi (nm_r (e' := xs 1) rfl ?_)
  refine lv_aload_n hx hb dL_law_613 rfl (lv_at hl 0 rfl) ?_
  refine lv_iload_n hx hb dL_law_614 rfl (lv_at hl 3 rfl) ?_
  refine lv_iconst (v := 2) hx hb dL_law_615 (by decide) ?_
  refine lv_iadd hx hb dL_law_616 ?_
  refine lv_topi (nm_r (e' := 2) (by decide) ?_)
  refine va_sld hx hb hX hbl hbA hS (vc_in (by decide)) dL_law_617 ?_
  refine lv_topi (nm_r (e' := xs 2) rfl ?_)
  refine lv_aload_n hx hb dL_law_618 rfl (lv_at hl 0 rfl) ?_
  refine lv_iload_n hx hb dL_law_619 rfl (lv_at hl 3 rfl) ?_
  refine lv_iconst (v := 3) hx hb dL_law_620 (by decide) ?_
  refine lv_iadd hx hb dL_law_621 ?_
  refine lv_topi (nm_r (e' := 3) (by decide) ?_)
  refine va_sld hx hb hX hbl hbA hS (vc_in (by decide)) dL_law_622 ?_
  refine lv_topi (nm_r (e' := xs 3) rfl ?_)
  refine ro_i (va_runV (As := [.int (xs 1), .int (xs 2), .int (xs 3)]) (rest := []) ⟨hx, hb, hml, hown, hts⟩ (k_X11_got l g cI cJ cB cZ cL x (b 0) (b 1) (b 2) (b 3) (b 4) (b 5) (b 6) (b 7) (b 8) (b 9) (b 10) (b 21) (b 22) (b 23) (b 24) (b 25) (b 26) (b 27) (b 28) (xs 1) (xs 2) (xs 3) ((xs 1).toInt) ((xs 2).toInt) ((xs 3).toInt) H.size rfl rfl rfl) (cwV 3 hts (goodIn_app (g_4 (List.mem_cons_of_mem _ (List.mem_append_left _ (List.mem_of_getElem? (i := 56) rfl))) (List.mem_cons_of_mem _ (List.mem_append_left _ (List.mem_of_getElem? (i := 57) rfl))) (List.mem_cons_of_mem _ (List.mem_append_left _ (List.mem_of_getElem? (i := 58) rfl))) (List.mem_cons_of_mem _ (List.mem_append_left _ (List.mem_of_getElem? (i := 3) rfl))) (by decide +kernel)) (goodIn_sub (fun _ h => List.mem_cons_of_mem _ (List.mem_append_right _ (List.mem_append_right _ (List.mem_append_right _ (List.mem_append_right _ (List.mem_append_right _ (List.mem_append_right _ (List.mem_append_right _ (List.mem_append_right _ (List.mem_append_right _ (List.mem_append_right _ (List.mem_append_right _ (List.mem_append_right _ (List.mem_append_right _ (List.mem_append_right _ (List.mem_append_right _ (List.mem_append_right _ (List.mem_append_right _ (List.mem_append_right _ (List.mem_append_right _ (List.mem_append_left _ h))))))))))))))))))))) good_v_X11_got)) rfl rfl rfl (by decide +kernel) ⟨Nat.le_of_ble_eq_true rfl, Nat.le_of_ble_eq_true rfl⟩) (pv_RO (q := (RX11, TX11, 11)) (ci := 10) (q0 := 0) (wc := [(x, .inr (10, [.ref (b 0), .ref (b 1), .ref (b 2), .ref (b 3), .ref (b 4), .ref (b 5), .ref (b 6), .ref (b 7), .ref (b 8), .ref (b 9), .ref (b 10)])), ((b 1), .inr (4, [.int 0, .int 0, .int 0, .int 0, .int 0, .int 0, .long 0, .ref (b 21), .ref (b 22), .ref (b 23), .ref (b 24), .ref (b 25), .ref (b 26), .ref (b 27), .ref (b 28)]))]) hK hP [0, 1] rfl rfl rfl) rfl rfl hl.1 rfl (lv_room (Nat.le_of_ble_eq_true rfl)) dL_law_623 ⟨Nat.le_of_ble_eq_true rfl, Nat.le_of_ble_eq_true rfl⟩) hS hA hP (fun r1 u2 H locs hw3 hP hS => ?_)
  subst hw3
  refine lv_aload_n hx hb dL_law_626 rfl (lv_at hl 2 rfl) ?_
  refine lv_aload_n hx hb dL_law_627 rfl (lv_at hl 0 rfl) ?_
  refine lv_iload_n hx hb dL_law_628 rfl (lv_at hl 3 rfl) ?_
  refine lv_iconst (v := 1) hx hb dL_law_629 (by decide) ?_
  refine lv_iadd hx hb dL_law_630 ?_
  refine lv_topi (nm_r (e' := 1) (by decide) ?_)
  refine va_sld hx hb hX hbl hbA hS (vc_in (by decide)) dL_law_631 ?_
  refine lv_topi (nm_r (e' := xs 1) rfl ?_)
  refine lv_aload_n hx hb dL_law_632 rfl (lv_at hl 0 rfl) ?_
  refine lv_iload_n hx hb dL_law_633 rfl (lv_at hl 3 rfl) ?_
  refine lv_iconst (v := 2) hx hb dL_law_634 (by decide) ?_
  refine lv_iadd hx hb dL_law_635 ?_
  refine lv_topi (nm_r (e' := 2) (by decide) ?_)
  refine va_sld hx hb hX hbl hbA hS (vc_in (by decide)) dL_law_636 ?_
  refine lv_topi (nm_r (e' := xs 2) rfl ?_)
  refine lv_aload_n hx hb dL_law_637 rfl (lv_at hl 0 rfl) ?_
  refine lv_iload_n hx hb dL_law_638 rfl (lv_at hl 3 rfl) ?_
  refine lv_iconst (v := 3) hx hb dL_law_639 (by decide) ?_
  refine lv_iadd hx hb dL_law_640 ?_
  refine lv_topi (nm_r (e' := 3) (by decide) ?_)
  refine va_sld hx hb hX hbl hbA hS (vc_in (by decide)) dL_law_641 ?_
  refine lv_topi (nm_r (e' := xs 3) rfl ?_)
  refine rw_i (wr := [(x, .inr (10, [.ref (b 0), .ref (b 1), .ref (b 2), .ref (b 3), .ref (b 4), .ref (b 5), .ref (b 6), .ref (b 7), .ref (b 8), .ref (b 9), .ref (b 10)])), ((b 1), .inr (4, [.int 0, .int 0, .int 0, .int 0, .int 0, .int 0, .long 0, .ref (b 21), .ref (b 22), .ref (b 23), .ref (b 24), .ref (b 25), .ref (b 26), .ref (b 27), .ref (b 28)]))]) (va_runV (As := [.int (xs 1), .int (xs 2), .int (xs 3)]) (rest := [.int (-2)]) ⟨hx, hb, hml, hown, hts⟩ (k_X12_got l g cI cJ cB cZ cL y a (xs 1) (xs 2) (xs 3) ((xs 1).toInt) ((xs 2).toInt) ((xs 3).toInt) H.size rfl rfl rfl) (cwV 3 hts (goodIn_app (g_4 (List.mem_cons_of_mem _ (List.mem_append_left _ (List.mem_of_getElem? (i := 59) rfl))) (List.mem_cons_of_mem _ (List.mem_append_left _ (List.mem_of_getElem? (i := 60) rfl))) (List.mem_cons_of_mem _ (List.mem_append_left _ (List.mem_of_getElem? (i := 61) rfl))) (List.mem_cons_of_mem _ (List.mem_append_left _ (List.mem_of_getElem? (i := 7) rfl))) (by decide +kernel)) (goodIn_sub (fun _ h => List.mem_cons_of_mem _ (List.mem_append_right _ (List.mem_append_right _ (List.mem_append_right _ (List.mem_append_right _ (List.mem_append_right _ (List.mem_append_right _ (List.mem_append_right _ (List.mem_append_right _ (List.mem_append_right _ (List.mem_append_right _ (List.mem_append_right _ (List.mem_append_right _ (List.mem_append_right _ (List.mem_append_right _ (List.mem_append_right _ (List.mem_append_right _ (List.mem_append_right _ (List.mem_append_right _ (List.mem_append_right _ (List.mem_append_right _ (List.mem_append_left _ h)))))))))))))))))))))) good_v_X12_got)) rfl rfl rfl (by decide +kernel) ⟨Nat.le_of_ble_eq_true rfl, Nat.le_of_ble_eq_true rfl⟩) (pv_RW (q := (RX12, TX12, 56)) (ci := 11) (q0 := 0) (wc := [(y, .inr (11, mO a)), ((a 17), .inl (cI, 25, .inl (fun _ => 0))), ((a 16), .inl (cI, 5, .inl (fun _ => 0)))]) hK hP hD [2, 4, 3] (by decide) rfl rfl rfl) rfl rfl hl.1 rfl (lv_room (Nat.le_of_ble_eq_true rfl)) dL_law_642 ⟨Nat.le_of_ble_eq_true rfl, Nat.le_of_ble_eq_true rfl⟩) hS hA hP hD [2, 4, 3] [0, 1] rfl rfl (by decide) (by decide) (fun r4 u5 H locs hw6 hP hD hS => ?_)
  have hP : va_P g vwCl [(x, .inr (10, [.ref (b 0), .ref (b 1), .ref (b 2), .ref (b 3), .ref (b 4), .ref (b 5), .ref (b 6), .ref (b 7), .ref (b 8), .ref (b 9), .ref (b 10)])), ((b 1), .inr (4, [.int 0, .int 0, .int 0, .int 0, .int 0, .int 0, .long 0, .ref (b 21), .ref (b 22), .ref (b 23), .ref (b 24), .ref (b 25), .ref (b 26), .ref (b 27), .ref (b 28)]))] H := hP
  have hD : va_D (fun q : Nat => s.heap.size ≤ q) [(x, .inr (10, [.ref (b 0), .ref (b 1), .ref (b 2), .ref (b 3), .ref (b 4), .ref (b 5), .ref (b 6), .ref (b 7), .ref (b 8), .ref (b 9), .ref (b 10)])), ((b 1), .inr (4, [.int 0, .int 0, .int 0, .int 0, .int 0, .int 0, .long 0, .ref (b 21), .ref (b 22), .ref (b 23), .ref (b 24), .ref (b 25), .ref (b 26), .ref (b 27), .ref (b 28)]))] := hD
  subst hw6
  refine lv_icmp_eq (tgt := 2463) hx hb dL_law_645 (by decide) (fun _ => ?_) (fun c7 => absurd c7 (by decide))
  refine lv_iinc (v := 6) (lv' := [(3, .int 6), (0, .ref sb), (1, .ref x), (2, .ref y)]) hx hb dL_law_2463 hl (k := 3) rfl (by decide) (by decide) rfl (fun ls hl => ?_)
  refine lv_goto (tgt := 18) hx hb dL_law_2466 (by decide) ?_
  refine lv_iload_n hx hb dL_law_18 rfl (lv_at hl 0 rfl) ?_
  refine lv_aload_n hx hb dL_law_19 rfl (lv_at hl 1 rfl) ?_
  refine va_slen hx hb hX hbl hbA hS dL_law_20 ?_
  refine lv_topi (nm_r (e' := 6) rfl ?_)
  refine lv_bipush (v := 6) hx hb dL_law_21 (by decide) ?_
  refine lv_isub hx hb dL_law_23 ?_
  refine lv_topi (nm_r (e' := 0) (by decide) ?_)
  refine lv_icmp_gt (tgt := 2469) hx hb dL_law_24 (by decide) (fun _ => ?_) (fun c8 => absurd c8 (by decide))
  refine lv_iconst (v := 1) hx hb dL_law_2469 (by decide) ?_
  refine va_forget (fun q hq => hS.2.2 q hq) ?_
  refine W.widen (k := 600000) (n := 7302250) (Nat.le_of_ble_eq_true rfl) (Nat.le_of_ble_eq_true rfl) ?_
  exact lw_ret hx hb hr hlocks dL_law_2470
set_option maxHeartbeats 4000000 in
set_option maxRecDepth 100000 in
theorem lw_c10 {p : Program} {e : Env} {s : State} {m : MethodId} {below : List Frame} {meth : Method} {c : Code} (l : Launch) {sb : Nat} {xs : Nat → Int32} (C0 : lw_At p s m meth c sb 6 xs) {g : va_G} {cI cJ cB cZ cL : ClassId} (hK : va_K g vwCl (tyT cI cJ cB cZ cL) s) (hNX : nX lwNest s) {x y : Nat} {b a : Nat → Nat} {fz fw : Nat → Int32} (hS_fz : ∀ k, k < 4 → fz k = (-1)) (hS_fw : ∀ k, k < 4 → fw k = (-1)) {H : Heap} {locs : List Loc} (hP : va_P g vwCl (LW cI cJ cB cZ cL x y b a fz fw) H) (hD : va_D (fun q : Nat => s.heap.size ≤ q) (LW cI cJ cB cZ cL x y b a fz fw)) (hS : va_S (fun q : Nat => s.heap.size ≤ q) s.heap H locs) {ls : Array Slot} (hl : lv_has ls 4 [(0, .ref sb), (1, .ref x), (2, .ref y), (3, .int 0)]) : W p l e room_1 s m #[Value.ref sb] below meth c H locs 1000 100000 (lw_Z below #[Value.ref sb] s) (F0 m 650 ls []) := by
  obtain ⟨hx, hb, hr, hml, hown, hts0, hX, hbl, hlocks, hgv⟩ := id C0
  have hts : ∀ w ∈ v_L_law, w.before #[Value.ref sb] s = true := fun w h => hts0 w (in_v_L_law w h)
  have hown : s.vm.findClass RL = some m.cls := hown
  have hA : ∀ q : Nat, s.heap.size ≤ q → (fun q : Nat => s.heap.size ≤ q) q := fun _ h => h
  have hbA : ¬ (fun q : Nat => s.heap.size ≤ q) sb := Nat.not_le.mpr hbl
  have hNX : nX [(RX11, 9, yX8_init, "CardsAtYule"), (RX8, 17, yX4_init, "CardsAtYule"), (RX11, 18, yX4_init, "CardsAtYule"), (RX11, 29, yX0_init, "CardsAtYule"), (RX11, 36, yX2_init, "CardsAtYule"), (RX11, 43, yX3_init, "CardsAtYule"), (RX11, 50, yX1_init, "CardsAtYule"), (RX11, 57, yX9_init, "CardsAtYule"), (RX11, 64, yX7_init, "CardsAtYule"), (RX11, 71, yX6_init, "CardsAtYule"), (RX11, 78, yX5_init, "CardsAtYule")] s := hNX
  have hP := hP.sub (ws' := [(x, .inr (10, [.ref (b 0), .ref (b 1), .ref (b 2), .ref (b 3), .ref (b 4), .ref (b 5), .ref (b 6), .ref (b 7), .ref (b 8), .ref (b 9), .ref (b 10)])), ((b 1), .inr (4, [.int 0, .int 0, .int 0, .int 0, .int 0, .int 0, .long 0, .ref (b 21), .ref (b 22), .ref (b 23), .ref (b 24), .ref (b 25), .ref (b 26), .ref (b 27), .ref (b 28)])), (y, .inr (11, mO a)), ((a 16), .inl (cI, 5, .inl (fun _ => 0))), ((a 17), .inl (cI, 25, .inl (fun _ => 0)))]) [0, 12, 29, 35, 36] rfl
  have hD := hD.sub (ws' := [(x, .inr (10, [.ref (b 0), .ref (b 1), .ref (b 2), .ref (b 3), .ref (b 4), .ref (b 5), .ref (b 6), .ref (b 7), .ref (b 8), .ref (b 9), .ref (b 10)])), ((b 1), .inr (4, [.int 0, .int 0, .int 0, .int 0, .int 0, .int 0, .long 0, .ref (b 21), .ref (b 22), .ref (b 23), .ref (b 24), .ref (b 25), .ref (b 26), .ref (b 27), .ref (b 28)])), (y, .inr (11, mO a)), ((a 16), .inl (cI, 5, .inl (fun _ => 0))), ((a 17), .inl (cI, 25, .inl (fun _ => 0)))]) [0, 12, 29, 35, 36] (by decide) rfl
  refine lv_aload_n hx hb dL_law_650 rfl (lv_at hl 1 rfl) ?_
  refine lv_aload_n hx hb dL_law_651 rfl (lv_at hl 0 rfl) ?_
  refine lv_iload_n hx hb dL_law_652 rfl (lv_at hl 3 rfl) ?_
  refine lv_iconst (v := 1) hx hb dL_law_653 (by decide) ?_
  refine lv_iadd hx hb dL_law_654 ?_
  refine lv_topi (nm_r (e' := 1) (by decide) ?_)
  refine va_sld hx hb hX hbl hbA hS (vc_in (by decide)) dL_law_655 ?_
  refine lv_topi (nm_r (e' := xs 1) rfl ?_)
  refine lv_aload_n hx hb dL_law_656 rfl (lv_at hl 0 rfl) ?_
  refine lv_iload_n hx hb dL_law_657 rfl (lv_at hl 3 rfl) ?_
  refine lv_iconst (v := 2) hx hb dL_law_658 (by decide) ?_
  refine lv_iadd hx hb dL_law_659 ?_
  refine lv_topi (nm_r (e' := 2) (by decide) ?_)
  refine va_sld hx hb hX hbl hbA hS (vc_in (by decide)) dL_law_660 ?_
  refine lv_topi (nm_r (e' := xs 2) rfl ?_)
  refine ro_i (va_runV (As := [.int (xs 1), .int (xs 2)]) (rest := []) ⟨hx, hb, hml, hown, hts⟩ (k_X11_state l g cI cJ cB cZ cL x (b 0) (b 1) (b 2) (b 3) (b 4) (b 5) (b 6) (b 7) (b 8) (b 9) (b 10) (b 21) (b 22) (b 23) (b 24) (b 25) (b 26) (b 27) (b 28) (xs 1) (xs 2) ((xs 1).toInt) ((xs 2).toInt) H.size rfl rfl) (cwV 2 hts (goodIn_app (g_4 (List.mem_cons_of_mem _ (List.mem_append_left _ (List.mem_of_getElem? (i := 62) rfl))) (List.mem_cons_of_mem _ (List.mem_append_left _ (List.mem_of_getElem? (i := 63) rfl))) (List.mem_cons_of_mem _ (List.mem_append_left _ (List.mem_of_getElem? (i := 64) rfl))) (List.mem_cons_of_mem _ (List.mem_append_left _ (List.mem_of_getElem? (i := 3) rfl))) (by decide +kernel)) (goodIn_sub (fun _ h => List.mem_cons_of_mem _ (List.mem_append_right _ (List.mem_append_right _ (List.mem_append_right _ (List.mem_append_right _ (List.mem_append_right _ (List.mem_append_right _ (List.mem_append_right _ (List.mem_append_right _ (List.mem_append_right _ (List.mem_append_right _ (List.mem_append_right _ (List.mem_append_right _ (List.mem_append_right _ (List.mem_append_right _ (List.mem_append_right _ (List.mem_append_right _ (List.mem_append_right _ (List.mem_append_right _ (List.mem_append_right _ (List.mem_append_right _ (List.mem_append_right _ (List.mem_append_left _ h))))))))))))))))))))))) good_v_X11_state)) rfl rfl rfl (by decide +kernel) ⟨Nat.le_of_ble_eq_true rfl, Nat.le_of_ble_eq_true rfl⟩) (pv_RO (q := (RX11, TX11, 11)) (ci := 10) (q0 := 0) (wc := [(x, .inr (10, [.ref (b 0), .ref (b 1), .ref (b 2), .ref (b 3), .ref (b 4), .ref (b 5), .ref (b 6), .ref (b 7), .ref (b 8), .ref (b 9), .ref (b 10)])), ((b 1), .inr (4, [.int 0, .int 0, .int 0, .int 0, .int 0, .int 0, .long 0, .ref (b 21), .ref (b 22), .ref (b 23), .ref (b 24), .ref (b 25), .ref (b 26), .ref (b 27), .ref (b 28)]))]) hK hP [0, 1] rfl rfl rfl) rfl rfl hl.1 rfl (lv_room (Nat.le_of_ble_eq_true rfl)) dL_law_661 ⟨Nat.le_of_ble_eq_true rfl, Nat.le_of_ble_eq_true rfl⟩) hS hA hP (fun r1 u2 H locs hw3 hP hS => ?_)
  subst hw3
  refine lv_aload_n hx hb dL_law_664 rfl (lv_at hl 2 rfl) ?_
  refine lv_aload_n hx hb dL_law_665 rfl (lv_at hl 0 rfl) ?_
  refine lv_iload_n hx hb dL_law_666 rfl (lv_at hl 3 rfl) ?_
  refine lv_iconst (v := 1) hx hb dL_law_667 (by decide) ?_
  refine lv_iadd hx hb dL_law_668 ?_
  refine lv_topi (nm_r (e' := 1) (by decide) ?_)
  refine va_sld hx hb hX hbl hbA hS (vc_in (by decide)) dL_law_669 ?_
  refine lv_topi (nm_r (e' := xs 1) rfl ?_)
  refine lv_aload_n hx hb dL_law_670 rfl (lv_at hl 0 rfl) ?_
  refine lv_iload_n hx hb dL_law_671 rfl (lv_at hl 3 rfl) ?_
  refine lv_iconst (v := 2) hx hb dL_law_672 (by decide) ?_
  refine lv_iadd hx hb dL_law_673 ?_
  refine lv_topi (nm_r (e' := 2) (by decide) ?_)
  refine va_sld hx hb hX hbl hbA hS (vc_in (by decide)) dL_law_674 ?_
  refine lv_topi (nm_r (e' := xs 2) rfl ?_)
  refine rw_i (wr := [(x, .inr (10, [.ref (b 0), .ref (b 1), .ref (b 2), .ref (b 3), .ref (b 4), .ref (b 5), .ref (b 6), .ref (b 7), .ref (b 8), .ref (b 9), .ref (b 10)])), ((b 1), .inr (4, [.int 0, .int 0, .int 0, .int 0, .int 0, .int 0, .long 0, .ref (b 21), .ref (b 22), .ref (b 23), .ref (b 24), .ref (b 25), .ref (b 26), .ref (b 27), .ref (b 28)]))]) (va_runV (As := [.int (xs 1), .int (xs 2)]) (rest := [.int (-2)]) ⟨hx, hb, hml, hown, hts⟩ (k_X12_state l g cI cJ cB cZ cL y a (xs 1) (xs 2) ((xs 1).toInt) ((xs 2).toInt) H.size rfl rfl) (cwV 2 hts (goodIn_app (g_4 (List.mem_cons_of_mem _ (List.mem_append_left _ (List.mem_of_getElem? (i := 65) rfl))) (List.mem_cons_of_mem _ (List.mem_append_left _ (List.mem_of_getElem? (i := 66) rfl))) (List.mem_cons_of_mem _ (List.mem_append_left _ (List.mem_of_getElem? (i := 67) rfl))) (List.mem_cons_of_mem _ (List.mem_append_left _ (List.mem_of_getElem? (i := 7) rfl))) (by decide +kernel)) (goodIn_sub (fun _ h => List.mem_cons_of_mem _ (List.mem_append_right _ (List.mem_append_right _ (List.mem_append_right _ (List.mem_append_right _ (List.mem_append_right _ (List.mem_append_right _ (List.mem_append_right _ (List.mem_append_right _ (List.mem_append_right _ (List.mem_append_right _ (List.mem_append_right _ (List.mem_append_right _ (List.mem_append_right _ (List.mem_append_right _ (List.mem_append_right _ (List.mem_append_right _ (List.mem_append_right _ (List.mem_append_right _ (List.mem_append_right _ (List.mem_append_right _ (List.mem_append_right _ (List.mem_append_right _ (List.mem_append_left _ h)))))))))))))))))))))))) good_v_X12_state)) rfl rfl rfl (by decide +kernel) ⟨Nat.le_of_ble_eq_true rfl, Nat.le_of_ble_eq_true rfl⟩) (pv_RW (q := (RX12, TX12, 56)) (ci := 11) (q0 := 0) (wc := [(y, .inr (11, mO a)), ((a 17), .inl (cI, 25, .inl (fun _ => 0))), ((a 16), .inl (cI, 5, .inl (fun _ => 0)))]) hK hP hD [2, 4, 3] (by decide) rfl rfl rfl) rfl rfl hl.1 rfl (lv_room (Nat.le_of_ble_eq_true rfl)) dL_law_675 ⟨Nat.le_of_ble_eq_true rfl, Nat.le_of_ble_eq_true rfl⟩) hS hA hP hD [2, 4, 3] [0, 1] rfl rfl (by decide) (by decide) (fun r4 u5 H locs hw6 hP hD hS => ?_)
  have hP : va_P g vwCl [(x, .inr (10, [.ref (b 0), .ref (b 1), .ref (b 2), .ref (b 3), .ref (b 4), .ref (b 5), .ref (b 6), .ref (b 7), .ref (b 8), .ref (b 9), .ref (b 10)])), ((b 1), .inr (4, [.int 0, .int 0, .int 0, .int 0, .int 0, .int 0, .long 0, .ref (b 21), .ref (b 22), .ref (b 23), .ref (b 24), .ref (b 25), .ref (b 26), .ref (b 27), .ref (b 28)]))] H := hP
  have hD : va_D (fun q : Nat => s.heap.size ≤ q) [(x, .inr (10, [.ref (b 0), .ref (b 1), .ref (b 2), .ref (b 3), .ref (b 4), .ref (b 5), .ref (b 6), .ref (b 7), .ref (b 8), .ref (b 9), .ref (b 10)])), ((b 1), .inr (4, [.int 0, .int 0, .int 0, .int 0, .int 0, .int 0, .long 0, .ref (b 21), .ref (b 22), .ref (b 23), .ref (b 24), .ref (b 25), .ref (b 26), .ref (b 27), .ref (b 28)]))] := hD
  subst hw6
  refine lv_icmp_eq (tgt := 2463) hx hb dL_law_678 (by decide) (fun _ => ?_) (fun c7 => absurd c7 (by decide))
  refine lv_iinc (v := 6) (lv' := [(3, .int 6), (0, .ref sb), (1, .ref x), (2, .ref y)]) hx hb dL_law_2463 hl (k := 3) rfl (by decide) (by decide) rfl (fun ls hl => ?_)
  refine lv_goto (tgt := 18) hx hb dL_law_2466 (by decide) ?_
  refine lv_iload_n hx hb dL_law_18 rfl (lv_at hl 0 rfl) ?_
  refine lv_aload_n hx hb dL_law_19 rfl (lv_at hl 1 rfl) ?_
  refine va_slen hx hb hX hbl hbA hS dL_law_20 ?_
  refine lv_topi (nm_r (e' := 6) rfl ?_)
  refine lv_bipush (v := 6) hx hb dL_law_21 (by decide) ?_
  refine lv_isub hx hb dL_law_23 ?_
  refine lv_topi (nm_r (e' := 0) (by decide) ?_)
  refine lv_icmp_gt (tgt := 2469) hx hb dL_law_24 (by decide) (fun _ => ?_) (fun c8 => absurd c8 (by decide))
  refine lv_iconst (v := 1) hx hb dL_law_2469 (by decide) ?_
  refine va_forget (fun q hq => hS.2.2 q hq) ?_
  refine W.widen (k := 600000) (n := 7302250) (Nat.le_of_ble_eq_true rfl) (Nat.le_of_ble_eq_true rfl) ?_
  exact lw_ret hx hb hr hlocks dL_law_2470
set_option maxHeartbeats 4000000 in
set_option maxRecDepth 100000 in
theorem lw_c11 {p : Program} {e : Env} {s : State} {m : MethodId} {below : List Frame} {meth : Method} {c : Code} (l : Launch) {sb : Nat} {xs : Nat → Int32} (C0 : lw_At p s m meth c sb 6 xs) {g : va_G} {cI cJ cB cZ cL : ClassId} (hK : va_K g vwCl (tyT cI cJ cB cZ cL) s) (hNX : nX lwNest s) {x y : Nat} {b a : Nat → Nat} {fz fw : Nat → Int32} (hS_fz : ∀ k, k < 4 → fz k = (-1)) (hS_fw : ∀ k, k < 4 → fw k = (-1)) {H : Heap} {locs : List Loc} (hP : va_P g vwCl (LW cI cJ cB cZ cL x y b a fz fw) H) (hD : va_D (fun q : Nat => s.heap.size ≤ q) (LW cI cJ cB cZ cL x y b a fz fw)) (hS : va_S (fun q : Nat => s.heap.size ≤ q) s.heap H locs) {ls : Array Slot} (hl : lv_has ls 4 [(0, .ref sb), (1, .ref x), (2, .ref y), (3, .int 0)]) : W p l e room_1 s m #[Value.ref sb] below meth c H locs 1000 100000 (lw_Z below #[Value.ref sb] s) (F0 m 683 ls []) := by
  obtain ⟨hx, hb, hr, hml, hown, hts0, hX, hbl, hlocks, hgv⟩ := id C0
  have hts : ∀ w ∈ v_L_law, w.before #[Value.ref sb] s = true := fun w h => hts0 w (in_v_L_law w h)
  have hown : s.vm.findClass RL = some m.cls := hown
  have hA : ∀ q : Nat, s.heap.size ≤ q → (fun q : Nat => s.heap.size ≤ q) q := fun _ h => h
  have hbA : ¬ (fun q : Nat => s.heap.size ≤ q) sb := Nat.not_le.mpr hbl
  have hNX : nX [(RX11, 9, yX8_init, "CardsAtYule"), (RX8, 17, yX4_init, "CardsAtYule"), (RX11, 18, yX4_init, "CardsAtYule"), (RX11, 29, yX0_init, "CardsAtYule"), (RX11, 36, yX2_init, "CardsAtYule"), (RX11, 43, yX3_init, "CardsAtYule"), (RX11, 50, yX1_init, "CardsAtYule"), (RX11, 57, yX9_init, "CardsAtYule"), (RX11, 64, yX7_init, "CardsAtYule"), (RX11, 71, yX6_init, "CardsAtYule"), (RX11, 78, yX5_init, "CardsAtYule")] s := hNX
  have hP := hP.sub (ws' := [(x, .inr (10, [.ref (b 0), .ref (b 1), .ref (b 2), .ref (b 3), .ref (b 4), .ref (b 5), .ref (b 6), .ref (b 7), .ref (b 8), .ref (b 9), .ref (b 10)])), ((b 1), .inr (4, [.int 0, .int 0, .int 0, .int 0, .int 0, .int 0, .long 0, .ref (b 21), .ref (b 22), .ref (b 23), .ref (b 24), .ref (b 25), .ref (b 26), .ref (b 27), .ref (b 28)])), (y, .inr (11, mO a)), ((a 16), .inl (cI, 5, .inl (fun _ => 0))), ((a 17), .inl (cI, 25, .inl (fun _ => 0)))]) [0, 12, 29, 35, 36] rfl
  have hD := hD.sub (ws' := [(x, .inr (10, [.ref (b 0), .ref (b 1), .ref (b 2), .ref (b 3), .ref (b 4), .ref (b 5), .ref (b 6), .ref (b 7), .ref (b 8), .ref (b 9), .ref (b 10)])), ((b 1), .inr (4, [.int 0, .int 0, .int 0, .int 0, .int 0, .int 0, .long 0, .ref (b 21), .ref (b 22), .ref (b 23), .ref (b 24), .ref (b 25), .ref (b 26), .ref (b 27), .ref (b 28)])), (y, .inr (11, mO a)), ((a 16), .inl (cI, 5, .inl (fun _ => 0))), ((a 17), .inl (cI, 25, .inl (fun _ => 0)))]) [0, 12, 29, 35, 36] (by decide) rfl
  refine lv_aload_n hx hb dL_law_683 rfl (lv_at hl 1 rfl) ?_
  refine lv_aload_n hx hb dL_law_684 rfl (lv_at hl 0 rfl) ?_
  refine lv_iload_n hx hb dL_law_685 rfl (lv_at hl 3 rfl) ?_
  refine lv_iconst (v := 1) hx hb dL_law_686 (by decide) ?_
  refine lv_iadd hx hb dL_law_687 ?_
  refine lv_topi (nm_r (e' := 1) (by decide) ?_)
  refine va_sld hx hb hX hbl hbA hS (vc_in (by decide)) dL_law_688 ?_
  refine lv_topi (nm_r (e' := xs 1) rfl ?_)
  refine lv_aload_n hx hb dL_law_689 rfl (lv_at hl 0 rfl) ?_
  refine lv_iload_n hx hb dL_law_690 rfl (lv_at hl 3 rfl) ?_
  refine lv_iconst (v := 2) hx hb dL_law_691 (by decide) ?_
  refine lv_iadd hx hb dL_law_692 ?_
  refine lv_topi (nm_r (e' := 2) (by decide) ?_)
  refine va_sld hx hb hX hbl hbA hS (vc_in (by decide)) dL_law_693 ?_
  refine lv_topi (nm_r (e' := xs 2) rfl ?_)
  refine ro_i (va_runV (As := [.int (xs 1), .int (xs 2)]) (rest := []) ⟨hx, hb, hml, hown, hts⟩ (k_X11_cards l g cI cJ cB cZ cL x (b 0) (b 1) (b 2) (b 3) (b 4) (b 5) (b 6) (b 7) (b 8) (b 9) (b 10) (b 21) (b 22) (b 23) (b 24) (b 25) (b 26) (b 27) (b 28) (xs 1) (xs 2) ((xs 1).toInt) ((xs 2).toInt) H.size rfl rfl) (cwV 2 hts (goodIn_app (g_4 (List.mem_cons_of_mem _ (List.mem_append_left _ (List.mem_of_getElem? (i := 68) rfl))) (List.mem_cons_of_mem _ (List.mem_append_left _ (List.mem_of_getElem? (i := 69) rfl))) (List.mem_cons_of_mem _ (List.mem_append_left _ (List.mem_of_getElem? (i := 70) rfl))) (List.mem_cons_of_mem _ (List.mem_append_left _ (List.mem_of_getElem? (i := 3) rfl))) (by decide +kernel)) (goodIn_sub (fun _ h => List.mem_cons_of_mem _ (List.mem_append_right _ (List.mem_append_right _ (List.mem_append_right _ (List.mem_append_right _ (List.mem_append_right _ (List.mem_append_right _ (List.mem_append_right _ (List.mem_append_right _ (List.mem_append_right _ (List.mem_append_right _ (List.mem_append_right _ (List.mem_append_right _ (List.mem_append_right _ (List.mem_append_right _ (List.mem_append_right _ (List.mem_append_right _ (List.mem_append_right _ (List.mem_append_right _ (List.mem_append_right _ (List.mem_append_right _ (List.mem_append_right _ (List.mem_append_right _ (List.mem_append_right _ (List.mem_append_left _ h))))))))))))))))))))))))) good_v_X11_cards)) rfl rfl rfl (by decide +kernel) ⟨Nat.le_of_ble_eq_true rfl, Nat.le_of_ble_eq_true rfl⟩) (pv_RO (q := (RX11, TX11, 11)) (ci := 10) (q0 := 0) (wc := [(x, .inr (10, [.ref (b 0), .ref (b 1), .ref (b 2), .ref (b 3), .ref (b 4), .ref (b 5), .ref (b 6), .ref (b 7), .ref (b 8), .ref (b 9), .ref (b 10)])), ((b 1), .inr (4, [.int 0, .int 0, .int 0, .int 0, .int 0, .int 0, .long 0, .ref (b 21), .ref (b 22), .ref (b 23), .ref (b 24), .ref (b 25), .ref (b 26), .ref (b 27), .ref (b 28)]))]) hK hP [0, 1] rfl rfl rfl) rfl rfl hl.1 rfl (lv_room (Nat.le_of_ble_eq_true rfl)) dL_law_694 ⟨Nat.le_of_ble_eq_true rfl, Nat.le_of_ble_eq_true rfl⟩) hS hA hP (fun r1 u2 H locs hw3 hP hS => ?_)
  subst hw3
  refine lv_aload_n hx hb dL_law_697 rfl (lv_at hl 2 rfl) ?_
  refine lv_aload_n hx hb dL_law_698 rfl (lv_at hl 0 rfl) ?_
  refine lv_iload_n hx hb dL_law_699 rfl (lv_at hl 3 rfl) ?_
  refine lv_iconst (v := 1) hx hb dL_law_700 (by decide) ?_
  refine lv_iadd hx hb dL_law_701 ?_
  refine lv_topi (nm_r (e' := 1) (by decide) ?_)
  refine va_sld hx hb hX hbl hbA hS (vc_in (by decide)) dL_law_702 ?_
  refine lv_topi (nm_r (e' := xs 1) rfl ?_)
  refine lv_aload_n hx hb dL_law_703 rfl (lv_at hl 0 rfl) ?_
  refine lv_iload_n hx hb dL_law_704 rfl (lv_at hl 3 rfl) ?_
  refine lv_iconst (v := 2) hx hb dL_law_705 (by decide) ?_
  refine lv_iadd hx hb dL_law_706 ?_
  refine lv_topi (nm_r (e' := 2) (by decide) ?_)
  refine va_sld hx hb hX hbl hbA hS (vc_in (by decide)) dL_law_707 ?_
  refine lv_topi (nm_r (e' := xs 2) rfl ?_)
  refine rw_i (wr := [(x, .inr (10, [.ref (b 0), .ref (b 1), .ref (b 2), .ref (b 3), .ref (b 4), .ref (b 5), .ref (b 6), .ref (b 7), .ref (b 8), .ref (b 9), .ref (b 10)])), ((b 1), .inr (4, [.int 0, .int 0, .int 0, .int 0, .int 0, .int 0, .long 0, .ref (b 21), .ref (b 22), .ref (b 23), .ref (b 24), .ref (b 25), .ref (b 26), .ref (b 27), .ref (b 28)]))]) (va_runV (As := [.int (xs 1), .int (xs 2)]) (rest := [.int (-2)]) ⟨hx, hb, hml, hown, hts⟩ (k_X12_cards l g cI cJ cB cZ cL y a (xs 1) (xs 2) ((xs 1).toInt) ((xs 2).toInt) H.size rfl rfl) (cwV 2 hts (goodIn_app (g_4 (List.mem_cons_of_mem _ (List.mem_append_left _ (List.mem_of_getElem? (i := 71) rfl))) (List.mem_cons_of_mem _ (List.mem_append_left _ (List.mem_of_getElem? (i := 72) rfl))) (List.mem_cons_of_mem _ (List.mem_append_left _ (List.mem_of_getElem? (i := 73) rfl))) (List.mem_cons_of_mem _ (List.mem_append_left _ (List.mem_of_getElem? (i := 7) rfl))) (by decide +kernel)) (goodIn_sub (fun _ h => List.mem_cons_of_mem _ (List.mem_append_right _ (List.mem_append_right _ (List.mem_append_right _ (List.mem_append_right _ (List.mem_append_right _ (List.mem_append_right _ (List.mem_append_right _ (List.mem_append_right _ (List.mem_append_right _ (List.mem_append_right _ (List.mem_append_right _ (List.mem_append_right _ (List.mem_append_right _ (List.mem_append_right _ (List.mem_append_right _ (List.mem_append_right _ (List.mem_append_right _ (List.mem_append_right _ (List.mem_append_right _ (List.mem_append_right _ (List.mem_append_right _ (List.mem_append_right _ (List.mem_append_right _ (List.mem_append_right _ (List.mem_append_left _ h)))))))))))))))))))))))))) good_v_X12_cards)) rfl rfl rfl (by decide +kernel) ⟨Nat.le_of_ble_eq_true rfl, Nat.le_of_ble_eq_true rfl⟩) (pv_RW (q := (RX12, TX12, 56)) (ci := 11) (q0 := 0) (wc := [(y, .inr (11, mO a)), ((a 17), .inl (cI, 25, .inl (fun _ => 0))), ((a 16), .inl (cI, 5, .inl (fun _ => 0)))]) hK hP hD [2, 4, 3] (by decide) rfl rfl rfl) rfl rfl hl.1 rfl (lv_room (Nat.le_of_ble_eq_true rfl)) dL_law_708 ⟨Nat.le_of_ble_eq_true rfl, Nat.le_of_ble_eq_true rfl⟩) hS hA hP hD [2, 4, 3] [0, 1] rfl rfl (by decide) (by decide) (fun r4 u5 H locs hw6 hP hD hS => ?_)
  have hP : va_P g vwCl [(x, .inr (10, [.ref (b 0), .ref (b 1), .ref (b 2), .ref (b 3), .ref (b 4), .ref (b 5), .ref (b 6), .ref (b 7), .ref (b 8), .ref (b 9), .ref (b 10)])), ((b 1), .inr (4, [.int 0, .int 0, .int 0, .int 0, .int 0, .int 0, .long 0, .ref (b 21), .ref (b 22), .ref (b 23), .ref (b 24), .ref (b 25), .ref (b 26), .ref (b 27), .ref (b 28)]))] H := hP
  have hD : va_D (fun q : Nat => s.heap.size ≤ q) [(x, .inr (10, [.ref (b 0), .ref (b 1), .ref (b 2), .ref (b 3), .ref (b 4), .ref (b 5), .ref (b 6), .ref (b 7), .ref (b 8), .ref (b 9), .ref (b 10)])), ((b 1), .inr (4, [.int 0, .int 0, .int 0, .int 0, .int 0, .int 0, .long 0, .ref (b 21), .ref (b 22), .ref (b 23), .ref (b 24), .ref (b 25), .ref (b 26), .ref (b 27), .ref (b 28)]))] := hD
  subst hw6
  refine lv_icmp_eq (tgt := 2463) hx hb dL_law_711 (by decide) (fun _ => ?_) (fun c7 => absurd c7 (by decide))
  refine lv_iinc (v := 6) (lv' := [(3, .int 6), (0, .ref sb), (1, .ref x), (2, .ref y)]) hx hb dL_law_2463 hl (k := 3) rfl (by decide) (by decide) rfl (fun ls hl => ?_)
  refine lv_goto (tgt := 18) hx hb dL_law_2466 (by decide) ?_
  refine lv_iload_n hx hb dL_law_18 rfl (lv_at hl 0 rfl) ?_
  refine lv_aload_n hx hb dL_law_19 rfl (lv_at hl 1 rfl) ?_
  refine va_slen hx hb hX hbl hbA hS dL_law_20 ?_
  refine lv_topi (nm_r (e' := 6) rfl ?_)
  refine lv_bipush (v := 6) hx hb dL_law_21 (by decide) ?_
  refine lv_isub hx hb dL_law_23 ?_
  refine lv_topi (nm_r (e' := 0) (by decide) ?_)
  refine lv_icmp_gt (tgt := 2469) hx hb dL_law_24 (by decide) (fun _ => ?_) (fun c8 => absurd c8 (by decide))
  refine lv_iconst (v := 1) hx hb dL_law_2469 (by decide) ?_
  refine va_forget (fun q hq => hS.2.2 q hq) ?_
  refine W.widen (k := 600000) (n := 7302250) (Nat.le_of_ble_eq_true rfl) (Nat.le_of_ble_eq_true rfl) ?_
  exact lw_ret hx hb hr hlocks dL_law_2470
set_option maxHeartbeats 4000000 in
set_option maxRecDepth 100000 in
theorem lw_c12 {p : Program} {e : Env} {s : State} {m : MethodId} {below : List Frame} {meth : Method} {c : Code} (l : Launch) {sb : Nat} {xs : Nat → Int32} (C0 : lw_At p s m meth c sb 6 xs) {g : va_G} {cI cJ cB cZ cL : ClassId} (hK : va_K g vwCl (tyT cI cJ cB cZ cL) s) (hNX : nX lwNest s) {x y : Nat} {b a : Nat → Nat} {fz fw : Nat → Int32} (hS_fz : ∀ k, k < 4 → fz k = (-1)) (hS_fw : ∀ k, k < 4 → fw k = (-1)) {H : Heap} {locs : List Loc} (hP : va_P g vwCl (LW cI cJ cB cZ cL x y b a fz fw) H) (hD : va_D (fun q : Nat => s.heap.size ≤ q) (LW cI cJ cB cZ cL x y b a fz fw)) (hS : va_S (fun q : Nat => s.heap.size ≤ q) s.heap H locs) {ls : Array Slot} (hl : lv_has ls 4 [(0, .ref sb), (1, .ref x), (2, .ref y), (3, .int 0)]) : W p l e room_1 s m #[Value.ref sb] below meth c H locs 1000 100000 (lw_Z below #[Value.ref sb] s) (F0 m 716 ls []) := by
  obtain ⟨hx, hb, hr, hml, hown, hts0, hX, hbl, hlocks, hgv⟩ := id C0
  have hts : ∀ w ∈ v_L_law, w.before #[Value.ref sb] s = true := fun w h => hts0 w (in_v_L_law w h)
  have hown : s.vm.findClass RL = some m.cls := hown
  have hA : ∀ q : Nat, s.heap.size ≤ q → (fun q : Nat => s.heap.size ≤ q) q := fun _ h => h
  have hbA : ¬ (fun q : Nat => s.heap.size ≤ q) sb := Nat.not_le.mpr hbl
  have hNX : nX [(RX11, 9, yX8_init, "CardsAtYule"), (RX8, 17, yX4_init, "CardsAtYule"), (RX11, 18, yX4_init, "CardsAtYule"), (RX11, 29, yX0_init, "CardsAtYule"), (RX11, 36, yX2_init, "CardsAtYule"), (RX11, 43, yX3_init, "CardsAtYule"), (RX11, 50, yX1_init, "CardsAtYule"), (RX11, 57, yX9_init, "CardsAtYule"), (RX11, 64, yX7_init, "CardsAtYule"), (RX11, 71, yX6_init, "CardsAtYule"), (RX11, 78, yX5_init, "CardsAtYule")] s := hNX
  have hP := hP.sub (ws' := [(x, .inr (10, [.ref (b 0), .ref (b 1), .ref (b 2), .ref (b 3), .ref (b 4), .ref (b 5), .ref (b 6), .ref (b 7), .ref (b 8), .ref (b 9), .ref (b 10)])), ((b 1), .inr (4, [.int 0, .int 0, .int 0, .int 0, .int 0, .int 0, .long 0, .ref (b 21), .ref (b 22), .ref (b 23), .ref (b 24), .ref (b 25), .ref (b 26), .ref (b 27), .ref (b 28)])), (y, .inr (11, mO a)), ((a 16), .inl (cI, 5, .inl (fun _ => 0))), ((a 17), .inl (cI, 25, .inl (fun _ => 0)))]) [0, 12, 29, 35, 36] rfl
  have hD := hD.sub (ws' := [(x, .inr (10, [.ref (b 0), .ref (b 1), .ref (b 2), .ref (b 3), .ref (b 4), .ref (b 5), .ref (b 6), .ref (b 7), .ref (b 8), .ref (b 9), .ref (b 10)])), ((b 1), .inr (4, [.int 0, .int 0, .int 0, .int 0, .int 0, .int 0, .long 0, .ref (b 21), .ref (b 22), .ref (b 23), .ref (b 24), .ref (b 25), .ref (b 26), .ref (b 27), .ref (b 28)])), (y, .inr (11, mO a)), ((a 16), .inl (cI, 5, .inl (fun _ => 0))), ((a 17), .inl (cI, 25, .inl (fun _ => 0)))]) [0, 12, 29, 35, 36] (by decide) rfl
  refine lv_aload_n hx hb dL_law_716 rfl (lv_at hl 1 rfl) ?_
  refine lv_aload_n hx hb dL_law_717 rfl (lv_at hl 0 rfl) ?_
  refine lv_iload_n hx hb dL_law_718 rfl (lv_at hl 3 rfl) ?_
  refine lv_iconst (v := 1) hx hb dL_law_719 (by decide) ?_
  refine lv_iadd hx hb dL_law_720 ?_
  refine lv_topi (nm_r (e' := 1) (by decide) ?_)
  refine va_sld hx hb hX hbl hbA hS (vc_in (by decide)) dL_law_721 ?_
  refine lv_topi (nm_r (e' := xs 1) rfl ?_)
  refine lv_aload_n hx hb dL_law_722 rfl (lv_at hl 0 rfl) ?_
  refine lv_iload_n hx hb dL_law_723 rfl (lv_at hl 3 rfl) ?_
  refine lv_iconst (v := 2) hx hb dL_law_724 (by decide) ?_
  refine lv_iadd hx hb dL_law_725 ?_
  refine lv_topi (nm_r (e' := 2) (by decide) ?_)
  refine va_sld hx hb hX hbl hbA hS (vc_in (by decide)) dL_law_726 ?_
  refine lv_topi (nm_r (e' := xs 2) rfl ?_)
  refine ro_i (va_runV (As := [.int (xs 1), .int (xs 2)]) (rest := []) ⟨hx, hb, hml, hown, hts⟩ (k_X11_list l g cI cJ cB cZ cL x (b 0) (b 1) (b 2) (b 3) (b 4) (b 5) (b 6) (b 7) (b 8) (b 9) (b 10) (b 21) (b 22) (b 23) (b 24) (b 25) (b 26) (b 27) (b 28) (xs 1) (xs 2) ((xs 1).toInt) ((xs 2).toInt) H.size rfl rfl) (cwV 2 hts (goodIn_app (g_4 (List.mem_cons_of_mem _ (List.mem_append_left _ (List.mem_of_getElem? (i := 74) rfl))) (List.mem_cons_of_mem _ (List.mem_append_left _ (List.mem_of_getElem? (i := 75) rfl))) (List.mem_cons_of_mem _ (List.mem_append_left _ (List.mem_of_getElem? (i := 76) rfl))) (List.mem_cons_of_mem _ (List.mem_append_left _ (List.mem_of_getElem? (i := 3) rfl))) (by decide +kernel)) (goodIn_sub (fun _ h => List.mem_cons_of_mem _ (List.mem_append_right _ (List.mem_append_right _ (List.mem_append_right _ (List.mem_append_right _ (List.mem_append_right _ (List.mem_append_right _ (List.mem_append_right _ (List.mem_append_right _ (List.mem_append_right _ (List.mem_append_right _ (List.mem_append_right _ (List.mem_append_right _ (List.mem_append_right _ (List.mem_append_right _ (List.mem_append_right _ (List.mem_append_right _ (List.mem_append_right _ (List.mem_append_right _ (List.mem_append_right _ (List.mem_append_right _ (List.mem_append_right _ (List.mem_append_right _ (List.mem_append_right _ (List.mem_append_right _ (List.mem_append_right _ (List.mem_append_left _ h))))))))))))))))))))))))))) good_v_X11_list)) rfl rfl rfl (by decide +kernel) ⟨Nat.le_of_ble_eq_true rfl, Nat.le_of_ble_eq_true rfl⟩) (pv_RO (q := (RX11, TX11, 11)) (ci := 10) (q0 := 0) (wc := [(x, .inr (10, [.ref (b 0), .ref (b 1), .ref (b 2), .ref (b 3), .ref (b 4), .ref (b 5), .ref (b 6), .ref (b 7), .ref (b 8), .ref (b 9), .ref (b 10)])), ((b 1), .inr (4, [.int 0, .int 0, .int 0, .int 0, .int 0, .int 0, .long 0, .ref (b 21), .ref (b 22), .ref (b 23), .ref (b 24), .ref (b 25), .ref (b 26), .ref (b 27), .ref (b 28)]))]) hK hP [0, 1] rfl rfl rfl) rfl rfl hl.1 rfl (lv_room (Nat.le_of_ble_eq_true rfl)) dL_law_727 ⟨Nat.le_of_ble_eq_true rfl, Nat.le_of_ble_eq_true rfl⟩) hS hA hP (fun r1 u2 H locs hw3 hP hS => ?_)
  subst hw3
  refine lv_aload_n hx hb dL_law_730 rfl (lv_at hl 2 rfl) ?_
  refine lv_aload_n hx hb dL_law_731 rfl (lv_at hl 0 rfl) ?_
  refine lv_iload_n hx hb dL_law_732 rfl (lv_at hl 3 rfl) ?_
  refine lv_iconst (v := 1) hx hb dL_law_733 (by decide) ?_
  refine lv_iadd hx hb dL_law_734 ?_
  refine lv_topi (nm_r (e' := 1) (by decide) ?_)
  refine va_sld hx hb hX hbl hbA hS (vc_in (by decide)) dL_law_735 ?_
  refine lv_topi (nm_r (e' := xs 1) rfl ?_)
  refine lv_aload_n hx hb dL_law_736 rfl (lv_at hl 0 rfl) ?_
  refine lv_iload_n hx hb dL_law_737 rfl (lv_at hl 3 rfl) ?_
  refine lv_iconst (v := 2) hx hb dL_law_738 (by decide) ?_
  refine lv_iadd hx hb dL_law_739 ?_
  refine lv_topi (nm_r (e' := 2) (by decide) ?_)
  refine va_sld hx hb hX hbl hbA hS (vc_in (by decide)) dL_law_740 ?_
  refine lv_topi (nm_r (e' := xs 2) rfl ?_)
  refine rw_i (wr := [(x, .inr (10, [.ref (b 0), .ref (b 1), .ref (b 2), .ref (b 3), .ref (b 4), .ref (b 5), .ref (b 6), .ref (b 7), .ref (b 8), .ref (b 9), .ref (b 10)])), ((b 1), .inr (4, [.int 0, .int 0, .int 0, .int 0, .int 0, .int 0, .long 0, .ref (b 21), .ref (b 22), .ref (b 23), .ref (b 24), .ref (b 25), .ref (b 26), .ref (b 27), .ref (b 28)]))]) (va_runV (As := [.int (xs 1), .int (xs 2)]) (rest := [.int (-2)]) ⟨hx, hb, hml, hown, hts⟩ (k_X12_list l g cI cJ cB cZ cL y a (xs 1) (xs 2) ((xs 1).toInt) ((xs 2).toInt) H.size rfl rfl) (cwV 2 hts (goodIn_app (g_4 (List.mem_cons_of_mem _ (List.mem_append_left _ (List.mem_of_getElem? (i := 77) rfl))) (List.mem_cons_of_mem _ (List.mem_append_left _ (List.mem_of_getElem? (i := 78) rfl))) (List.mem_cons_of_mem _ (List.mem_append_left _ (List.mem_of_getElem? (i := 79) rfl))) (List.mem_cons_of_mem _ (List.mem_append_left _ (List.mem_of_getElem? (i := 7) rfl))) (by decide +kernel)) (goodIn_sub (fun _ h => List.mem_cons_of_mem _ (List.mem_append_right _ (List.mem_append_right _ (List.mem_append_right _ (List.mem_append_right _ (List.mem_append_right _ (List.mem_append_right _ (List.mem_append_right _ (List.mem_append_right _ (List.mem_append_right _ (List.mem_append_right _ (List.mem_append_right _ (List.mem_append_right _ (List.mem_append_right _ (List.mem_append_right _ (List.mem_append_right _ (List.mem_append_right _ (List.mem_append_right _ (List.mem_append_right _ (List.mem_append_right _ (List.mem_append_right _ (List.mem_append_right _ (List.mem_append_right _ (List.mem_append_right _ (List.mem_append_right _ (List.mem_append_right _ (List.mem_append_right _ (List.mem_append_left _ h)))))))))))))))))))))))))))) good_v_X12_list)) rfl rfl rfl (by decide +kernel) ⟨Nat.le_of_ble_eq_true rfl, Nat.le_of_ble_eq_true rfl⟩) (pv_RW (q := (RX12, TX12, 56)) (ci := 11) (q0 := 0) (wc := [(y, .inr (11, mO a)), ((a 17), .inl (cI, 25, .inl (fun _ => 0))), ((a 16), .inl (cI, 5, .inl (fun _ => 0)))]) hK hP hD [2, 4, 3] (by decide) rfl rfl rfl) rfl rfl hl.1 rfl (lv_room (Nat.le_of_ble_eq_true rfl)) dL_law_741 ⟨Nat.le_of_ble_eq_true rfl, Nat.le_of_ble_eq_true rfl⟩) hS hA hP hD [2, 4, 3] [0, 1] rfl rfl (by decide) (by decide) (fun r4 u5 H locs hw6 hP hD hS => ?_)
  have hP : va_P g vwCl [(x, .inr (10, [.ref (b 0), .ref (b 1), .ref (b 2), .ref (b 3), .ref (b 4), .ref (b 5), .ref (b 6), .ref (b 7), .ref (b 8), .ref (b 9), .ref (b 10)])), ((b 1), .inr (4, [.int 0, .int 0, .int 0, .int 0, .int 0, .int 0, .long 0, .ref (b 21), .ref (b 22), .ref (b 23), .ref (b 24), .ref (b 25), .ref (b 26), .ref (b 27), .ref (b 28)]))] H := hP
  have hD : va_D (fun q : Nat => s.heap.size ≤ q) [(x, .inr (10, [.ref (b 0), .ref (b 1), .ref (b 2), .ref (b 3), .ref (b 4), .ref (b 5), .ref (b 6), .ref (b 7), .ref (b 8), .ref (b 9), .ref (b 10)])), ((b 1), .inr (4, [.int 0, .int 0, .int 0, .int 0, .int 0, .int 0, .long 0, .ref (b 21), .ref (b 22), .ref (b 23), .ref (b 24), .ref (b 25), .ref (b 26), .ref (b 27), .ref (b 28)]))] := hD
  subst hw6
  refine lv_icmp_eq (tgt := 2463) hx hb dL_law_744 (by decide) (fun _ => ?_) (fun c7 => absurd c7 (by decide))
  refine lv_iinc (v := 6) (lv' := [(3, .int 6), (0, .ref sb), (1, .ref x), (2, .ref y)]) hx hb dL_law_2463 hl (k := 3) rfl (by decide) (by decide) rfl (fun ls hl => ?_)
  refine lv_goto (tgt := 18) hx hb dL_law_2466 (by decide) ?_
  refine lv_iload_n hx hb dL_law_18 rfl (lv_at hl 0 rfl) ?_
  refine lv_aload_n hx hb dL_law_19 rfl (lv_at hl 1 rfl) ?_
  refine va_slen hx hb hX hbl hbA hS dL_law_20 ?_
  refine lv_topi (nm_r (e' := 6) rfl ?_)
  refine lv_bipush (v := 6) hx hb dL_law_21 (by decide) ?_
  refine lv_isub hx hb dL_law_23 ?_
  refine lv_topi (nm_r (e' := 0) (by decide) ?_)
  refine lv_icmp_gt (tgt := 2469) hx hb dL_law_24 (by decide) (fun _ => ?_) (fun c8 => absurd c8 (by decide))
  refine lv_iconst (v := 1) hx hb dL_law_2469 (by decide) ?_
  refine va_forget (fun q hq => hS.2.2 q hq) ?_
  refine W.widen (k := 600000) (n := 7302250) (Nat.le_of_ble_eq_true rfl) (Nat.le_of_ble_eq_true rfl) ?_
  exact lw_ret hx hb hr hlocks dL_law_2470
set_option maxHeartbeats 4000000 in
set_option maxRecDepth 100000 in
theorem lw_c13 {p : Program} {e : Env} {s : State} {m : MethodId} {below : List Frame} {meth : Method} {c : Code} (l : Launch) {sb : Nat} {xs : Nat → Int32} (C0 : lw_At p s m meth c sb 6 xs) {g : va_G} {cI cJ cB cZ cL : ClassId} (hK : va_K g vwCl (tyT cI cJ cB cZ cL) s) (hNX : nX lwNest s) {x y : Nat} {b a : Nat → Nat} {fz fw : Nat → Int32} (hS_fz : ∀ k, k < 4 → fz k = (-1)) (hS_fw : ∀ k, k < 4 → fw k = (-1)) {H : Heap} {locs : List Loc} (hP : va_P g vwCl (LW cI cJ cB cZ cL x y b a fz fw) H) (hD : va_D (fun q : Nat => s.heap.size ≤ q) (LW cI cJ cB cZ cL x y b a fz fw)) (hS : va_S (fun q : Nat => s.heap.size ≤ q) s.heap H locs) {ls : Array Slot} (hl : lv_has ls 4 [(0, .ref sb), (1, .ref x), (2, .ref y), (3, .int 0)]) : W p l e room_1 s m #[Value.ref sb] below meth c H locs 1000 100000 (lw_Z below #[Value.ref sb] s) (F0 m 749 ls []) := by
  obtain ⟨hx, hb, hr, hml, hown, hts0, hX, hbl, hlocks, hgv⟩ := id C0
  have hts : ∀ w ∈ v_L_law, w.before #[Value.ref sb] s = true := fun w h => hts0 w (in_v_L_law w h)
  have hown : s.vm.findClass RL = some m.cls := hown
  have hA : ∀ q : Nat, s.heap.size ≤ q → (fun q : Nat => s.heap.size ≤ q) q := fun _ h => h
  have hbA : ¬ (fun q : Nat => s.heap.size ≤ q) sb := Nat.not_le.mpr hbl
  have hNX : nX [(RX11, 9, yX8_init, "CardsAtYule"), (RX8, 17, yX4_init, "CardsAtYule"), (RX11, 18, yX4_init, "CardsAtYule"), (RX11, 29, yX0_init, "CardsAtYule"), (RX11, 36, yX2_init, "CardsAtYule"), (RX11, 43, yX3_init, "CardsAtYule"), (RX11, 50, yX1_init, "CardsAtYule"), (RX11, 57, yX9_init, "CardsAtYule"), (RX11, 64, yX7_init, "CardsAtYule"), (RX11, 71, yX6_init, "CardsAtYule"), (RX11, 78, yX5_init, "CardsAtYule")] s := hNX
  have hP := hP.sub (ws' := [(x, .inr (10, [.ref (b 0), .ref (b 1), .ref (b 2), .ref (b 3), .ref (b 4), .ref (b 5), .ref (b 6), .ref (b 7), .ref (b 8), .ref (b 9), .ref (b 10)])), ((b 1), .inr (4, [.int 0, .int 0, .int 0, .int 0, .int 0, .int 0, .long 0, .ref (b 21), .ref (b 22), .ref (b 23), .ref (b 24), .ref (b 25), .ref (b 26), .ref (b 27), .ref (b 28)])), (y, .inr (11, mO a)), ((a 16), .inl (cI, 5, .inl (fun _ => 0))), ((a 17), .inl (cI, 25, .inl (fun _ => 0)))]) [0, 12, 29, 35, 36] rfl
  have hD := hD.sub (ws' := [(x, .inr (10, [.ref (b 0), .ref (b 1), .ref (b 2), .ref (b 3), .ref (b 4), .ref (b 5), .ref (b 6), .ref (b 7), .ref (b 8), .ref (b 9), .ref (b 10)])), ((b 1), .inr (4, [.int 0, .int 0, .int 0, .int 0, .int 0, .int 0, .long 0, .ref (b 21), .ref (b 22), .ref (b 23), .ref (b 24), .ref (b 25), .ref (b 26), .ref (b 27), .ref (b 28)])), (y, .inr (11, mO a)), ((a 16), .inl (cI, 5, .inl (fun _ => 0))), ((a 17), .inl (cI, 25, .inl (fun _ => 0)))]) [0, 12, 29, 35, 36] (by decide) rfl
  refine lv_aload_n hx hb dL_law_749 rfl (lv_at hl 1 rfl) ?_
  refine lv_aload_n hx hb dL_law_750 rfl (lv_at hl 0 rfl) ?_
  refine lv_iload_n hx hb dL_law_751 rfl (lv_at hl 3 rfl) ?_
  refine lv_iconst (v := 1) hx hb dL_law_752 (by decide) ?_
  refine lv_iadd hx hb dL_law_753 ?_
  refine lv_topi (nm_r (e' := 1) (by decide) ?_)
  refine va_sld hx hb hX hbl hbA hS (vc_in (by decide)) dL_law_754 ?_
  refine lv_topi (nm_r (e' := xs 1) rfl ?_)
  refine lv_aload_n hx hb dL_law_755 rfl (lv_at hl 0 rfl) ?_
  refine lv_iload_n hx hb dL_law_756 rfl (lv_at hl 3 rfl) ?_
  refine lv_iconst (v := 2) hx hb dL_law_757 (by decide) ?_
  refine lv_iadd hx hb dL_law_758 ?_
  refine lv_topi (nm_r (e' := 2) (by decide) ?_)
  refine va_sld hx hb hX hbl hbA hS (vc_in (by decide)) dL_law_759 ?_
  refine lv_topi (nm_r (e' := xs 2) rfl ?_)
  refine ro_i (va_runV (As := [.int (xs 1), .int (xs 2)]) (rest := []) ⟨hx, hb, hml, hown, hts⟩ (k_X11_mantel l g cI cJ cB cZ cL x (b 0) (b 1) (b 2) (b 3) (b 4) (b 5) (b 6) (b 7) (b 8) (b 9) (b 10) (b 21) (b 22) (b 23) (b 24) (b 25) (b 26) (b 27) (b 28) (xs 1) (xs 2) ((xs 1).toInt) ((xs 2).toInt) H.size rfl rfl) (cwV 2 hts (goodIn_app (g_4 (List.mem_cons_of_mem _ (List.mem_append_left _ (List.mem_of_getElem? (i := 80) rfl))) (List.mem_cons_of_mem _ (List.mem_append_left _ (List.mem_of_getElem? (i := 81) rfl))) (List.mem_cons_of_mem _ (List.mem_append_left _ (List.mem_of_getElem? (i := 82) rfl))) (List.mem_cons_of_mem _ (List.mem_append_left _ (List.mem_of_getElem? (i := 3) rfl))) (by decide +kernel)) (goodIn_sub (fun _ h => List.mem_cons_of_mem _ (List.mem_append_right _ (List.mem_append_right _ (List.mem_append_right _ (List.mem_append_right _ (List.mem_append_right _ (List.mem_append_right _ (List.mem_append_right _ (List.mem_append_right _ (List.mem_append_right _ (List.mem_append_right _ (List.mem_append_right _ (List.mem_append_right _ (List.mem_append_right _ (List.mem_append_right _ (List.mem_append_right _ (List.mem_append_right _ (List.mem_append_right _ (List.mem_append_right _ (List.mem_append_right _ (List.mem_append_right _ (List.mem_append_right _ (List.mem_append_right _ (List.mem_append_right _ (List.mem_append_right _ (List.mem_append_right _ (List.mem_append_right _ (List.mem_append_right _ (List.mem_append_left _ h))))))))))))))))))))))))))))) good_v_X11_mantel)) rfl rfl rfl (by decide +kernel) ⟨Nat.le_of_ble_eq_true rfl, Nat.le_of_ble_eq_true rfl⟩) (pv_RO (q := (RX11, TX11, 11)) (ci := 10) (q0 := 0) (wc := [(x, .inr (10, [.ref (b 0), .ref (b 1), .ref (b 2), .ref (b 3), .ref (b 4), .ref (b 5), .ref (b 6), .ref (b 7), .ref (b 8), .ref (b 9), .ref (b 10)])), ((b 1), .inr (4, [.int 0, .int 0, .int 0, .int 0, .int 0, .int 0, .long 0, .ref (b 21), .ref (b 22), .ref (b 23), .ref (b 24), .ref (b 25), .ref (b 26), .ref (b 27), .ref (b 28)]))]) hK hP [0, 1] rfl rfl rfl) rfl rfl hl.1 rfl (lv_room (Nat.le_of_ble_eq_true rfl)) dL_law_760 ⟨Nat.le_of_ble_eq_true rfl, Nat.le_of_ble_eq_true rfl⟩) hS hA hP (fun r1 u2 H locs hw3 hP hS => ?_)
  subst hw3
  refine lv_aload_n hx hb dL_law_763 rfl (lv_at hl 2 rfl) ?_
  refine lv_aload_n hx hb dL_law_764 rfl (lv_at hl 0 rfl) ?_
  refine lv_iload_n hx hb dL_law_765 rfl (lv_at hl 3 rfl) ?_
  refine lv_iconst (v := 1) hx hb dL_law_766 (by decide) ?_
  refine lv_iadd hx hb dL_law_767 ?_
  refine lv_topi (nm_r (e' := 1) (by decide) ?_)
  refine va_sld hx hb hX hbl hbA hS (vc_in (by decide)) dL_law_768 ?_
  refine lv_topi (nm_r (e' := xs 1) rfl ?_)
  refine lv_aload_n hx hb dL_law_769 rfl (lv_at hl 0 rfl) ?_
  refine lv_iload_n hx hb dL_law_770 rfl (lv_at hl 3 rfl) ?_
  refine lv_iconst (v := 2) hx hb dL_law_771 (by decide) ?_
  refine lv_iadd hx hb dL_law_772 ?_
  refine lv_topi (nm_r (e' := 2) (by decide) ?_)
  refine va_sld hx hb hX hbl hbA hS (vc_in (by decide)) dL_law_773 ?_
  refine lv_topi (nm_r (e' := xs 2) rfl ?_)
  refine rw_i (wr := [(x, .inr (10, [.ref (b 0), .ref (b 1), .ref (b 2), .ref (b 3), .ref (b 4), .ref (b 5), .ref (b 6), .ref (b 7), .ref (b 8), .ref (b 9), .ref (b 10)])), ((b 1), .inr (4, [.int 0, .int 0, .int 0, .int 0, .int 0, .int 0, .long 0, .ref (b 21), .ref (b 22), .ref (b 23), .ref (b 24), .ref (b 25), .ref (b 26), .ref (b 27), .ref (b 28)]))]) (va_runV (As := [.int (xs 1), .int (xs 2)]) (rest := [.int (-2)]) ⟨hx, hb, hml, hown, hts⟩ (k_X12_mantel l g cI cJ cB cZ cL y a (xs 1) (xs 2) ((xs 1).toInt) ((xs 2).toInt) H.size rfl rfl) (cwV 2 hts (goodIn_app (g_4 (List.mem_cons_of_mem _ (List.mem_append_left _ (List.mem_of_getElem? (i := 83) rfl))) (List.mem_cons_of_mem _ (List.mem_append_left _ (List.mem_of_getElem? (i := 84) rfl))) (List.mem_cons_of_mem _ (List.mem_append_left _ (List.mem_of_getElem? (i := 85) rfl))) (List.mem_cons_of_mem _ (List.mem_append_left _ (List.mem_of_getElem? (i := 7) rfl))) (by decide +kernel)) (goodIn_sub (fun _ h => List.mem_cons_of_mem _ (List.mem_append_right _ (List.mem_append_right _ (List.mem_append_right _ (List.mem_append_right _ (List.mem_append_right _ (List.mem_append_right _ (List.mem_append_right _ (List.mem_append_right _ (List.mem_append_right _ (List.mem_append_right _ (List.mem_append_right _ (List.mem_append_right _ (List.mem_append_right _ (List.mem_append_right _ (List.mem_append_right _ (List.mem_append_right _ (List.mem_append_right _ (List.mem_append_right _ (List.mem_append_right _ (List.mem_append_right _ (List.mem_append_right _ (List.mem_append_right _ (List.mem_append_right _ (List.mem_append_right _ (List.mem_append_right _ (List.mem_append_right _ (List.mem_append_right _ (List.mem_append_right _ (List.mem_append_left _ h)))))))))))))))))))))))))))))) good_v_X12_mantel)) rfl rfl rfl (by decide +kernel) ⟨Nat.le_of_ble_eq_true rfl, Nat.le_of_ble_eq_true rfl⟩) (pv_RW (q := (RX12, TX12, 56)) (ci := 11) (q0 := 0) (wc := [(y, .inr (11, mO a)), ((a 17), .inl (cI, 25, .inl (fun _ => 0))), ((a 16), .inl (cI, 5, .inl (fun _ => 0)))]) hK hP hD [2, 4, 3] (by decide) rfl rfl rfl) rfl rfl hl.1 rfl (lv_room (Nat.le_of_ble_eq_true rfl)) dL_law_774 ⟨Nat.le_of_ble_eq_true rfl, Nat.le_of_ble_eq_true rfl⟩) hS hA hP hD [2, 4, 3] [0, 1] rfl rfl (by decide) (by decide) (fun r4 u5 H locs hw6 hP hD hS => ?_)
  have hP : va_P g vwCl [(x, .inr (10, [.ref (b 0), .ref (b 1), .ref (b 2), .ref (b 3), .ref (b 4), .ref (b 5), .ref (b 6), .ref (b 7), .ref (b 8), .ref (b 9), .ref (b 10)])), ((b 1), .inr (4, [.int 0, .int 0, .int 0, .int 0, .int 0, .int 0, .long 0, .ref (b 21), .ref (b 22), .ref (b 23), .ref (b 24), .ref (b 25), .ref (b 26), .ref (b 27), .ref (b 28)]))] H := hP
  have hD : va_D (fun q : Nat => s.heap.size ≤ q) [(x, .inr (10, [.ref (b 0), .ref (b 1), .ref (b 2), .ref (b 3), .ref (b 4), .ref (b 5), .ref (b 6), .ref (b 7), .ref (b 8), .ref (b 9), .ref (b 10)])), ((b 1), .inr (4, [.int 0, .int 0, .int 0, .int 0, .int 0, .int 0, .long 0, .ref (b 21), .ref (b 22), .ref (b 23), .ref (b 24), .ref (b 25), .ref (b 26), .ref (b 27), .ref (b 28)]))] := hD
  subst hw6
  refine lv_icmp_eq (tgt := 2463) hx hb dL_law_777 (by decide) (fun _ => ?_) (fun c7 => absurd c7 (by decide))
  refine lv_iinc (v := 6) (lv' := [(3, .int 6), (0, .ref sb), (1, .ref x), (2, .ref y)]) hx hb dL_law_2463 hl (k := 3) rfl (by decide) (by decide) rfl (fun ls hl => ?_)
  refine lv_goto (tgt := 18) hx hb dL_law_2466 (by decide) ?_
  refine lv_iload_n hx hb dL_law_18 rfl (lv_at hl 0 rfl) ?_
  refine lv_aload_n hx hb dL_law_19 rfl (lv_at hl 1 rfl) ?_
  refine va_slen hx hb hX hbl hbA hS dL_law_20 ?_
  refine lv_topi (nm_r (e' := 6) rfl ?_)
  refine lv_bipush (v := 6) hx hb dL_law_21 (by decide) ?_
  refine lv_isub hx hb dL_law_23 ?_
  refine lv_topi (nm_r (e' := 0) (by decide) ?_)
  refine lv_icmp_gt (tgt := 2469) hx hb dL_law_24 (by decide) (fun _ => ?_) (fun c8 => absurd c8 (by decide))
  refine lv_iconst (v := 1) hx hb dL_law_2469 (by decide) ?_
  refine va_forget (fun q hq => hS.2.2 q hq) ?_
  refine W.widen (k := 600000) (n := 7302250) (Nat.le_of_ble_eq_true rfl) (Nat.le_of_ble_eq_true rfl) ?_
  exact lw_ret hx hb hr hlocks dL_law_2470
set_option maxHeartbeats 4000000 in
set_option maxRecDepth 100000 in
theorem lw_c14 {p : Program} {e : Env} {s : State} {m : MethodId} {below : List Frame} {meth : Method} {c : Code} (l : Launch) {sb : Nat} {xs : Nat → Int32} (C0 : lw_At p s m meth c sb 6 xs) {g : va_G} {cI cJ cB cZ cL : ClassId} (hK : va_K g vwCl (tyT cI cJ cB cZ cL) s) (hNX : nX lwNest s) {x y : Nat} {b a : Nat → Nat} {fz fw : Nat → Int32} (hS_fz : ∀ k, k < 4 → fz k = (-1)) (hS_fw : ∀ k, k < 4 → fw k = (-1)) {H : Heap} {locs : List Loc} (hP : va_P g vwCl (LW cI cJ cB cZ cL x y b a fz fw) H) (hD : va_D (fun q : Nat => s.heap.size ≤ q) (LW cI cJ cB cZ cL x y b a fz fw)) (hS : va_S (fun q : Nat => s.heap.size ≤ q) s.heap H locs) {ls : Array Slot} (hl : lv_has ls 4 [(0, .ref sb), (1, .ref x), (2, .ref y), (3, .int 0)]) : W p l e room_1 s m #[Value.ref sb] below meth c H locs 1000 100000 (lw_Z below #[Value.ref sb] s) (F0 m 782 ls []) := by
  obtain ⟨hx, hb, hr, hml, hown, hts0, hX, hbl, hlocks, hgv⟩ := id C0
  have hts : ∀ w ∈ v_L_law, w.before #[Value.ref sb] s = true := fun w h => hts0 w (in_v_L_law w h)
  have hown : s.vm.findClass RL = some m.cls := hown
  have hA : ∀ q : Nat, s.heap.size ≤ q → (fun q : Nat => s.heap.size ≤ q) q := fun _ h => h
  have hbA : ¬ (fun q : Nat => s.heap.size ≤ q) sb := Nat.not_le.mpr hbl
  have hNX : nX [(RX11, 9, yX8_init, "CardsAtYule"), (RX8, 17, yX4_init, "CardsAtYule"), (RX11, 18, yX4_init, "CardsAtYule"), (RX11, 29, yX0_init, "CardsAtYule"), (RX11, 36, yX2_init, "CardsAtYule"), (RX11, 43, yX3_init, "CardsAtYule"), (RX11, 50, yX1_init, "CardsAtYule"), (RX11, 57, yX9_init, "CardsAtYule"), (RX11, 64, yX7_init, "CardsAtYule"), (RX11, 71, yX6_init, "CardsAtYule"), (RX11, 78, yX5_init, "CardsAtYule")] s := hNX
  have hP := hP.sub (ws' := [(x, .inr (10, [.ref (b 0), .ref (b 1), .ref (b 2), .ref (b 3), .ref (b 4), .ref (b 5), .ref (b 6), .ref (b 7), .ref (b 8), .ref (b 9), .ref (b 10)])), ((b 1), .inr (4, [.int 0, .int 0, .int 0, .int 0, .int 0, .int 0, .long 0, .ref (b 21), .ref (b 22), .ref (b 23), .ref (b 24), .ref (b 25), .ref (b 26), .ref (b 27), .ref (b 28)])), (y, .inr (11, mO a)), ((a 16), .inl (cI, 5, .inl (fun _ => 0))), ((a 17), .inl (cI, 25, .inl (fun _ => 0)))]) [0, 12, 29, 35, 36] rfl
  have hD := hD.sub (ws' := [(x, .inr (10, [.ref (b 0), .ref (b 1), .ref (b 2), .ref (b 3), .ref (b 4), .ref (b 5), .ref (b 6), .ref (b 7), .ref (b 8), .ref (b 9), .ref (b 10)])), ((b 1), .inr (4, [.int 0, .int 0, .int 0, .int 0, .int 0, .int 0, .long 0, .ref (b 21), .ref (b 22), .ref (b 23), .ref (b 24), .ref (b 25), .ref (b 26), .ref (b 27), .ref (b 28)])), (y, .inr (11, mO a)), ((a 16), .inl (cI, 5, .inl (fun _ => 0))), ((a 17), .inl (cI, 25, .inl (fun _ => 0)))]) [0, 12, 29, 35, 36] (by decide) rfl
  refine lv_aload_n hx hb dL_law_782 rfl (lv_at hl 1 rfl) ?_
  refine lv_aload_n hx hb dL_law_783 rfl (lv_at hl 0 rfl) ?_
  refine lv_iload_n hx hb dL_law_784 rfl (lv_at hl 3 rfl) ?_
  refine lv_iconst (v := 1) hx hb dL_law_785 (by decide) ?_
  refine lv_iadd hx hb dL_law_786 ?_
  refine lv_topi (nm_r (e' := 1) (by decide) ?_)
  refine va_sld hx hb hX hbl hbA hS (vc_in (by decide)) dL_law_787 ?_
  refine lv_topi (nm_r (e' := xs 1) rfl ?_)
  refine lv_aload_n hx hb dL_law_788 rfl (lv_at hl 0 rfl) ?_
  refine lv_iload_n hx hb dL_law_789 rfl (lv_at hl 3 rfl) ?_
  refine lv_iconst (v := 2) hx hb dL_law_790 (by decide) ?_
  refine lv_iadd hx hb dL_law_791 ?_
  refine lv_topi (nm_r (e' := 2) (by decide) ?_)
  refine va_sld hx hb hX hbl hbA hS (vc_in (by decide)) dL_law_792 ?_
  refine lv_topi (nm_r (e' := xs 2) rfl ?_)
  refine ro_i (va_runV (As := [.int (xs 1), .int (xs 2)]) (rest := []) ⟨hx, hb, hml, hown, hts⟩ (k_X11_whose l g cI cJ cB cZ cL x (b 0) (b 1) (b 2) (b 3) (b 4) (b 5) (b 6) (b 7) (b 8) (b 9) (b 10) (b 21) (b 22) (b 23) (b 24) (b 25) (b 26) (b 27) (b 28) (xs 1) (xs 2) ((xs 1).toInt) ((xs 2).toInt) H.size rfl rfl) (cwV 2 hts (goodIn_app (g_4 (List.mem_cons_of_mem _ (List.mem_append_left _ (List.mem_of_getElem? (i := 86) rfl))) (List.mem_cons_of_mem _ (List.mem_append_left _ (List.mem_of_getElem? (i := 87) rfl))) (List.mem_cons_of_mem _ (List.mem_append_left _ (List.mem_of_getElem? (i := 88) rfl))) (List.mem_cons_of_mem _ (List.mem_append_left _ (List.mem_of_getElem? (i := 3) rfl))) (by decide +kernel)) (goodIn_sub (fun _ h => List.mem_cons_of_mem _ (List.mem_append_right _ (List.mem_append_right _ (List.mem_append_right _ (List.mem_append_right _ (List.mem_append_right _ (List.mem_append_right _ (List.mem_append_right _ (List.mem_append_right _ (List.mem_append_right _ (List.mem_append_right _ (List.mem_append_right _ (List.mem_append_right _ (List.mem_append_right _ (List.mem_append_right _ (List.mem_append_right _ (List.mem_append_right _ (List.mem_append_right _ (List.mem_append_right _ (List.mem_append_right _ (List.mem_append_right _ (List.mem_append_right _ (List.mem_append_right _ (List.mem_append_right _ (List.mem_append_right _ (List.mem_append_right _ (List.mem_append_right _ (List.mem_append_right _ (List.mem_append_right _ (List.mem_append_right _ (List.mem_append_left _ h))))))))))))))))))))))))))))))) good_v_X11_whose)) rfl rfl rfl (by decide +kernel) ⟨Nat.le_of_ble_eq_true rfl, Nat.le_of_ble_eq_true rfl⟩) (pv_RO (q := (RX11, TX11, 11)) (ci := 10) (q0 := 0) (wc := [(x, .inr (10, [.ref (b 0), .ref (b 1), .ref (b 2), .ref (b 3), .ref (b 4), .ref (b 5), .ref (b 6), .ref (b 7), .ref (b 8), .ref (b 9), .ref (b 10)])), ((b 1), .inr (4, [.int 0, .int 0, .int 0, .int 0, .int 0, .int 0, .long 0, .ref (b 21), .ref (b 22), .ref (b 23), .ref (b 24), .ref (b 25), .ref (b 26), .ref (b 27), .ref (b 28)]))]) hK hP [0, 1] rfl rfl rfl) rfl rfl hl.1 rfl (lv_room (Nat.le_of_ble_eq_true rfl)) dL_law_793 ⟨Nat.le_of_ble_eq_true rfl, Nat.le_of_ble_eq_true rfl⟩) hS hA hP (fun r1 u2 H locs hw3 hP hS => ?_)
  subst hw3
  refine lv_aload_n hx hb dL_law_796 rfl (lv_at hl 2 rfl) ?_
  refine lv_aload_n hx hb dL_law_797 rfl (lv_at hl 0 rfl) ?_
  refine lv_iload_n hx hb dL_law_798 rfl (lv_at hl 3 rfl) ?_
  refine lv_iconst (v := 1) hx hb dL_law_799 (by decide) ?_
  refine lv_iadd hx hb dL_law_800 ?_
  refine lv_topi (nm_r (e' := 1) (by decide) ?_)
  refine va_sld hx hb hX hbl hbA hS (vc_in (by decide)) dL_law_801 ?_
  refine lv_topi (nm_r (e' := xs 1) rfl ?_)
  refine lv_aload_n hx hb dL_law_802 rfl (lv_at hl 0 rfl) ?_
  refine lv_iload_n hx hb dL_law_803 rfl (lv_at hl 3 rfl) ?_
  refine lv_iconst (v := 2) hx hb dL_law_804 (by decide) ?_
  refine lv_iadd hx hb dL_law_805 ?_
  refine lv_topi (nm_r (e' := 2) (by decide) ?_)
  refine va_sld hx hb hX hbl hbA hS (vc_in (by decide)) dL_law_806 ?_
  refine lv_topi (nm_r (e' := xs 2) rfl ?_)
  refine rw_i (wr := [(x, .inr (10, [.ref (b 0), .ref (b 1), .ref (b 2), .ref (b 3), .ref (b 4), .ref (b 5), .ref (b 6), .ref (b 7), .ref (b 8), .ref (b 9), .ref (b 10)])), ((b 1), .inr (4, [.int 0, .int 0, .int 0, .int 0, .int 0, .int 0, .long 0, .ref (b 21), .ref (b 22), .ref (b 23), .ref (b 24), .ref (b 25), .ref (b 26), .ref (b 27), .ref (b 28)]))]) (va_runV (As := [.int (xs 1), .int (xs 2)]) (rest := [.int (-2)]) ⟨hx, hb, hml, hown, hts⟩ (k_X12_whose l g cI cJ cB cZ cL y a (xs 1) (xs 2) ((xs 1).toInt) ((xs 2).toInt) H.size rfl rfl) (cwV 2 hts (goodIn_app (g_4 (List.mem_cons_of_mem _ (List.mem_append_left _ (List.mem_of_getElem? (i := 89) rfl))) (List.mem_cons_of_mem _ (List.mem_append_left _ (List.mem_of_getElem? (i := 90) rfl))) (List.mem_cons_of_mem _ (List.mem_append_left _ (List.mem_of_getElem? (i := 91) rfl))) (List.mem_cons_of_mem _ (List.mem_append_left _ (List.mem_of_getElem? (i := 7) rfl))) (by decide +kernel)) (goodIn_sub (fun _ h => List.mem_cons_of_mem _ (List.mem_append_right _ (List.mem_append_right _ (List.mem_append_right _ (List.mem_append_right _ (List.mem_append_right _ (List.mem_append_right _ (List.mem_append_right _ (List.mem_append_right _ (List.mem_append_right _ (List.mem_append_right _ (List.mem_append_right _ (List.mem_append_right _ (List.mem_append_right _ (List.mem_append_right _ (List.mem_append_right _ (List.mem_append_right _ (List.mem_append_right _ (List.mem_append_right _ (List.mem_append_right _ (List.mem_append_right _ (List.mem_append_right _ (List.mem_append_right _ (List.mem_append_right _ (List.mem_append_right _ (List.mem_append_right _ (List.mem_append_right _ (List.mem_append_right _ (List.mem_append_right _ (List.mem_append_right _ (List.mem_append_right _ (List.mem_append_left _ h)))))))))))))))))))))))))))))))) good_v_X12_whose)) rfl rfl rfl (by decide +kernel) ⟨Nat.le_of_ble_eq_true rfl, Nat.le_of_ble_eq_true rfl⟩) (pv_RW (q := (RX12, TX12, 56)) (ci := 11) (q0 := 0) (wc := [(y, .inr (11, mO a)), ((a 17), .inl (cI, 25, .inl (fun _ => 0))), ((a 16), .inl (cI, 5, .inl (fun _ => 0)))]) hK hP hD [2, 4, 3] (by decide) rfl rfl rfl) rfl rfl hl.1 rfl (lv_room (Nat.le_of_ble_eq_true rfl)) dL_law_807 ⟨Nat.le_of_ble_eq_true rfl, Nat.le_of_ble_eq_true rfl⟩) hS hA hP hD [2, 4, 3] [0, 1] rfl rfl (by decide) (by decide) (fun r4 u5 H locs hw6 hP hD hS => ?_)
  have hP : va_P g vwCl [(x, .inr (10, [.ref (b 0), .ref (b 1), .ref (b 2), .ref (b 3), .ref (b 4), .ref (b 5), .ref (b 6), .ref (b 7), .ref (b 8), .ref (b 9), .ref (b 10)])), ((b 1), .inr (4, [.int 0, .int 0, .int 0, .int 0, .int 0, .int 0, .long 0, .ref (b 21), .ref (b 22), .ref (b 23), .ref (b 24), .ref (b 25), .ref (b 26), .ref (b 27), .ref (b 28)]))] H := hP
  have hD : va_D (fun q : Nat => s.heap.size ≤ q) [(x, .inr (10, [.ref (b 0), .ref (b 1), .ref (b 2), .ref (b 3), .ref (b 4), .ref (b 5), .ref (b 6), .ref (b 7), .ref (b 8), .ref (b 9), .ref (b 10)])), ((b 1), .inr (4, [.int 0, .int 0, .int 0, .int 0, .int 0, .int 0, .long 0, .ref (b 21), .ref (b 22), .ref (b 23), .ref (b 24), .ref (b 25), .ref (b 26), .ref (b 27), .ref (b 28)]))] := hD
  subst hw6
  refine lv_icmp_eq (tgt := 2463) hx hb dL_law_810 (by decide) (fun _ => ?_) (fun c7 => absurd c7 (by decide))
  refine lv_iinc (v := 6) (lv' := [(3, .int 6), (0, .ref sb), (1, .ref x), (2, .ref y)]) hx hb dL_law_2463 hl (k := 3) rfl (by decide) (by decide) rfl (fun ls hl => ?_)
  refine lv_goto (tgt := 18) hx hb dL_law_2466 (by decide) ?_
  refine lv_iload_n hx hb dL_law_18 rfl (lv_at hl 0 rfl) ?_
  refine lv_aload_n hx hb dL_law_19 rfl (lv_at hl 1 rfl) ?_
  refine va_slen hx hb hX hbl hbA hS dL_law_20 ?_
  refine lv_topi (nm_r (e' := 6) rfl ?_)
  refine lv_bipush (v := 6) hx hb dL_law_21 (by decide) ?_
  refine lv_isub hx hb dL_law_23 ?_
  refine lv_topi (nm_r (e' := 0) (by decide) ?_)
  refine lv_icmp_gt (tgt := 2469) hx hb dL_law_24 (by decide) (fun _ => ?_) (fun c8 => absurd c8 (by decide))
  refine lv_iconst (v := 1) hx hb dL_law_2469 (by decide) ?_
  refine va_forget (fun q hq => hS.2.2 q hq) ?_
  refine W.widen (k := 600000) (n := 7302250) (Nat.le_of_ble_eq_true rfl) (Nat.le_of_ble_eq_true rfl) ?_
  exact lw_ret hx hb hr hlocks dL_law_2470
set_option maxHeartbeats 4000000 in
set_option maxRecDepth 100000 in
theorem lw_c15 {p : Program} {e : Env} {s : State} {m : MethodId} {below : List Frame} {meth : Method} {c : Code} (l : Launch) {sb : Nat} {xs : Nat → Int32} (C0 : lw_At p s m meth c sb 6 xs) {g : va_G} {cI cJ cB cZ cL : ClassId} (hK : va_K g vwCl (tyT cI cJ cB cZ cL) s) (hNX : nX lwNest s) {x y : Nat} {b a : Nat → Nat} {fz fw : Nat → Int32} (hS_fz : ∀ k, k < 4 → fz k = (-1)) (hS_fw : ∀ k, k < 4 → fw k = (-1)) {H : Heap} {locs : List Loc} (hP : va_P g vwCl (LW cI cJ cB cZ cL x y b a fz fw) H) (hD : va_D (fun q : Nat => s.heap.size ≤ q) (LW cI cJ cB cZ cL x y b a fz fw)) (hS : va_S (fun q : Nat => s.heap.size ≤ q) s.heap H locs) {ls : Array Slot} (hl : lv_has ls 4 [(0, .ref sb), (1, .ref x), (2, .ref y), (3, .int 0)]) : W p l e room_1 s m #[Value.ref sb] below meth c H locs 1000 100000 (lw_Z below #[Value.ref sb] s) (F0 m 815 ls []) := by
  obtain ⟨hx, hb, hr, hml, hown, hts0, hX, hbl, hlocks, hgv⟩ := id C0
  have hts : ∀ w ∈ v_L_law, w.before #[Value.ref sb] s = true := fun w h => hts0 w (in_v_L_law w h)
  have hown : s.vm.findClass RL = some m.cls := hown
  have hA : ∀ q : Nat, s.heap.size ≤ q → (fun q : Nat => s.heap.size ≤ q) q := fun _ h => h
  have hbA : ¬ (fun q : Nat => s.heap.size ≤ q) sb := Nat.not_le.mpr hbl
  have hNX : nX [(RX11, 9, yX8_init, "CardsAtYule"), (RX8, 17, yX4_init, "CardsAtYule"), (RX11, 18, yX4_init, "CardsAtYule"), (RX11, 29, yX0_init, "CardsAtYule"), (RX11, 36, yX2_init, "CardsAtYule"), (RX11, 43, yX3_init, "CardsAtYule"), (RX11, 50, yX1_init, "CardsAtYule"), (RX11, 57, yX9_init, "CardsAtYule"), (RX11, 64, yX7_init, "CardsAtYule"), (RX11, 71, yX6_init, "CardsAtYule"), (RX11, 78, yX5_init, "CardsAtYule")] s := hNX
  have hP := hP.sub (ws' := [(x, .inr (10, [.ref (b 0), .ref (b 1), .ref (b 2), .ref (b 3), .ref (b 4), .ref (b 5), .ref (b 6), .ref (b 7), .ref (b 8), .ref (b 9), .ref (b 10)])), ((b 1), .inr (4, [.int 0, .int 0, .int 0, .int 0, .int 0, .int 0, .long 0, .ref (b 21), .ref (b 22), .ref (b 23), .ref (b 24), .ref (b 25), .ref (b 26), .ref (b 27), .ref (b 28)])), (y, .inr (11, mO a)), ((a 16), .inl (cI, 5, .inl (fun _ => 0))), ((a 17), .inl (cI, 25, .inl (fun _ => 0)))]) [0, 12, 29, 35, 36] rfl
  have hD := hD.sub (ws' := [(x, .inr (10, [.ref (b 0), .ref (b 1), .ref (b 2), .ref (b 3), .ref (b 4), .ref (b 5), .ref (b 6), .ref (b 7), .ref (b 8), .ref (b 9), .ref (b 10)])), ((b 1), .inr (4, [.int 0, .int 0, .int 0, .int 0, .int 0, .int 0, .long 0, .ref (b 21), .ref (b 22), .ref (b 23), .ref (b 24), .ref (b 25), .ref (b 26), .ref (b 27), .ref (b 28)])), (y, .inr (11, mO a)), ((a 16), .inl (cI, 5, .inl (fun _ => 0))), ((a 17), .inl (cI, 25, .inl (fun _ => 0)))]) [0, 12, 29, 35, 36] (by decide) rfl
  refine lv_aload_n hx hb dL_law_815 rfl (lv_at hl 1 rfl) ?_
  refine lv_aload_n hx hb dL_law_816 rfl (lv_at hl 0 rfl) ?_
  refine lv_iload_n hx hb dL_law_817 rfl (lv_at hl 3 rfl) ?_
  refine lv_iconst (v := 1) hx hb dL_law_818 (by decide) ?_
  refine lv_iadd hx hb dL_law_819 ?_
  refine lv_topi (nm_r (e' := 1) (by decide) ?_)
  refine va_sld hx hb hX hbl hbA hS (vc_in (by decide)) dL_law_820 ?_
  refine lv_topi (nm_r (e' := xs 1) rfl ?_)
  refine lv_aload_n hx hb dL_law_821 rfl (lv_at hl 0 rfl) ?_
  refine lv_iload_n hx hb dL_law_822 rfl (lv_at hl 3 rfl) ?_
  refine lv_iconst (v := 2) hx hb dL_law_823 (by decide) ?_
  refine lv_iadd hx hb dL_law_824 ?_
  refine lv_topi (nm_r (e' := 2) (by decide) ?_)
  refine va_sld hx hb hX hbl hbA hS (vc_in (by decide)) dL_law_825 ?_
  refine lv_topi (nm_r (e' := xs 2) rfl ?_)
  refine ro_i (va_runV (As := [.int (xs 1), .int (xs 2)]) (rest := []) ⟨hx, hb, hml, hown, hts⟩ (k_X11_hurts l g cI cJ cB cZ cL x (b 0) (b 1) (b 2) (b 3) (b 4) (b 5) (b 6) (b 7) (b 8) (b 9) (b 10) (b 21) (b 22) (b 23) (b 24) (b 25) (b 26) (b 27) (b 28) (xs 1) (xs 2) ((xs 1).toInt) ((xs 2).toInt) H.size rfl rfl) (cwV 2 hts (goodIn_app (g_4 (List.mem_cons_of_mem _ (List.mem_append_left _ (List.mem_of_getElem? (i := 92) rfl))) (List.mem_cons_of_mem _ (List.mem_append_left _ (List.mem_of_getElem? (i := 93) rfl))) (List.mem_cons_of_mem _ (List.mem_append_left _ (List.mem_of_getElem? (i := 94) rfl))) (List.mem_cons_of_mem _ (List.mem_append_left _ (List.mem_of_getElem? (i := 3) rfl))) (by decide +kernel)) (goodIn_sub (fun _ h => List.mem_cons_of_mem _ (List.mem_append_right _ (List.mem_append_right _ (List.mem_append_right _ (List.mem_append_right _ (List.mem_append_right _ (List.mem_append_right _ (List.mem_append_right _ (List.mem_append_right _ (List.mem_append_right _ (List.mem_append_right _ (List.mem_append_right _ (List.mem_append_right _ (List.mem_append_right _ (List.mem_append_right _ (List.mem_append_right _ (List.mem_append_right _ (List.mem_append_right _ (List.mem_append_right _ (List.mem_append_right _ (List.mem_append_right _ (List.mem_append_right _ (List.mem_append_right _ (List.mem_append_right _ (List.mem_append_right _ (List.mem_append_right _ (List.mem_append_right _ (List.mem_append_right _ (List.mem_append_right _ (List.mem_append_right _ (List.mem_append_right _ (List.mem_append_right _ (List.mem_append_left _ h))))))))))))))))))))))))))))))))) good_v_X11_hurts)) rfl rfl rfl (by decide +kernel) ⟨Nat.le_of_ble_eq_true rfl, Nat.le_of_ble_eq_true rfl⟩) (pv_RO (q := (RX11, TX11, 11)) (ci := 10) (q0 := 0) (wc := [(x, .inr (10, [.ref (b 0), .ref (b 1), .ref (b 2), .ref (b 3), .ref (b 4), .ref (b 5), .ref (b 6), .ref (b 7), .ref (b 8), .ref (b 9), .ref (b 10)])), ((b 1), .inr (4, [.int 0, .int 0, .int 0, .int 0, .int 0, .int 0, .long 0, .ref (b 21), .ref (b 22), .ref (b 23), .ref (b 24), .ref (b 25), .ref (b 26), .ref (b 27), .ref (b 28)]))]) hK hP [0, 1] rfl rfl rfl) rfl rfl hl.1 rfl (lv_room (Nat.le_of_ble_eq_true rfl)) dL_law_826 ⟨Nat.le_of_ble_eq_true rfl, Nat.le_of_ble_eq_true rfl⟩) hS hA hP (fun r1 u2 H locs hw3 hP hS => ?_)
  subst hw3
  refine lv_aload_n hx hb dL_law_829 rfl (lv_at hl 2 rfl) ?_
  refine lv_aload_n hx hb dL_law_830 rfl (lv_at hl 0 rfl) ?_
  refine lv_iload_n hx hb dL_law_831 rfl (lv_at hl 3 rfl) ?_
  refine lv_iconst (v := 1) hx hb dL_law_832 (by decide) ?_
  refine lv_iadd hx hb dL_law_833 ?_
  refine lv_topi (nm_r (e' := 1) (by decide) ?_)
  refine va_sld hx hb hX hbl hbA hS (vc_in (by decide)) dL_law_834 ?_
  refine lv_topi (nm_r (e' := xs 1) rfl ?_)
  refine lv_aload_n hx hb dL_law_835 rfl (lv_at hl 0 rfl) ?_
  refine lv_iload_n hx hb dL_law_836 rfl (lv_at hl 3 rfl) ?_
  refine lv_iconst (v := 2) hx hb dL_law_837 (by decide) ?_
  refine lv_iadd hx hb dL_law_838 ?_
  refine lv_topi (nm_r (e' := 2) (by decide) ?_)
  refine va_sld hx hb hX hbl hbA hS (vc_in (by decide)) dL_law_839 ?_
  refine lv_topi (nm_r (e' := xs 2) rfl ?_)
  refine rw_i (wr := [(x, .inr (10, [.ref (b 0), .ref (b 1), .ref (b 2), .ref (b 3), .ref (b 4), .ref (b 5), .ref (b 6), .ref (b 7), .ref (b 8), .ref (b 9), .ref (b 10)])), ((b 1), .inr (4, [.int 0, .int 0, .int 0, .int 0, .int 0, .int 0, .long 0, .ref (b 21), .ref (b 22), .ref (b 23), .ref (b 24), .ref (b 25), .ref (b 26), .ref (b 27), .ref (b 28)]))]) (va_runV (As := [.int (xs 1), .int (xs 2)]) (rest := [.int (-2)]) ⟨hx, hb, hml, hown, hts⟩ (k_X12_hurts l g cI cJ cB cZ cL y a (xs 1) (xs 2) ((xs 1).toInt) ((xs 2).toInt) H.size rfl rfl) (cwV 2 hts (goodIn_app (g_4 (List.mem_cons_of_mem _ (List.mem_append_left _ (List.mem_of_getElem? (i := 95) rfl))) (List.mem_cons_of_mem _ (List.mem_append_left _ (List.mem_of_getElem? (i := 96) rfl))) (List.mem_cons_of_mem _ (List.mem_append_left _ (List.mem_of_getElem? (i := 97) rfl))) (List.mem_cons_of_mem _ (List.mem_append_left _ (List.mem_of_getElem? (i := 7) rfl))) (by decide +kernel)) (goodIn_sub (fun _ h => List.mem_cons_of_mem _ (List.mem_append_right _ (List.mem_append_right _ (List.mem_append_right _ (List.mem_append_right _ (List.mem_append_right _ (List.mem_append_right _ (List.mem_append_right _ (List.mem_append_right _ (List.mem_append_right _ (List.mem_append_right _ (List.mem_append_right _ (List.mem_append_right _ (List.mem_append_right _ (List.mem_append_right _ (List.mem_append_right _ (List.mem_append_right _ (List.mem_append_right _ (List.mem_append_right _ (List.mem_append_right _ (List.mem_append_right _ (List.mem_append_right _ (List.mem_append_right _ (List.mem_append_right _ (List.mem_append_right _ (List.mem_append_right _ (List.mem_append_right _ (List.mem_append_right _ (List.mem_append_right _ (List.mem_append_right _ (List.mem_append_right _ (List.mem_append_right _ (List.mem_append_right _ (List.mem_append_left _ h)))))))))))))))))))))))))))))))))) good_v_X12_hurts)) rfl rfl rfl (by decide +kernel) ⟨Nat.le_of_ble_eq_true rfl, Nat.le_of_ble_eq_true rfl⟩) (pv_RW (q := (RX12, TX12, 56)) (ci := 11) (q0 := 0) (wc := [(y, .inr (11, mO a)), ((a 17), .inl (cI, 25, .inl (fun _ => 0))), ((a 16), .inl (cI, 5, .inl (fun _ => 0)))]) hK hP hD [2, 4, 3] (by decide) rfl rfl rfl) rfl rfl hl.1 rfl (lv_room (Nat.le_of_ble_eq_true rfl)) dL_law_840 ⟨Nat.le_of_ble_eq_true rfl, Nat.le_of_ble_eq_true rfl⟩) hS hA hP hD [2, 4, 3] [0, 1] rfl rfl (by decide) (by decide) (fun r4 u5 H locs hw6 hP hD hS => ?_)
  have hP : va_P g vwCl [(x, .inr (10, [.ref (b 0), .ref (b 1), .ref (b 2), .ref (b 3), .ref (b 4), .ref (b 5), .ref (b 6), .ref (b 7), .ref (b 8), .ref (b 9), .ref (b 10)])), ((b 1), .inr (4, [.int 0, .int 0, .int 0, .int 0, .int 0, .int 0, .long 0, .ref (b 21), .ref (b 22), .ref (b 23), .ref (b 24), .ref (b 25), .ref (b 26), .ref (b 27), .ref (b 28)]))] H := hP
  have hD : va_D (fun q : Nat => s.heap.size ≤ q) [(x, .inr (10, [.ref (b 0), .ref (b 1), .ref (b 2), .ref (b 3), .ref (b 4), .ref (b 5), .ref (b 6), .ref (b 7), .ref (b 8), .ref (b 9), .ref (b 10)])), ((b 1), .inr (4, [.int 0, .int 0, .int 0, .int 0, .int 0, .int 0, .long 0, .ref (b 21), .ref (b 22), .ref (b 23), .ref (b 24), .ref (b 25), .ref (b 26), .ref (b 27), .ref (b 28)]))] := hD
  subst hw6
  refine lv_icmp_eq (tgt := 2463) hx hb dL_law_843 (by decide) (fun _ => ?_) (fun c7 => absurd c7 (by decide))
  refine lv_iinc (v := 6) (lv' := [(3, .int 6), (0, .ref sb), (1, .ref x), (2, .ref y)]) hx hb dL_law_2463 hl (k := 3) rfl (by decide) (by decide) rfl (fun ls hl => ?_)
  refine lv_goto (tgt := 18) hx hb dL_law_2466 (by decide) ?_
  refine lv_iload_n hx hb dL_law_18 rfl (lv_at hl 0 rfl) ?_
  refine lv_aload_n hx hb dL_law_19 rfl (lv_at hl 1 rfl) ?_
  refine va_slen hx hb hX hbl hbA hS dL_law_20 ?_
  refine lv_topi (nm_r (e' := 6) rfl ?_)
  refine lv_bipush (v := 6) hx hb dL_law_21 (by decide) ?_
  refine lv_isub hx hb dL_law_23 ?_
  refine lv_topi (nm_r (e' := 0) (by decide) ?_)
  refine lv_icmp_gt (tgt := 2469) hx hb dL_law_24 (by decide) (fun _ => ?_) (fun c8 => absurd c8 (by decide))
  refine lv_iconst (v := 1) hx hb dL_law_2469 (by decide) ?_
  refine va_forget (fun q hq => hS.2.2 q hq) ?_
  refine W.widen (k := 600000) (n := 7302250) (Nat.le_of_ble_eq_true rfl) (Nat.le_of_ble_eq_true rfl) ?_
  exact lw_ret hx hb hr hlocks dL_law_2470
