set_option maxHeartbeats 4000000 in
set_option maxRecDepth 100000 in
theorem lw_c0 {p : Program} {e : Env} {s : State} {m : MethodId} {below : List Frame} {meth : Method} {c : Code} (l : Launch) {sb L : Nat} {xs : Nat → Int32} (hL : L ≤ 3072) (C0 : lw_At p s m meth c sb L xs) {g : va_G} {cI cJ cB cZ cL : ClassId} (hK : va_K g vwCl (tyT cI cJ cB cZ cL) s) {kA vA : Nat → Nat} (hE : ENV kA vA (fun q : Nat => s.heap.size ≤ q) s) {x y : Nat} {ii : Nat} (h6 : ii + 6 ≤ L) (hend : ∀ (H : Heap) (locs : List Loc) (ls : Array Slot) (XT M : va_W) (sw sn ki mw mn kp : Nat → Int32) (hXT : XTSt cI cJ cB cZ cL x sw sn ki XT) (hM : MSt cI cJ cB cZ cL y mw mn kp M) (hJ : JJ sw sn ki mw mn kp) (hP : va_P g vwCl (XT ++ M) H) (hD : va_D (fun q : Nat => s.heap.size ≤ q) (XT ++ M)) (hS : va_S (fun q : Nat => s.heap.size ≤ q) s.heap H locs) (hl : lv_has ls 4 [(0, .ref sb), (1, .ref x), (2, .ref y), (3, .int (nI ii))]), W p l e room_1 s m #[Value.ref sb] below meth c H locs (1009 + 2 * ii) (100145 + 25 * ii) (lw_Z below #[Value.ref sb] s) (F0 m 2459 ls [])) (H : Heap) (locs : List Loc) (ls : Array Slot) (XT M : va_W) (sw sn ki mw mn kp : Nat → Int32) (hXT : XTSt cI cJ cB cZ cL x sw sn ki XT) (hM : MSt cI cJ cB cZ cL y mw mn kp M) (hJ : JJ sw sn ki mw mn kp) (hP : va_P g vwCl (XT ++ M) H) (hD : va_D (fun q : Nat => s.heap.size ≤ q) (XT ++ M)) (hS : va_S (fun q : Nat => s.heap.size ≤ q) s.heap H locs) (hl : lv_has ls 4 [(0, .ref sb), (1, .ref x), (2, .ref y), (3, .int (nI ii))]) : W p l e room_1 s m #[Value.ref sb] below meth c H locs (1000 + 2 * ii) (100000 + 25 * ii) (lw_Z below #[Value.ref sb] s) (F0 m 300 ls []) := by
  obtain ⟨hx, hb, hr, hml, hown, hts0, hX, hbl, hlocks, hgv⟩ := id C0
  have hts : ∀ w ∈ v_L_law, w.before #[Value.ref sb] s = true := fun w h => hts0 w (in_v_L_law w h)
  have hown : s.vm.findClass RL = some m.cls := hown
  have hA : ∀ q : Nat, s.heap.size ≤ q → (fun q : Nat => s.heap.size ≤ q) q := fun _ h => h
  have hbA : ¬ (fun q : Nat => s.heap.size ≤ q) sb := Nat.not_le.mpr hbl
  refine lv_aload_n hx hb dL_law_300 rfl (lv_at hl 1 rfl) ?_
  refine lv_aload_n hx hb dL_law_301 rfl (lv_at hl 0 rfl) ?_
  refine lv_iload_n hx hb dL_law_302 rfl (lv_at hl 3 rfl) ?_
  refine lv_iconst (v := 1) hx hb dL_law_303 (by decide) ?_
  refine lv_iadd hx hb dL_law_304 ?_
  refine va_sld hx hb hX hbl hbA hS (lw_ix 1 h6 hL (by decide)) dL_law_305 ?_
  refine lv_topi (nm_r (e' := xs (nI ii + 1).toNatClampNeg) rfl ?_)
  refine lv_aload_n hx hb dL_law_306 rfl (lv_at hl 0 rfl) ?_
  refine lv_iload_n hx hb dL_law_307 rfl (lv_at hl 3 rfl) ?_
  refine lv_iconst (v := 2) hx hb dL_law_308 (by decide) ?_
  refine lv_iadd hx hb dL_law_309 ?_
  refine va_sld hx hb hX hbl hbA hS (lw_ix 2 h6 hL (by decide)) dL_law_310 ?_
  refine lv_topi (nm_r (e' := xs (nI ii + 2).toNatClampNeg) rfl ?_)
  refine lv_aload_n hx hb dL_law_311 rfl (lv_at hl 0 rfl) ?_
  refine lv_iload_n hx hb dL_law_312 rfl (lv_at hl 3 rfl) ?_
  refine lv_iconst (v := 3) hx hb dL_law_313 (by decide) ?_
  refine lv_iadd hx hb dL_law_314 ?_
  refine va_sld hx hb hX hbl hbA hS (lw_ix 3 h6 hL (by decide)) dL_law_315 ?_
  refine lv_topi (nm_r (e' := xs (nI ii + 3).toNatClampNeg) rfl ?_)
  refine lv_aload_n hx hb dL_law_316 rfl (lv_at hl 0 rfl) ?_
  refine lv_iload_n hx hb dL_law_317 rfl (lv_at hl 3 rfl) ?_
  refine lv_iconst (v := 4) hx hb dL_law_318 (by decide) ?_
  refine lv_iadd hx hb dL_law_319 ?_
  refine va_sld hx hb hX hbl hbA hS (lw_ix 4 h6 hL (by decide)) dL_law_320 ?_
  refine lv_topi (nm_r (e' := xs (nI ii + 4).toNatClampNeg) rfl ?_)
  refine lv_aload_n hx hb dL_law_321 rfl (lv_at hl 0 rfl) ?_
  refine lv_iload_n hx hb dL_law_322 rfl (lv_at hl 3 rfl) ?_
  refine lv_iconst (v := 5) hx hb dL_law_323 (by decide) ?_
  refine lv_iadd hx hb dL_law_324 ?_
  refine va_sld hx hb hX hbl hbA hS (lw_ix 5 h6 hL (by decide)) dL_law_325 ?_
  refine lv_topi (nm_r (e' := xs (nI ii + 5).toNatClampNeg) rfl ?_)
  refine lc_i (X := XT) (Rr := M) (va_runV (As := [.int (xs (nI ii + 1).toNatClampNeg), .int (xs (nI ii + 2).toNatClampNeg), .int (xs (nI ii + 3).toNatClampNeg), .int (xs (nI ii + 4).toNatClampNeg), .int (xs (nI ii + 5).toNatClampNeg)]) (rest := []) ⟨hx, hb, hml, hown, hts⟩ (lift_i (fun im X hX => cx_X11_feed l g cI cJ cB cZ cL kA vA x im X H.size hX (xs (nI ii + 1).toNatClampNeg) (xs (nI ii + 2).toNatClampNeg) (xs (nI ii + 3).toNatClampNeg) (xs (nI ii + 4).toNatClampNeg) (xs (nI ii + 5).toNatClampNeg)) hXT) (cwV 5 hts (goodIn_app (g_4 (List.mem_cons_of_mem _ (List.mem_append_left _ (List.mem_of_getElem? (i := 0) rfl))) (List.mem_cons_of_mem _ (List.mem_append_left _ (List.mem_of_getElem? (i := 1) rfl))) (List.mem_cons_of_mem _ (List.mem_append_left _ (List.mem_of_getElem? (i := 2) rfl))) (List.mem_cons_of_mem _ (List.mem_append_left _ (List.mem_of_getElem? (i := 3) rfl))) (by decide +kernel)) (goodIn_sub ml_v_X11_feed good_v_X11_feed)) rfl rfl rfl (by decide +kernel) ⟨Nat.le_of_ble_eq_true rfl, Nat.le_of_ble_eq_true rfl⟩) (lc_pre (ci := 10) (q := (RX11, TX11, 11)) hK hE hS hA hP hD rfl (xt_mem hXT)) rfl rfl hl.1 rfl (lv_room (Nat.le_of_ble_eq_true rfl)) dL_law_326 ⟨(by show (1000 + 2 * ii) + 0 ≤ 600000; omega), (by show (100000 + 25 * ii) + 0 ≤ 7302250; omega)⟩) hS hA hP hD (fun r326 W1 H locs hz326 hP hD hS => ?_)
  obtain ⟨hr326, hW1⟩ := hz326
  refine lv_pop hx hb dL_law_329 rfl ?_
  refine lv_aload_n hx hb dL_law_330 rfl (lv_at hl 2 rfl) ?_
  refine lv_aload_n hx hb dL_law_331 rfl (lv_at hl 0 rfl) ?_
  refine lv_iload_n hx hb dL_law_332 rfl (lv_at hl 3 rfl) ?_
  refine lv_iconst (v := 1) hx hb dL_law_333 (by decide) ?_
  refine lv_iadd hx hb dL_law_334 ?_
  refine va_sld hx hb hX hbl hbA hS (lw_ix 1 h6 hL (by decide)) dL_law_335 ?_
  refine lv_topi (nm_r (e' := xs (nI ii + 1).toNatClampNeg) rfl ?_)
  refine lv_aload_n hx hb dL_law_336 rfl (lv_at hl 0 rfl) ?_
  refine lv_iload_n hx hb dL_law_337 rfl (lv_at hl 3 rfl) ?_
  refine lv_iconst (v := 2) hx hb dL_law_338 (by decide) ?_
  refine lv_iadd hx hb dL_law_339 ?_
  refine va_sld hx hb hX hbl hbA hS (lw_ix 2 h6 hL (by decide)) dL_law_340 ?_
  refine lv_topi (nm_r (e' := xs (nI ii + 2).toNatClampNeg) rfl ?_)
  refine lv_aload_n hx hb dL_law_341 rfl (lv_at hl 0 rfl) ?_
  refine lv_iload_n hx hb dL_law_342 rfl (lv_at hl 3 rfl) ?_
  refine lv_iconst (v := 3) hx hb dL_law_343 (by decide) ?_
  refine lv_iadd hx hb dL_law_344 ?_
  refine va_sld hx hb hX hbl hbA hS (lw_ix 3 h6 hL (by decide)) dL_law_345 ?_
  refine lv_topi (nm_r (e' := xs (nI ii + 3).toNatClampNeg) rfl ?_)
  refine lv_aload_n hx hb dL_law_346 rfl (lv_at hl 0 rfl) ?_
  refine lv_iload_n hx hb dL_law_347 rfl (lv_at hl 3 rfl) ?_
  refine lv_iconst (v := 4) hx hb dL_law_348 (by decide) ?_
  refine lv_iadd hx hb dL_law_349 ?_
  refine va_sld hx hb hX hbl hbA hS (lw_ix 4 h6 hL (by decide)) dL_law_350 ?_
  refine lv_topi (nm_r (e' := xs (nI ii + 4).toNatClampNeg) rfl ?_)
  refine lv_aload_n hx hb dL_law_351 rfl (lv_at hl 0 rfl) ?_
  refine lv_iload_n hx hb dL_law_352 rfl (lv_at hl 3 rfl) ?_
  refine lv_iconst (v := 5) hx hb dL_law_353 (by decide) ?_
  refine lv_iadd hx hb dL_law_354 ?_
  refine va_sld hx hb hX hbl hbA hS (lw_ix 5 h6 hL (by decide)) dL_law_355 ?_
  refine lv_topi (nm_r (e' := xs (nI ii + 5).toNatClampNeg) rfl ?_)
  have hP := pm_Pp List.perm_append_comm hP
  have hD := pm_Dp List.perm_append_comm hD
  refine lc_i (X := M) (Rr := W1) (va_runV (As := [.int (xs (nI ii + 1).toNatClampNeg), .int (xs (nI ii + 2).toNatClampNeg), .int (xs (nI ii + 3).toNatClampNeg), .int (xs (nI ii + 4).toNatClampNeg), .int (xs (nI ii + 5).toNatClampNeg)]) (rest := []) ⟨hx, hb, hml, hown, hts⟩ (cm_X12_feed l g cI cJ cB cZ cL kA vA y M H.size hM (xs (nI ii + 1).toNatClampNeg) (xs (nI ii + 2).toNatClampNeg) (xs (nI ii + 3).toNatClampNeg) (xs (nI ii + 4).toNatClampNeg) (xs (nI ii + 5).toNatClampNeg)) (cwV 5 hts (goodIn_app (g_4 (List.mem_cons_of_mem _ (List.mem_append_left _ (List.mem_of_getElem? (i := 4) rfl))) (List.mem_cons_of_mem _ (List.mem_append_left _ (List.mem_of_getElem? (i := 5) rfl))) (List.mem_cons_of_mem _ (List.mem_append_left _ (List.mem_of_getElem? (i := 6) rfl))) (List.mem_cons_of_mem _ (List.mem_append_left _ (List.mem_of_getElem? (i := 7) rfl))) (by decide +kernel)) (goodIn_sub ml_v_X12_feed good_v_X12_feed)) rfl rfl rfl (by decide +kernel) ⟨Nat.le_of_ble_eq_true rfl, Nat.le_of_ble_eq_true rfl⟩) (lc_pre (ci := 11) (q := (RX12, TX12, 56)) hK hE hS hA hP hD rfl (mt_mem hM)) rfl rfl hl.1 rfl (lv_room (Nat.le_of_ble_eq_true rfl)) dL_law_356 ⟨(by show (1000 + 2 * ii) + 0 + 0 ≤ 600000; omega), (by show (100000 + 25 * ii) + 0 + 0 ≤ 7302250; omega)⟩) hS hA hP hD (fun r356 W2 H locs hz356 hP hD hS => ?_)
  obtain ⟨hr356, hW2⟩ := hz356
  have hP := pm_Pp List.perm_append_comm hP
  have hD := pm_Dp List.perm_append_comm hD
  refine lv_pop hx hb dL_law_359 rfl ?_
  refine lv_goto (tgt := 2459) hx hb dL_law_360 (by decide) ?_
  refine W.widen (k := 1009 + 2 * ii) (n := 100145 + 25 * ii) (by omega) (by omega) ?_
  exact hend _ _ _ W1 W2 _ _ _ _ _ _ hW1 hW2 hJ hP hD hS hl
set_option maxHeartbeats 4000000 in
set_option maxRecDepth 100000 in
theorem lw_c1 {p : Program} {e : Env} {s : State} {m : MethodId} {below : List Frame} {meth : Method} {c : Code} (l : Launch) {sb L : Nat} {xs : Nat → Int32} (hL : L ≤ 3072) (C0 : lw_At p s m meth c sb L xs) {g : va_G} {cI cJ cB cZ cL : ClassId} (hK : va_K g vwCl (tyT cI cJ cB cZ cL) s) {kA vA : Nat → Nat} (hE : ENV kA vA (fun q : Nat => s.heap.size ≤ q) s) {x y : Nat} {ii : Nat} (h6 : ii + 6 ≤ L) (hend : ∀ (H : Heap) (locs : List Loc) (ls : Array Slot) (XT M : va_W) (sw sn ki mw mn kp : Nat → Int32) (hXT : XTSt cI cJ cB cZ cL x sw sn ki XT) (hM : MSt cI cJ cB cZ cL y mw mn kp M) (hJ : JJ sw sn ki mw mn kp) (hP : va_P g vwCl (XT ++ M) H) (hD : va_D (fun q : Nat => s.heap.size ≤ q) (XT ++ M)) (hS : va_S (fun q : Nat => s.heap.size ≤ q) s.heap H locs) (hl : lv_has ls 4 [(0, .ref sb), (1, .ref x), (2, .ref y), (3, .int (nI ii))]), W p l e room_1 s m #[Value.ref sb] below meth c H locs (1009 + 2 * ii) (100145 + 25 * ii) (lw_Z below #[Value.ref sb] s) (F0 m 2459 ls [])) (H : Heap) (locs : List Loc) (ls : Array Slot) (XT M : va_W) (sw sn ki mw mn kp : Nat → Int32) (hXT : XTSt cI cJ cB cZ cL x sw sn ki XT) (hM : MSt cI cJ cB cZ cL y mw mn kp M) (hJ : JJ sw sn ki mw mn kp) (hP : va_P g vwCl (XT ++ M) H) (hD : va_D (fun q : Nat => s.heap.size ≤ q) (XT ++ M)) (hS : va_S (fun q : Nat => s.heap.size ≤ q) s.heap H locs) (hl : lv_has ls 4 [(0, .ref sb), (1, .ref x), (2, .ref y), (3, .int (nI ii))]) : W p l e room_1 s m #[Value.ref sb] below meth c H locs (1000 + 2 * ii) (100000 + 25 * ii) (lw_Z below #[Value.ref sb] s) (F0 m 363 ls []) := by
  obtain ⟨hx, hb, hr, hml, hown, hts0, hX, hbl, hlocks, hgv⟩ := id C0
  have hts : ∀ w ∈ v_L_law, w.before #[Value.ref sb] s = true := fun w h => hts0 w (in_v_L_law w h)
  have hown : s.vm.findClass RL = some m.cls := hown
  have hA : ∀ q : Nat, s.heap.size ≤ q → (fun q : Nat => s.heap.size ≤ q) q := fun _ h => h
  have hbA : ¬ (fun q : Nat => s.heap.size ≤ q) sb := Nat.not_le.mpr hbl
  refine lv_aload_n hx hb dL_law_363 rfl (lv_at hl 1 rfl) ?_
  refine lv_aload_n hx hb dL_law_364 rfl (lv_at hl 0 rfl) ?_
  refine lv_iload_n hx hb dL_law_365 rfl (lv_at hl 3 rfl) ?_
  refine lv_iconst (v := 1) hx hb dL_law_366 (by decide) ?_
  refine lv_iadd hx hb dL_law_367 ?_
  refine va_sld hx hb hX hbl hbA hS (lw_ix 1 h6 hL (by decide)) dL_law_368 ?_
  refine lv_topi (nm_r (e' := xs (nI ii + 1).toNatClampNeg) rfl ?_)
  refine lc_i (X := XT) (Rr := M) (va_runV (As := [.int (xs (nI ii + 1).toNatClampNeg)]) (rest := []) ⟨hx, hb, hml, hown, hts⟩ (lift_i (fun im X hX => cx_X11_end l g cI cJ cB cZ cL kA vA x im X H.size hX (xs (nI ii + 1).toNatClampNeg)) hXT) (cwV 1 hts (goodIn_app (g_4 (List.mem_cons_of_mem _ (List.mem_append_left _ (List.mem_of_getElem? (i := 8) rfl))) (List.mem_cons_of_mem _ (List.mem_append_left _ (List.mem_of_getElem? (i := 9) rfl))) (List.mem_cons_of_mem _ (List.mem_append_left _ (List.mem_of_getElem? (i := 10) rfl))) (List.mem_cons_of_mem _ (List.mem_append_left _ (List.mem_of_getElem? (i := 3) rfl))) (by decide +kernel)) (goodIn_sub ml_v_X11_end good_v_X11_end)) rfl rfl rfl (by decide +kernel) ⟨Nat.le_of_ble_eq_true rfl, Nat.le_of_ble_eq_true rfl⟩) (lc_pre (ci := 10) (q := (RX11, TX11, 11)) hK hE hS hA hP hD rfl (xt_mem hXT)) rfl rfl hl.1 rfl (lv_room (Nat.le_of_ble_eq_true rfl)) dL_law_369 ⟨(by show (1000 + 2 * ii) + 0 ≤ 600000; omega), (by show (100000 + 25 * ii) + 0 ≤ 7302250; omega)⟩) hS hA hP hD (fun r369 W1 H locs hz369 hP hD hS => ?_)
  obtain ⟨hr369, hW1⟩ := hz369
  refine lv_pop hx hb dL_law_372 rfl ?_
  refine lv_aload_n hx hb dL_law_373 rfl (lv_at hl 2 rfl) ?_
  refine lv_aload_n hx hb dL_law_374 rfl (lv_at hl 0 rfl) ?_
  refine lv_iload_n hx hb dL_law_375 rfl (lv_at hl 3 rfl) ?_
  refine lv_iconst (v := 1) hx hb dL_law_376 (by decide) ?_
  refine lv_iadd hx hb dL_law_377 ?_
  refine va_sld hx hb hX hbl hbA hS (lw_ix 1 h6 hL (by decide)) dL_law_378 ?_
  refine lv_topi (nm_r (e' := xs (nI ii + 1).toNatClampNeg) rfl ?_)
  have hP := pm_Pp List.perm_append_comm hP
  have hD := pm_Dp List.perm_append_comm hD
  refine lc_i (X := M) (Rr := W1) (va_runV (As := [.int (xs (nI ii + 1).toNatClampNeg)]) (rest := []) ⟨hx, hb, hml, hown, hts⟩ (cm_X12_end l g cI cJ cB cZ cL kA vA y M H.size hM (xs (nI ii + 1).toNatClampNeg)) (cwV 1 hts (goodIn_app (g_4 (List.mem_cons_of_mem _ (List.mem_append_left _ (List.mem_of_getElem? (i := 11) rfl))) (List.mem_cons_of_mem _ (List.mem_append_left _ (List.mem_of_getElem? (i := 12) rfl))) (List.mem_cons_of_mem _ (List.mem_append_left _ (List.mem_of_getElem? (i := 13) rfl))) (List.mem_cons_of_mem _ (List.mem_append_left _ (List.mem_of_getElem? (i := 7) rfl))) (by decide +kernel)) (goodIn_sub ml_v_X12_end good_v_X12_end)) rfl rfl rfl (by decide +kernel) ⟨Nat.le_of_ble_eq_true rfl, Nat.le_of_ble_eq_true rfl⟩) (lc_pre (ci := 11) (q := (RX12, TX12, 56)) hK hE hS hA hP hD rfl (mt_mem hM)) rfl rfl hl.1 rfl (lv_room (Nat.le_of_ble_eq_true rfl)) dL_law_379 ⟨(by show (1000 + 2 * ii) + 0 + 0 ≤ 600000; omega), (by show (100000 + 25 * ii) + 0 + 0 ≤ 7302250; omega)⟩) hS hA hP hD (fun r379 W2 H locs hz379 hP hD hS => ?_)
  obtain ⟨hr379, hW2⟩ := hz379
  have hP := pm_Pp List.perm_append_comm hP
  have hD := pm_Dp List.perm_append_comm hD
  refine lv_pop hx hb dL_law_382 rfl ?_
  refine lv_goto (tgt := 2459) hx hb dL_law_383 (by decide) ?_
  refine W.widen (k := 1009 + 2 * ii) (n := 100145 + 25 * ii) (by omega) (by omega) ?_
  exact hend _ _ _ W1 W2 _ _ _ _ _ _ hW1 hW2 hJ hP hD hS hl
set_option maxHeartbeats 4000000 in
set_option maxRecDepth 100000 in
theorem lw_c2 {p : Program} {e : Env} {s : State} {m : MethodId} {below : List Frame} {meth : Method} {c : Code} (l : Launch) {sb L : Nat} {xs : Nat → Int32} (hL : L ≤ 3072) (C0 : lw_At p s m meth c sb L xs) {g : va_G} {cI cJ cB cZ cL : ClassId} (hK : va_K g vwCl (tyT cI cJ cB cZ cL) s) {kA vA : Nat → Nat} (hE : ENV kA vA (fun q : Nat => s.heap.size ≤ q) s) {x y : Nat} {ii : Nat} (h6 : ii + 6 ≤ L) (hend : ∀ (H : Heap) (locs : List Loc) (ls : Array Slot) (XT M : va_W) (sw sn ki mw mn kp : Nat → Int32) (hXT : XTSt cI cJ cB cZ cL x sw sn ki XT) (hM : MSt cI cJ cB cZ cL y mw mn kp M) (hJ : JJ sw sn ki mw mn kp) (hP : va_P g vwCl (XT ++ M) H) (hD : va_D (fun q : Nat => s.heap.size ≤ q) (XT ++ M)) (hS : va_S (fun q : Nat => s.heap.size ≤ q) s.heap H locs) (hl : lv_has ls 4 [(0, .ref sb), (1, .ref x), (2, .ref y), (3, .int (nI ii))]), W p l e room_1 s m #[Value.ref sb] below meth c H locs (1009 + 2 * ii) (100145 + 25 * ii) (lw_Z below #[Value.ref sb] s) (F0 m 2459 ls [])) (H : Heap) (locs : List Loc) (ls : Array Slot) (XT M : va_W) (sw sn ki mw mn kp : Nat → Int32) (hXT : XTSt cI cJ cB cZ cL x sw sn ki XT) (hM : MSt cI cJ cB cZ cL y mw mn kp M) (hJ : JJ sw sn ki mw mn kp) (hP : va_P g vwCl (XT ++ M) H) (hD : va_D (fun q : Nat => s.heap.size ≤ q) (XT ++ M)) (hS : va_S (fun q : Nat => s.heap.size ≤ q) s.heap H locs) (hl : lv_has ls 4 [(0, .ref sb), (1, .ref x), (2, .ref y), (3, .int (nI ii))]) : W p l e room_1 s m #[Value.ref sb] below meth c H locs (1000 + 2 * ii) (100000 + 25 * ii) (lw_Z below #[Value.ref sb] s) (F0 m 386 ls []) := by
  obtain ⟨hx, hb, hr, hml, hown, hts0, hX, hbl, hlocks, hgv⟩ := id C0
  have hts : ∀ w ∈ v_L_law, w.before #[Value.ref sb] s = true := fun w h => hts0 w (in_v_L_law w h)
  have hown : s.vm.findClass RL = some m.cls := hown
  have hA : ∀ q : Nat, s.heap.size ≤ q → (fun q : Nat => s.heap.size ≤ q) q := fun _ h => h
  have hbA : ¬ (fun q : Nat => s.heap.size ≤ q) sb := Nat.not_le.mpr hbl
  refine lv_aload_n hx hb dL_law_386 rfl (lv_at hl 1 rfl) ?_
  refine lc_i (X := XT) (Rr := M) (va_runV (As := []) (rest := []) ⟨hx, hb, hml, hown, hts⟩ (lift_i (fun im X hX => cx_X11_land l g cI cJ cB cZ cL kA vA x im X H.size hX ) hXT) (cwV 0 hts (goodIn_app (g_4 (List.mem_cons_of_mem _ (List.mem_append_left _ (List.mem_of_getElem? (i := 14) rfl))) (List.mem_cons_of_mem _ (List.mem_append_left _ (List.mem_of_getElem? (i := 15) rfl))) (List.mem_cons_of_mem _ (List.mem_append_left _ (List.mem_of_getElem? (i := 16) rfl))) (List.mem_cons_of_mem _ (List.mem_append_left _ (List.mem_of_getElem? (i := 3) rfl))) (by decide +kernel)) (goodIn_sub ml_v_X11_land good_v_X11_land)) rfl rfl rfl (by decide +kernel) ⟨Nat.le_of_ble_eq_true rfl, Nat.le_of_ble_eq_true rfl⟩) (lc_pre (ci := 10) (q := (RX11, TX11, 11)) hK hE hS hA hP hD rfl (xt_mem hXT)) rfl rfl hl.1 rfl (lv_room (Nat.le_of_ble_eq_true rfl)) dL_law_387 ⟨(by show (1000 + 2 * ii) + 0 ≤ 600000; omega), (by show (100000 + 25 * ii) + 0 ≤ 7302250; omega)⟩) hS hA hP hD (fun r387 W1 H locs hz387 hP hD hS => ?_)
  obtain ⟨hr387, hW1⟩ := hz387
  refine lv_pop hx hb dL_law_390 rfl ?_
  refine lv_aload_n hx hb dL_law_391 rfl (lv_at hl 2 rfl) ?_
  have hP := pm_Pp List.perm_append_comm hP
  have hD := pm_Dp List.perm_append_comm hD
  refine lc_i (X := M) (Rr := W1) (va_runV (As := []) (rest := []) ⟨hx, hb, hml, hown, hts⟩ (cm_X12_land l g cI cJ cB cZ cL kA vA y M H.size hM ) (cwV 0 hts (goodIn_app (g_4 (List.mem_cons_of_mem _ (List.mem_append_left _ (List.mem_of_getElem? (i := 17) rfl))) (List.mem_cons_of_mem _ (List.mem_append_left _ (List.mem_of_getElem? (i := 18) rfl))) (List.mem_cons_of_mem _ (List.mem_append_left _ (List.mem_of_getElem? (i := 19) rfl))) (List.mem_cons_of_mem _ (List.mem_append_left _ (List.mem_of_getElem? (i := 7) rfl))) (by decide +kernel)) (goodIn_sub ml_v_X12_land good_v_X12_land)) rfl rfl rfl (by decide +kernel) ⟨Nat.le_of_ble_eq_true rfl, Nat.le_of_ble_eq_true rfl⟩) (lc_pre (ci := 11) (q := (RX12, TX12, 56)) hK hE hS hA hP hD rfl (mt_mem hM)) rfl rfl hl.1 rfl (lv_room (Nat.le_of_ble_eq_true rfl)) dL_law_392 ⟨(by show (1000 + 2 * ii) + 0 + 0 ≤ 600000; omega), (by show (100000 + 25 * ii) + 0 + 0 ≤ 7302250; omega)⟩) hS hA hP hD (fun r392 W2 H locs hz392 hP hD hS => ?_)
  obtain ⟨hr392, hW2⟩ := hz392
  have hP := pm_Pp List.perm_append_comm hP
  have hD := pm_Dp List.perm_append_comm hD
  refine lv_pop hx hb dL_law_395 rfl ?_
  refine lv_goto (tgt := 2459) hx hb dL_law_396 (by decide) ?_
  refine W.widen (k := 1009 + 2 * ii) (n := 100145 + 25 * ii) (by omega) (by omega) ?_
  exact hend _ _ _ W1 W2 _ _ _ _ _ _ hW1 hW2 hJ hP hD hS hl
set_option maxHeartbeats 4000000 in
set_option maxRecDepth 100000 in
theorem lw_c3 {p : Program} {e : Env} {s : State} {m : MethodId} {below : List Frame} {meth : Method} {c : Code} (l : Launch) {sb L : Nat} {xs : Nat → Int32} (hL : L ≤ 3072) (C0 : lw_At p s m meth c sb L xs) {g : va_G} {cI cJ cB cZ cL : ClassId} (hK : va_K g vwCl (tyT cI cJ cB cZ cL) s) {kA vA : Nat → Nat} (hE : ENV kA vA (fun q : Nat => s.heap.size ≤ q) s) {x y : Nat} {ii : Nat} (h6 : ii + 6 ≤ L) (hend : ∀ (H : Heap) (locs : List Loc) (ls : Array Slot) (XT M : va_W) (sw sn ki mw mn kp : Nat → Int32) (hXT : XTSt cI cJ cB cZ cL x sw sn ki XT) (hM : MSt cI cJ cB cZ cL y mw mn kp M) (hJ : JJ sw sn ki mw mn kp) (hP : va_P g vwCl (XT ++ M) H) (hD : va_D (fun q : Nat => s.heap.size ≤ q) (XT ++ M)) (hS : va_S (fun q : Nat => s.heap.size ≤ q) s.heap H locs) (hl : lv_has ls 4 [(0, .ref sb), (1, .ref x), (2, .ref y), (3, .int (nI ii))]), W p l e room_1 s m #[Value.ref sb] below meth c H locs (1009 + 2 * ii) (100145 + 25 * ii) (lw_Z below #[Value.ref sb] s) (F0 m 2459 ls [])) (H : Heap) (locs : List Loc) (ls : Array Slot) (XT M : va_W) (sw sn ki mw mn kp : Nat → Int32) (hXT : XTSt cI cJ cB cZ cL x sw sn ki XT) (hM : MSt cI cJ cB cZ cL y mw mn kp M) (hJ : JJ sw sn ki mw mn kp) (hP : va_P g vwCl (XT ++ M) H) (hD : va_D (fun q : Nat => s.heap.size ≤ q) (XT ++ M)) (hS : va_S (fun q : Nat => s.heap.size ≤ q) s.heap H locs) (hl : lv_has ls 4 [(0, .ref sb), (1, .ref x), (2, .ref y), (3, .int (nI ii))]) : W p l e room_1 s m #[Value.ref sb] below meth c H locs (1000 + 2 * ii) (100000 + 25 * ii) (lw_Z below #[Value.ref sb] s) (F0 m 399 ls []) := by
  obtain ⟨hx, hb, hr, hml, hown, hts0, hX, hbl, hlocks, hgv⟩ := id C0
  have hts : ∀ w ∈ v_L_law, w.before #[Value.ref sb] s = true := fun w h => hts0 w (in_v_L_law w h)
  have hown : s.vm.findClass RL = some m.cls := hown
  have hA : ∀ q : Nat, s.heap.size ≤ q → (fun q : Nat => s.heap.size ≤ q) q := fun _ h => h
  have hbA : ¬ (fun q : Nat => s.heap.size ≤ q) sb := Nat.not_le.mpr hbl
  refine lv_aload_n hx hb dL_law_399 rfl (lv_at hl 1 rfl) ?_
  refine lv_aload_n hx hb dL_law_400 rfl (lv_at hl 0 rfl) ?_
  refine lv_iload_n hx hb dL_law_401 rfl (lv_at hl 3 rfl) ?_
  refine lv_iconst (v := 1) hx hb dL_law_402 (by decide) ?_
  refine lv_iadd hx hb dL_law_403 ?_
  refine va_sld hx hb hX hbl hbA hS (lw_ix 1 h6 hL (by decide)) dL_law_404 ?_
  refine lv_topi (nm_r (e' := xs (nI ii + 1).toNatClampNeg) rfl ?_)
  refine lc_i (X := XT) (Rr := M) (va_runV (As := [.int (xs (nI ii + 1).toNatClampNeg)]) (rest := []) ⟨hx, hb, hml, hown, hts⟩ (lift_i (fun im X hX => cx_X11_fault l g cI cJ cB cZ cL kA vA x im X H.size hX (xs (nI ii + 1).toNatClampNeg)) hXT) (cwV 1 hts (goodIn_app (g_4 (List.mem_cons_of_mem _ (List.mem_append_left _ (List.mem_of_getElem? (i := 20) rfl))) (List.mem_cons_of_mem _ (List.mem_append_left _ (List.mem_of_getElem? (i := 21) rfl))) (List.mem_cons_of_mem _ (List.mem_append_left _ (List.mem_of_getElem? (i := 22) rfl))) (List.mem_cons_of_mem _ (List.mem_append_left _ (List.mem_of_getElem? (i := 3) rfl))) (by decide +kernel)) (goodIn_sub ml_v_X11_fault good_v_X11_fault)) rfl rfl rfl (by decide +kernel) ⟨Nat.le_of_ble_eq_true rfl, Nat.le_of_ble_eq_true rfl⟩) (lc_pre (ci := 10) (q := (RX11, TX11, 11)) hK hE hS hA hP hD rfl (xt_mem hXT)) rfl rfl hl.1 rfl (lv_room (Nat.le_of_ble_eq_true rfl)) dL_law_405 ⟨(by show (1000 + 2 * ii) + 0 ≤ 600000; omega), (by show (100000 + 25 * ii) + 0 ≤ 7302250; omega)⟩) hS hA hP hD (fun r405 W1 H locs hz405 hP hD hS => ?_)
  obtain ⟨hr405, hW1⟩ := hz405
  refine lv_pop hx hb dL_law_408 rfl ?_
  refine lv_aload_n hx hb dL_law_409 rfl (lv_at hl 2 rfl) ?_
  refine lv_aload_n hx hb dL_law_410 rfl (lv_at hl 0 rfl) ?_
  refine lv_iload_n hx hb dL_law_411 rfl (lv_at hl 3 rfl) ?_
  refine lv_iconst (v := 1) hx hb dL_law_412 (by decide) ?_
  refine lv_iadd hx hb dL_law_413 ?_
  refine va_sld hx hb hX hbl hbA hS (lw_ix 1 h6 hL (by decide)) dL_law_414 ?_
  refine lv_topi (nm_r (e' := xs (nI ii + 1).toNatClampNeg) rfl ?_)
  have hP := pm_Pp List.perm_append_comm hP
  have hD := pm_Dp List.perm_append_comm hD
  refine lc_i (X := M) (Rr := W1) (va_runV (As := [.int (xs (nI ii + 1).toNatClampNeg)]) (rest := []) ⟨hx, hb, hml, hown, hts⟩ (cm_X12_fault l g cI cJ cB cZ cL kA vA y M H.size hM (xs (nI ii + 1).toNatClampNeg)) (cwV 1 hts (goodIn_app (g_4 (List.mem_cons_of_mem _ (List.mem_append_left _ (List.mem_of_getElem? (i := 23) rfl))) (List.mem_cons_of_mem _ (List.mem_append_left _ (List.mem_of_getElem? (i := 24) rfl))) (List.mem_cons_of_mem _ (List.mem_append_left _ (List.mem_of_getElem? (i := 25) rfl))) (List.mem_cons_of_mem _ (List.mem_append_left _ (List.mem_of_getElem? (i := 7) rfl))) (by decide +kernel)) (goodIn_sub ml_v_X12_fault good_v_X12_fault)) rfl rfl rfl (by decide +kernel) ⟨Nat.le_of_ble_eq_true rfl, Nat.le_of_ble_eq_true rfl⟩) (lc_pre (ci := 11) (q := (RX12, TX12, 56)) hK hE hS hA hP hD rfl (mt_mem hM)) rfl rfl hl.1 rfl (lv_room (Nat.le_of_ble_eq_true rfl)) dL_law_415 ⟨(by show (1000 + 2 * ii) + 0 + 0 ≤ 600000; omega), (by show (100000 + 25 * ii) + 0 + 0 ≤ 7302250; omega)⟩) hS hA hP hD (fun r415 W2 H locs hz415 hP hD hS => ?_)
  obtain ⟨hr415, hW2⟩ := hz415
  have hP := pm_Pp List.perm_append_comm hP
  have hD := pm_Dp List.perm_append_comm hD
  refine lv_pop hx hb dL_law_418 rfl ?_
  refine lv_goto (tgt := 2459) hx hb dL_law_419 (by decide) ?_
  refine W.widen (k := 1009 + 2 * ii) (n := 100145 + 25 * ii) (by omega) (by omega) ?_
  exact hend _ _ _ W1 W2 _ _ _ _ _ _ hW1 hW2 hJ hP hD hS hl
set_option maxHeartbeats 4000000 in
set_option maxRecDepth 100000 in
theorem lw_c4 {p : Program} {e : Env} {s : State} {m : MethodId} {below : List Frame} {meth : Method} {c : Code} (l : Launch) {sb L : Nat} {xs : Nat → Int32} (hL : L ≤ 3072) (C0 : lw_At p s m meth c sb L xs) {g : va_G} {cI cJ cB cZ cL : ClassId} (hK : va_K g vwCl (tyT cI cJ cB cZ cL) s) {kA vA : Nat → Nat} (hE : ENV kA vA (fun q : Nat => s.heap.size ≤ q) s) {x y : Nat} {ii : Nat} (h6 : ii + 6 ≤ L) (hend : ∀ (H : Heap) (locs : List Loc) (ls : Array Slot) (XT M : va_W) (sw sn ki mw mn kp : Nat → Int32) (hXT : XTSt cI cJ cB cZ cL x sw sn ki XT) (hM : MSt cI cJ cB cZ cL y mw mn kp M) (hJ : JJ sw sn ki mw mn kp) (hP : va_P g vwCl (XT ++ M) H) (hD : va_D (fun q : Nat => s.heap.size ≤ q) (XT ++ M)) (hS : va_S (fun q : Nat => s.heap.size ≤ q) s.heap H locs) (hl : lv_has ls 4 [(0, .ref sb), (1, .ref x), (2, .ref y), (3, .int (nI ii))]), W p l e room_1 s m #[Value.ref sb] below meth c H locs (1009 + 2 * ii) (100145 + 25 * ii) (lw_Z below #[Value.ref sb] s) (F0 m 2459 ls [])) (H : Heap) (locs : List Loc) (ls : Array Slot) (XT M : va_W) (sw sn ki mw mn kp : Nat → Int32) (hXT : XTSt cI cJ cB cZ cL x sw sn ki XT) (hM : MSt cI cJ cB cZ cL y mw mn kp M) (hJ : JJ sw sn ki mw mn kp) (hP : va_P g vwCl (XT ++ M) H) (hD : va_D (fun q : Nat => s.heap.size ≤ q) (XT ++ M)) (hS : va_S (fun q : Nat => s.heap.size ≤ q) s.heap H locs) (hl : lv_has ls 4 [(0, .ref sb), (1, .ref x), (2, .ref y), (3, .int (nI ii))]) : W p l e room_1 s m #[Value.ref sb] below meth c H locs (1000 + 2 * ii) (100000 + 25 * ii) (lw_Z below #[Value.ref sb] s) (F0 m 422 ls []) := by
  obtain ⟨hx, hb, hr, hml, hown, hts0, hX, hbl, hlocks, hgv⟩ := id C0
  have hts : ∀ w ∈ v_L_law, w.before #[Value.ref sb] s = true := fun w h => hts0 w (in_v_L_law w h)
  have hown : s.vm.findClass RL = some m.cls := hown
  have hA : ∀ q : Nat, s.heap.size ≤ q → (fun q : Nat => s.heap.size ≤ q) q := fun _ h => h
  have hbA : ¬ (fun q : Nat => s.heap.size ≤ q) sb := Nat.not_le.mpr hbl
  refine lv_aload_n hx hb dL_law_422 rfl (lv_at hl 1 rfl) ?_
  refine lv_aload_n hx hb dL_law_423 rfl (lv_at hl 0 rfl) ?_
  refine lv_iload_n hx hb dL_law_424 rfl (lv_at hl 3 rfl) ?_
  refine lv_iconst (v := 1) hx hb dL_law_425 (by decide) ?_
  refine lv_iadd hx hb dL_law_426 ?_
  refine va_sld hx hb hX hbl hbA hS (lw_ix 1 h6 hL (by decide)) dL_law_427 ?_
  refine lv_topi (nm_r (e' := xs (nI ii + 1).toNatClampNeg) rfl ?_)
  refine lv_aload_n hx hb dL_law_428 rfl (lv_at hl 0 rfl) ?_
  refine lv_iload_n hx hb dL_law_429 rfl (lv_at hl 3 rfl) ?_
  refine lv_iconst (v := 2) hx hb dL_law_430 (by decide) ?_
  refine lv_iadd hx hb dL_law_431 ?_
  refine va_sld hx hb hX hbl hbA hS (lw_ix 2 h6 hL (by decide)) dL_law_432 ?_
  refine lv_topi (nm_r (e' := xs (nI ii + 2).toNatClampNeg) rfl ?_)
  refine lc_i (X := XT) (Rr := M) (va_runV (As := [.int (xs (nI ii + 1).toNatClampNeg), .int (xs (nI ii + 2).toNatClampNeg)]) (rest := []) ⟨hx, hb, hml, hown, hts⟩ (lift_i (fun im X hX => cx_X11_person l g cI cJ cB cZ cL kA vA x im X H.size hX (xs (nI ii + 1).toNatClampNeg) (xs (nI ii + 2).toNatClampNeg)) hXT) (cwV 2 hts (goodIn_app (g_4 (List.mem_cons_of_mem _ (List.mem_append_left _ (List.mem_of_getElem? (i := 26) rfl))) (List.mem_cons_of_mem _ (List.mem_append_left _ (List.mem_of_getElem? (i := 27) rfl))) (List.mem_cons_of_mem _ (List.mem_append_left _ (List.mem_of_getElem? (i := 28) rfl))) (List.mem_cons_of_mem _ (List.mem_append_left _ (List.mem_of_getElem? (i := 3) rfl))) (by decide +kernel)) (goodIn_sub ml_v_X11_person good_v_X11_person)) rfl rfl rfl (by decide +kernel) ⟨Nat.le_of_ble_eq_true rfl, Nat.le_of_ble_eq_true rfl⟩) (lc_pre (ci := 10) (q := (RX11, TX11, 11)) hK hE hS hA hP hD rfl (xt_mem hXT)) rfl rfl hl.1 rfl (lv_room (Nat.le_of_ble_eq_true rfl)) dL_law_433 ⟨(by show (1000 + 2 * ii) + 0 ≤ 600000; omega), (by show (100000 + 25 * ii) + 0 ≤ 7302250; omega)⟩) hS hA hP hD (fun r433 W1 H locs hz433 hP hD hS => ?_)
  obtain ⟨hr433, hW1⟩ := hz433
  refine lv_pop hx hb dL_law_436 rfl ?_
  refine lv_aload_n hx hb dL_law_437 rfl (lv_at hl 2 rfl) ?_
  refine lv_aload_n hx hb dL_law_438 rfl (lv_at hl 0 rfl) ?_
  refine lv_iload_n hx hb dL_law_439 rfl (lv_at hl 3 rfl) ?_
  refine lv_iconst (v := 1) hx hb dL_law_440 (by decide) ?_
  refine lv_iadd hx hb dL_law_441 ?_
  refine va_sld hx hb hX hbl hbA hS (lw_ix 1 h6 hL (by decide)) dL_law_442 ?_
  refine lv_topi (nm_r (e' := xs (nI ii + 1).toNatClampNeg) rfl ?_)
  refine lv_aload_n hx hb dL_law_443 rfl (lv_at hl 0 rfl) ?_
  refine lv_iload_n hx hb dL_law_444 rfl (lv_at hl 3 rfl) ?_
  refine lv_iconst (v := 2) hx hb dL_law_445 (by decide) ?_
  refine lv_iadd hx hb dL_law_446 ?_
  refine va_sld hx hb hX hbl hbA hS (lw_ix 2 h6 hL (by decide)) dL_law_447 ?_
  refine lv_topi (nm_r (e' := xs (nI ii + 2).toNatClampNeg) rfl ?_)
  have hP := pm_Pp List.perm_append_comm hP
  have hD := pm_Dp List.perm_append_comm hD
  refine lc_i (X := M) (Rr := W1) (va_runV (As := [.int (xs (nI ii + 1).toNatClampNeg), .int (xs (nI ii + 2).toNatClampNeg)]) (rest := []) ⟨hx, hb, hml, hown, hts⟩ (cm_X12_person l g cI cJ cB cZ cL kA vA y M H.size hM (xs (nI ii + 1).toNatClampNeg) (xs (nI ii + 2).toNatClampNeg)) (cwV 2 hts (goodIn_app (g_4 (List.mem_cons_of_mem _ (List.mem_append_left _ (List.mem_of_getElem? (i := 29) rfl))) (List.mem_cons_of_mem _ (List.mem_append_left _ (List.mem_of_getElem? (i := 30) rfl))) (List.mem_cons_of_mem _ (List.mem_append_left _ (List.mem_of_getElem? (i := 31) rfl))) (List.mem_cons_of_mem _ (List.mem_append_left _ (List.mem_of_getElem? (i := 7) rfl))) (by decide +kernel)) (goodIn_sub ml_v_X12_person good_v_X12_person)) rfl rfl rfl (by decide +kernel) ⟨Nat.le_of_ble_eq_true rfl, Nat.le_of_ble_eq_true rfl⟩) (lc_pre (ci := 11) (q := (RX12, TX12, 56)) hK hE hS hA hP hD rfl (mt_mem hM)) rfl rfl hl.1 rfl (lv_room (Nat.le_of_ble_eq_true rfl)) dL_law_448 ⟨(by show (1000 + 2 * ii) + 0 + 0 ≤ 600000; omega), (by show (100000 + 25 * ii) + 0 + 0 ≤ 7302250; omega)⟩) hS hA hP hD (fun r448 W2 H locs hz448 hP hD hS => ?_)
  obtain ⟨hr448, hW2⟩ := hz448
  have hP := pm_Pp List.perm_append_comm hP
  have hD := pm_Dp List.perm_append_comm hD
  refine lv_pop hx hb dL_law_451 rfl ?_
  refine lv_goto (tgt := 2459) hx hb dL_law_452 (by decide) ?_
  refine W.widen (k := 1009 + 2 * ii) (n := 100145 + 25 * ii) (by omega) (by omega) ?_
  exact hend _ _ _ W1 W2 _ _ _ _ _ _ hW1 hW2 hJ hP hD hS hl
set_option maxHeartbeats 4000000 in
set_option maxRecDepth 100000 in
theorem lw_c5 {p : Program} {e : Env} {s : State} {m : MethodId} {below : List Frame} {meth : Method} {c : Code} (l : Launch) {sb L : Nat} {xs : Nat → Int32} (hL : L ≤ 3072) (C0 : lw_At p s m meth c sb L xs) {g : va_G} {cI cJ cB cZ cL : ClassId} (hK : va_K g vwCl (tyT cI cJ cB cZ cL) s) {kA vA : Nat → Nat} (hE : ENV kA vA (fun q : Nat => s.heap.size ≤ q) s) {x y : Nat} {ii : Nat} (h6 : ii + 6 ≤ L) (hend : ∀ (H : Heap) (locs : List Loc) (ls : Array Slot) (XT M : va_W) (sw sn ki mw mn kp : Nat → Int32) (hXT : XTSt cI cJ cB cZ cL x sw sn ki XT) (hM : MSt cI cJ cB cZ cL y mw mn kp M) (hJ : JJ sw sn ki mw mn kp) (hP : va_P g vwCl (XT ++ M) H) (hD : va_D (fun q : Nat => s.heap.size ≤ q) (XT ++ M)) (hS : va_S (fun q : Nat => s.heap.size ≤ q) s.heap H locs) (hl : lv_has ls 4 [(0, .ref sb), (1, .ref x), (2, .ref y), (3, .int (nI ii))]), W p l e room_1 s m #[Value.ref sb] below meth c H locs (1009 + 2 * ii) (100145 + 25 * ii) (lw_Z below #[Value.ref sb] s) (F0 m 2459 ls [])) (H : Heap) (locs : List Loc) (ls : Array Slot) (XT M : va_W) (sw sn ki mw mn kp : Nat → Int32) (hXT : XTSt cI cJ cB cZ cL x sw sn ki XT) (hM : MSt cI cJ cB cZ cL y mw mn kp M) (hJ : JJ sw sn ki mw mn kp) (hP : va_P g vwCl (XT ++ M) H) (hD : va_D (fun q : Nat => s.heap.size ≤ q) (XT ++ M)) (hS : va_S (fun q : Nat => s.heap.size ≤ q) s.heap H locs) (hl : lv_has ls 4 [(0, .ref sb), (1, .ref x), (2, .ref y), (3, .int (nI ii))]) : W p l e room_1 s m #[Value.ref sb] below meth c H locs (1000 + 2 * ii) (100000 + 25 * ii) (lw_Z below #[Value.ref sb] s) (F0 m 455 ls []) := by
  obtain ⟨hx, hb, hr, hml, hown, hts0, hX, hbl, hlocks, hgv⟩ := id C0
  have hts : ∀ w ∈ v_L_law, w.before #[Value.ref sb] s = true := fun w h => hts0 w (in_v_L_law w h)
  have hown : s.vm.findClass RL = some m.cls := hown
  have hA : ∀ q : Nat, s.heap.size ≤ q → (fun q : Nat => s.heap.size ≤ q) q := fun _ h => h
  have hbA : ¬ (fun q : Nat => s.heap.size ≤ q) sb := Nat.not_le.mpr hbl
  refine lv_aload_n hx hb dL_law_455 rfl (lv_at hl 1 rfl) ?_
  refine lv_aload_n hx hb dL_law_456 rfl (lv_at hl 0 rfl) ?_
  refine lv_iload_n hx hb dL_law_457 rfl (lv_at hl 3 rfl) ?_
  refine lv_iconst (v := 1) hx hb dL_law_458 (by decide) ?_
  refine lv_iadd hx hb dL_law_459 ?_
  refine va_sld hx hb hX hbl hbA hS (lw_ix 1 h6 hL (by decide)) dL_law_460 ?_
  refine lv_topi (nm_r (e' := xs (nI ii + 1).toNatClampNeg) rfl ?_)
  refine lv_aload_n hx hb dL_law_461 rfl (lv_at hl 0 rfl) ?_
  refine lv_iload_n hx hb dL_law_462 rfl (lv_at hl 3 rfl) ?_
  refine lv_iconst (v := 2) hx hb dL_law_463 (by decide) ?_
  refine lv_iadd hx hb dL_law_464 ?_
  refine va_sld hx hb hX hbl hbA hS (lw_ix 2 h6 hL (by decide)) dL_law_465 ?_
  refine lv_topi (nm_r (e' := xs (nI ii + 2).toNatClampNeg) rfl ?_)
  refine lc_i (X := XT) (Rr := M) (va_runV (As := [.int (xs (nI ii + 1).toNatClampNeg), .int (xs (nI ii + 2).toNatClampNeg)]) (rest := []) ⟨hx, hb, hml, hown, hts⟩ (lift_i (fun im X hX => cx_X11_pair l g cI cJ cB cZ cL kA vA x im X H.size hX (xs (nI ii + 1).toNatClampNeg) (xs (nI ii + 2).toNatClampNeg)) hXT) (cwV 2 hts (goodIn_app (g_4 (List.mem_cons_of_mem _ (List.mem_append_left _ (List.mem_of_getElem? (i := 32) rfl))) (List.mem_cons_of_mem _ (List.mem_append_left _ (List.mem_of_getElem? (i := 33) rfl))) (List.mem_cons_of_mem _ (List.mem_append_left _ (List.mem_of_getElem? (i := 34) rfl))) (List.mem_cons_of_mem _ (List.mem_append_left _ (List.mem_of_getElem? (i := 3) rfl))) (by decide +kernel)) (goodIn_sub ml_v_X11_pair good_v_X11_pair)) rfl rfl rfl (by decide +kernel) ⟨Nat.le_of_ble_eq_true rfl, Nat.le_of_ble_eq_true rfl⟩) (lc_pre (ci := 10) (q := (RX11, TX11, 11)) hK hE hS hA hP hD rfl (xt_mem hXT)) rfl rfl hl.1 rfl (lv_room (Nat.le_of_ble_eq_true rfl)) dL_law_466 ⟨(by show (1000 + 2 * ii) + 0 ≤ 600000; omega), (by show (100000 + 25 * ii) + 0 ≤ 7302250; omega)⟩) hS hA hP hD (fun r466 W1 H locs hz466 hP hD hS => ?_)
  obtain ⟨hr466, hW1⟩ := hz466
  refine lv_pop hx hb dL_law_469 rfl ?_
  refine lv_aload_n hx hb dL_law_470 rfl (lv_at hl 2 rfl) ?_
  refine lv_aload_n hx hb dL_law_471 rfl (lv_at hl 0 rfl) ?_
  refine lv_iload_n hx hb dL_law_472 rfl (lv_at hl 3 rfl) ?_
  refine lv_iconst (v := 1) hx hb dL_law_473 (by decide) ?_
  refine lv_iadd hx hb dL_law_474 ?_
  refine va_sld hx hb hX hbl hbA hS (lw_ix 1 h6 hL (by decide)) dL_law_475 ?_
  refine lv_topi (nm_r (e' := xs (nI ii + 1).toNatClampNeg) rfl ?_)
  refine lv_aload_n hx hb dL_law_476 rfl (lv_at hl 0 rfl) ?_
  refine lv_iload_n hx hb dL_law_477 rfl (lv_at hl 3 rfl) ?_
  refine lv_iconst (v := 2) hx hb dL_law_478 (by decide) ?_
  refine lv_iadd hx hb dL_law_479 ?_
  refine va_sld hx hb hX hbl hbA hS (lw_ix 2 h6 hL (by decide)) dL_law_480 ?_
  refine lv_topi (nm_r (e' := xs (nI ii + 2).toNatClampNeg) rfl ?_)
  have hP := pm_Pp List.perm_append_comm hP
  have hD := pm_Dp List.perm_append_comm hD
  refine lc_i (X := M) (Rr := W1) (va_runV (As := [.int (xs (nI ii + 1).toNatClampNeg), .int (xs (nI ii + 2).toNatClampNeg)]) (rest := []) ⟨hx, hb, hml, hown, hts⟩ (cm_X12_pair l g cI cJ cB cZ cL kA vA y M H.size hM (xs (nI ii + 1).toNatClampNeg) (xs (nI ii + 2).toNatClampNeg)) (cwV 2 hts (goodIn_app (g_4 (List.mem_cons_of_mem _ (List.mem_append_left _ (List.mem_of_getElem? (i := 35) rfl))) (List.mem_cons_of_mem _ (List.mem_append_left _ (List.mem_of_getElem? (i := 36) rfl))) (List.mem_cons_of_mem _ (List.mem_append_left _ (List.mem_of_getElem? (i := 37) rfl))) (List.mem_cons_of_mem _ (List.mem_append_left _ (List.mem_of_getElem? (i := 7) rfl))) (by decide +kernel)) (goodIn_sub ml_v_X12_pair good_v_X12_pair)) rfl rfl rfl (by decide +kernel) ⟨Nat.le_of_ble_eq_true rfl, Nat.le_of_ble_eq_true rfl⟩) (lc_pre (ci := 11) (q := (RX12, TX12, 56)) hK hE hS hA hP hD rfl (mt_mem hM)) rfl rfl hl.1 rfl (lv_room (Nat.le_of_ble_eq_true rfl)) dL_law_481 ⟨(by show (1000 + 2 * ii) + 0 + 0 ≤ 600000; omega), (by show (100000 + 25 * ii) + 0 + 0 ≤ 7302250; omega)⟩) hS hA hP hD (fun r481 W2 H locs hz481 hP hD hS => ?_)
  obtain ⟨hr481, hW2⟩ := hz481
  have hP := pm_Pp List.perm_append_comm hP
  have hD := pm_Dp List.perm_append_comm hD
  refine lv_pop hx hb dL_law_484 rfl ?_
  refine lv_goto (tgt := 2459) hx hb dL_law_485 (by decide) ?_
  refine W.widen (k := 1009 + 2 * ii) (n := 100145 + 25 * ii) (by omega) (by omega) ?_
  exact hend _ _ _ W1 W2 _ _ _ _ _ _ hW1 hW2 hJ hP hD hS hl
set_option maxHeartbeats 4000000 in
set_option maxRecDepth 100000 in
theorem lw_c6 {p : Program} {e : Env} {s : State} {m : MethodId} {below : List Frame} {meth : Method} {c : Code} (l : Launch) {sb L : Nat} {xs : Nat → Int32} (hL : L ≤ 3072) (C0 : lw_At p s m meth c sb L xs) {g : va_G} {cI cJ cB cZ cL : ClassId} (hK : va_K g vwCl (tyT cI cJ cB cZ cL) s) {kA vA : Nat → Nat} (hE : ENV kA vA (fun q : Nat => s.heap.size ≤ q) s) {x y : Nat} {ii : Nat} (h6 : ii + 6 ≤ L) (hend : ∀ (H : Heap) (locs : List Loc) (ls : Array Slot) (XT M : va_W) (sw sn ki mw mn kp : Nat → Int32) (hXT : XTSt cI cJ cB cZ cL x sw sn ki XT) (hM : MSt cI cJ cB cZ cL y mw mn kp M) (hJ : JJ sw sn ki mw mn kp) (hP : va_P g vwCl (XT ++ M) H) (hD : va_D (fun q : Nat => s.heap.size ≤ q) (XT ++ M)) (hS : va_S (fun q : Nat => s.heap.size ≤ q) s.heap H locs) (hl : lv_has ls 4 [(0, .ref sb), (1, .ref x), (2, .ref y), (3, .int (nI ii))]), W p l e room_1 s m #[Value.ref sb] below meth c H locs (1009 + 2 * ii) (100145 + 25 * ii) (lw_Z below #[Value.ref sb] s) (F0 m 2459 ls [])) (H : Heap) (locs : List Loc) (ls : Array Slot) (XT M : va_W) (sw sn ki mw mn kp : Nat → Int32) (hXT : XTSt cI cJ cB cZ cL x sw sn ki XT) (hM : MSt cI cJ cB cZ cL y mw mn kp M) (hJ : JJ sw sn ki mw mn kp) (hP : va_P g vwCl (XT ++ M) H) (hD : va_D (fun q : Nat => s.heap.size ≤ q) (XT ++ M)) (hS : va_S (fun q : Nat => s.heap.size ≤ q) s.heap H locs) (hl : lv_has ls 4 [(0, .ref sb), (1, .ref x), (2, .ref y), (3, .int (nI ii))]) : W p l e room_1 s m #[Value.ref sb] below meth c H locs (1000 + 2 * ii) (100000 + 25 * ii) (lw_Z below #[Value.ref sb] s) (F0 m 488 ls []) := by
  obtain ⟨hx, hb, hr, hml, hown, hts0, hX, hbl, hlocks, hgv⟩ := id C0
  have hts : ∀ w ∈ v_L_law, w.before #[Value.ref sb] s = true := fun w h => hts0 w (in_v_L_law w h)
  have hown : s.vm.findClass RL = some m.cls := hown
  have hA : ∀ q : Nat, s.heap.size ≤ q → (fun q : Nat => s.heap.size ≤ q) q := fun _ h => h
  have hbA : ¬ (fun q : Nat => s.heap.size ≤ q) sb := Nat.not_le.mpr hbl
  refine lv_aload_n hx hb dL_law_488 rfl (lv_at hl 1 rfl) ?_
  refine lv_aload_n hx hb dL_law_489 rfl (lv_at hl 0 rfl) ?_
  refine lv_iload_n hx hb dL_law_490 rfl (lv_at hl 3 rfl) ?_
  refine lv_iconst (v := 1) hx hb dL_law_491 (by decide) ?_
  refine lv_iadd hx hb dL_law_492 ?_
  refine va_sld hx hb hX hbl hbA hS (lw_ix 1 h6 hL (by decide)) dL_law_493 ?_
  refine lv_topi (nm_r (e' := xs (nI ii + 1).toNatClampNeg) rfl ?_)
  refine lv_aload_n hx hb dL_law_494 rfl (lv_at hl 0 rfl) ?_
  refine lv_iload_n hx hb dL_law_495 rfl (lv_at hl 3 rfl) ?_
  refine lv_iconst (v := 2) hx hb dL_law_496 (by decide) ?_
  refine lv_iadd hx hb dL_law_497 ?_
  refine va_sld hx hb hX hbl hbA hS (lw_ix 2 h6 hL (by decide)) dL_law_498 ?_
  refine lv_topi (nm_r (e' := xs (nI ii + 2).toNatClampNeg) rfl ?_)
  refine lc_i (X := XT) (Rr := M) (va_runV (As := [.int (xs (nI ii + 1).toNatClampNeg), .int (xs (nI ii + 2).toNatClampNeg)]) (rest := []) ⟨hx, hb, hml, hown, hts⟩ (lift_i (fun im X hX => cx_X11_of l g cI cJ cB cZ cL kA vA x im X H.size hX (xs (nI ii + 1).toNatClampNeg) (xs (nI ii + 2).toNatClampNeg)) hXT) (cwV 2 hts (goodIn_app (g_4 (List.mem_cons_of_mem _ (List.mem_append_left _ (List.mem_of_getElem? (i := 38) rfl))) (List.mem_cons_of_mem _ (List.mem_append_left _ (List.mem_of_getElem? (i := 39) rfl))) (List.mem_cons_of_mem _ (List.mem_append_left _ (List.mem_of_getElem? (i := 40) rfl))) (List.mem_cons_of_mem _ (List.mem_append_left _ (List.mem_of_getElem? (i := 3) rfl))) (by decide +kernel)) (goodIn_sub ml_v_X11_of good_v_X11_of)) rfl rfl rfl (by decide +kernel) ⟨Nat.le_of_ble_eq_true rfl, Nat.le_of_ble_eq_true rfl⟩) (lc_pre (ci := 10) (q := (RX11, TX11, 11)) hK hE hS hA hP hD rfl (xt_mem hXT)) rfl rfl hl.1 rfl (lv_room (Nat.le_of_ble_eq_true rfl)) dL_law_499 ⟨(by show (1000 + 2 * ii) + 0 ≤ 600000; omega), (by show (100000 + 25 * ii) + 0 ≤ 7302250; omega)⟩) hS hA hP hD (fun r499 W1 H locs hz499 hP hD hS => ?_)
  obtain ⟨hr499, hW1⟩ := hz499
  refine lv_pop hx hb dL_law_502 rfl ?_
  refine lv_aload_n hx hb dL_law_503 rfl (lv_at hl 2 rfl) ?_
  refine lv_aload_n hx hb dL_law_504 rfl (lv_at hl 0 rfl) ?_
  refine lv_iload_n hx hb dL_law_505 rfl (lv_at hl 3 rfl) ?_
  refine lv_iconst (v := 1) hx hb dL_law_506 (by decide) ?_
  refine lv_iadd hx hb dL_law_507 ?_
  refine va_sld hx hb hX hbl hbA hS (lw_ix 1 h6 hL (by decide)) dL_law_508 ?_
  refine lv_topi (nm_r (e' := xs (nI ii + 1).toNatClampNeg) rfl ?_)
  refine lv_aload_n hx hb dL_law_509 rfl (lv_at hl 0 rfl) ?_
  refine lv_iload_n hx hb dL_law_510 rfl (lv_at hl 3 rfl) ?_
  refine lv_iconst (v := 2) hx hb dL_law_511 (by decide) ?_
  refine lv_iadd hx hb dL_law_512 ?_
  refine va_sld hx hb hX hbl hbA hS (lw_ix 2 h6 hL (by decide)) dL_law_513 ?_
  refine lv_topi (nm_r (e' := xs (nI ii + 2).toNatClampNeg) rfl ?_)
  have hP := pm_Pp List.perm_append_comm hP
  have hD := pm_Dp List.perm_append_comm hD
  refine lc_i (X := M) (Rr := W1) (va_runV (As := [.int (xs (nI ii + 1).toNatClampNeg), .int (xs (nI ii + 2).toNatClampNeg)]) (rest := []) ⟨hx, hb, hml, hown, hts⟩ (cm_X12_of l g cI cJ cB cZ cL kA vA y M H.size hM (xs (nI ii + 1).toNatClampNeg) (xs (nI ii + 2).toNatClampNeg)) (cwV 2 hts (goodIn_app (g_4 (List.mem_cons_of_mem _ (List.mem_append_left _ (List.mem_of_getElem? (i := 41) rfl))) (List.mem_cons_of_mem _ (List.mem_append_left _ (List.mem_of_getElem? (i := 42) rfl))) (List.mem_cons_of_mem _ (List.mem_append_left _ (List.mem_of_getElem? (i := 43) rfl))) (List.mem_cons_of_mem _ (List.mem_append_left _ (List.mem_of_getElem? (i := 7) rfl))) (by decide +kernel)) (goodIn_sub ml_v_X12_of good_v_X12_of)) rfl rfl rfl (by decide +kernel) ⟨Nat.le_of_ble_eq_true rfl, Nat.le_of_ble_eq_true rfl⟩) (lc_pre (ci := 11) (q := (RX12, TX12, 56)) hK hE hS hA hP hD rfl (mt_mem hM)) rfl rfl hl.1 rfl (lv_room (Nat.le_of_ble_eq_true rfl)) dL_law_514 ⟨(by show (1000 + 2 * ii) + 0 + 0 ≤ 600000; omega), (by show (100000 + 25 * ii) + 0 + 0 ≤ 7302250; omega)⟩) hS hA hP hD (fun r514 W2 H locs hz514 hP hD hS => ?_)
  obtain ⟨hr514, hW2⟩ := hz514
  have hP := pm_Pp List.perm_append_comm hP
  have hD := pm_Dp List.perm_append_comm hD
  refine lv_pop hx hb dL_law_517 rfl ?_
  refine lv_goto (tgt := 2459) hx hb dL_law_518 (by decide) ?_
  refine W.widen (k := 1009 + 2 * ii) (n := 100145 + 25 * ii) (by omega) (by omega) ?_
  exact hend _ _ _ W1 W2 _ _ _ _ _ _ hW1 hW2 hJ hP hD hS hl
set_option maxHeartbeats 4000000 in
set_option maxRecDepth 100000 in
theorem lw_c7 {p : Program} {e : Env} {s : State} {m : MethodId} {below : List Frame} {meth : Method} {c : Code} (l : Launch) {sb L : Nat} {xs : Nat → Int32} (hL : L ≤ 3072) (C0 : lw_At p s m meth c sb L xs) {g : va_G} {cI cJ cB cZ cL : ClassId} (hK : va_K g vwCl (tyT cI cJ cB cZ cL) s) {kA vA : Nat → Nat} (hE : ENV kA vA (fun q : Nat => s.heap.size ≤ q) s) {x y : Nat} {ii : Nat} (h6 : ii + 6 ≤ L) (hend : ∀ (H : Heap) (locs : List Loc) (ls : Array Slot) (XT M : va_W) (sw sn ki mw mn kp : Nat → Int32) (hXT : XTSt cI cJ cB cZ cL x sw sn ki XT) (hM : MSt cI cJ cB cZ cL y mw mn kp M) (hJ : JJ sw sn ki mw mn kp) (hP : va_P g vwCl (XT ++ M) H) (hD : va_D (fun q : Nat => s.heap.size ≤ q) (XT ++ M)) (hS : va_S (fun q : Nat => s.heap.size ≤ q) s.heap H locs) (hl : lv_has ls 4 [(0, .ref sb), (1, .ref x), (2, .ref y), (3, .int (nI ii))]), W p l e room_1 s m #[Value.ref sb] below meth c H locs (1009 + 2 * ii) (100145 + 25 * ii) (lw_Z below #[Value.ref sb] s) (F0 m 2459 ls [])) (H : Heap) (locs : List Loc) (ls : Array Slot) (XT M : va_W) (sw sn ki mw mn kp : Nat → Int32) (hXT : XTSt cI cJ cB cZ cL x sw sn ki XT) (hM : MSt cI cJ cB cZ cL y mw mn kp M) (hJ : JJ sw sn ki mw mn kp) (hP : va_P g vwCl (XT ++ M) H) (hD : va_D (fun q : Nat => s.heap.size ≤ q) (XT ++ M)) (hS : va_S (fun q : Nat => s.heap.size ≤ q) s.heap H locs) (hl : lv_has ls 4 [(0, .ref sb), (1, .ref x), (2, .ref y), (3, .int (nI ii))]) : W p l e room_1 s m #[Value.ref sb] below meth c H locs (1000 + 2 * ii) (100000 + 25 * ii) (lw_Z below #[Value.ref sb] s) (F0 m 521 ls []) := by
  obtain ⟨hx, hb, hr, hml, hown, hts0, hX, hbl, hlocks, hgv⟩ := id C0
  have hts : ∀ w ∈ v_L_law, w.before #[Value.ref sb] s = true := fun w h => hts0 w (in_v_L_law w h)
  have hown : s.vm.findClass RL = some m.cls := hown
  have hA : ∀ q : Nat, s.heap.size ≤ q → (fun q : Nat => s.heap.size ≤ q) q := fun _ h => h
  have hbA : ¬ (fun q : Nat => s.heap.size ≤ q) sb := Nat.not_le.mpr hbl
  refine lv_aload_n hx hb dL_law_521 rfl (lv_at hl 1 rfl) ?_
  refine lv_aload_n hx hb dL_law_522 rfl (lv_at hl 0 rfl) ?_
  refine lv_iload_n hx hb dL_law_523 rfl (lv_at hl 3 rfl) ?_
  refine lv_iconst (v := 1) hx hb dL_law_524 (by decide) ?_
  refine lv_iadd hx hb dL_law_525 ?_
  refine va_sld hx hb hX hbl hbA hS (lw_ix 1 h6 hL (by decide)) dL_law_526 ?_
  refine lv_topi (nm_r (e' := xs (nI ii + 1).toNatClampNeg) rfl ?_)
  refine lv_aload_n hx hb dL_law_527 rfl (lv_at hl 0 rfl) ?_
  refine lv_iload_n hx hb dL_law_528 rfl (lv_at hl 3 rfl) ?_
  refine lv_iconst (v := 2) hx hb dL_law_529 (by decide) ?_
  refine lv_iadd hx hb dL_law_530 ?_
  refine va_sld hx hb hX hbl hbA hS (lw_ix 2 h6 hL (by decide)) dL_law_531 ?_
  refine lv_topi (nm_r (e' := xs (nI ii + 2).toNatClampNeg) rfl ?_)
  refine lv_aload_n hx hb dL_law_532 rfl (lv_at hl 0 rfl) ?_
  refine lv_iload_n hx hb dL_law_533 rfl (lv_at hl 3 rfl) ?_
  refine lv_iconst (v := 3) hx hb dL_law_534 (by decide) ?_
  refine lv_iadd hx hb dL_law_535 ?_
  refine va_sld hx hb hX hbl hbA hS (lw_ix 3 h6 hL (by decide)) dL_law_536 ?_
  refine lv_topi (nm_r (e' := xs (nI ii + 3).toNatClampNeg) rfl ?_)
  refine lc_i (X := XT) (Rr := M) (va_runV (As := [.int (xs (nI ii + 1).toNatClampNeg), .int (xs (nI ii + 2).toNatClampNeg), .int (xs (nI ii + 3).toNatClampNeg)]) (rest := []) ⟨hx, hb, hml, hown, hts⟩ (lift_i (fun im X hX => cx_does l g cI cJ cB cZ cL kA vA x im X H.size hX (xs (nI ii + 1).toNatClampNeg) (xs (nI ii + 2).toNatClampNeg) (xs (nI ii + 3).toNatClampNeg)) hXT) (cwV 3 hts (goodIn_app (g_4 (List.mem_cons_of_mem _ (List.mem_append_left _ (List.mem_of_getElem? (i := 44) rfl))) (List.mem_cons_of_mem _ (List.mem_append_left _ (List.mem_of_getElem? (i := 45) rfl))) (List.mem_cons_of_mem _ (List.mem_append_left _ (List.mem_of_getElem? (i := 46) rfl))) (List.mem_cons_of_mem _ (List.mem_append_left _ (List.mem_of_getElem? (i := 3) rfl))) (by decide +kernel)) (goodIn_sub ml_v_fX11_does good_v_fX11_does)) rfl rfl rfl (by decide +kernel) ⟨Nat.le_of_ble_eq_true rfl, Nat.le_of_ble_eq_true rfl⟩) (lc_pre (ci := 10) (q := (RX11, TX11, 11)) hK hE hS hA hP hD rfl (xt_mem hXT)) rfl rfl hl.1 rfl (lv_room (Nat.le_of_ble_eq_true rfl)) dL_law_537 ⟨(by show (1000 + 2 * ii) + 0 ≤ 600000; omega), (by show (100000 + 25 * ii) + 0 ≤ 7302250; omega)⟩) hS hA hP hD (fun r537 W1 H locs hz537 hP hD hS => ?_)
  obtain ⟨hr537, hW1⟩ := hz537
  refine lv_pop hx hb dL_law_540 rfl ?_
  refine lv_aload_n hx hb dL_law_541 rfl (lv_at hl 2 rfl) ?_
  refine lv_aload_n hx hb dL_law_542 rfl (lv_at hl 0 rfl) ?_
  refine lv_iload_n hx hb dL_law_543 rfl (lv_at hl 3 rfl) ?_
  refine lv_iconst (v := 1) hx hb dL_law_544 (by decide) ?_
  refine lv_iadd hx hb dL_law_545 ?_
  refine va_sld hx hb hX hbl hbA hS (lw_ix 1 h6 hL (by decide)) dL_law_546 ?_
  refine lv_topi (nm_r (e' := xs (nI ii + 1).toNatClampNeg) rfl ?_)
  refine lv_aload_n hx hb dL_law_547 rfl (lv_at hl 0 rfl) ?_
  refine lv_iload_n hx hb dL_law_548 rfl (lv_at hl 3 rfl) ?_
  refine lv_iconst (v := 2) hx hb dL_law_549 (by decide) ?_
  refine lv_iadd hx hb dL_law_550 ?_
  refine va_sld hx hb hX hbl hbA hS (lw_ix 2 h6 hL (by decide)) dL_law_551 ?_
  refine lv_topi (nm_r (e' := xs (nI ii + 2).toNatClampNeg) rfl ?_)
  refine lv_aload_n hx hb dL_law_552 rfl (lv_at hl 0 rfl) ?_
  refine lv_iload_n hx hb dL_law_553 rfl (lv_at hl 3 rfl) ?_
  refine lv_iconst (v := 3) hx hb dL_law_554 (by decide) ?_
  refine lv_iadd hx hb dL_law_555 ?_
  refine va_sld hx hb hX hbl hbA hS (lw_ix 3 h6 hL (by decide)) dL_law_556 ?_
  refine lv_topi (nm_r (e' := xs (nI ii + 3).toNatClampNeg) rfl ?_)
  have hP := pm_Pp List.perm_append_comm hP
  have hD := pm_Dp List.perm_append_comm hD
  refine lc_i (X := M) (Rr := W1) (va_runV (As := [.int (xs (nI ii + 1).toNatClampNeg), .int (xs (nI ii + 2).toNatClampNeg), .int (xs (nI ii + 3).toNatClampNeg)]) (rest := []) ⟨hx, hb, hml, hown, hts⟩ (cm_does l g cI cJ cB cZ cL kA vA y M H.size hM (xs (nI ii + 1).toNatClampNeg) (xs (nI ii + 2).toNatClampNeg) (xs (nI ii + 3).toNatClampNeg)) (cwV 3 hts (goodIn_app (g_4 (List.mem_cons_of_mem _ (List.mem_append_left _ (List.mem_of_getElem? (i := 47) rfl))) (List.mem_cons_of_mem _ (List.mem_append_left _ (List.mem_of_getElem? (i := 48) rfl))) (List.mem_cons_of_mem _ (List.mem_append_left _ (List.mem_of_getElem? (i := 49) rfl))) (List.mem_cons_of_mem _ (List.mem_append_left _ (List.mem_of_getElem? (i := 7) rfl))) (by decide +kernel)) (goodIn_sub ml_v_fX12_does good_v_fX12_does)) rfl rfl rfl (by decide +kernel) ⟨Nat.le_of_ble_eq_true rfl, Nat.le_of_ble_eq_true rfl⟩) (lc_pre (ci := 11) (q := (RX12, TX12, 56)) hK hE hS hA hP hD rfl (mt_mem hM)) rfl rfl hl.1 rfl (lv_room (Nat.le_of_ble_eq_true rfl)) dL_law_557 ⟨(by show (1000 + 2 * ii) + 0 + 0 ≤ 600000; omega), (by show (100000 + 25 * ii) + 0 + 0 ≤ 7302250; omega)⟩) hS hA hP hD (fun r557 W2 H locs hz557 hP hD hS => ?_)
  obtain ⟨hr557, hW2⟩ := hz557
  have hP := pm_Pp List.perm_append_comm hP
  have hD := pm_Dp List.perm_append_comm hD
  refine lv_pop hx hb dL_law_560 rfl ?_
  refine lv_goto (tgt := 2459) hx hb dL_law_561 (by decide) ?_
  refine W.widen (k := 1009 + 2 * ii) (n := 100145 + 25 * ii) (by omega) (by omega) ?_
  exact hend _ _ _ W1 W2 _ _ _ _ _ _ hW1 hW2 hJ hP hD hS hl
set_option maxHeartbeats 4000000 in
set_option maxRecDepth 100000 in
theorem lw_c8 {p : Program} {e : Env} {s : State} {m : MethodId} {below : List Frame} {meth : Method} {c : Code} (l : Launch) {sb L : Nat} {xs : Nat → Int32} (hL : L ≤ 3072) (C0 : lw_At p s m meth c sb L xs) {g : va_G} {cI cJ cB cZ cL : ClassId} (hK : va_K g vwCl (tyT cI cJ cB cZ cL) s) {kA vA : Nat → Nat} (hE : ENV kA vA (fun q : Nat => s.heap.size ≤ q) s) {x y : Nat} {ii : Nat} (h6 : ii + 6 ≤ L) (hend : ∀ (H : Heap) (locs : List Loc) (ls : Array Slot) (XT M : va_W) (sw sn ki mw mn kp : Nat → Int32) (hXT : XTSt cI cJ cB cZ cL x sw sn ki XT) (hM : MSt cI cJ cB cZ cL y mw mn kp M) (hJ : JJ sw sn ki mw mn kp) (hP : va_P g vwCl (XT ++ M) H) (hD : va_D (fun q : Nat => s.heap.size ≤ q) (XT ++ M)) (hS : va_S (fun q : Nat => s.heap.size ≤ q) s.heap H locs) (hl : lv_has ls 4 [(0, .ref sb), (1, .ref x), (2, .ref y), (3, .int (nI ii))]), W p l e room_1 s m #[Value.ref sb] below meth c H locs (1009 + 2 * ii) (100145 + 25 * ii) (lw_Z below #[Value.ref sb] s) (F0 m 2459 ls [])) (H : Heap) (locs : List Loc) (ls : Array Slot) (XT M : va_W) (sw sn ki mw mn kp : Nat → Int32) (hXT : XTSt cI cJ cB cZ cL x sw sn ki XT) (hM : MSt cI cJ cB cZ cL y mw mn kp M) (hJ : JJ sw sn ki mw mn kp) (hP : va_P g vwCl (XT ++ M) H) (hD : va_D (fun q : Nat => s.heap.size ≤ q) (XT ++ M)) (hS : va_S (fun q : Nat => s.heap.size ≤ q) s.heap H locs) (hl : lv_has ls 4 [(0, .ref sb), (1, .ref x), (2, .ref y), (3, .int (nI ii))]) : W p l e room_1 s m #[Value.ref sb] below meth c H locs (1000 + 2 * ii) (100000 + 25 * ii) (lw_Z below #[Value.ref sb] s) (F0 m 564 ls []) := by
  obtain ⟨hx, hb, hr, hml, hown, hts0, hX, hbl, hlocks, hgv⟩ := id C0
  have hts : ∀ w ∈ v_L_law, w.before #[Value.ref sb] s = true := fun w h => hts0 w (in_v_L_law w h)
  have hown : s.vm.findClass RL = some m.cls := hown
  have hA : ∀ q : Nat, s.heap.size ≤ q → (fun q : Nat => s.heap.size ≤ q) q := fun _ h => h
  have hbA : ¬ (fun q : Nat => s.heap.size ≤ q) sb := Nat.not_le.mpr hbl
  refine lv_aload_n hx hb dL_law_564 rfl (lv_at hl 1 rfl) ?_
  refine lv_aload_n hx hb dL_law_565 rfl (lv_at hl 0 rfl) ?_
  refine lv_iload_n hx hb dL_law_566 rfl (lv_at hl 3 rfl) ?_
  refine lv_iconst (v := 1) hx hb dL_law_567 (by decide) ?_
  refine lv_iadd hx hb dL_law_568 ?_
  refine va_sld hx hb hX hbl hbA hS (lw_ix 1 h6 hL (by decide)) dL_law_569 ?_
  refine lv_topi (nm_r (e' := xs (nI ii + 1).toNatClampNeg) rfl ?_)
  refine lv_aload_n hx hb dL_law_570 rfl (lv_at hl 0 rfl) ?_
  refine lv_iload_n hx hb dL_law_571 rfl (lv_at hl 3 rfl) ?_
  refine lv_iconst (v := 2) hx hb dL_law_572 (by decide) ?_
  refine lv_iadd hx hb dL_law_573 ?_
  refine va_sld hx hb hX hbl hbA hS (lw_ix 2 h6 hL (by decide)) dL_law_574 ?_
  refine lv_topi (nm_r (e' := xs (nI ii + 2).toNatClampNeg) rfl ?_)
  refine lv_aload_n hx hb dL_law_575 rfl (lv_at hl 0 rfl) ?_
  refine lv_iload_n hx hb dL_law_576 rfl (lv_at hl 3 rfl) ?_
  refine lv_iconst (v := 3) hx hb dL_law_577 (by decide) ?_
  refine lv_iadd hx hb dL_law_578 ?_
  refine va_sld hx hb hX hbl hbA hS (lw_ix 3 h6 hL (by decide)) dL_law_579 ?_
  refine lv_topi (nm_r (e' := xs (nI ii + 3).toNatClampNeg) rfl ?_)
  refine lc_i (X := XT) (Rr := M) (va_runV (As := [.int (xs (nI ii + 1).toNatClampNeg), .int (xs (nI ii + 2).toNatClampNeg), .int (xs (nI ii + 3).toNatClampNeg)]) (rest := []) ⟨hx, hb, hml, hown, hts⟩ (lift_i (fun im X hX => cx_X11_sends l g cI cJ cB cZ cL kA vA x im X H.size hX (xs (nI ii + 1).toNatClampNeg) (xs (nI ii + 2).toNatClampNeg) (xs (nI ii + 3).toNatClampNeg)) hXT) (cwV 3 hts (goodIn_app (g_4 (List.mem_cons_of_mem _ (List.mem_append_left _ (List.mem_of_getElem? (i := 50) rfl))) (List.mem_cons_of_mem _ (List.mem_append_left _ (List.mem_of_getElem? (i := 51) rfl))) (List.mem_cons_of_mem _ (List.mem_append_left _ (List.mem_of_getElem? (i := 52) rfl))) (List.mem_cons_of_mem _ (List.mem_append_left _ (List.mem_of_getElem? (i := 3) rfl))) (by decide +kernel)) (goodIn_sub ml_v_X11_sends good_v_X11_sends)) rfl rfl rfl (by decide +kernel) ⟨Nat.le_of_ble_eq_true rfl, Nat.le_of_ble_eq_true rfl⟩) (lc_pre (ci := 10) (q := (RX11, TX11, 11)) hK hE hS hA hP hD rfl (xt_mem hXT)) rfl rfl hl.1 rfl (lv_room (Nat.le_of_ble_eq_true rfl)) dL_law_580 ⟨(by show (1000 + 2 * ii) + 0 ≤ 600000; omega), (by show (100000 + 25 * ii) + 0 ≤ 7302250; omega)⟩) hS hA hP hD (fun r580 W1 H locs hz580 hP hD hS => ?_)
  obtain ⟨hr580, hW1⟩ := hz580
  refine lv_pop hx hb dL_law_583 rfl ?_
  refine lv_aload_n hx hb dL_law_584 rfl (lv_at hl 2 rfl) ?_
  refine lv_aload_n hx hb dL_law_585 rfl (lv_at hl 0 rfl) ?_
  refine lv_iload_n hx hb dL_law_586 rfl (lv_at hl 3 rfl) ?_
  refine lv_iconst (v := 1) hx hb dL_law_587 (by decide) ?_
  refine lv_iadd hx hb dL_law_588 ?_
  refine va_sld hx hb hX hbl hbA hS (lw_ix 1 h6 hL (by decide)) dL_law_589 ?_
  refine lv_topi (nm_r (e' := xs (nI ii + 1).toNatClampNeg) rfl ?_)
  refine lv_aload_n hx hb dL_law_590 rfl (lv_at hl 0 rfl) ?_
  refine lv_iload_n hx hb dL_law_591 rfl (lv_at hl 3 rfl) ?_
  refine lv_iconst (v := 2) hx hb dL_law_592 (by decide) ?_
  refine lv_iadd hx hb dL_law_593 ?_
  refine va_sld hx hb hX hbl hbA hS (lw_ix 2 h6 hL (by decide)) dL_law_594 ?_
  refine lv_topi (nm_r (e' := xs (nI ii + 2).toNatClampNeg) rfl ?_)
  refine lv_aload_n hx hb dL_law_595 rfl (lv_at hl 0 rfl) ?_
  refine lv_iload_n hx hb dL_law_596 rfl (lv_at hl 3 rfl) ?_
  refine lv_iconst (v := 3) hx hb dL_law_597 (by decide) ?_
  refine lv_iadd hx hb dL_law_598 ?_
  refine va_sld hx hb hX hbl hbA hS (lw_ix 3 h6 hL (by decide)) dL_law_599 ?_
  refine lv_topi (nm_r (e' := xs (nI ii + 3).toNatClampNeg) rfl ?_)
  have hP := pm_Pp List.perm_append_comm hP
  have hD := pm_Dp List.perm_append_comm hD
  refine lc_i (X := M) (Rr := W1) (va_runV (As := [.int (xs (nI ii + 1).toNatClampNeg), .int (xs (nI ii + 2).toNatClampNeg), .int (xs (nI ii + 3).toNatClampNeg)]) (rest := []) ⟨hx, hb, hml, hown, hts⟩ (cm_X12_sends l g cI cJ cB cZ cL kA vA y M H.size hM (xs (nI ii + 1).toNatClampNeg) (xs (nI ii + 2).toNatClampNeg) (xs (nI ii + 3).toNatClampNeg)) (cwV 3 hts (goodIn_app (g_4 (List.mem_cons_of_mem _ (List.mem_append_left _ (List.mem_of_getElem? (i := 53) rfl))) (List.mem_cons_of_mem _ (List.mem_append_left _ (List.mem_of_getElem? (i := 54) rfl))) (List.mem_cons_of_mem _ (List.mem_append_left _ (List.mem_of_getElem? (i := 55) rfl))) (List.mem_cons_of_mem _ (List.mem_append_left _ (List.mem_of_getElem? (i := 7) rfl))) (by decide +kernel)) (goodIn_sub ml_v_X12_sends good_v_X12_sends)) rfl rfl rfl (by decide +kernel) ⟨Nat.le_of_ble_eq_true rfl, Nat.le_of_ble_eq_true rfl⟩) (lc_pre (ci := 11) (q := (RX12, TX12, 56)) hK hE hS hA hP hD rfl (mt_mem hM)) rfl rfl hl.1 rfl (lv_room (Nat.le_of_ble_eq_true rfl)) dL_law_600 ⟨(by show (1000 + 2 * ii) + 0 + 0 ≤ 600000; omega), (by show (100000 + 25 * ii) + 0 + 0 ≤ 7302250; omega)⟩) hS hA hP hD (fun r600 W2 H locs hz600 hP hD hS => ?_)
  obtain ⟨hr600, hW2⟩ := hz600
  have hP := pm_Pp List.perm_append_comm hP
  have hD := pm_Dp List.perm_append_comm hD
  refine lv_pop hx hb dL_law_603 rfl ?_
  refine lv_goto (tgt := 2459) hx hb dL_law_604 (by decide) ?_
  refine W.widen (k := 1009 + 2 * ii) (n := 100145 + 25 * ii) (by omega) (by omega) ?_
  exact hend _ _ _ W1 W2 _ _ _ _ _ _ hW1 hW2 hJ hP hD hS hl
set_option maxHeartbeats 4000000 in
set_option maxRecDepth 100000 in
theorem lw_c9 {p : Program} {e : Env} {s : State} {m : MethodId} {below : List Frame} {meth : Method} {c : Code} (l : Launch) {sb L : Nat} {xs : Nat → Int32} (hL : L ≤ 3072) (C0 : lw_At p s m meth c sb L xs) {g : va_G} {cI cJ cB cZ cL : ClassId} (hK : va_K g vwCl (tyT cI cJ cB cZ cL) s) {kA vA : Nat → Nat} (hE : ENV kA vA (fun q : Nat => s.heap.size ≤ q) s) {x y : Nat} {ii : Nat} (h6 : ii + 6 ≤ L) (hend : ∀ (H : Heap) (locs : List Loc) (ls : Array Slot) (XT M : va_W) (sw sn ki mw mn kp : Nat → Int32) (hXT : XTSt cI cJ cB cZ cL x sw sn ki XT) (hM : MSt cI cJ cB cZ cL y mw mn kp M) (hJ : JJ sw sn ki mw mn kp) (hP : va_P g vwCl (XT ++ M) H) (hD : va_D (fun q : Nat => s.heap.size ≤ q) (XT ++ M)) (hS : va_S (fun q : Nat => s.heap.size ≤ q) s.heap H locs) (hl : lv_has ls 4 [(0, .ref sb), (1, .ref x), (2, .ref y), (3, .int (nI ii))]), W p l e room_1 s m #[Value.ref sb] below meth c H locs (1009 + 2 * ii) (100145 + 25 * ii) (lw_Z below #[Value.ref sb] s) (F0 m 2459 ls [])) (H : Heap) (locs : List Loc) (ls : Array Slot) (XT M : va_W) (sw sn ki mw mn kp : Nat → Int32) (hXT : XTSt cI cJ cB cZ cL x sw sn ki XT) (hM : MSt cI cJ cB cZ cL y mw mn kp M) (hJ : JJ sw sn ki mw mn kp) (hP : va_P g vwCl (XT ++ M) H) (hD : va_D (fun q : Nat => s.heap.size ≤ q) (XT ++ M)) (hS : va_S (fun q : Nat => s.heap.size ≤ q) s.heap H locs) (hl : lv_has ls 4 [(0, .ref sb), (1, .ref x), (2, .ref y), (3, .int (nI ii))]) : W p l e room_1 s m #[Value.ref sb] below meth c H locs (1000 + 2 * ii) (100000 + 25 * ii) (lw_Z below #[Value.ref sb] s) (F0 m 607 ls []) := by
  obtain ⟨hx, hb, hr, hml, hown, hts0, hX, hbl, hlocks, hgv⟩ := id C0
  have hts : ∀ w ∈ v_L_law, w.before #[Value.ref sb] s = true := fun w h => hts0 w (in_v_L_law w h)
  have hown : s.vm.findClass RL = some m.cls := hown
  have hA : ∀ q : Nat, s.heap.size ≤ q → (fun q : Nat => s.heap.size ≤ q) q := fun _ h => h
  have hbA : ¬ (fun q : Nat => s.heap.size ≤ q) sb := Nat.not_le.mpr hbl
  refine lv_aload_n hx hb dL_law_607 rfl (lv_at hl 1 rfl) ?_
  refine lv_aload_n hx hb dL_law_608 rfl (lv_at hl 0 rfl) ?_
  refine lv_iload_n hx hb dL_law_609 rfl (lv_at hl 3 rfl) ?_
  refine lv_iconst (v := 1) hx hb dL_law_610 (by decide) ?_
  refine lv_iadd hx hb dL_law_611 ?_
  refine va_sld hx hb hX hbl hbA hS (lw_ix 1 h6 hL (by decide)) dL_law_612 ?_
  refine lv_topi (nm_r (e' := xs (nI ii + 1).toNatClampNeg) rfl ?_)
  refine lv_aload_n hx hb dL_law_613 rfl (lv_at hl 0 rfl) ?_
  refine lv_iload_n hx hb dL_law_614 rfl (lv_at hl 3 rfl) ?_
  refine lv_iconst (v := 2) hx hb dL_law_615 (by decide) ?_
  refine lv_iadd hx hb dL_law_616 ?_
  refine va_sld hx hb hX hbl hbA hS (lw_ix 2 h6 hL (by decide)) dL_law_617 ?_
  refine lv_topi (nm_r (e' := xs (nI ii + 2).toNatClampNeg) rfl ?_)
  refine lv_aload_n hx hb dL_law_618 rfl (lv_at hl 0 rfl) ?_
  refine lv_iload_n hx hb dL_law_619 rfl (lv_at hl 3 rfl) ?_
  refine lv_iconst (v := 3) hx hb dL_law_620 (by decide) ?_
  refine lv_iadd hx hb dL_law_621 ?_
  refine va_sld hx hb hX hbl hbA hS (lw_ix 3 h6 hL (by decide)) dL_law_622 ?_
  refine lv_topi (nm_r (e' := xs (nI ii + 3).toNatClampNeg) rfl ?_)
  refine lc_i (X := XT) (Rr := M) (va_runV (As := [.int (xs (nI ii + 1).toNatClampNeg), .int (xs (nI ii + 2).toNatClampNeg), .int (xs (nI ii + 3).toNatClampNeg)]) (rest := []) ⟨hx, hb, hml, hown, hts⟩ (lift_i (fun im X hX => cx_X11_got l g cI cJ cB cZ cL kA vA x im X H.size hX (xs (nI ii + 1).toNatClampNeg) (xs (nI ii + 2).toNatClampNeg) (xs (nI ii + 3).toNatClampNeg)) hXT) (cwV 3 hts (goodIn_app (g_4 (List.mem_cons_of_mem _ (List.mem_append_left _ (List.mem_of_getElem? (i := 56) rfl))) (List.mem_cons_of_mem _ (List.mem_append_left _ (List.mem_of_getElem? (i := 57) rfl))) (List.mem_cons_of_mem _ (List.mem_append_left _ (List.mem_of_getElem? (i := 58) rfl))) (List.mem_cons_of_mem _ (List.mem_append_left _ (List.mem_of_getElem? (i := 3) rfl))) (by decide +kernel)) (goodIn_sub ml_v_X11_got good_v_X11_got)) rfl rfl rfl (by decide +kernel) ⟨Nat.le_of_ble_eq_true rfl, Nat.le_of_ble_eq_true rfl⟩) (lc_pre (ci := 10) (q := (RX11, TX11, 11)) hK hE hS hA hP hD rfl (xt_mem hXT)) rfl rfl hl.1 rfl (lv_room (Nat.le_of_ble_eq_true rfl)) dL_law_623 ⟨(by show (1000 + 2 * ii) + 0 ≤ 600000; omega), (by show (100000 + 25 * ii) + 0 ≤ 7302250; omega)⟩) hS hA hP hD (fun r623 W1 H locs hz623 hP hD hS => ?_)
  obtain ⟨hr623, hW1⟩ := hz623
  refine lv_pop hx hb dL_law_626 rfl ?_
  refine lv_aload_n hx hb dL_law_627 rfl (lv_at hl 2 rfl) ?_
  refine lv_aload_n hx hb dL_law_628 rfl (lv_at hl 0 rfl) ?_
  refine lv_iload_n hx hb dL_law_629 rfl (lv_at hl 3 rfl) ?_
  refine lv_iconst (v := 1) hx hb dL_law_630 (by decide) ?_
  refine lv_iadd hx hb dL_law_631 ?_
  refine va_sld hx hb hX hbl hbA hS (lw_ix 1 h6 hL (by decide)) dL_law_632 ?_
  refine lv_topi (nm_r (e' := xs (nI ii + 1).toNatClampNeg) rfl ?_)
  refine lv_aload_n hx hb dL_law_633 rfl (lv_at hl 0 rfl) ?_
  refine lv_iload_n hx hb dL_law_634 rfl (lv_at hl 3 rfl) ?_
  refine lv_iconst (v := 2) hx hb dL_law_635 (by decide) ?_
  refine lv_iadd hx hb dL_law_636 ?_
  refine va_sld hx hb hX hbl hbA hS (lw_ix 2 h6 hL (by decide)) dL_law_637 ?_
  refine lv_topi (nm_r (e' := xs (nI ii + 2).toNatClampNeg) rfl ?_)
  refine lv_aload_n hx hb dL_law_638 rfl (lv_at hl 0 rfl) ?_
  refine lv_iload_n hx hb dL_law_639 rfl (lv_at hl 3 rfl) ?_
  refine lv_iconst (v := 3) hx hb dL_law_640 (by decide) ?_
  refine lv_iadd hx hb dL_law_641 ?_
  refine va_sld hx hb hX hbl hbA hS (lw_ix 3 h6 hL (by decide)) dL_law_642 ?_
  refine lv_topi (nm_r (e' := xs (nI ii + 3).toNatClampNeg) rfl ?_)
  have hP := pm_Pp List.perm_append_comm hP
  have hD := pm_Dp List.perm_append_comm hD
  refine lc_i (X := M) (Rr := W1) (va_runV (As := [.int (xs (nI ii + 1).toNatClampNeg), .int (xs (nI ii + 2).toNatClampNeg), .int (xs (nI ii + 3).toNatClampNeg)]) (rest := []) ⟨hx, hb, hml, hown, hts⟩ (cm_X12_got l g cI cJ cB cZ cL kA vA y M H.size hM (xs (nI ii + 1).toNatClampNeg) (xs (nI ii + 2).toNatClampNeg) (xs (nI ii + 3).toNatClampNeg)) (cwV 3 hts (goodIn_app (g_4 (List.mem_cons_of_mem _ (List.mem_append_left _ (List.mem_of_getElem? (i := 59) rfl))) (List.mem_cons_of_mem _ (List.mem_append_left _ (List.mem_of_getElem? (i := 60) rfl))) (List.mem_cons_of_mem _ (List.mem_append_left _ (List.mem_of_getElem? (i := 61) rfl))) (List.mem_cons_of_mem _ (List.mem_append_left _ (List.mem_of_getElem? (i := 7) rfl))) (by decide +kernel)) (goodIn_sub ml_v_X12_got good_v_X12_got)) rfl rfl rfl (by decide +kernel) ⟨Nat.le_of_ble_eq_true rfl, Nat.le_of_ble_eq_true rfl⟩) (lc_pre (ci := 11) (q := (RX12, TX12, 56)) hK hE hS hA hP hD rfl (mt_mem hM)) rfl rfl hl.1 rfl (lv_room (Nat.le_of_ble_eq_true rfl)) dL_law_643 ⟨(by show (1000 + 2 * ii) + 0 + 0 ≤ 600000; omega), (by show (100000 + 25 * ii) + 0 + 0 ≤ 7302250; omega)⟩) hS hA hP hD (fun r643 W2 H locs hz643 hP hD hS => ?_)
  obtain ⟨hr643, hW2⟩ := hz643
  have hP := pm_Pp List.perm_append_comm hP
  have hD := pm_Dp List.perm_append_comm hD
  refine lv_pop hx hb dL_law_646 rfl ?_
  refine lv_goto (tgt := 2459) hx hb dL_law_647 (by decide) ?_
  refine W.widen (k := 1009 + 2 * ii) (n := 100145 + 25 * ii) (by omega) (by omega) ?_
  exact hend _ _ _ W1 W2 _ _ _ _ _ _ hW1 hW2 hJ hP hD hS hl
set_option maxHeartbeats 4000000 in
set_option maxRecDepth 100000 in
theorem lw_c10 {p : Program} {e : Env} {s : State} {m : MethodId} {below : List Frame} {meth : Method} {c : Code} (l : Launch) {sb L : Nat} {xs : Nat → Int32} (hL : L ≤ 3072) (C0 : lw_At p s m meth c sb L xs) {g : va_G} {cI cJ cB cZ cL : ClassId} (hK : va_K g vwCl (tyT cI cJ cB cZ cL) s) {kA vA : Nat → Nat} (hE : ENV kA vA (fun q : Nat => s.heap.size ≤ q) s) {x y : Nat} {ii : Nat} (h6 : ii + 6 ≤ L) (hend : ∀ (H : Heap) (locs : List Loc) (ls : Array Slot) (XT M : va_W) (sw sn ki mw mn kp : Nat → Int32) (hXT : XTSt cI cJ cB cZ cL x sw sn ki XT) (hM : MSt cI cJ cB cZ cL y mw mn kp M) (hJ : JJ sw sn ki mw mn kp) (hP : va_P g vwCl (XT ++ M) H) (hD : va_D (fun q : Nat => s.heap.size ≤ q) (XT ++ M)) (hS : va_S (fun q : Nat => s.heap.size ≤ q) s.heap H locs) (hl : lv_has ls 4 [(0, .ref sb), (1, .ref x), (2, .ref y), (3, .int (nI ii))]), W p l e room_1 s m #[Value.ref sb] below meth c H locs (1009 + 2 * ii) (100145 + 25 * ii) (lw_Z below #[Value.ref sb] s) (F0 m 2459 ls [])) (H : Heap) (locs : List Loc) (ls : Array Slot) (XT M : va_W) (sw sn ki mw mn kp : Nat → Int32) (hXT : XTSt cI cJ cB cZ cL x sw sn ki XT) (hM : MSt cI cJ cB cZ cL y mw mn kp M) (hJ : JJ sw sn ki mw mn kp) (hP : va_P g vwCl (XT ++ M) H) (hD : va_D (fun q : Nat => s.heap.size ≤ q) (XT ++ M)) (hS : va_S (fun q : Nat => s.heap.size ≤ q) s.heap H locs) (hl : lv_has ls 4 [(0, .ref sb), (1, .ref x), (2, .ref y), (3, .int (nI ii))]) : W p l e room_1 s m #[Value.ref sb] below meth c H locs (1000 + 2 * ii) (100000 + 25 * ii) (lw_Z below #[Value.ref sb] s) (F0 m 650 ls []) := by
  obtain ⟨hx, hb, hr, hml, hown, hts0, hX, hbl, hlocks, hgv⟩ := id C0
  have hts : ∀ w ∈ v_L_law, w.before #[Value.ref sb] s = true := fun w h => hts0 w (in_v_L_law w h)
  have hown : s.vm.findClass RL = some m.cls := hown
  have hA : ∀ q : Nat, s.heap.size ≤ q → (fun q : Nat => s.heap.size ≤ q) q := fun _ h => h
  have hbA : ¬ (fun q : Nat => s.heap.size ≤ q) sb := Nat.not_le.mpr hbl
  refine lv_aload_n hx hb dL_law_650 rfl (lv_at hl 1 rfl) ?_
  refine lv_aload_n hx hb dL_law_651 rfl (lv_at hl 0 rfl) ?_
  refine lv_iload_n hx hb dL_law_652 rfl (lv_at hl 3 rfl) ?_
  refine lv_iconst (v := 1) hx hb dL_law_653 (by decide) ?_
  refine lv_iadd hx hb dL_law_654 ?_
  refine va_sld hx hb hX hbl hbA hS (lw_ix 1 h6 hL (by decide)) dL_law_655 ?_
  refine lv_topi (nm_r (e' := xs (nI ii + 1).toNatClampNeg) rfl ?_)
  refine lv_aload_n hx hb dL_law_656 rfl (lv_at hl 0 rfl) ?_
  refine lv_iload_n hx hb dL_law_657 rfl (lv_at hl 3 rfl) ?_
  refine lv_iconst (v := 2) hx hb dL_law_658 (by decide) ?_
  refine lv_iadd hx hb dL_law_659 ?_
  refine va_sld hx hb hX hbl hbA hS (lw_ix 2 h6 hL (by decide)) dL_law_660 ?_
  refine lv_topi (nm_r (e' := xs (nI ii + 2).toNatClampNeg) rfl ?_)
  refine lc_i (X := XT) (Rr := M) (va_runV (As := [.int (xs (nI ii + 1).toNatClampNeg), .int (xs (nI ii + 2).toNatClampNeg)]) (rest := []) ⟨hx, hb, hml, hown, hts⟩ (lift_i (fun im X hX => cx_X11_state l g cI cJ cB cZ cL kA vA x im X H.size hX (xs (nI ii + 1).toNatClampNeg) (xs (nI ii + 2).toNatClampNeg)) hXT) (cwV 2 hts (goodIn_app (g_4 (List.mem_cons_of_mem _ (List.mem_append_left _ (List.mem_of_getElem? (i := 62) rfl))) (List.mem_cons_of_mem _ (List.mem_append_left _ (List.mem_of_getElem? (i := 63) rfl))) (List.mem_cons_of_mem _ (List.mem_append_left _ (List.mem_of_getElem? (i := 64) rfl))) (List.mem_cons_of_mem _ (List.mem_append_left _ (List.mem_of_getElem? (i := 3) rfl))) (by decide +kernel)) (goodIn_sub ml_v_X11_state good_v_X11_state)) rfl rfl rfl (by decide +kernel) ⟨Nat.le_of_ble_eq_true rfl, Nat.le_of_ble_eq_true rfl⟩) (lc_pre (ci := 10) (q := (RX11, TX11, 11)) hK hE hS hA hP hD rfl (xt_mem hXT)) rfl rfl hl.1 rfl (lv_room (Nat.le_of_ble_eq_true rfl)) dL_law_661 ⟨(by show (1000 + 2 * ii) + 0 ≤ 600000; omega), (by show (100000 + 25 * ii) + 0 ≤ 7302250; omega)⟩) hS hA hP hD (fun r661 W1 H locs hz661 hP hD hS => ?_)
  obtain ⟨hr661, hW1⟩ := hz661
  refine lv_pop hx hb dL_law_664 rfl ?_
  refine lv_aload_n hx hb dL_law_665 rfl (lv_at hl 2 rfl) ?_
  refine lv_aload_n hx hb dL_law_666 rfl (lv_at hl 0 rfl) ?_
  refine lv_iload_n hx hb dL_law_667 rfl (lv_at hl 3 rfl) ?_
  refine lv_iconst (v := 1) hx hb dL_law_668 (by decide) ?_
  refine lv_iadd hx hb dL_law_669 ?_
  refine va_sld hx hb hX hbl hbA hS (lw_ix 1 h6 hL (by decide)) dL_law_670 ?_
  refine lv_topi (nm_r (e' := xs (nI ii + 1).toNatClampNeg) rfl ?_)
  refine lv_aload_n hx hb dL_law_671 rfl (lv_at hl 0 rfl) ?_
  refine lv_iload_n hx hb dL_law_672 rfl (lv_at hl 3 rfl) ?_
  refine lv_iconst (v := 2) hx hb dL_law_673 (by decide) ?_
  refine lv_iadd hx hb dL_law_674 ?_
  refine va_sld hx hb hX hbl hbA hS (lw_ix 2 h6 hL (by decide)) dL_law_675 ?_
  refine lv_topi (nm_r (e' := xs (nI ii + 2).toNatClampNeg) rfl ?_)
  have hP := pm_Pp List.perm_append_comm hP
  have hD := pm_Dp List.perm_append_comm hD
  refine lc_i (X := M) (Rr := W1) (va_runV (As := [.int (xs (nI ii + 1).toNatClampNeg), .int (xs (nI ii + 2).toNatClampNeg)]) (rest := []) ⟨hx, hb, hml, hown, hts⟩ (cm_X12_state l g cI cJ cB cZ cL kA vA y M H.size hM (xs (nI ii + 1).toNatClampNeg) (xs (nI ii + 2).toNatClampNeg)) (cwV 2 hts (goodIn_app (g_4 (List.mem_cons_of_mem _ (List.mem_append_left _ (List.mem_of_getElem? (i := 65) rfl))) (List.mem_cons_of_mem _ (List.mem_append_left _ (List.mem_of_getElem? (i := 66) rfl))) (List.mem_cons_of_mem _ (List.mem_append_left _ (List.mem_of_getElem? (i := 67) rfl))) (List.mem_cons_of_mem _ (List.mem_append_left _ (List.mem_of_getElem? (i := 7) rfl))) (by decide +kernel)) (goodIn_sub ml_v_X12_state good_v_X12_state)) rfl rfl rfl (by decide +kernel) ⟨Nat.le_of_ble_eq_true rfl, Nat.le_of_ble_eq_true rfl⟩) (lc_pre (ci := 11) (q := (RX12, TX12, 56)) hK hE hS hA hP hD rfl (mt_mem hM)) rfl rfl hl.1 rfl (lv_room (Nat.le_of_ble_eq_true rfl)) dL_law_676 ⟨(by show (1000 + 2 * ii) + 0 + 0 ≤ 600000; omega), (by show (100000 + 25 * ii) + 0 + 0 ≤ 7302250; omega)⟩) hS hA hP hD (fun r676 W2 H locs hz676 hP hD hS => ?_)
  obtain ⟨hr676, hW2⟩ := hz676
  have hP := pm_Pp List.perm_append_comm hP
  have hD := pm_Dp List.perm_append_comm hD
  refine lv_pop hx hb dL_law_679 rfl ?_
  refine lv_goto (tgt := 2459) hx hb dL_law_680 (by decide) ?_
  refine W.widen (k := 1009 + 2 * ii) (n := 100145 + 25 * ii) (by omega) (by omega) ?_
  exact hend _ _ _ W1 W2 _ _ _ _ _ _ hW1 hW2 hJ hP hD hS hl
set_option maxHeartbeats 4000000 in
set_option maxRecDepth 100000 in
theorem lw_c11 {p : Program} {e : Env} {s : State} {m : MethodId} {below : List Frame} {meth : Method} {c : Code} (l : Launch) {sb L : Nat} {xs : Nat → Int32} (hL : L ≤ 3072) (C0 : lw_At p s m meth c sb L xs) {g : va_G} {cI cJ cB cZ cL : ClassId} (hK : va_K g vwCl (tyT cI cJ cB cZ cL) s) {kA vA : Nat → Nat} (hE : ENV kA vA (fun q : Nat => s.heap.size ≤ q) s) {x y : Nat} {ii : Nat} (h6 : ii + 6 ≤ L) (hend : ∀ (H : Heap) (locs : List Loc) (ls : Array Slot) (XT M : va_W) (sw sn ki mw mn kp : Nat → Int32) (hXT : XTSt cI cJ cB cZ cL x sw sn ki XT) (hM : MSt cI cJ cB cZ cL y mw mn kp M) (hJ : JJ sw sn ki mw mn kp) (hP : va_P g vwCl (XT ++ M) H) (hD : va_D (fun q : Nat => s.heap.size ≤ q) (XT ++ M)) (hS : va_S (fun q : Nat => s.heap.size ≤ q) s.heap H locs) (hl : lv_has ls 4 [(0, .ref sb), (1, .ref x), (2, .ref y), (3, .int (nI ii))]), W p l e room_1 s m #[Value.ref sb] below meth c H locs (1009 + 2 * ii) (100145 + 25 * ii) (lw_Z below #[Value.ref sb] s) (F0 m 2459 ls [])) (H : Heap) (locs : List Loc) (ls : Array Slot) (XT M : va_W) (sw sn ki mw mn kp : Nat → Int32) (hXT : XTSt cI cJ cB cZ cL x sw sn ki XT) (hM : MSt cI cJ cB cZ cL y mw mn kp M) (hJ : JJ sw sn ki mw mn kp) (hP : va_P g vwCl (XT ++ M) H) (hD : va_D (fun q : Nat => s.heap.size ≤ q) (XT ++ M)) (hS : va_S (fun q : Nat => s.heap.size ≤ q) s.heap H locs) (hl : lv_has ls 4 [(0, .ref sb), (1, .ref x), (2, .ref y), (3, .int (nI ii))]) : W p l e room_1 s m #[Value.ref sb] below meth c H locs (1000 + 2 * ii) (100000 + 25 * ii) (lw_Z below #[Value.ref sb] s) (F0 m 683 ls []) := by
  obtain ⟨hx, hb, hr, hml, hown, hts0, hX, hbl, hlocks, hgv⟩ := id C0
  have hts : ∀ w ∈ v_L_law, w.before #[Value.ref sb] s = true := fun w h => hts0 w (in_v_L_law w h)
  have hown : s.vm.findClass RL = some m.cls := hown
  have hA : ∀ q : Nat, s.heap.size ≤ q → (fun q : Nat => s.heap.size ≤ q) q := fun _ h => h
  have hbA : ¬ (fun q : Nat => s.heap.size ≤ q) sb := Nat.not_le.mpr hbl
  refine lv_aload_n hx hb dL_law_683 rfl (lv_at hl 1 rfl) ?_
  refine lv_aload_n hx hb dL_law_684 rfl (lv_at hl 0 rfl) ?_
  refine lv_iload_n hx hb dL_law_685 rfl (lv_at hl 3 rfl) ?_
  refine lv_iconst (v := 1) hx hb dL_law_686 (by decide) ?_
  refine lv_iadd hx hb dL_law_687 ?_
  refine va_sld hx hb hX hbl hbA hS (lw_ix 1 h6 hL (by decide)) dL_law_688 ?_
  refine lv_topi (nm_r (e' := xs (nI ii + 1).toNatClampNeg) rfl ?_)
  refine lv_aload_n hx hb dL_law_689 rfl (lv_at hl 0 rfl) ?_
  refine lv_iload_n hx hb dL_law_690 rfl (lv_at hl 3 rfl) ?_
  refine lv_iconst (v := 2) hx hb dL_law_691 (by decide) ?_
  refine lv_iadd hx hb dL_law_692 ?_
  refine va_sld hx hb hX hbl hbA hS (lw_ix 2 h6 hL (by decide)) dL_law_693 ?_
  refine lv_topi (nm_r (e' := xs (nI ii + 2).toNatClampNeg) rfl ?_)
  refine lc_i (X := XT) (Rr := M) (va_runV (As := [.int (xs (nI ii + 1).toNatClampNeg), .int (xs (nI ii + 2).toNatClampNeg)]) (rest := []) ⟨hx, hb, hml, hown, hts⟩ (lift_i (fun im X hX => cx_X11_cards l g cI cJ cB cZ cL kA vA x im X H.size hX (xs (nI ii + 1).toNatClampNeg) (xs (nI ii + 2).toNatClampNeg)) hXT) (cwV 2 hts (goodIn_app (g_4 (List.mem_cons_of_mem _ (List.mem_append_left _ (List.mem_of_getElem? (i := 68) rfl))) (List.mem_cons_of_mem _ (List.mem_append_left _ (List.mem_of_getElem? (i := 69) rfl))) (List.mem_cons_of_mem _ (List.mem_append_left _ (List.mem_of_getElem? (i := 70) rfl))) (List.mem_cons_of_mem _ (List.mem_append_left _ (List.mem_of_getElem? (i := 3) rfl))) (by decide +kernel)) (goodIn_sub ml_v_X11_cards good_v_X11_cards)) rfl rfl rfl (by decide +kernel) ⟨Nat.le_of_ble_eq_true rfl, Nat.le_of_ble_eq_true rfl⟩) (lc_pre (ci := 10) (q := (RX11, TX11, 11)) hK hE hS hA hP hD rfl (xt_mem hXT)) rfl rfl hl.1 rfl (lv_room (Nat.le_of_ble_eq_true rfl)) dL_law_694 ⟨(by show (1000 + 2 * ii) + 0 ≤ 600000; omega), (by show (100000 + 25 * ii) + 0 ≤ 7302250; omega)⟩) hS hA hP hD (fun r694 W1 H locs hz694 hP hD hS => ?_)
  obtain ⟨hr694, hW1⟩ := hz694
  refine lv_pop hx hb dL_law_697 rfl ?_
  refine lv_aload_n hx hb dL_law_698 rfl (lv_at hl 2 rfl) ?_
  refine lv_aload_n hx hb dL_law_699 rfl (lv_at hl 0 rfl) ?_
  refine lv_iload_n hx hb dL_law_700 rfl (lv_at hl 3 rfl) ?_
  refine lv_iconst (v := 1) hx hb dL_law_701 (by decide) ?_
  refine lv_iadd hx hb dL_law_702 ?_
  refine va_sld hx hb hX hbl hbA hS (lw_ix 1 h6 hL (by decide)) dL_law_703 ?_
  refine lv_topi (nm_r (e' := xs (nI ii + 1).toNatClampNeg) rfl ?_)
  refine lv_aload_n hx hb dL_law_704 rfl (lv_at hl 0 rfl) ?_
  refine lv_iload_n hx hb dL_law_705 rfl (lv_at hl 3 rfl) ?_
  refine lv_iconst (v := 2) hx hb dL_law_706 (by decide) ?_
  refine lv_iadd hx hb dL_law_707 ?_
  refine va_sld hx hb hX hbl hbA hS (lw_ix 2 h6 hL (by decide)) dL_law_708 ?_
  refine lv_topi (nm_r (e' := xs (nI ii + 2).toNatClampNeg) rfl ?_)
  have hP := pm_Pp List.perm_append_comm hP
  have hD := pm_Dp List.perm_append_comm hD
  refine lc_i (X := M) (Rr := W1) (va_runV (As := [.int (xs (nI ii + 1).toNatClampNeg), .int (xs (nI ii + 2).toNatClampNeg)]) (rest := []) ⟨hx, hb, hml, hown, hts⟩ (cm_X12_cards l g cI cJ cB cZ cL kA vA y M H.size hM (xs (nI ii + 1).toNatClampNeg) (xs (nI ii + 2).toNatClampNeg)) (cwV 2 hts (goodIn_app (g_4 (List.mem_cons_of_mem _ (List.mem_append_left _ (List.mem_of_getElem? (i := 71) rfl))) (List.mem_cons_of_mem _ (List.mem_append_left _ (List.mem_of_getElem? (i := 72) rfl))) (List.mem_cons_of_mem _ (List.mem_append_left _ (List.mem_of_getElem? (i := 73) rfl))) (List.mem_cons_of_mem _ (List.mem_append_left _ (List.mem_of_getElem? (i := 7) rfl))) (by decide +kernel)) (goodIn_sub ml_v_X12_cards good_v_X12_cards)) rfl rfl rfl (by decide +kernel) ⟨Nat.le_of_ble_eq_true rfl, Nat.le_of_ble_eq_true rfl⟩) (lc_pre (ci := 11) (q := (RX12, TX12, 56)) hK hE hS hA hP hD rfl (mt_mem hM)) rfl rfl hl.1 rfl (lv_room (Nat.le_of_ble_eq_true rfl)) dL_law_709 ⟨(by show (1000 + 2 * ii) + 0 + 0 ≤ 600000; omega), (by show (100000 + 25 * ii) + 0 + 0 ≤ 7302250; omega)⟩) hS hA hP hD (fun r709 W2 H locs hz709 hP hD hS => ?_)
  obtain ⟨hr709, hW2⟩ := hz709
  have hP := pm_Pp List.perm_append_comm hP
  have hD := pm_Dp List.perm_append_comm hD
  refine lv_pop hx hb dL_law_712 rfl ?_
  refine lv_goto (tgt := 2459) hx hb dL_law_713 (by decide) ?_
  refine W.widen (k := 1009 + 2 * ii) (n := 100145 + 25 * ii) (by omega) (by omega) ?_
  exact hend _ _ _ W1 W2 _ _ _ _ _ _ hW1 hW2 hJ hP hD hS hl
set_option maxHeartbeats 4000000 in
set_option maxRecDepth 100000 in
theorem lw_c12 {p : Program} {e : Env} {s : State} {m : MethodId} {below : List Frame} {meth : Method} {c : Code} (l : Launch) {sb L : Nat} {xs : Nat → Int32} (hL : L ≤ 3072) (C0 : lw_At p s m meth c sb L xs) {g : va_G} {cI cJ cB cZ cL : ClassId} (hK : va_K g vwCl (tyT cI cJ cB cZ cL) s) {kA vA : Nat → Nat} (hE : ENV kA vA (fun q : Nat => s.heap.size ≤ q) s) {x y : Nat} {ii : Nat} (h6 : ii + 6 ≤ L) (hend : ∀ (H : Heap) (locs : List Loc) (ls : Array Slot) (XT M : va_W) (sw sn ki mw mn kp : Nat → Int32) (hXT : XTSt cI cJ cB cZ cL x sw sn ki XT) (hM : MSt cI cJ cB cZ cL y mw mn kp M) (hJ : JJ sw sn ki mw mn kp) (hP : va_P g vwCl (XT ++ M) H) (hD : va_D (fun q : Nat => s.heap.size ≤ q) (XT ++ M)) (hS : va_S (fun q : Nat => s.heap.size ≤ q) s.heap H locs) (hl : lv_has ls 4 [(0, .ref sb), (1, .ref x), (2, .ref y), (3, .int (nI ii))]), W p l e room_1 s m #[Value.ref sb] below meth c H locs (1009 + 2 * ii) (100145 + 25 * ii) (lw_Z below #[Value.ref sb] s) (F0 m 2459 ls [])) (H : Heap) (locs : List Loc) (ls : Array Slot) (XT M : va_W) (sw sn ki mw mn kp : Nat → Int32) (hXT : XTSt cI cJ cB cZ cL x sw sn ki XT) (hM : MSt cI cJ cB cZ cL y mw mn kp M) (hJ : JJ sw sn ki mw mn kp) (hP : va_P g vwCl (XT ++ M) H) (hD : va_D (fun q : Nat => s.heap.size ≤ q) (XT ++ M)) (hS : va_S (fun q : Nat => s.heap.size ≤ q) s.heap H locs) (hl : lv_has ls 4 [(0, .ref sb), (1, .ref x), (2, .ref y), (3, .int (nI ii))]) : W p l e room_1 s m #[Value.ref sb] below meth c H locs (1000 + 2 * ii) (100000 + 25 * ii) (lw_Z below #[Value.ref sb] s) (F0 m 716 ls []) := by
  obtain ⟨hx, hb, hr, hml, hown, hts0, hX, hbl, hlocks, hgv⟩ := id C0
  have hts : ∀ w ∈ v_L_law, w.before #[Value.ref sb] s = true := fun w h => hts0 w (in_v_L_law w h)
  have hown : s.vm.findClass RL = some m.cls := hown
  have hA : ∀ q : Nat, s.heap.size ≤ q → (fun q : Nat => s.heap.size ≤ q) q := fun _ h => h
  have hbA : ¬ (fun q : Nat => s.heap.size ≤ q) sb := Nat.not_le.mpr hbl
  refine lv_aload_n hx hb dL_law_716 rfl (lv_at hl 1 rfl) ?_
  refine lv_aload_n hx hb dL_law_717 rfl (lv_at hl 0 rfl) ?_
  refine lv_iload_n hx hb dL_law_718 rfl (lv_at hl 3 rfl) ?_
  refine lv_iconst (v := 1) hx hb dL_law_719 (by decide) ?_
  refine lv_iadd hx hb dL_law_720 ?_
  refine va_sld hx hb hX hbl hbA hS (lw_ix 1 h6 hL (by decide)) dL_law_721 ?_
  refine lv_topi (nm_r (e' := xs (nI ii + 1).toNatClampNeg) rfl ?_)
  refine lv_aload_n hx hb dL_law_722 rfl (lv_at hl 0 rfl) ?_
  refine lv_iload_n hx hb dL_law_723 rfl (lv_at hl 3 rfl) ?_
  refine lv_iconst (v := 2) hx hb dL_law_724 (by decide) ?_
  refine lv_iadd hx hb dL_law_725 ?_
  refine va_sld hx hb hX hbl hbA hS (lw_ix 2 h6 hL (by decide)) dL_law_726 ?_
  refine lv_topi (nm_r (e' := xs (nI ii + 2).toNatClampNeg) rfl ?_)
  refine lc_i (X := XT) (Rr := M) (va_runV (As := [.int (xs (nI ii + 1).toNatClampNeg), .int (xs (nI ii + 2).toNatClampNeg)]) (rest := []) ⟨hx, hb, hml, hown, hts⟩ (lift_i (fun im X hX => cx_X11_list l g cI cJ cB cZ cL kA vA x im X H.size hX (xs (nI ii + 1).toNatClampNeg) (xs (nI ii + 2).toNatClampNeg)) hXT) (cwV 2 hts (goodIn_app (g_4 (List.mem_cons_of_mem _ (List.mem_append_left _ (List.mem_of_getElem? (i := 74) rfl))) (List.mem_cons_of_mem _ (List.mem_append_left _ (List.mem_of_getElem? (i := 75) rfl))) (List.mem_cons_of_mem _ (List.mem_append_left _ (List.mem_of_getElem? (i := 76) rfl))) (List.mem_cons_of_mem _ (List.mem_append_left _ (List.mem_of_getElem? (i := 3) rfl))) (by decide +kernel)) (goodIn_sub ml_v_X11_list good_v_X11_list)) rfl rfl rfl (by decide +kernel) ⟨Nat.le_of_ble_eq_true rfl, Nat.le_of_ble_eq_true rfl⟩) (lc_pre (ci := 10) (q := (RX11, TX11, 11)) hK hE hS hA hP hD rfl (xt_mem hXT)) rfl rfl hl.1 rfl (lv_room (Nat.le_of_ble_eq_true rfl)) dL_law_727 ⟨(by show (1000 + 2 * ii) + 0 ≤ 600000; omega), (by show (100000 + 25 * ii) + 0 ≤ 7302250; omega)⟩) hS hA hP hD (fun r727 W1 H locs hz727 hP hD hS => ?_)
  obtain ⟨hr727, hW1⟩ := hz727
  refine lv_pop hx hb dL_law_730 rfl ?_
  refine lv_aload_n hx hb dL_law_731 rfl (lv_at hl 2 rfl) ?_
  refine lv_aload_n hx hb dL_law_732 rfl (lv_at hl 0 rfl) ?_
  refine lv_iload_n hx hb dL_law_733 rfl (lv_at hl 3 rfl) ?_
  refine lv_iconst (v := 1) hx hb dL_law_734 (by decide) ?_
  refine lv_iadd hx hb dL_law_735 ?_
  refine va_sld hx hb hX hbl hbA hS (lw_ix 1 h6 hL (by decide)) dL_law_736 ?_
  refine lv_topi (nm_r (e' := xs (nI ii + 1).toNatClampNeg) rfl ?_)
  refine lv_aload_n hx hb dL_law_737 rfl (lv_at hl 0 rfl) ?_
  refine lv_iload_n hx hb dL_law_738 rfl (lv_at hl 3 rfl) ?_
  refine lv_iconst (v := 2) hx hb dL_law_739 (by decide) ?_
  refine lv_iadd hx hb dL_law_740 ?_
  refine va_sld hx hb hX hbl hbA hS (lw_ix 2 h6 hL (by decide)) dL_law_741 ?_
  refine lv_topi (nm_r (e' := xs (nI ii + 2).toNatClampNeg) rfl ?_)
  have hP := pm_Pp List.perm_append_comm hP
  have hD := pm_Dp List.perm_append_comm hD
  refine lc_i (X := M) (Rr := W1) (va_runV (As := [.int (xs (nI ii + 1).toNatClampNeg), .int (xs (nI ii + 2).toNatClampNeg)]) (rest := []) ⟨hx, hb, hml, hown, hts⟩ (cm_X12_list l g cI cJ cB cZ cL kA vA y M H.size hM (xs (nI ii + 1).toNatClampNeg) (xs (nI ii + 2).toNatClampNeg)) (cwV 2 hts (goodIn_app (g_4 (List.mem_cons_of_mem _ (List.mem_append_left _ (List.mem_of_getElem? (i := 77) rfl))) (List.mem_cons_of_mem _ (List.mem_append_left _ (List.mem_of_getElem? (i := 78) rfl))) (List.mem_cons_of_mem _ (List.mem_append_left _ (List.mem_of_getElem? (i := 79) rfl))) (List.mem_cons_of_mem _ (List.mem_append_left _ (List.mem_of_getElem? (i := 7) rfl))) (by decide +kernel)) (goodIn_sub ml_v_X12_list good_v_X12_list)) rfl rfl rfl (by decide +kernel) ⟨Nat.le_of_ble_eq_true rfl, Nat.le_of_ble_eq_true rfl⟩) (lc_pre (ci := 11) (q := (RX12, TX12, 56)) hK hE hS hA hP hD rfl (mt_mem hM)) rfl rfl hl.1 rfl (lv_room (Nat.le_of_ble_eq_true rfl)) dL_law_742 ⟨(by show (1000 + 2 * ii) + 0 + 0 ≤ 600000; omega), (by show (100000 + 25 * ii) + 0 + 0 ≤ 7302250; omega)⟩) hS hA hP hD (fun r742 W2 H locs hz742 hP hD hS => ?_)
  obtain ⟨hr742, hW2⟩ := hz742
  have hP := pm_Pp List.perm_append_comm hP
  have hD := pm_Dp List.perm_append_comm hD
  refine lv_pop hx hb dL_law_745 rfl ?_
  refine lv_goto (tgt := 2459) hx hb dL_law_746 (by decide) ?_
  refine W.widen (k := 1009 + 2 * ii) (n := 100145 + 25 * ii) (by omega) (by omega) ?_
  exact hend _ _ _ W1 W2 _ _ _ _ _ _ hW1 hW2 hJ hP hD hS hl
set_option maxHeartbeats 4000000 in
set_option maxRecDepth 100000 in
theorem lw_c13 {p : Program} {e : Env} {s : State} {m : MethodId} {below : List Frame} {meth : Method} {c : Code} (l : Launch) {sb L : Nat} {xs : Nat → Int32} (hL : L ≤ 3072) (C0 : lw_At p s m meth c sb L xs) {g : va_G} {cI cJ cB cZ cL : ClassId} (hK : va_K g vwCl (tyT cI cJ cB cZ cL) s) {kA vA : Nat → Nat} (hE : ENV kA vA (fun q : Nat => s.heap.size ≤ q) s) {x y : Nat} {ii : Nat} (h6 : ii + 6 ≤ L) (hend : ∀ (H : Heap) (locs : List Loc) (ls : Array Slot) (XT M : va_W) (sw sn ki mw mn kp : Nat → Int32) (hXT : XTSt cI cJ cB cZ cL x sw sn ki XT) (hM : MSt cI cJ cB cZ cL y mw mn kp M) (hJ : JJ sw sn ki mw mn kp) (hP : va_P g vwCl (XT ++ M) H) (hD : va_D (fun q : Nat => s.heap.size ≤ q) (XT ++ M)) (hS : va_S (fun q : Nat => s.heap.size ≤ q) s.heap H locs) (hl : lv_has ls 4 [(0, .ref sb), (1, .ref x), (2, .ref y), (3, .int (nI ii))]), W p l e room_1 s m #[Value.ref sb] below meth c H locs (1009 + 2 * ii) (100145 + 25 * ii) (lw_Z below #[Value.ref sb] s) (F0 m 2459 ls [])) (H : Heap) (locs : List Loc) (ls : Array Slot) (XT M : va_W) (sw sn ki mw mn kp : Nat → Int32) (hXT : XTSt cI cJ cB cZ cL x sw sn ki XT) (hM : MSt cI cJ cB cZ cL y mw mn kp M) (hJ : JJ sw sn ki mw mn kp) (hP : va_P g vwCl (XT ++ M) H) (hD : va_D (fun q : Nat => s.heap.size ≤ q) (XT ++ M)) (hS : va_S (fun q : Nat => s.heap.size ≤ q) s.heap H locs) (hl : lv_has ls 4 [(0, .ref sb), (1, .ref x), (2, .ref y), (3, .int (nI ii))]) : W p l e room_1 s m #[Value.ref sb] below meth c H locs (1000 + 2 * ii) (100000 + 25 * ii) (lw_Z below #[Value.ref sb] s) (F0 m 749 ls []) := by
  obtain ⟨hx, hb, hr, hml, hown, hts0, hX, hbl, hlocks, hgv⟩ := id C0
  have hts : ∀ w ∈ v_L_law, w.before #[Value.ref sb] s = true := fun w h => hts0 w (in_v_L_law w h)
  have hown : s.vm.findClass RL = some m.cls := hown
  have hA : ∀ q : Nat, s.heap.size ≤ q → (fun q : Nat => s.heap.size ≤ q) q := fun _ h => h
  have hbA : ¬ (fun q : Nat => s.heap.size ≤ q) sb := Nat.not_le.mpr hbl
  refine lv_aload_n hx hb dL_law_749 rfl (lv_at hl 1 rfl) ?_
  refine lv_aload_n hx hb dL_law_750 rfl (lv_at hl 0 rfl) ?_
  refine lv_iload_n hx hb dL_law_751 rfl (lv_at hl 3 rfl) ?_
  refine lv_iconst (v := 1) hx hb dL_law_752 (by decide) ?_
  refine lv_iadd hx hb dL_law_753 ?_
  refine va_sld hx hb hX hbl hbA hS (lw_ix 1 h6 hL (by decide)) dL_law_754 ?_
  refine lv_topi (nm_r (e' := xs (nI ii + 1).toNatClampNeg) rfl ?_)
  refine lv_aload_n hx hb dL_law_755 rfl (lv_at hl 0 rfl) ?_
  refine lv_iload_n hx hb dL_law_756 rfl (lv_at hl 3 rfl) ?_
  refine lv_iconst (v := 2) hx hb dL_law_757 (by decide) ?_
  refine lv_iadd hx hb dL_law_758 ?_
  refine va_sld hx hb hX hbl hbA hS (lw_ix 2 h6 hL (by decide)) dL_law_759 ?_
  refine lv_topi (nm_r (e' := xs (nI ii + 2).toNatClampNeg) rfl ?_)
  refine lc_i (X := XT) (Rr := M) (va_runV (As := [.int (xs (nI ii + 1).toNatClampNeg), .int (xs (nI ii + 2).toNatClampNeg)]) (rest := []) ⟨hx, hb, hml, hown, hts⟩ (lift_i (fun im X hX => cx_X11_mantel l g cI cJ cB cZ cL kA vA x im X H.size hX (xs (nI ii + 1).toNatClampNeg) (xs (nI ii + 2).toNatClampNeg)) hXT) (cwV 2 hts (goodIn_app (g_4 (List.mem_cons_of_mem _ (List.mem_append_left _ (List.mem_of_getElem? (i := 80) rfl))) (List.mem_cons_of_mem _ (List.mem_append_left _ (List.mem_of_getElem? (i := 81) rfl))) (List.mem_cons_of_mem _ (List.mem_append_left _ (List.mem_of_getElem? (i := 82) rfl))) (List.mem_cons_of_mem _ (List.mem_append_left _ (List.mem_of_getElem? (i := 3) rfl))) (by decide +kernel)) (goodIn_sub ml_v_X11_mantel good_v_X11_mantel)) rfl rfl rfl (by decide +kernel) ⟨Nat.le_of_ble_eq_true rfl, Nat.le_of_ble_eq_true rfl⟩) (lc_pre (ci := 10) (q := (RX11, TX11, 11)) hK hE hS hA hP hD rfl (xt_mem hXT)) rfl rfl hl.1 rfl (lv_room (Nat.le_of_ble_eq_true rfl)) dL_law_760 ⟨(by show (1000 + 2 * ii) + 0 ≤ 600000; omega), (by show (100000 + 25 * ii) + 0 ≤ 7302250; omega)⟩) hS hA hP hD (fun r760 W1 H locs hz760 hP hD hS => ?_)
  obtain ⟨hr760, hW1⟩ := hz760
  refine lv_pop hx hb dL_law_763 rfl ?_
  refine lv_aload_n hx hb dL_law_764 rfl (lv_at hl 2 rfl) ?_
  refine lv_aload_n hx hb dL_law_765 rfl (lv_at hl 0 rfl) ?_
  refine lv_iload_n hx hb dL_law_766 rfl (lv_at hl 3 rfl) ?_
  refine lv_iconst (v := 1) hx hb dL_law_767 (by decide) ?_
  refine lv_iadd hx hb dL_law_768 ?_
  refine va_sld hx hb hX hbl hbA hS (lw_ix 1 h6 hL (by decide)) dL_law_769 ?_
  refine lv_topi (nm_r (e' := xs (nI ii + 1).toNatClampNeg) rfl ?_)
  refine lv_aload_n hx hb dL_law_770 rfl (lv_at hl 0 rfl) ?_
  refine lv_iload_n hx hb dL_law_771 rfl (lv_at hl 3 rfl) ?_
  refine lv_iconst (v := 2) hx hb dL_law_772 (by decide) ?_
  refine lv_iadd hx hb dL_law_773 ?_
  refine va_sld hx hb hX hbl hbA hS (lw_ix 2 h6 hL (by decide)) dL_law_774 ?_
  refine lv_topi (nm_r (e' := xs (nI ii + 2).toNatClampNeg) rfl ?_)
  have hP := pm_Pp List.perm_append_comm hP
  have hD := pm_Dp List.perm_append_comm hD
  refine lc_i (X := M) (Rr := W1) (va_runV (As := [.int (xs (nI ii + 1).toNatClampNeg), .int (xs (nI ii + 2).toNatClampNeg)]) (rest := []) ⟨hx, hb, hml, hown, hts⟩ (cm_X12_mantel l g cI cJ cB cZ cL kA vA y M H.size hM (xs (nI ii + 1).toNatClampNeg) (xs (nI ii + 2).toNatClampNeg)) (cwV 2 hts (goodIn_app (g_4 (List.mem_cons_of_mem _ (List.mem_append_left _ (List.mem_of_getElem? (i := 83) rfl))) (List.mem_cons_of_mem _ (List.mem_append_left _ (List.mem_of_getElem? (i := 84) rfl))) (List.mem_cons_of_mem _ (List.mem_append_left _ (List.mem_of_getElem? (i := 85) rfl))) (List.mem_cons_of_mem _ (List.mem_append_left _ (List.mem_of_getElem? (i := 7) rfl))) (by decide +kernel)) (goodIn_sub ml_v_X12_mantel good_v_X12_mantel)) rfl rfl rfl (by decide +kernel) ⟨Nat.le_of_ble_eq_true rfl, Nat.le_of_ble_eq_true rfl⟩) (lc_pre (ci := 11) (q := (RX12, TX12, 56)) hK hE hS hA hP hD rfl (mt_mem hM)) rfl rfl hl.1 rfl (lv_room (Nat.le_of_ble_eq_true rfl)) dL_law_775 ⟨(by show (1000 + 2 * ii) + 0 + 0 ≤ 600000; omega), (by show (100000 + 25 * ii) + 0 + 0 ≤ 7302250; omega)⟩) hS hA hP hD (fun r775 W2 H locs hz775 hP hD hS => ?_)
  obtain ⟨hr775, hW2⟩ := hz775
  have hP := pm_Pp List.perm_append_comm hP
  have hD := pm_Dp List.perm_append_comm hD
  refine lv_pop hx hb dL_law_778 rfl ?_
  refine lv_goto (tgt := 2459) hx hb dL_law_779 (by decide) ?_
  refine W.widen (k := 1009 + 2 * ii) (n := 100145 + 25 * ii) (by omega) (by omega) ?_
  exact hend _ _ _ W1 W2 _ _ _ _ _ _ hW1 hW2 hJ hP hD hS hl
set_option maxHeartbeats 4000000 in
set_option maxRecDepth 100000 in
theorem lw_c14 {p : Program} {e : Env} {s : State} {m : MethodId} {below : List Frame} {meth : Method} {c : Code} (l : Launch) {sb L : Nat} {xs : Nat → Int32} (hL : L ≤ 3072) (C0 : lw_At p s m meth c sb L xs) {g : va_G} {cI cJ cB cZ cL : ClassId} (hK : va_K g vwCl (tyT cI cJ cB cZ cL) s) {kA vA : Nat → Nat} (hE : ENV kA vA (fun q : Nat => s.heap.size ≤ q) s) {x y : Nat} {ii : Nat} (h6 : ii + 6 ≤ L) (hend : ∀ (H : Heap) (locs : List Loc) (ls : Array Slot) (XT M : va_W) (sw sn ki mw mn kp : Nat → Int32) (hXT : XTSt cI cJ cB cZ cL x sw sn ki XT) (hM : MSt cI cJ cB cZ cL y mw mn kp M) (hJ : JJ sw sn ki mw mn kp) (hP : va_P g vwCl (XT ++ M) H) (hD : va_D (fun q : Nat => s.heap.size ≤ q) (XT ++ M)) (hS : va_S (fun q : Nat => s.heap.size ≤ q) s.heap H locs) (hl : lv_has ls 4 [(0, .ref sb), (1, .ref x), (2, .ref y), (3, .int (nI ii))]), W p l e room_1 s m #[Value.ref sb] below meth c H locs (1009 + 2 * ii) (100145 + 25 * ii) (lw_Z below #[Value.ref sb] s) (F0 m 2459 ls [])) (H : Heap) (locs : List Loc) (ls : Array Slot) (XT M : va_W) (sw sn ki mw mn kp : Nat → Int32) (hXT : XTSt cI cJ cB cZ cL x sw sn ki XT) (hM : MSt cI cJ cB cZ cL y mw mn kp M) (hJ : JJ sw sn ki mw mn kp) (hP : va_P g vwCl (XT ++ M) H) (hD : va_D (fun q : Nat => s.heap.size ≤ q) (XT ++ M)) (hS : va_S (fun q : Nat => s.heap.size ≤ q) s.heap H locs) (hl : lv_has ls 4 [(0, .ref sb), (1, .ref x), (2, .ref y), (3, .int (nI ii))]) : W p l e room_1 s m #[Value.ref sb] below meth c H locs (1000 + 2 * ii) (100000 + 25 * ii) (lw_Z below #[Value.ref sb] s) (F0 m 782 ls []) := by
  obtain ⟨hx, hb, hr, hml, hown, hts0, hX, hbl, hlocks, hgv⟩ := id C0
  have hts : ∀ w ∈ v_L_law, w.before #[Value.ref sb] s = true := fun w h => hts0 w (in_v_L_law w h)
  have hown : s.vm.findClass RL = some m.cls := hown
  have hA : ∀ q : Nat, s.heap.size ≤ q → (fun q : Nat => s.heap.size ≤ q) q := fun _ h => h
  have hbA : ¬ (fun q : Nat => s.heap.size ≤ q) sb := Nat.not_le.mpr hbl
  refine lv_aload_n hx hb dL_law_782 rfl (lv_at hl 1 rfl) ?_
  refine lv_aload_n hx hb dL_law_783 rfl (lv_at hl 0 rfl) ?_
  refine lv_iload_n hx hb dL_law_784 rfl (lv_at hl 3 rfl) ?_
  refine lv_iconst (v := 1) hx hb dL_law_785 (by decide) ?_
  refine lv_iadd hx hb dL_law_786 ?_
  refine va_sld hx hb hX hbl hbA hS (lw_ix 1 h6 hL (by decide)) dL_law_787 ?_
  refine lv_topi (nm_r (e' := xs (nI ii + 1).toNatClampNeg) rfl ?_)
  refine lv_aload_n hx hb dL_law_788 rfl (lv_at hl 0 rfl) ?_
  refine lv_iload_n hx hb dL_law_789 rfl (lv_at hl 3 rfl) ?_
  refine lv_iconst (v := 2) hx hb dL_law_790 (by decide) ?_
  refine lv_iadd hx hb dL_law_791 ?_
  refine va_sld hx hb hX hbl hbA hS (lw_ix 2 h6 hL (by decide)) dL_law_792 ?_
  refine lv_topi (nm_r (e' := xs (nI ii + 2).toNatClampNeg) rfl ?_)
  refine lc_i (X := XT) (Rr := M) (va_runV (As := [.int (xs (nI ii + 1).toNatClampNeg), .int (xs (nI ii + 2).toNatClampNeg)]) (rest := []) ⟨hx, hb, hml, hown, hts⟩ (lift_i (fun im X hX => cx_X11_whose l g cI cJ cB cZ cL kA vA x im X H.size hX (xs (nI ii + 1).toNatClampNeg) (xs (nI ii + 2).toNatClampNeg)) hXT) (cwV 2 hts (goodIn_app (g_4 (List.mem_cons_of_mem _ (List.mem_append_left _ (List.mem_of_getElem? (i := 86) rfl))) (List.mem_cons_of_mem _ (List.mem_append_left _ (List.mem_of_getElem? (i := 87) rfl))) (List.mem_cons_of_mem _ (List.mem_append_left _ (List.mem_of_getElem? (i := 88) rfl))) (List.mem_cons_of_mem _ (List.mem_append_left _ (List.mem_of_getElem? (i := 3) rfl))) (by decide +kernel)) (goodIn_sub ml_v_X11_whose good_v_X11_whose)) rfl rfl rfl (by decide +kernel) ⟨Nat.le_of_ble_eq_true rfl, Nat.le_of_ble_eq_true rfl⟩) (lc_pre (ci := 10) (q := (RX11, TX11, 11)) hK hE hS hA hP hD rfl (xt_mem hXT)) rfl rfl hl.1 rfl (lv_room (Nat.le_of_ble_eq_true rfl)) dL_law_793 ⟨(by show (1000 + 2 * ii) + 0 ≤ 600000; omega), (by show (100000 + 25 * ii) + 0 ≤ 7302250; omega)⟩) hS hA hP hD (fun r793 W1 H locs hz793 hP hD hS => ?_)
  obtain ⟨hr793, hW1⟩ := hz793
  refine lv_pop hx hb dL_law_796 rfl ?_
  refine lv_aload_n hx hb dL_law_797 rfl (lv_at hl 2 rfl) ?_
  refine lv_aload_n hx hb dL_law_798 rfl (lv_at hl 0 rfl) ?_
  refine lv_iload_n hx hb dL_law_799 rfl (lv_at hl 3 rfl) ?_
  refine lv_iconst (v := 1) hx hb dL_law_800 (by decide) ?_
  refine lv_iadd hx hb dL_law_801 ?_
  refine va_sld hx hb hX hbl hbA hS (lw_ix 1 h6 hL (by decide)) dL_law_802 ?_
  refine lv_topi (nm_r (e' := xs (nI ii + 1).toNatClampNeg) rfl ?_)
  refine lv_aload_n hx hb dL_law_803 rfl (lv_at hl 0 rfl) ?_
  refine lv_iload_n hx hb dL_law_804 rfl (lv_at hl 3 rfl) ?_
  refine lv_iconst (v := 2) hx hb dL_law_805 (by decide) ?_
  refine lv_iadd hx hb dL_law_806 ?_
  refine va_sld hx hb hX hbl hbA hS (lw_ix 2 h6 hL (by decide)) dL_law_807 ?_
  refine lv_topi (nm_r (e' := xs (nI ii + 2).toNatClampNeg) rfl ?_)
  have hP := pm_Pp List.perm_append_comm hP
  have hD := pm_Dp List.perm_append_comm hD
  refine lc_i (X := M) (Rr := W1) (va_runV (As := [.int (xs (nI ii + 1).toNatClampNeg), .int (xs (nI ii + 2).toNatClampNeg)]) (rest := []) ⟨hx, hb, hml, hown, hts⟩ (cm_X12_whose l g cI cJ cB cZ cL kA vA y M H.size hM (xs (nI ii + 1).toNatClampNeg) (xs (nI ii + 2).toNatClampNeg)) (cwV 2 hts (goodIn_app (g_4 (List.mem_cons_of_mem _ (List.mem_append_left _ (List.mem_of_getElem? (i := 89) rfl))) (List.mem_cons_of_mem _ (List.mem_append_left _ (List.mem_of_getElem? (i := 90) rfl))) (List.mem_cons_of_mem _ (List.mem_append_left _ (List.mem_of_getElem? (i := 91) rfl))) (List.mem_cons_of_mem _ (List.mem_append_left _ (List.mem_of_getElem? (i := 7) rfl))) (by decide +kernel)) (goodIn_sub ml_v_X12_whose good_v_X12_whose)) rfl rfl rfl (by decide +kernel) ⟨Nat.le_of_ble_eq_true rfl, Nat.le_of_ble_eq_true rfl⟩) (lc_pre (ci := 11) (q := (RX12, TX12, 56)) hK hE hS hA hP hD rfl (mt_mem hM)) rfl rfl hl.1 rfl (lv_room (Nat.le_of_ble_eq_true rfl)) dL_law_808 ⟨(by show (1000 + 2 * ii) + 0 + 0 ≤ 600000; omega), (by show (100000 + 25 * ii) + 0 + 0 ≤ 7302250; omega)⟩) hS hA hP hD (fun r808 W2 H locs hz808 hP hD hS => ?_)
  obtain ⟨hr808, hW2⟩ := hz808
  have hP := pm_Pp List.perm_append_comm hP
  have hD := pm_Dp List.perm_append_comm hD
  refine lv_pop hx hb dL_law_811 rfl ?_
  refine lv_goto (tgt := 2459) hx hb dL_law_812 (by decide) ?_
  refine W.widen (k := 1009 + 2 * ii) (n := 100145 + 25 * ii) (by omega) (by omega) ?_
  exact hend _ _ _ W1 W2 _ _ _ _ _ _ hW1 hW2 hJ hP hD hS hl
set_option maxHeartbeats 4000000 in
set_option maxRecDepth 100000 in
theorem lw_c15 {p : Program} {e : Env} {s : State} {m : MethodId} {below : List Frame} {meth : Method} {c : Code} (l : Launch) {sb L : Nat} {xs : Nat → Int32} (hL : L ≤ 3072) (C0 : lw_At p s m meth c sb L xs) {g : va_G} {cI cJ cB cZ cL : ClassId} (hK : va_K g vwCl (tyT cI cJ cB cZ cL) s) {kA vA : Nat → Nat} (hE : ENV kA vA (fun q : Nat => s.heap.size ≤ q) s) {x y : Nat} {ii : Nat} (h6 : ii + 6 ≤ L) (hend : ∀ (H : Heap) (locs : List Loc) (ls : Array Slot) (XT M : va_W) (sw sn ki mw mn kp : Nat → Int32) (hXT : XTSt cI cJ cB cZ cL x sw sn ki XT) (hM : MSt cI cJ cB cZ cL y mw mn kp M) (hJ : JJ sw sn ki mw mn kp) (hP : va_P g vwCl (XT ++ M) H) (hD : va_D (fun q : Nat => s.heap.size ≤ q) (XT ++ M)) (hS : va_S (fun q : Nat => s.heap.size ≤ q) s.heap H locs) (hl : lv_has ls 4 [(0, .ref sb), (1, .ref x), (2, .ref y), (3, .int (nI ii))]), W p l e room_1 s m #[Value.ref sb] below meth c H locs (1009 + 2 * ii) (100145 + 25 * ii) (lw_Z below #[Value.ref sb] s) (F0 m 2459 ls [])) (H : Heap) (locs : List Loc) (ls : Array Slot) (XT M : va_W) (sw sn ki mw mn kp : Nat → Int32) (hXT : XTSt cI cJ cB cZ cL x sw sn ki XT) (hM : MSt cI cJ cB cZ cL y mw mn kp M) (hJ : JJ sw sn ki mw mn kp) (hP : va_P g vwCl (XT ++ M) H) (hD : va_D (fun q : Nat => s.heap.size ≤ q) (XT ++ M)) (hS : va_S (fun q : Nat => s.heap.size ≤ q) s.heap H locs) (hl : lv_has ls 4 [(0, .ref sb), (1, .ref x), (2, .ref y), (3, .int (nI ii))]) : W p l e room_1 s m #[Value.ref sb] below meth c H locs (1000 + 2 * ii) (100000 + 25 * ii) (lw_Z below #[Value.ref sb] s) (F0 m 815 ls []) := by
  obtain ⟨hx, hb, hr, hml, hown, hts0, hX, hbl, hlocks, hgv⟩ := id C0
  have hts : ∀ w ∈ v_L_law, w.before #[Value.ref sb] s = true := fun w h => hts0 w (in_v_L_law w h)
  have hown : s.vm.findClass RL = some m.cls := hown
  have hA : ∀ q : Nat, s.heap.size ≤ q → (fun q : Nat => s.heap.size ≤ q) q := fun _ h => h
  have hbA : ¬ (fun q : Nat => s.heap.size ≤ q) sb := Nat.not_le.mpr hbl
  refine lv_aload_n hx hb dL_law_815 rfl (lv_at hl 1 rfl) ?_
  refine lv_aload_n hx hb dL_law_816 rfl (lv_at hl 0 rfl) ?_
  refine lv_iload_n hx hb dL_law_817 rfl (lv_at hl 3 rfl) ?_
  refine lv_iconst (v := 1) hx hb dL_law_818 (by decide) ?_
  refine lv_iadd hx hb dL_law_819 ?_
  refine va_sld hx hb hX hbl hbA hS (lw_ix 1 h6 hL (by decide)) dL_law_820 ?_
  refine lv_topi (nm_r (e' := xs (nI ii + 1).toNatClampNeg) rfl ?_)
  refine lv_aload_n hx hb dL_law_821 rfl (lv_at hl 0 rfl) ?_
  refine lv_iload_n hx hb dL_law_822 rfl (lv_at hl 3 rfl) ?_
  refine lv_iconst (v := 2) hx hb dL_law_823 (by decide) ?_
  refine lv_iadd hx hb dL_law_824 ?_
  refine va_sld hx hb hX hbl hbA hS (lw_ix 2 h6 hL (by decide)) dL_law_825 ?_
  refine lv_topi (nm_r (e' := xs (nI ii + 2).toNatClampNeg) rfl ?_)
  refine lc_i (X := XT) (Rr := M) (va_runV (As := [.int (xs (nI ii + 1).toNatClampNeg), .int (xs (nI ii + 2).toNatClampNeg)]) (rest := []) ⟨hx, hb, hml, hown, hts⟩ (lift_i (fun im X hX => cx_X11_hurts l g cI cJ cB cZ cL kA vA x im X H.size hX (xs (nI ii + 1).toNatClampNeg) (xs (nI ii + 2).toNatClampNeg)) hXT) (cwV 2 hts (goodIn_app (g_4 (List.mem_cons_of_mem _ (List.mem_append_left _ (List.mem_of_getElem? (i := 92) rfl))) (List.mem_cons_of_mem _ (List.mem_append_left _ (List.mem_of_getElem? (i := 93) rfl))) (List.mem_cons_of_mem _ (List.mem_append_left _ (List.mem_of_getElem? (i := 94) rfl))) (List.mem_cons_of_mem _ (List.mem_append_left _ (List.mem_of_getElem? (i := 3) rfl))) (by decide +kernel)) (goodIn_sub ml_v_X11_hurts good_v_X11_hurts)) rfl rfl rfl (by decide +kernel) ⟨Nat.le_of_ble_eq_true rfl, Nat.le_of_ble_eq_true rfl⟩) (lc_pre (ci := 10) (q := (RX11, TX11, 11)) hK hE hS hA hP hD rfl (xt_mem hXT)) rfl rfl hl.1 rfl (lv_room (Nat.le_of_ble_eq_true rfl)) dL_law_826 ⟨(by show (1000 + 2 * ii) + 0 ≤ 600000; omega), (by show (100000 + 25 * ii) + 0 ≤ 7302250; omega)⟩) hS hA hP hD (fun r826 W1 H locs hz826 hP hD hS => ?_)
  obtain ⟨hr826, hW1⟩ := hz826
  refine lv_pop hx hb dL_law_829 rfl ?_
  refine lv_aload_n hx hb dL_law_830 rfl (lv_at hl 2 rfl) ?_
  refine lv_aload_n hx hb dL_law_831 rfl (lv_at hl 0 rfl) ?_
  refine lv_iload_n hx hb dL_law_832 rfl (lv_at hl 3 rfl) ?_
  refine lv_iconst (v := 1) hx hb dL_law_833 (by decide) ?_
  refine lv_iadd hx hb dL_law_834 ?_
  refine va_sld hx hb hX hbl hbA hS (lw_ix 1 h6 hL (by decide)) dL_law_835 ?_
  refine lv_topi (nm_r (e' := xs (nI ii + 1).toNatClampNeg) rfl ?_)
  refine lv_aload_n hx hb dL_law_836 rfl (lv_at hl 0 rfl) ?_
  refine lv_iload_n hx hb dL_law_837 rfl (lv_at hl 3 rfl) ?_
  refine lv_iconst (v := 2) hx hb dL_law_838 (by decide) ?_
  refine lv_iadd hx hb dL_law_839 ?_
  refine va_sld hx hb hX hbl hbA hS (lw_ix 2 h6 hL (by decide)) dL_law_840 ?_
  refine lv_topi (nm_r (e' := xs (nI ii + 2).toNatClampNeg) rfl ?_)
  have hP := pm_Pp List.perm_append_comm hP
  have hD := pm_Dp List.perm_append_comm hD
  refine lc_i (X := M) (Rr := W1) (va_runV (As := [.int (xs (nI ii + 1).toNatClampNeg), .int (xs (nI ii + 2).toNatClampNeg)]) (rest := []) ⟨hx, hb, hml, hown, hts⟩ (cm_X12_hurts l g cI cJ cB cZ cL kA vA y M H.size hM (xs (nI ii + 1).toNatClampNeg) (xs (nI ii + 2).toNatClampNeg)) (cwV 2 hts (goodIn_app (g_4 (List.mem_cons_of_mem _ (List.mem_append_left _ (List.mem_of_getElem? (i := 95) rfl))) (List.mem_cons_of_mem _ (List.mem_append_left _ (List.mem_of_getElem? (i := 96) rfl))) (List.mem_cons_of_mem _ (List.mem_append_left _ (List.mem_of_getElem? (i := 97) rfl))) (List.mem_cons_of_mem _ (List.mem_append_left _ (List.mem_of_getElem? (i := 7) rfl))) (by decide +kernel)) (goodIn_sub ml_v_X12_hurts good_v_X12_hurts)) rfl rfl rfl (by decide +kernel) ⟨Nat.le_of_ble_eq_true rfl, Nat.le_of_ble_eq_true rfl⟩) (lc_pre (ci := 11) (q := (RX12, TX12, 56)) hK hE hS hA hP hD rfl (mt_mem hM)) rfl rfl hl.1 rfl (lv_room (Nat.le_of_ble_eq_true rfl)) dL_law_841 ⟨(by show (1000 + 2 * ii) + 0 + 0 ≤ 600000; omega), (by show (100000 + 25 * ii) + 0 + 0 ≤ 7302250; omega)⟩) hS hA hP hD (fun r841 W2 H locs hz841 hP hD hS => ?_)
  obtain ⟨hr841, hW2⟩ := hz841
  have hP := pm_Pp List.perm_append_comm hP
  have hD := pm_Dp List.perm_append_comm hD
  refine lv_pop hx hb dL_law_844 rfl ?_
  refine lv_goto (tgt := 2459) hx hb dL_law_845 (by decide) ?_
  refine W.widen (k := 1009 + 2 * ii) (n := 100145 + 25 * ii) (by omega) (by omega) ?_
  exact hend _ _ _ W1 W2 _ _ _ _ _ _ hW1 hW2 hJ hP hD hS hl
set_option maxHeartbeats 4000000 in
set_option maxRecDepth 100000 in
theorem lw_c16 {p : Program} {e : Env} {s : State} {m : MethodId} {below : List Frame} {meth : Method} {c : Code} (l : Launch) {sb L : Nat} {xs : Nat → Int32} (hL : L ≤ 3072) (C0 : lw_At p s m meth c sb L xs) {g : va_G} {cI cJ cB cZ cL : ClassId} (hK : va_K g vwCl (tyT cI cJ cB cZ cL) s) {kA vA : Nat → Nat} (hE : ENV kA vA (fun q : Nat => s.heap.size ≤ q) s) {x y : Nat} {ii : Nat} (h6 : ii + 6 ≤ L) (hend : ∀ (H : Heap) (locs : List Loc) (ls : Array Slot) (XT M : va_W) (sw sn ki mw mn kp : Nat → Int32) (hXT : XTSt cI cJ cB cZ cL x sw sn ki XT) (hM : MSt cI cJ cB cZ cL y mw mn kp M) (hJ : JJ sw sn ki mw mn kp) (hP : va_P g vwCl (XT ++ M) H) (hD : va_D (fun q : Nat => s.heap.size ≤ q) (XT ++ M)) (hS : va_S (fun q : Nat => s.heap.size ≤ q) s.heap H locs) (hl : lv_has ls 4 [(0, .ref sb), (1, .ref x), (2, .ref y), (3, .int (nI ii))]), W p l e room_1 s m #[Value.ref sb] below meth c H locs (1009 + 2 * ii) (100145 + 25 * ii) (lw_Z below #[Value.ref sb] s) (F0 m 2459 ls [])) (H : Heap) (locs : List Loc) (ls : Array Slot) (XT M : va_W) (sw sn ki mw mn kp : Nat → Int32) (hXT : XTSt cI cJ cB cZ cL x sw sn ki XT) (hM : MSt cI cJ cB cZ cL y mw mn kp M) (hJ : JJ sw sn ki mw mn kp) (hP : va_P g vwCl (XT ++ M) H) (hD : va_D (fun q : Nat => s.heap.size ≤ q) (XT ++ M)) (hS : va_S (fun q : Nat => s.heap.size ≤ q) s.heap H locs) (hl : lv_has ls 4 [(0, .ref sb), (1, .ref x), (2, .ref y), (3, .int (nI ii))]) : W p l e room_1 s m #[Value.ref sb] below meth c H locs (1000 + 2 * ii) (100000 + 25 * ii) (lw_Z below #[Value.ref sb] s) (F0 m 848 ls []) := by
  obtain ⟨hx, hb, hr, hml, hown, hts0, hX, hbl, hlocks, hgv⟩ := id C0
  have hts : ∀ w ∈ v_L_law, w.before #[Value.ref sb] s = true := fun w h => hts0 w (in_v_L_law w h)
  have hown : s.vm.findClass RL = some m.cls := hown
  have hA : ∀ q : Nat, s.heap.size ≤ q → (fun q : Nat => s.heap.size ≤ q) q := fun _ h => h
  have hbA : ¬ (fun q : Nat => s.heap.size ≤ q) sb := Nat.not_le.mpr hbl
  refine lv_aload_n hx hb dL_law_848 rfl (lv_at hl 1 rfl) ?_
  refine lv_aload_n hx hb dL_law_849 rfl (lv_at hl 0 rfl) ?_
  refine lv_iload_n hx hb dL_law_850 rfl (lv_at hl 3 rfl) ?_
  refine lv_iconst (v := 1) hx hb dL_law_851 (by decide) ?_
  refine lv_iadd hx hb dL_law_852 ?_
  refine va_sld hx hb hX hbl hbA hS (lw_ix 1 h6 hL (by decide)) dL_law_853 ?_
  refine lv_topi (nm_r (e' := xs (nI ii + 1).toNatClampNeg) rfl ?_)
  refine lc_i (X := XT) (Rr := M) (va_runV (As := [.int (xs (nI ii + 1).toNatClampNeg)]) (rest := []) ⟨hx, hb, hml, hown, hts⟩ (lift_i (fun im X hX => cx_X11_cost l g cI cJ cB cZ cL kA vA x im X H.size hX (xs (nI ii + 1).toNatClampNeg)) hXT) (cwV 1 hts (goodIn_app (g_4 (List.mem_cons_of_mem _ (List.mem_append_left _ (List.mem_of_getElem? (i := 98) rfl))) (List.mem_cons_of_mem _ (List.mem_append_left _ (List.mem_of_getElem? (i := 99) rfl))) (List.mem_cons_of_mem _ (List.mem_append_left _ (List.mem_of_getElem? (i := 100) rfl))) (List.mem_cons_of_mem _ (List.mem_append_left _ (List.mem_of_getElem? (i := 3) rfl))) (by decide +kernel)) (goodIn_sub ml_v_X11_cost good_v_X11_cost)) rfl rfl rfl (by decide +kernel) ⟨Nat.le_of_ble_eq_true rfl, Nat.le_of_ble_eq_true rfl⟩) (lc_pre (ci := 10) (q := (RX11, TX11, 11)) hK hE hS hA hP hD rfl (xt_mem hXT)) rfl rfl hl.1 rfl (lv_room (Nat.le_of_ble_eq_true rfl)) dL_law_854 ⟨(by show (1000 + 2 * ii) + 0 ≤ 600000; omega), (by show (100000 + 25 * ii) + 0 ≤ 7302250; omega)⟩) hS hA hP hD (fun r854 W1 H locs hz854 hP hD hS => ?_)
  obtain ⟨hr854, hW1⟩ := hz854
  refine lv_pop hx hb dL_law_857 rfl ?_
  refine lv_aload_n hx hb dL_law_858 rfl (lv_at hl 2 rfl) ?_
  refine lv_aload_n hx hb dL_law_859 rfl (lv_at hl 0 rfl) ?_
  refine lv_iload_n hx hb dL_law_860 rfl (lv_at hl 3 rfl) ?_
  refine lv_iconst (v := 1) hx hb dL_law_861 (by decide) ?_
  refine lv_iadd hx hb dL_law_862 ?_
  refine va_sld hx hb hX hbl hbA hS (lw_ix 1 h6 hL (by decide)) dL_law_863 ?_
  refine lv_topi (nm_r (e' := xs (nI ii + 1).toNatClampNeg) rfl ?_)
  have hP := pm_Pp List.perm_append_comm hP
  have hD := pm_Dp List.perm_append_comm hD
  refine lc_i (X := M) (Rr := W1) (va_runV (As := [.int (xs (nI ii + 1).toNatClampNeg)]) (rest := []) ⟨hx, hb, hml, hown, hts⟩ (cm_X12_cost l g cI cJ cB cZ cL kA vA y M H.size hM (xs (nI ii + 1).toNatClampNeg)) (cwV 1 hts (goodIn_app (g_4 (List.mem_cons_of_mem _ (List.mem_append_left _ (List.mem_of_getElem? (i := 101) rfl))) (List.mem_cons_of_mem _ (List.mem_append_left _ (List.mem_of_getElem? (i := 102) rfl))) (List.mem_cons_of_mem _ (List.mem_append_left _ (List.mem_of_getElem? (i := 103) rfl))) (List.mem_cons_of_mem _ (List.mem_append_left _ (List.mem_of_getElem? (i := 7) rfl))) (by decide +kernel)) (goodIn_sub ml_v_X12_cost good_v_X12_cost)) rfl rfl rfl (by decide +kernel) ⟨Nat.le_of_ble_eq_true rfl, Nat.le_of_ble_eq_true rfl⟩) (lc_pre (ci := 11) (q := (RX12, TX12, 56)) hK hE hS hA hP hD rfl (mt_mem hM)) rfl rfl hl.1 rfl (lv_room (Nat.le_of_ble_eq_true rfl)) dL_law_864 ⟨(by show (1000 + 2 * ii) + 0 + 0 ≤ 600000; omega), (by show (100000 + 25 * ii) + 0 + 0 ≤ 7302250; omega)⟩) hS hA hP hD (fun r864 W2 H locs hz864 hP hD hS => ?_)
  obtain ⟨hr864, hW2⟩ := hz864
  have hP := pm_Pp List.perm_append_comm hP
  have hD := pm_Dp List.perm_append_comm hD
  refine lv_pop hx hb dL_law_867 rfl ?_
  refine lv_goto (tgt := 2459) hx hb dL_law_868 (by decide) ?_
  refine W.widen (k := 1009 + 2 * ii) (n := 100145 + 25 * ii) (by omega) (by omega) ?_
  exact hend _ _ _ W1 W2 _ _ _ _ _ _ hW1 hW2 hJ hP hD hS hl
set_option maxHeartbeats 4000000 in
set_option maxRecDepth 100000 in
theorem lw_c17 {p : Program} {e : Env} {s : State} {m : MethodId} {below : List Frame} {meth : Method} {c : Code} (l : Launch) {sb L : Nat} {xs : Nat → Int32} (hL : L ≤ 3072) (C0 : lw_At p s m meth c sb L xs) {g : va_G} {cI cJ cB cZ cL : ClassId} (hK : va_K g vwCl (tyT cI cJ cB cZ cL) s) {kA vA : Nat → Nat} (hE : ENV kA vA (fun q : Nat => s.heap.size ≤ q) s) {x y : Nat} {ii : Nat} (h6 : ii + 6 ≤ L) (hend : ∀ (H : Heap) (locs : List Loc) (ls : Array Slot) (XT M : va_W) (sw sn ki mw mn kp : Nat → Int32) (hXT : XTSt cI cJ cB cZ cL x sw sn ki XT) (hM : MSt cI cJ cB cZ cL y mw mn kp M) (hJ : JJ sw sn ki mw mn kp) (hP : va_P g vwCl (XT ++ M) H) (hD : va_D (fun q : Nat => s.heap.size ≤ q) (XT ++ M)) (hS : va_S (fun q : Nat => s.heap.size ≤ q) s.heap H locs) (hl : lv_has ls 4 [(0, .ref sb), (1, .ref x), (2, .ref y), (3, .int (nI ii))]), W p l e room_1 s m #[Value.ref sb] below meth c H locs (1009 + 2 * ii) (100145 + 25 * ii) (lw_Z below #[Value.ref sb] s) (F0 m 2459 ls [])) (H : Heap) (locs : List Loc) (ls : Array Slot) (XT M : va_W) (sw sn ki mw mn kp : Nat → Int32) (hXT : XTSt cI cJ cB cZ cL x sw sn ki XT) (hM : MSt cI cJ cB cZ cL y mw mn kp M) (hJ : JJ sw sn ki mw mn kp) (hP : va_P g vwCl (XT ++ M) H) (hD : va_D (fun q : Nat => s.heap.size ≤ q) (XT ++ M)) (hS : va_S (fun q : Nat => s.heap.size ≤ q) s.heap H locs) (hl : lv_has ls 4 [(0, .ref sb), (1, .ref x), (2, .ref y), (3, .int (nI ii))]) : W p l e room_1 s m #[Value.ref sb] below meth c H locs (1000 + 2 * ii) (100000 + 25 * ii) (lw_Z below #[Value.ref sb] s) (F0 m 871 ls []) := by
  obtain ⟨hx, hb, hr, hml, hown, hts0, hX, hbl, hlocks, hgv⟩ := id C0
  have hts : ∀ w ∈ v_L_law, w.before #[Value.ref sb] s = true := fun w h => hts0 w (in_v_L_law w h)
  have hown : s.vm.findClass RL = some m.cls := hown
  have hA : ∀ q : Nat, s.heap.size ≤ q → (fun q : Nat => s.heap.size ≤ q) q := fun _ h => h
  have hbA : ¬ (fun q : Nat => s.heap.size ≤ q) sb := Nat.not_le.mpr hbl
  refine lv_aload_n hx hb dL_law_871 rfl (lv_at hl 1 rfl) ?_
  refine lc_i (X := XT) (Rr := M) (va_runV (As := []) (rest := []) ⟨hx, hb, hml, hown, hts⟩ (lift_i (fun im X hX => cx_X11_dearest l g cI cJ cB cZ cL kA vA x im X H.size hX ) hXT) (cwV 0 hts (goodIn_app (g_4 (List.mem_cons_of_mem _ (List.mem_append_left _ (List.mem_of_getElem? (i := 104) rfl))) (List.mem_cons_of_mem _ (List.mem_append_left _ (List.mem_of_getElem? (i := 105) rfl))) (List.mem_cons_of_mem _ (List.mem_append_left _ (List.mem_of_getElem? (i := 106) rfl))) (List.mem_cons_of_mem _ (List.mem_append_left _ (List.mem_of_getElem? (i := 3) rfl))) (by decide +kernel)) (goodIn_sub ml_v_X11_dearest good_v_X11_dearest)) rfl rfl rfl (by decide +kernel) ⟨Nat.le_of_ble_eq_true rfl, Nat.le_of_ble_eq_true rfl⟩) (lc_pre (ci := 10) (q := (RX11, TX11, 11)) hK hE hS hA hP hD rfl (xt_mem hXT)) rfl rfl hl.1 rfl (lv_room (Nat.le_of_ble_eq_true rfl)) dL_law_872 ⟨(by show (1000 + 2 * ii) + 0 ≤ 600000; omega), (by show (100000 + 25 * ii) + 0 ≤ 7302250; omega)⟩) hS hA hP hD (fun r872 W1 H locs hz872 hP hD hS => ?_)
  obtain ⟨hr872, hW1⟩ := hz872
  refine lv_pop hx hb dL_law_875 rfl ?_
  refine lv_aload_n hx hb dL_law_876 rfl (lv_at hl 2 rfl) ?_
  have hP := pm_Pp List.perm_append_comm hP
  have hD := pm_Dp List.perm_append_comm hD
  refine lc_i (X := M) (Rr := W1) (va_runV (As := []) (rest := []) ⟨hx, hb, hml, hown, hts⟩ (cm_X12_dearest l g cI cJ cB cZ cL kA vA y M H.size hM ) (cwV 0 hts (goodIn_app (g_4 (List.mem_cons_of_mem _ (List.mem_append_left _ (List.mem_of_getElem? (i := 107) rfl))) (List.mem_cons_of_mem _ (List.mem_append_left _ (List.mem_of_getElem? (i := 108) rfl))) (List.mem_cons_of_mem _ (List.mem_append_left _ (List.mem_of_getElem? (i := 109) rfl))) (List.mem_cons_of_mem _ (List.mem_append_left _ (List.mem_of_getElem? (i := 7) rfl))) (by decide +kernel)) (goodIn_sub ml_v_X12_dearest good_v_X12_dearest)) rfl rfl rfl (by decide +kernel) ⟨Nat.le_of_ble_eq_true rfl, Nat.le_of_ble_eq_true rfl⟩) (lc_pre (ci := 11) (q := (RX12, TX12, 56)) hK hE hS hA hP hD rfl (mt_mem hM)) rfl rfl hl.1 rfl (lv_room (Nat.le_of_ble_eq_true rfl)) dL_law_877 ⟨(by show (1000 + 2 * ii) + 0 + 0 ≤ 600000; omega), (by show (100000 + 25 * ii) + 0 + 0 ≤ 7302250; omega)⟩) hS hA hP hD (fun r877 W2 H locs hz877 hP hD hS => ?_)
  obtain ⟨hr877, hW2⟩ := hz877
  have hP := pm_Pp List.perm_append_comm hP
  have hD := pm_Dp List.perm_append_comm hD
  refine lv_pop hx hb dL_law_880 rfl ?_
  refine lv_goto (tgt := 2459) hx hb dL_law_881 (by decide) ?_
  refine W.widen (k := 1009 + 2 * ii) (n := 100145 + 25 * ii) (by omega) (by omega) ?_
  exact hend _ _ _ W1 W2 _ _ _ _ _ _ hW1 hW2 hJ hP hD hS hl
set_option maxHeartbeats 4000000 in
set_option maxRecDepth 100000 in
theorem lw_c18 {p : Program} {e : Env} {s : State} {m : MethodId} {below : List Frame} {meth : Method} {c : Code} (l : Launch) {sb L : Nat} {xs : Nat → Int32} (hL : L ≤ 3072) (C0 : lw_At p s m meth c sb L xs) {g : va_G} {cI cJ cB cZ cL : ClassId} (hK : va_K g vwCl (tyT cI cJ cB cZ cL) s) {kA vA : Nat → Nat} (hE : ENV kA vA (fun q : Nat => s.heap.size ≤ q) s) {x y : Nat} {ii : Nat} (h6 : ii + 6 ≤ L) (hend : ∀ (H : Heap) (locs : List Loc) (ls : Array Slot) (XT M : va_W) (sw sn ki mw mn kp : Nat → Int32) (hXT : XTSt cI cJ cB cZ cL x sw sn ki XT) (hM : MSt cI cJ cB cZ cL y mw mn kp M) (hJ : JJ sw sn ki mw mn kp) (hP : va_P g vwCl (XT ++ M) H) (hD : va_D (fun q : Nat => s.heap.size ≤ q) (XT ++ M)) (hS : va_S (fun q : Nat => s.heap.size ≤ q) s.heap H locs) (hl : lv_has ls 4 [(0, .ref sb), (1, .ref x), (2, .ref y), (3, .int (nI ii))]), W p l e room_1 s m #[Value.ref sb] below meth c H locs (1009 + 2 * ii) (100145 + 25 * ii) (lw_Z below #[Value.ref sb] s) (F0 m 2459 ls [])) (H : Heap) (locs : List Loc) (ls : Array Slot) (XT M : va_W) (sw sn ki mw mn kp : Nat → Int32) (hXT : XTSt cI cJ cB cZ cL x sw sn ki XT) (hM : MSt cI cJ cB cZ cL y mw mn kp M) (hJ : JJ sw sn ki mw mn kp) (hP : va_P g vwCl (XT ++ M) H) (hD : va_D (fun q : Nat => s.heap.size ≤ q) (XT ++ M)) (hS : va_S (fun q : Nat => s.heap.size ≤ q) s.heap H locs) (hl : lv_has ls 4 [(0, .ref sb), (1, .ref x), (2, .ref y), (3, .int (nI ii))]) : W p l e room_1 s m #[Value.ref sb] below meth c H locs (1000 + 2 * ii) (100000 + 25 * ii) (lw_Z below #[Value.ref sb] s) (F0 m 884 ls []) := by
  obtain ⟨hx, hb, hr, hml, hown, hts0, hX, hbl, hlocks, hgv⟩ := id C0
  have hts : ∀ w ∈ v_L_law, w.before #[Value.ref sb] s = true := fun w h => hts0 w (in_v_L_law w h)
  have hown : s.vm.findClass RL = some m.cls := hown
  have hA : ∀ q : Nat, s.heap.size ≤ q → (fun q : Nat => s.heap.size ≤ q) q := fun _ h => h
  have hbA : ¬ (fun q : Nat => s.heap.size ≤ q) sb := Nat.not_le.mpr hbl
  refine lv_aload_n hx hb dL_law_884 rfl (lv_at hl 1 rfl) ?_
  refine lv_aload_n hx hb dL_law_885 rfl (lv_at hl 0 rfl) ?_
  refine lv_iload_n hx hb dL_law_886 rfl (lv_at hl 3 rfl) ?_
  refine lv_iconst (v := 1) hx hb dL_law_887 (by decide) ?_
  refine lv_iadd hx hb dL_law_888 ?_
  refine va_sld hx hb hX hbl hbA hS (lw_ix 1 h6 hL (by decide)) dL_law_889 ?_
  refine lv_topi (nm_r (e' := xs (nI ii + 1).toNatClampNeg) rfl ?_)
  refine lc_i (X := XT) (Rr := M) (va_runV (As := [.int (xs (nI ii + 1).toNatClampNeg)]) (rest := []) ⟨hx, hb, hml, hown, hts⟩ (lift_i (fun im X hX => cx_X11_last l g cI cJ cB cZ cL kA vA x im X H.size hX (xs (nI ii + 1).toNatClampNeg)) hXT) (cwV 1 hts (goodIn_app (g_4 (List.mem_cons_of_mem _ (List.mem_append_left _ (List.mem_of_getElem? (i := 110) rfl))) (List.mem_cons_of_mem _ (List.mem_append_left _ (List.mem_of_getElem? (i := 111) rfl))) (List.mem_cons_of_mem _ (List.mem_append_left _ (List.mem_of_getElem? (i := 112) rfl))) (List.mem_cons_of_mem _ (List.mem_append_left _ (List.mem_of_getElem? (i := 3) rfl))) (by decide +kernel)) (goodIn_sub ml_v_X11_last good_v_X11_last)) rfl rfl rfl (by decide +kernel) ⟨Nat.le_of_ble_eq_true rfl, Nat.le_of_ble_eq_true rfl⟩) (lc_pre (ci := 10) (q := (RX11, TX11, 11)) hK hE hS hA hP hD rfl (xt_mem hXT)) rfl rfl hl.1 rfl (lv_room (Nat.le_of_ble_eq_true rfl)) dL_law_890 ⟨(by show (1000 + 2 * ii) + 0 ≤ 600000; omega), (by show (100000 + 25 * ii) + 0 ≤ 7302250; omega)⟩) hS hA hP hD (fun r890 W1 H locs hz890 hP hD hS => ?_)
  obtain ⟨hr890, hW1⟩ := hz890
  refine lv_pop hx hb dL_law_893 rfl ?_
  refine lv_aload_n hx hb dL_law_894 rfl (lv_at hl 2 rfl) ?_
  refine lv_aload_n hx hb dL_law_895 rfl (lv_at hl 0 rfl) ?_
  refine lv_iload_n hx hb dL_law_896 rfl (lv_at hl 3 rfl) ?_
  refine lv_iconst (v := 1) hx hb dL_law_897 (by decide) ?_
  refine lv_iadd hx hb dL_law_898 ?_
  refine va_sld hx hb hX hbl hbA hS (lw_ix 1 h6 hL (by decide)) dL_law_899 ?_
  refine lv_topi (nm_r (e' := xs (nI ii + 1).toNatClampNeg) rfl ?_)
  have hP := pm_Pp List.perm_append_comm hP
  have hD := pm_Dp List.perm_append_comm hD
  refine lc_i (X := M) (Rr := W1) (va_runV (As := [.int (xs (nI ii + 1).toNatClampNeg)]) (rest := []) ⟨hx, hb, hml, hown, hts⟩ (cm_X12_last l g cI cJ cB cZ cL kA vA y M H.size hM (xs (nI ii + 1).toNatClampNeg)) (cwV 1 hts (goodIn_app (g_4 (List.mem_cons_of_mem _ (List.mem_append_left _ (List.mem_of_getElem? (i := 113) rfl))) (List.mem_cons_of_mem _ (List.mem_append_left _ (List.mem_of_getElem? (i := 114) rfl))) (List.mem_cons_of_mem _ (List.mem_append_left _ (List.mem_of_getElem? (i := 115) rfl))) (List.mem_cons_of_mem _ (List.mem_append_left _ (List.mem_of_getElem? (i := 7) rfl))) (by decide +kernel)) (goodIn_sub ml_v_X12_last good_v_X12_last)) rfl rfl rfl (by decide +kernel) ⟨Nat.le_of_ble_eq_true rfl, Nat.le_of_ble_eq_true rfl⟩) (lc_pre (ci := 11) (q := (RX12, TX12, 56)) hK hE hS hA hP hD rfl (mt_mem hM)) rfl rfl hl.1 rfl (lv_room (Nat.le_of_ble_eq_true rfl)) dL_law_900 ⟨(by show (1000 + 2 * ii) + 0 + 0 ≤ 600000; omega), (by show (100000 + 25 * ii) + 0 + 0 ≤ 7302250; omega)⟩) hS hA hP hD (fun r900 W2 H locs hz900 hP hD hS => ?_)
  obtain ⟨hr900, hW2⟩ := hz900
  have hP := pm_Pp List.perm_append_comm hP
  have hD := pm_Dp List.perm_append_comm hD
  refine lv_pop hx hb dL_law_903 rfl ?_
  refine lv_goto (tgt := 2459) hx hb dL_law_904 (by decide) ?_
  refine W.widen (k := 1009 + 2 * ii) (n := 100145 + 25 * ii) (by omega) (by omega) ?_
  exact hend _ _ _ W1 W2 _ _ _ _ _ _ hW1 hW2 hJ hP hD hS hl
set_option maxHeartbeats 4000000 in
set_option maxRecDepth 100000 in
theorem lw_c19 {p : Program} {e : Env} {s : State} {m : MethodId} {below : List Frame} {meth : Method} {c : Code} (l : Launch) {sb L : Nat} {xs : Nat → Int32} (hL : L ≤ 3072) (C0 : lw_At p s m meth c sb L xs) {g : va_G} {cI cJ cB cZ cL : ClassId} (hK : va_K g vwCl (tyT cI cJ cB cZ cL) s) {kA vA : Nat → Nat} (hE : ENV kA vA (fun q : Nat => s.heap.size ≤ q) s) {x y : Nat} {ii : Nat} (h6 : ii + 6 ≤ L) (hend : ∀ (H : Heap) (locs : List Loc) (ls : Array Slot) (XT M : va_W) (sw sn ki mw mn kp : Nat → Int32) (hXT : XTSt cI cJ cB cZ cL x sw sn ki XT) (hM : MSt cI cJ cB cZ cL y mw mn kp M) (hJ : JJ sw sn ki mw mn kp) (hP : va_P g vwCl (XT ++ M) H) (hD : va_D (fun q : Nat => s.heap.size ≤ q) (XT ++ M)) (hS : va_S (fun q : Nat => s.heap.size ≤ q) s.heap H locs) (hl : lv_has ls 4 [(0, .ref sb), (1, .ref x), (2, .ref y), (3, .int (nI ii))]), W p l e room_1 s m #[Value.ref sb] below meth c H locs (1009 + 2 * ii) (100145 + 25 * ii) (lw_Z below #[Value.ref sb] s) (F0 m 2459 ls [])) (H : Heap) (locs : List Loc) (ls : Array Slot) (XT M : va_W) (sw sn ki mw mn kp : Nat → Int32) (hXT : XTSt cI cJ cB cZ cL x sw sn ki XT) (hM : MSt cI cJ cB cZ cL y mw mn kp M) (hJ : JJ sw sn ki mw mn kp) (hP : va_P g vwCl (XT ++ M) H) (hD : va_D (fun q : Nat => s.heap.size ≤ q) (XT ++ M)) (hS : va_S (fun q : Nat => s.heap.size ≤ q) s.heap H locs) (hl : lv_has ls 4 [(0, .ref sb), (1, .ref x), (2, .ref y), (3, .int (nI ii))]) : W p l e room_1 s m #[Value.ref sb] below meth c H locs (1000 + 2 * ii) (100000 + 25 * ii) (lw_Z below #[Value.ref sb] s) (F0 m 907 ls []) := by
  obtain ⟨hx, hb, hr, hml, hown, hts0, hX, hbl, hlocks, hgv⟩ := id C0
  have hts : ∀ w ∈ v_L_law, w.before #[Value.ref sb] s = true := fun w h => hts0 w (in_v_L_law w h)
  have hown : s.vm.findClass RL = some m.cls := hown
  have hA : ∀ q : Nat, s.heap.size ≤ q → (fun q : Nat => s.heap.size ≤ q) q := fun _ h => h
  have hbA : ¬ (fun q : Nat => s.heap.size ≤ q) sb := Nat.not_le.mpr hbl
  refine lv_aload_n hx hb dL_law_907 rfl (lv_at hl 1 rfl) ?_
  refine lc_i (X := XT) (Rr := M) (va_runV (As := []) (rest := []) ⟨hx, hb, hml, hown, hts⟩ (lift_i (fun im X hX => cx_X11_over l g cI cJ cB cZ cL kA vA x im X H.size hX ) hXT) (cwV 0 hts (goodIn_app (g_4 (List.mem_cons_of_mem _ (List.mem_append_left _ (List.mem_of_getElem? (i := 116) rfl))) (List.mem_cons_of_mem _ (List.mem_append_left _ (List.mem_of_getElem? (i := 117) rfl))) (List.mem_cons_of_mem _ (List.mem_append_left _ (List.mem_of_getElem? (i := 118) rfl))) (List.mem_cons_of_mem _ (List.mem_append_left _ (List.mem_of_getElem? (i := 3) rfl))) (by decide +kernel)) (goodIn_sub ml_v_X11_over good_v_X11_over)) rfl rfl rfl (by decide +kernel) ⟨Nat.le_of_ble_eq_true rfl, Nat.le_of_ble_eq_true rfl⟩) (lc_pre (ci := 10) (q := (RX11, TX11, 11)) hK hE hS hA hP hD rfl (xt_mem hXT)) rfl rfl hl.1 rfl (lv_room (Nat.le_of_ble_eq_true rfl)) dL_law_908 ⟨(by show (1000 + 2 * ii) + 0 ≤ 600000; omega), (by show (100000 + 25 * ii) + 0 ≤ 7302250; omega)⟩) hS hA hP hD (fun r908 W1 H locs hz908 hP hD hS => ?_)
  obtain ⟨hr908, hW1⟩ := hz908
  refine lv_pop hx hb dL_law_911 rfl ?_
  refine lv_aload_n hx hb dL_law_912 rfl (lv_at hl 2 rfl) ?_
  have hP := pm_Pp List.perm_append_comm hP
  have hD := pm_Dp List.perm_append_comm hD
  refine lc_i (X := M) (Rr := W1) (va_runV (As := []) (rest := []) ⟨hx, hb, hml, hown, hts⟩ (cm_X12_over l g cI cJ cB cZ cL kA vA y M H.size hM ) (cwV 0 hts (goodIn_app (g_4 (List.mem_cons_of_mem _ (List.mem_append_left _ (List.mem_of_getElem? (i := 119) rfl))) (List.mem_cons_of_mem _ (List.mem_append_left _ (List.mem_of_getElem? (i := 120) rfl))) (List.mem_cons_of_mem _ (List.mem_append_left _ (List.mem_of_getElem? (i := 121) rfl))) (List.mem_cons_of_mem _ (List.mem_append_left _ (List.mem_of_getElem? (i := 7) rfl))) (by decide +kernel)) (goodIn_sub ml_v_X12_over good_v_X12_over)) rfl rfl rfl (by decide +kernel) ⟨Nat.le_of_ble_eq_true rfl, Nat.le_of_ble_eq_true rfl⟩) (lc_pre (ci := 11) (q := (RX12, TX12, 56)) hK hE hS hA hP hD rfl (mt_mem hM)) rfl rfl hl.1 rfl (lv_room (Nat.le_of_ble_eq_true rfl)) dL_law_913 ⟨(by show (1000 + 2 * ii) + 0 + 0 ≤ 600000; omega), (by show (100000 + 25 * ii) + 0 + 0 ≤ 7302250; omega)⟩) hS hA hP hD (fun r913 W2 H locs hz913 hP hD hS => ?_)
  obtain ⟨hr913, hW2⟩ := hz913
  have hP := pm_Pp List.perm_append_comm hP
  have hD := pm_Dp List.perm_append_comm hD
  refine lv_pop hx hb dL_law_916 rfl ?_
  refine lv_goto (tgt := 2459) hx hb dL_law_917 (by decide) ?_
  refine W.widen (k := 1009 + 2 * ii) (n := 100145 + 25 * ii) (by omega) (by omega) ?_
  exact hend _ _ _ W1 W2 _ _ _ _ _ _ hW1 hW2 hJ hP hD hS hl
set_option maxHeartbeats 4000000 in
set_option maxRecDepth 100000 in
theorem lw_c20 {p : Program} {e : Env} {s : State} {m : MethodId} {below : List Frame} {meth : Method} {c : Code} (l : Launch) {sb L : Nat} {xs : Nat → Int32} (hL : L ≤ 3072) (C0 : lw_At p s m meth c sb L xs) {g : va_G} {cI cJ cB cZ cL : ClassId} (hK : va_K g vwCl (tyT cI cJ cB cZ cL) s) {kA vA : Nat → Nat} (hE : ENV kA vA (fun q : Nat => s.heap.size ≤ q) s) {x y : Nat} {ii : Nat} (h6 : ii + 6 ≤ L) (hend : ∀ (H : Heap) (locs : List Loc) (ls : Array Slot) (XT M : va_W) (sw sn ki mw mn kp : Nat → Int32) (hXT : XTSt cI cJ cB cZ cL x sw sn ki XT) (hM : MSt cI cJ cB cZ cL y mw mn kp M) (hJ : JJ sw sn ki mw mn kp) (hP : va_P g vwCl (XT ++ M) H) (hD : va_D (fun q : Nat => s.heap.size ≤ q) (XT ++ M)) (hS : va_S (fun q : Nat => s.heap.size ≤ q) s.heap H locs) (hl : lv_has ls 4 [(0, .ref sb), (1, .ref x), (2, .ref y), (3, .int (nI ii))]), W p l e room_1 s m #[Value.ref sb] below meth c H locs (1009 + 2 * ii) (100145 + 25 * ii) (lw_Z below #[Value.ref sb] s) (F0 m 2459 ls [])) (H : Heap) (locs : List Loc) (ls : Array Slot) (XT M : va_W) (sw sn ki mw mn kp : Nat → Int32) (hXT : XTSt cI cJ cB cZ cL x sw sn ki XT) (hM : MSt cI cJ cB cZ cL y mw mn kp M) (hJ : JJ sw sn ki mw mn kp) (hP : va_P g vwCl (XT ++ M) H) (hD : va_D (fun q : Nat => s.heap.size ≤ q) (XT ++ M)) (hS : va_S (fun q : Nat => s.heap.size ≤ q) s.heap H locs) (hl : lv_has ls 4 [(0, .ref sb), (1, .ref x), (2, .ref y), (3, .int (nI ii))]) : W p l e room_1 s m #[Value.ref sb] below meth c H locs (1000 + 2 * ii) (100000 + 25 * ii) (lw_Z below #[Value.ref sb] s) (F0 m 920 ls []) := by
  obtain ⟨hx, hb, hr, hml, hown, hts0, hX, hbl, hlocks, hgv⟩ := id C0
  have hts : ∀ w ∈ v_L_law, w.before #[Value.ref sb] s = true := fun w h => hts0 w (in_v_L_law w h)
  have hown : s.vm.findClass RL = some m.cls := hown
  have hA : ∀ q : Nat, s.heap.size ≤ q → (fun q : Nat => s.heap.size ≤ q) q := fun _ h => h
  have hbA : ¬ (fun q : Nat => s.heap.size ≤ q) sb := Nat.not_le.mpr hbl
  refine lv_aload_n hx hb dL_law_920 rfl (lv_at hl 1 rfl) ?_
  refine lc_i (X := XT) (Rr := M) (va_runV (As := []) (rest := []) ⟨hx, hb, hml, hown, hts⟩ (lift_i (fun im X hX => cx_X11_poorest l g cI cJ cB cZ cL kA vA x im X H.size hX ) hXT) (cwV 0 hts (goodIn_app (g_4 (List.mem_cons_of_mem _ (List.mem_append_left _ (List.mem_of_getElem? (i := 122) rfl))) (List.mem_cons_of_mem _ (List.mem_append_left _ (List.mem_of_getElem? (i := 123) rfl))) (List.mem_cons_of_mem _ (List.mem_append_left _ (List.mem_of_getElem? (i := 124) rfl))) (List.mem_cons_of_mem _ (List.mem_append_left _ (List.mem_of_getElem? (i := 3) rfl))) (by decide +kernel)) (goodIn_sub ml_v_X11_poorest good_v_X11_poorest)) rfl rfl rfl (by decide +kernel) ⟨Nat.le_of_ble_eq_true rfl, Nat.le_of_ble_eq_true rfl⟩) (lc_pre (ci := 10) (q := (RX11, TX11, 11)) hK hE hS hA hP hD rfl (xt_mem hXT)) rfl rfl hl.1 rfl (lv_room (Nat.le_of_ble_eq_true rfl)) dL_law_921 ⟨(by show (1000 + 2 * ii) + 0 ≤ 600000; omega), (by show (100000 + 25 * ii) + 0 ≤ 7302250; omega)⟩) hS hA hP hD (fun r921 W1 H locs hz921 hP hD hS => ?_)
  obtain ⟨hr921, hW1⟩ := hz921
  refine lv_pop hx hb dL_law_924 rfl ?_
  refine lv_aload_n hx hb dL_law_925 rfl (lv_at hl 2 rfl) ?_
  have hP := pm_Pp List.perm_append_comm hP
  have hD := pm_Dp List.perm_append_comm hD
  refine lc_i (X := M) (Rr := W1) (va_runV (As := []) (rest := []) ⟨hx, hb, hml, hown, hts⟩ (cm_X12_poorest l g cI cJ cB cZ cL kA vA y M H.size hM ) (cwV 0 hts (goodIn_app (g_4 (List.mem_cons_of_mem _ (List.mem_append_left _ (List.mem_of_getElem? (i := 125) rfl))) (List.mem_cons_of_mem _ (List.mem_append_left _ (List.mem_of_getElem? (i := 126) rfl))) (List.mem_cons_of_mem _ (List.mem_append_left _ (List.mem_of_getElem? (i := 127) rfl))) (List.mem_cons_of_mem _ (List.mem_append_left _ (List.mem_of_getElem? (i := 7) rfl))) (by decide +kernel)) (goodIn_sub ml_v_X12_poorest good_v_X12_poorest)) rfl rfl rfl (by decide +kernel) ⟨Nat.le_of_ble_eq_true rfl, Nat.le_of_ble_eq_true rfl⟩) (lc_pre (ci := 11) (q := (RX12, TX12, 56)) hK hE hS hA hP hD rfl (mt_mem hM)) rfl rfl hl.1 rfl (lv_room (Nat.le_of_ble_eq_true rfl)) dL_law_926 ⟨(by show (1000 + 2 * ii) + 0 + 0 ≤ 600000; omega), (by show (100000 + 25 * ii) + 0 + 0 ≤ 7302250; omega)⟩) hS hA hP hD (fun r926 W2 H locs hz926 hP hD hS => ?_)
  obtain ⟨hr926, hW2⟩ := hz926
  have hP := pm_Pp List.perm_append_comm hP
  have hD := pm_Dp List.perm_append_comm hD
  refine lv_pop hx hb dL_law_929 rfl ?_
  refine lv_goto (tgt := 2459) hx hb dL_law_930 (by decide) ?_
  refine W.widen (k := 1009 + 2 * ii) (n := 100145 + 25 * ii) (by omega) (by omega) ?_
  exact hend _ _ _ W1 W2 _ _ _ _ _ _ hW1 hW2 hJ hP hD hS hl
set_option maxHeartbeats 4000000 in
set_option maxRecDepth 100000 in
theorem lw_c21 {p : Program} {e : Env} {s : State} {m : MethodId} {below : List Frame} {meth : Method} {c : Code} (l : Launch) {sb L : Nat} {xs : Nat → Int32} (hL : L ≤ 3072) (C0 : lw_At p s m meth c sb L xs) {g : va_G} {cI cJ cB cZ cL : ClassId} (hK : va_K g vwCl (tyT cI cJ cB cZ cL) s) {kA vA : Nat → Nat} (hE : ENV kA vA (fun q : Nat => s.heap.size ≤ q) s) {x y : Nat} {ii : Nat} (h6 : ii + 6 ≤ L) (hend : ∀ (H : Heap) (locs : List Loc) (ls : Array Slot) (XT M : va_W) (sw sn ki mw mn kp : Nat → Int32) (hXT : XTSt cI cJ cB cZ cL x sw sn ki XT) (hM : MSt cI cJ cB cZ cL y mw mn kp M) (hJ : JJ sw sn ki mw mn kp) (hP : va_P g vwCl (XT ++ M) H) (hD : va_D (fun q : Nat => s.heap.size ≤ q) (XT ++ M)) (hS : va_S (fun q : Nat => s.heap.size ≤ q) s.heap H locs) (hl : lv_has ls 4 [(0, .ref sb), (1, .ref x), (2, .ref y), (3, .int (nI ii))]), W p l e room_1 s m #[Value.ref sb] below meth c H locs (1009 + 2 * ii) (100145 + 25 * ii) (lw_Z below #[Value.ref sb] s) (F0 m 2459 ls [])) (H : Heap) (locs : List Loc) (ls : Array Slot) (XT M : va_W) (sw sn ki mw mn kp : Nat → Int32) (hXT : XTSt cI cJ cB cZ cL x sw sn ki XT) (hM : MSt cI cJ cB cZ cL y mw mn kp M) (hJ : JJ sw sn ki mw mn kp) (hP : va_P g vwCl (XT ++ M) H) (hD : va_D (fun q : Nat => s.heap.size ≤ q) (XT ++ M)) (hS : va_S (fun q : Nat => s.heap.size ≤ q) s.heap H locs) (hl : lv_has ls 4 [(0, .ref sb), (1, .ref x), (2, .ref y), (3, .int (nI ii))]) : W p l e room_1 s m #[Value.ref sb] below meth c H locs (1000 + 2 * ii) (100000 + 25 * ii) (lw_Z below #[Value.ref sb] s) (F0 m 933 ls []) := by
  obtain ⟨hx, hb, hr, hml, hown, hts0, hX, hbl, hlocks, hgv⟩ := id C0
  have hts : ∀ w ∈ v_L_law, w.before #[Value.ref sb] s = true := fun w h => hts0 w (in_v_L_law w h)
  have hown : s.vm.findClass RL = some m.cls := hown
  have hA : ∀ q : Nat, s.heap.size ≤ q → (fun q : Nat => s.heap.size ≤ q) q := fun _ h => h
  have hbA : ¬ (fun q : Nat => s.heap.size ≤ q) sb := Nat.not_le.mpr hbl
  refine lv_aload_n hx hb dL_law_933 rfl (lv_at hl 1 rfl) ?_
  refine lv_aload_n hx hb dL_law_934 rfl (lv_at hl 0 rfl) ?_
  refine lv_iload_n hx hb dL_law_935 rfl (lv_at hl 3 rfl) ?_
  refine lv_iconst (v := 1) hx hb dL_law_936 (by decide) ?_
  refine lv_iadd hx hb dL_law_937 ?_
  refine va_sld hx hb hX hbl hbA hS (lw_ix 1 h6 hL (by decide)) dL_law_938 ?_
  refine lv_topi (nm_r (e' := xs (nI ii + 1).toNatClampNeg) rfl ?_)
  refine lc_i (X := XT) (Rr := M) (va_runV (As := [.int (xs (nI ii + 1).toNatClampNeg)]) (rest := []) ⟨hx, hb, hml, hown, hts⟩ (lift_i (fun im X hX => cx_X11_odds l g cI cJ cB cZ cL kA vA x im X H.size hX (xs (nI ii + 1).toNatClampNeg)) hXT) (cwV 1 hts (goodIn_app (g_4 (List.mem_cons_of_mem _ (List.mem_append_left _ (List.mem_of_getElem? (i := 128) rfl))) (List.mem_cons_of_mem _ (List.mem_append_left _ (List.mem_of_getElem? (i := 129) rfl))) (List.mem_cons_of_mem _ (List.mem_append_left _ (List.mem_of_getElem? (i := 130) rfl))) (List.mem_cons_of_mem _ (List.mem_append_left _ (List.mem_of_getElem? (i := 3) rfl))) (by decide +kernel)) (goodIn_sub ml_v_X11_odds good_v_X11_odds)) rfl rfl rfl (by decide +kernel) ⟨Nat.le_of_ble_eq_true rfl, Nat.le_of_ble_eq_true rfl⟩) (lc_pre (ci := 10) (q := (RX11, TX11, 11)) hK hE hS hA hP hD rfl (xt_mem hXT)) rfl rfl hl.1 rfl (lv_room (Nat.le_of_ble_eq_true rfl)) dL_law_939 ⟨(by show (1000 + 2 * ii) + 0 ≤ 600000; omega), (by show (100000 + 25 * ii) + 0 ≤ 7302250; omega)⟩) hS hA hP hD (fun r939 W1 H locs hz939 hP hD hS => ?_)
  obtain ⟨hr939, hW1⟩ := hz939
  refine lv_pop hx hb dL_law_942 rfl ?_
  refine lv_aload_n hx hb dL_law_943 rfl (lv_at hl 2 rfl) ?_
  refine lv_aload_n hx hb dL_law_944 rfl (lv_at hl 0 rfl) ?_
  refine lv_iload_n hx hb dL_law_945 rfl (lv_at hl 3 rfl) ?_
  refine lv_iconst (v := 1) hx hb dL_law_946 (by decide) ?_
  refine lv_iadd hx hb dL_law_947 ?_
  refine va_sld hx hb hX hbl hbA hS (lw_ix 1 h6 hL (by decide)) dL_law_948 ?_
  refine lv_topi (nm_r (e' := xs (nI ii + 1).toNatClampNeg) rfl ?_)
  have hP := pm_Pp List.perm_append_comm hP
  have hD := pm_Dp List.perm_append_comm hD
  refine lc_i (X := M) (Rr := W1) (va_runV (As := [.int (xs (nI ii + 1).toNatClampNeg)]) (rest := []) ⟨hx, hb, hml, hown, hts⟩ (cm_X12_odds l g cI cJ cB cZ cL kA vA y M H.size hM (xs (nI ii + 1).toNatClampNeg)) (cwV 1 hts (goodIn_app (g_4 (List.mem_cons_of_mem _ (List.mem_append_left _ (List.mem_of_getElem? (i := 131) rfl))) (List.mem_cons_of_mem _ (List.mem_append_left _ (List.mem_of_getElem? (i := 132) rfl))) (List.mem_cons_of_mem _ (List.mem_append_left _ (List.mem_of_getElem? (i := 133) rfl))) (List.mem_cons_of_mem _ (List.mem_append_left _ (List.mem_of_getElem? (i := 7) rfl))) (by decide +kernel)) (goodIn_sub ml_v_X12_odds good_v_X12_odds)) rfl rfl rfl (by decide +kernel) ⟨Nat.le_of_ble_eq_true rfl, Nat.le_of_ble_eq_true rfl⟩) (lc_pre (ci := 11) (q := (RX12, TX12, 56)) hK hE hS hA hP hD rfl (mt_mem hM)) rfl rfl hl.1 rfl (lv_room (Nat.le_of_ble_eq_true rfl)) dL_law_949 ⟨(by show (1000 + 2 * ii) + 0 + 0 ≤ 600000; omega), (by show (100000 + 25 * ii) + 0 + 0 ≤ 7302250; omega)⟩) hS hA hP hD (fun r949 W2 H locs hz949 hP hD hS => ?_)
  obtain ⟨hr949, hW2⟩ := hz949
  have hP := pm_Pp List.perm_append_comm hP
  have hD := pm_Dp List.perm_append_comm hD
  refine lv_pop hx hb dL_law_952 rfl ?_
  refine lv_goto (tgt := 2459) hx hb dL_law_953 (by decide) ?_
  refine W.widen (k := 1009 + 2 * ii) (n := 100145 + 25 * ii) (by omega) (by omega) ?_
  exact hend _ _ _ W1 W2 _ _ _ _ _ _ hW1 hW2 hJ hP hD hS hl
set_option maxHeartbeats 4000000 in
set_option maxRecDepth 100000 in
theorem lw_c22 {p : Program} {e : Env} {s : State} {m : MethodId} {below : List Frame} {meth : Method} {c : Code} (l : Launch) {sb L : Nat} {xs : Nat → Int32} (hL : L ≤ 3072) (C0 : lw_At p s m meth c sb L xs) {g : va_G} {cI cJ cB cZ cL : ClassId} (hK : va_K g vwCl (tyT cI cJ cB cZ cL) s) {kA vA : Nat → Nat} (hE : ENV kA vA (fun q : Nat => s.heap.size ≤ q) s) {x y : Nat} {ii : Nat} (h6 : ii + 6 ≤ L) (hend : ∀ (H : Heap) (locs : List Loc) (ls : Array Slot) (XT M : va_W) (sw sn ki mw mn kp : Nat → Int32) (hXT : XTSt cI cJ cB cZ cL x sw sn ki XT) (hM : MSt cI cJ cB cZ cL y mw mn kp M) (hJ : JJ sw sn ki mw mn kp) (hP : va_P g vwCl (XT ++ M) H) (hD : va_D (fun q : Nat => s.heap.size ≤ q) (XT ++ M)) (hS : va_S (fun q : Nat => s.heap.size ≤ q) s.heap H locs) (hl : lv_has ls 4 [(0, .ref sb), (1, .ref x), (2, .ref y), (3, .int (nI ii))]), W p l e room_1 s m #[Value.ref sb] below meth c H locs (1009 + 2 * ii) (100145 + 25 * ii) (lw_Z below #[Value.ref sb] s) (F0 m 2459 ls [])) (H : Heap) (locs : List Loc) (ls : Array Slot) (XT M : va_W) (sw sn ki mw mn kp : Nat → Int32) (hXT : XTSt cI cJ cB cZ cL x sw sn ki XT) (hM : MSt cI cJ cB cZ cL y mw mn kp M) (hJ : JJ sw sn ki mw mn kp) (hP : va_P g vwCl (XT ++ M) H) (hD : va_D (fun q : Nat => s.heap.size ≤ q) (XT ++ M)) (hS : va_S (fun q : Nat => s.heap.size ≤ q) s.heap H locs) (hl : lv_has ls 4 [(0, .ref sb), (1, .ref x), (2, .ref y), (3, .int (nI ii))]) : W p l e room_1 s m #[Value.ref sb] below meth c H locs (1000 + 2 * ii) (100000 + 25 * ii) (lw_Z below #[Value.ref sb] s) (F0 m 956 ls []) := by
  obtain ⟨hx, hb, hr, hml, hown, hts0, hX, hbl, hlocks, hgv⟩ := id C0
  have hts : ∀ w ∈ v_L_law, w.before #[Value.ref sb] s = true := fun w h => hts0 w (in_v_L_law w h)
  have hown : s.vm.findClass RL = some m.cls := hown
  have hA : ∀ q : Nat, s.heap.size ≤ q → (fun q : Nat => s.heap.size ≤ q) q := fun _ h => h
  have hbA : ¬ (fun q : Nat => s.heap.size ≤ q) sb := Nat.not_le.mpr hbl
  refine lv_aload_n hx hb dL_law_956 rfl (lv_at hl 1 rfl) ?_
  refine lv_aload_n hx hb dL_law_957 rfl (lv_at hl 0 rfl) ?_
  refine lv_iload_n hx hb dL_law_958 rfl (lv_at hl 3 rfl) ?_
  refine lv_iconst (v := 1) hx hb dL_law_959 (by decide) ?_
  refine lv_iadd hx hb dL_law_960 ?_
  refine va_sld hx hb hX hbl hbA hS (lw_ix 1 h6 hL (by decide)) dL_law_961 ?_
  refine lv_topi (nm_r (e' := xs (nI ii + 1).toNatClampNeg) rfl ?_)
  refine lv_aload_n hx hb dL_law_962 rfl (lv_at hl 0 rfl) ?_
  refine lv_iload_n hx hb dL_law_963 rfl (lv_at hl 3 rfl) ?_
  refine lv_iconst (v := 2) hx hb dL_law_964 (by decide) ?_
  refine lv_iadd hx hb dL_law_965 ?_
  refine va_sld hx hb hX hbl hbA hS (lw_ix 2 h6 hL (by decide)) dL_law_966 ?_
  refine lv_topi (nm_r (e' := xs (nI ii + 2).toNatClampNeg) rfl ?_)
  refine lc_i (X := XT) (Rr := M) (va_runV (As := [.int (xs (nI ii + 1).toNatClampNeg), .int (xs (nI ii + 2).toNatClampNeg)]) (rest := []) ⟨hx, hb, hml, hown, hts⟩ (lift_i (fun im X hX => cx_X11_streak l g cI cJ cB cZ cL kA vA x im X H.size hX (xs (nI ii + 1).toNatClampNeg) (xs (nI ii + 2).toNatClampNeg)) hXT) (cwV 2 hts (goodIn_app (g_4 (List.mem_cons_of_mem _ (List.mem_append_left _ (List.mem_of_getElem? (i := 134) rfl))) (List.mem_cons_of_mem _ (List.mem_append_left _ (List.mem_of_getElem? (i := 135) rfl))) (List.mem_cons_of_mem _ (List.mem_append_left _ (List.mem_of_getElem? (i := 136) rfl))) (List.mem_cons_of_mem _ (List.mem_append_left _ (List.mem_of_getElem? (i := 3) rfl))) (by decide +kernel)) (goodIn_sub ml_v_X11_streak good_v_X11_streak)) rfl rfl rfl (by decide +kernel) ⟨Nat.le_of_ble_eq_true rfl, Nat.le_of_ble_eq_true rfl⟩) (lc_pre (ci := 10) (q := (RX11, TX11, 11)) hK hE hS hA hP hD rfl (xt_mem hXT)) rfl rfl hl.1 rfl (lv_room (Nat.le_of_ble_eq_true rfl)) dL_law_967 ⟨(by show (1000 + 2 * ii) + 0 ≤ 600000; omega), (by show (100000 + 25 * ii) + 0 ≤ 7302250; omega)⟩) hS hA hP hD (fun r967 W1 H locs hz967 hP hD hS => ?_)
  obtain ⟨hr967, hW1⟩ := hz967
  refine lv_pop hx hb dL_law_970 rfl ?_
  refine lv_aload_n hx hb dL_law_971 rfl (lv_at hl 2 rfl) ?_
  refine lv_aload_n hx hb dL_law_972 rfl (lv_at hl 0 rfl) ?_
  refine lv_iload_n hx hb dL_law_973 rfl (lv_at hl 3 rfl) ?_
  refine lv_iconst (v := 1) hx hb dL_law_974 (by decide) ?_
  refine lv_iadd hx hb dL_law_975 ?_
  refine va_sld hx hb hX hbl hbA hS (lw_ix 1 h6 hL (by decide)) dL_law_976 ?_
  refine lv_topi (nm_r (e' := xs (nI ii + 1).toNatClampNeg) rfl ?_)
  refine lv_aload_n hx hb dL_law_977 rfl (lv_at hl 0 rfl) ?_
  refine lv_iload_n hx hb dL_law_978 rfl (lv_at hl 3 rfl) ?_
  refine lv_iconst (v := 2) hx hb dL_law_979 (by decide) ?_
  refine lv_iadd hx hb dL_law_980 ?_
  refine va_sld hx hb hX hbl hbA hS (lw_ix 2 h6 hL (by decide)) dL_law_981 ?_
  refine lv_topi (nm_r (e' := xs (nI ii + 2).toNatClampNeg) rfl ?_)
  have hP := pm_Pp List.perm_append_comm hP
  have hD := pm_Dp List.perm_append_comm hD
  refine lc_i (X := M) (Rr := W1) (va_runV (As := [.int (xs (nI ii + 1).toNatClampNeg), .int (xs (nI ii + 2).toNatClampNeg)]) (rest := []) ⟨hx, hb, hml, hown, hts⟩ (cm_X12_streak l g cI cJ cB cZ cL kA vA y M H.size hM (xs (nI ii + 1).toNatClampNeg) (xs (nI ii + 2).toNatClampNeg)) (cwV 2 hts (goodIn_app (g_4 (List.mem_cons_of_mem _ (List.mem_append_left _ (List.mem_of_getElem? (i := 137) rfl))) (List.mem_cons_of_mem _ (List.mem_append_left _ (List.mem_of_getElem? (i := 138) rfl))) (List.mem_cons_of_mem _ (List.mem_append_left _ (List.mem_of_getElem? (i := 139) rfl))) (List.mem_cons_of_mem _ (List.mem_append_left _ (List.mem_of_getElem? (i := 7) rfl))) (by decide +kernel)) (goodIn_sub ml_v_X12_streak good_v_X12_streak)) rfl rfl rfl (by decide +kernel) ⟨Nat.le_of_ble_eq_true rfl, Nat.le_of_ble_eq_true rfl⟩) (lc_pre (ci := 11) (q := (RX12, TX12, 56)) hK hE hS hA hP hD rfl (mt_mem hM)) rfl rfl hl.1 rfl (lv_room (Nat.le_of_ble_eq_true rfl)) dL_law_982 ⟨(by show (1000 + 2 * ii) + 0 + 0 ≤ 600000; omega), (by show (100000 + 25 * ii) + 0 + 0 ≤ 7302250; omega)⟩) hS hA hP hD (fun r982 W2 H locs hz982 hP hD hS => ?_)
  obtain ⟨hr982, hW2⟩ := hz982
  have hP := pm_Pp List.perm_append_comm hP
  have hD := pm_Dp List.perm_append_comm hD
  refine lv_pop hx hb dL_law_985 rfl ?_
  refine lv_goto (tgt := 2459) hx hb dL_law_986 (by decide) ?_
  refine W.widen (k := 1009 + 2 * ii) (n := 100145 + 25 * ii) (by omega) (by omega) ?_
  exact hend _ _ _ W1 W2 _ _ _ _ _ _ hW1 hW2 hJ hP hD hS hl
set_option maxHeartbeats 4000000 in
set_option maxRecDepth 100000 in
theorem lw_c23 {p : Program} {e : Env} {s : State} {m : MethodId} {below : List Frame} {meth : Method} {c : Code} (l : Launch) {sb L : Nat} {xs : Nat → Int32} (hL : L ≤ 3072) (C0 : lw_At p s m meth c sb L xs) {g : va_G} {cI cJ cB cZ cL : ClassId} (hK : va_K g vwCl (tyT cI cJ cB cZ cL) s) {kA vA : Nat → Nat} (hE : ENV kA vA (fun q : Nat => s.heap.size ≤ q) s) {x y : Nat} {ii : Nat} (h6 : ii + 6 ≤ L) (hend : ∀ (H : Heap) (locs : List Loc) (ls : Array Slot) (XT M : va_W) (sw sn ki mw mn kp : Nat → Int32) (hXT : XTSt cI cJ cB cZ cL x sw sn ki XT) (hM : MSt cI cJ cB cZ cL y mw mn kp M) (hJ : JJ sw sn ki mw mn kp) (hP : va_P g vwCl (XT ++ M) H) (hD : va_D (fun q : Nat => s.heap.size ≤ q) (XT ++ M)) (hS : va_S (fun q : Nat => s.heap.size ≤ q) s.heap H locs) (hl : lv_has ls 4 [(0, .ref sb), (1, .ref x), (2, .ref y), (3, .int (nI ii))]), W p l e room_1 s m #[Value.ref sb] below meth c H locs (1009 + 2 * ii) (100145 + 25 * ii) (lw_Z below #[Value.ref sb] s) (F0 m 2459 ls [])) (H : Heap) (locs : List Loc) (ls : Array Slot) (XT M : va_W) (sw sn ki mw mn kp : Nat → Int32) (hXT : XTSt cI cJ cB cZ cL x sw sn ki XT) (hM : MSt cI cJ cB cZ cL y mw mn kp M) (hJ : JJ sw sn ki mw mn kp) (hP : va_P g vwCl (XT ++ M) H) (hD : va_D (fun q : Nat => s.heap.size ≤ q) (XT ++ M)) (hS : va_S (fun q : Nat => s.heap.size ≤ q) s.heap H locs) (hl : lv_has ls 4 [(0, .ref sb), (1, .ref x), (2, .ref y), (3, .int (nI ii))]) : W p l e room_1 s m #[Value.ref sb] below meth c H locs (1000 + 2 * ii) (100000 + 25 * ii) (lw_Z below #[Value.ref sb] s) (F0 m 989 ls []) := by
  obtain ⟨hx, hb, hr, hml, hown, hts0, hX, hbl, hlocks, hgv⟩ := id C0
  have hts : ∀ w ∈ v_L_law, w.before #[Value.ref sb] s = true := fun w h => hts0 w (in_v_L_law w h)
  have hown : s.vm.findClass RL = some m.cls := hown
  have hA : ∀ q : Nat, s.heap.size ≤ q → (fun q : Nat => s.heap.size ≤ q) q := fun _ h => h
  have hbA : ¬ (fun q : Nat => s.heap.size ≤ q) sb := Nat.not_le.mpr hbl
  refine lv_aload_n hx hb dL_law_989 rfl (lv_at hl 1 rfl) ?_
  refine lv_aload_n hx hb dL_law_990 rfl (lv_at hl 0 rfl) ?_
  refine lv_iload_n hx hb dL_law_991 rfl (lv_at hl 3 rfl) ?_
  refine lv_iconst (v := 1) hx hb dL_law_992 (by decide) ?_
  refine lv_iadd hx hb dL_law_993 ?_
  refine va_sld hx hb hX hbl hbA hS (lw_ix 1 h6 hL (by decide)) dL_law_994 ?_
  refine lv_topi (nm_r (e' := xs (nI ii + 1).toNatClampNeg) rfl ?_)
  refine lv_aload_n hx hb dL_law_995 rfl (lv_at hl 0 rfl) ?_
  refine lv_iload_n hx hb dL_law_996 rfl (lv_at hl 3 rfl) ?_
  refine lv_iconst (v := 2) hx hb dL_law_997 (by decide) ?_
  refine lv_iadd hx hb dL_law_998 ?_
  refine va_sld hx hb hX hbl hbA hS (lw_ix 2 h6 hL (by decide)) dL_law_999 ?_
  refine lv_topi (nm_r (e' := xs (nI ii + 2).toNatClampNeg) rfl ?_)
  refine lv_aload_n hx hb dL_law_1000 rfl (lv_at hl 0 rfl) ?_
  refine lv_iload_n hx hb dL_law_1001 rfl (lv_at hl 3 rfl) ?_
  refine lv_iconst (v := 3) hx hb dL_law_1002 (by decide) ?_
  refine lv_iadd hx hb dL_law_1003 ?_
  refine va_sld hx hb hX hbl hbA hS (lw_ix 3 h6 hL (by decide)) dL_law_1004 ?_
  refine lv_topi (nm_r (e' := xs (nI ii + 3).toNatClampNeg) rfl ?_)
  refine lv_aload_n hx hb dL_law_1005 rfl (lv_at hl 0 rfl) ?_
  refine lv_iload_n hx hb dL_law_1006 rfl (lv_at hl 3 rfl) ?_
  refine lv_iconst (v := 4) hx hb dL_law_1007 (by decide) ?_
  refine lv_iadd hx hb dL_law_1008 ?_
  refine va_sld hx hb hX hbl hbA hS (lw_ix 4 h6 hL (by decide)) dL_law_1009 ?_
  refine lv_topi (nm_r (e' := xs (nI ii + 4).toNatClampNeg) rfl ?_)
  refine lc_i (X := XT) (Rr := M) (va_runV (As := [.int (xs (nI ii + 1).toNatClampNeg), .int (xs (nI ii + 2).toNatClampNeg), .int (xs (nI ii + 3).toNatClampNeg), .int (xs (nI ii + 4).toNatClampNeg)]) (rest := []) ⟨hx, hb, hml, hown, hts⟩ (lift_i (fun im X hX => cx_fate l g cI cJ cB cZ cL kA vA x im X H.size hX (xs (nI ii + 1).toNatClampNeg) (xs (nI ii + 2).toNatClampNeg) (xs (nI ii + 3).toNatClampNeg) (xs (nI ii + 4).toNatClampNeg)) hXT) (cwV 4 hts (goodIn_app (g_4 (List.mem_cons_of_mem _ (List.mem_append_left _ (List.mem_of_getElem? (i := 140) rfl))) (List.mem_cons_of_mem _ (List.mem_append_left _ (List.mem_of_getElem? (i := 141) rfl))) (List.mem_cons_of_mem _ (List.mem_append_left _ (List.mem_of_getElem? (i := 142) rfl))) (List.mem_cons_of_mem _ (List.mem_append_left _ (List.mem_of_getElem? (i := 3) rfl))) (by decide +kernel)) (goodIn_sub ml_v_fX11_fate good_v_fX11_fate)) rfl rfl rfl (by decide +kernel) ⟨Nat.le_of_ble_eq_true rfl, Nat.le_of_ble_eq_true rfl⟩) (lc_pre (ci := 10) (q := (RX11, TX11, 11)) hK hE hS hA hP hD rfl (xt_mem hXT)) rfl rfl hl.1 rfl (lv_room (Nat.le_of_ble_eq_true rfl)) dL_law_1010 ⟨(by show (1000 + 2 * ii) + 0 ≤ 600000; omega), (by show (100000 + 25 * ii) + 0 ≤ 7302250; omega)⟩) hS hA hP hD (fun r1010 W1 H locs hz1010 hP hD hS => ?_)
  obtain ⟨hr1010, hW1⟩ := hz1010
  refine lv_pop hx hb dL_law_1013 rfl ?_
  refine lv_aload_n hx hb dL_law_1014 rfl (lv_at hl 2 rfl) ?_
  refine lv_aload_n hx hb dL_law_1015 rfl (lv_at hl 0 rfl) ?_
  refine lv_iload_n hx hb dL_law_1016 rfl (lv_at hl 3 rfl) ?_
  refine lv_iconst (v := 1) hx hb dL_law_1017 (by decide) ?_
  refine lv_iadd hx hb dL_law_1018 ?_
  refine va_sld hx hb hX hbl hbA hS (lw_ix 1 h6 hL (by decide)) dL_law_1019 ?_
  refine lv_topi (nm_r (e' := xs (nI ii + 1).toNatClampNeg) rfl ?_)
  refine lv_aload_n hx hb dL_law_1020 rfl (lv_at hl 0 rfl) ?_
  refine lv_iload_n hx hb dL_law_1021 rfl (lv_at hl 3 rfl) ?_
  refine lv_iconst (v := 2) hx hb dL_law_1022 (by decide) ?_
  refine lv_iadd hx hb dL_law_1023 ?_
  refine va_sld hx hb hX hbl hbA hS (lw_ix 2 h6 hL (by decide)) dL_law_1024 ?_
  refine lv_topi (nm_r (e' := xs (nI ii + 2).toNatClampNeg) rfl ?_)
  refine lv_aload_n hx hb dL_law_1025 rfl (lv_at hl 0 rfl) ?_
  refine lv_iload_n hx hb dL_law_1026 rfl (lv_at hl 3 rfl) ?_
  refine lv_iconst (v := 3) hx hb dL_law_1027 (by decide) ?_
  refine lv_iadd hx hb dL_law_1028 ?_
  refine va_sld hx hb hX hbl hbA hS (lw_ix 3 h6 hL (by decide)) dL_law_1029 ?_
  refine lv_topi (nm_r (e' := xs (nI ii + 3).toNatClampNeg) rfl ?_)
  refine lv_aload_n hx hb dL_law_1030 rfl (lv_at hl 0 rfl) ?_
  refine lv_iload_n hx hb dL_law_1031 rfl (lv_at hl 3 rfl) ?_
  refine lv_iconst (v := 4) hx hb dL_law_1032 (by decide) ?_
  refine lv_iadd hx hb dL_law_1033 ?_
  refine va_sld hx hb hX hbl hbA hS (lw_ix 4 h6 hL (by decide)) dL_law_1034 ?_
  refine lv_topi (nm_r (e' := xs (nI ii + 4).toNatClampNeg) rfl ?_)
  have hP := pm_Pp List.perm_append_comm hP
  have hD := pm_Dp List.perm_append_comm hD
  refine lc_i (X := M) (Rr := W1) (va_runV (As := [.int (xs (nI ii + 1).toNatClampNeg), .int (xs (nI ii + 2).toNatClampNeg), .int (xs (nI ii + 3).toNatClampNeg), .int (xs (nI ii + 4).toNatClampNeg)]) (rest := []) ⟨hx, hb, hml, hown, hts⟩ (cm_fate l g cI cJ cB cZ cL kA vA y M H.size hM (xs (nI ii + 1).toNatClampNeg) (xs (nI ii + 2).toNatClampNeg) (xs (nI ii + 3).toNatClampNeg) (xs (nI ii + 4).toNatClampNeg)) (cwV 4 hts (goodIn_app (g_4 (List.mem_cons_of_mem _ (List.mem_append_left _ (List.mem_of_getElem? (i := 143) rfl))) (List.mem_cons_of_mem _ (List.mem_append_left _ (List.mem_of_getElem? (i := 144) rfl))) (List.mem_cons_of_mem _ (List.mem_append_left _ (List.mem_of_getElem? (i := 145) rfl))) (List.mem_cons_of_mem _ (List.mem_append_left _ (List.mem_of_getElem? (i := 7) rfl))) (by decide +kernel)) (goodIn_sub ml_v_fX12_fate good_v_fX12_fate)) rfl rfl rfl (by decide +kernel) ⟨Nat.le_of_ble_eq_true rfl, Nat.le_of_ble_eq_true rfl⟩) (lc_pre (ci := 11) (q := (RX12, TX12, 56)) hK hE hS hA hP hD rfl (mt_mem hM)) rfl rfl hl.1 rfl (lv_room (Nat.le_of_ble_eq_true rfl)) dL_law_1035 ⟨(by show (1000 + 2 * ii) + 0 + 0 ≤ 600000; omega), (by show (100000 + 25 * ii) + 0 + 0 ≤ 7302250; omega)⟩) hS hA hP hD (fun r1035 W2 H locs hz1035 hP hD hS => ?_)
  obtain ⟨hr1035, hW2⟩ := hz1035
  have hP := pm_Pp List.perm_append_comm hP
  have hD := pm_Dp List.perm_append_comm hD
  refine lv_pop hx hb dL_law_1038 rfl ?_
  refine lv_goto (tgt := 2459) hx hb dL_law_1039 (by decide) ?_
  refine W.widen (k := 1009 + 2 * ii) (n := 100145 + 25 * ii) (by omega) (by omega) ?_
  exact hend _ _ _ W1 W2 _ _ _ _ _ _ hW1 hW2 hJ hP hD hS hl
set_option maxHeartbeats 4000000 in
set_option maxRecDepth 100000 in
theorem lw_c24 {p : Program} {e : Env} {s : State} {m : MethodId} {below : List Frame} {meth : Method} {c : Code} (l : Launch) {sb L : Nat} {xs : Nat → Int32} (hL : L ≤ 3072) (C0 : lw_At p s m meth c sb L xs) {g : va_G} {cI cJ cB cZ cL : ClassId} (hK : va_K g vwCl (tyT cI cJ cB cZ cL) s) {kA vA : Nat → Nat} (hE : ENV kA vA (fun q : Nat => s.heap.size ≤ q) s) {x y : Nat} {ii : Nat} (h6 : ii + 6 ≤ L) (hend : ∀ (H : Heap) (locs : List Loc) (ls : Array Slot) (XT M : va_W) (sw sn ki mw mn kp : Nat → Int32) (hXT : XTSt cI cJ cB cZ cL x sw sn ki XT) (hM : MSt cI cJ cB cZ cL y mw mn kp M) (hJ : JJ sw sn ki mw mn kp) (hP : va_P g vwCl (XT ++ M) H) (hD : va_D (fun q : Nat => s.heap.size ≤ q) (XT ++ M)) (hS : va_S (fun q : Nat => s.heap.size ≤ q) s.heap H locs) (hl : lv_has ls 4 [(0, .ref sb), (1, .ref x), (2, .ref y), (3, .int (nI ii))]), W p l e room_1 s m #[Value.ref sb] below meth c H locs (1009 + 2 * ii) (100145 + 25 * ii) (lw_Z below #[Value.ref sb] s) (F0 m 2459 ls [])) (H : Heap) (locs : List Loc) (ls : Array Slot) (XT M : va_W) (sw sn ki mw mn kp : Nat → Int32) (hXT : XTSt cI cJ cB cZ cL x sw sn ki XT) (hM : MSt cI cJ cB cZ cL y mw mn kp M) (hJ : JJ sw sn ki mw mn kp) (hP : va_P g vwCl (XT ++ M) H) (hD : va_D (fun q : Nat => s.heap.size ≤ q) (XT ++ M)) (hS : va_S (fun q : Nat => s.heap.size ≤ q) s.heap H locs) (hl : lv_has ls 4 [(0, .ref sb), (1, .ref x), (2, .ref y), (3, .int (nI ii))]) : W p l e room_1 s m #[Value.ref sb] below meth c H locs (1000 + 2 * ii) (100000 + 25 * ii) (lw_Z below #[Value.ref sb] s) (F0 m 1042 ls []) := by
  obtain ⟨hx, hb, hr, hml, hown, hts0, hX, hbl, hlocks, hgv⟩ := id C0
  have hts : ∀ w ∈ v_L_law, w.before #[Value.ref sb] s = true := fun w h => hts0 w (in_v_L_law w h)
  have hown : s.vm.findClass RL = some m.cls := hown
  have hA : ∀ q : Nat, s.heap.size ≤ q → (fun q : Nat => s.heap.size ≤ q) q := fun _ h => h
  have hbA : ¬ (fun q : Nat => s.heap.size ≤ q) sb := Nat.not_le.mpr hbl
  refine lv_aload_n hx hb dL_law_1042 rfl (lv_at hl 1 rfl) ?_
  refine lv_aload_n hx hb dL_law_1043 rfl (lv_at hl 0 rfl) ?_
  refine lv_iload_n hx hb dL_law_1044 rfl (lv_at hl 3 rfl) ?_
  refine lv_iconst (v := 1) hx hb dL_law_1045 (by decide) ?_
  refine lv_iadd hx hb dL_law_1046 ?_
  refine va_sld hx hb hX hbl hbA hS (lw_ix 1 h6 hL (by decide)) dL_law_1047 ?_
  refine lv_topi (nm_r (e' := xs (nI ii + 1).toNatClampNeg) rfl ?_)
  refine lv_aload_n hx hb dL_law_1048 rfl (lv_at hl 0 rfl) ?_
  refine lv_iload_n hx hb dL_law_1049 rfl (lv_at hl 3 rfl) ?_
  refine lv_iconst (v := 2) hx hb dL_law_1050 (by decide) ?_
  refine lv_iadd hx hb dL_law_1051 ?_
  refine va_sld hx hb hX hbl hbA hS (lw_ix 2 h6 hL (by decide)) dL_law_1052 ?_
  refine lv_topi (nm_r (e' := xs (nI ii + 2).toNatClampNeg) rfl ?_)
  refine lc_i (X := XT) (Rr := M) (va_runV (As := [.int (xs (nI ii + 1).toNatClampNeg), .int (xs (nI ii + 2).toNatClampNeg)]) (rest := []) ⟨hx, hb, hml, hown, hts⟩ (lift_i (fun im X hX => cx_X11_goes l g cI cJ cB cZ cL kA vA x im X H.size hX (xs (nI ii + 1).toNatClampNeg) (xs (nI ii + 2).toNatClampNeg)) hXT) (cwV 2 hts (goodIn_app (g_4 (List.mem_cons_of_mem _ (List.mem_append_left _ (List.mem_of_getElem? (i := 146) rfl))) (List.mem_cons_of_mem _ (List.mem_append_left _ (List.mem_of_getElem? (i := 147) rfl))) (List.mem_cons_of_mem _ (List.mem_append_left _ (List.mem_of_getElem? (i := 148) rfl))) (List.mem_cons_of_mem _ (List.mem_append_left _ (List.mem_of_getElem? (i := 3) rfl))) (by decide +kernel)) (goodIn_sub ml_v_X11_goes good_v_X11_goes)) rfl rfl rfl (by decide +kernel) ⟨Nat.le_of_ble_eq_true rfl, Nat.le_of_ble_eq_true rfl⟩) (lc_pre (ci := 10) (q := (RX11, TX11, 11)) hK hE hS hA hP hD rfl (xt_mem hXT)) rfl rfl hl.1 rfl (lv_room (Nat.le_of_ble_eq_true rfl)) dL_law_1053 ⟨(by show (1000 + 2 * ii) + 0 ≤ 600000; omega), (by show (100000 + 25 * ii) + 0 ≤ 7302250; omega)⟩) hS hA hP hD (fun r1053 W1 H locs hz1053 hP hD hS => ?_)
  obtain ⟨hr1053, hW1⟩ := hz1053
  refine lv_pop hx hb dL_law_1056 rfl ?_
  refine lv_aload_n hx hb dL_law_1057 rfl (lv_at hl 2 rfl) ?_
  refine lv_aload_n hx hb dL_law_1058 rfl (lv_at hl 0 rfl) ?_
  refine lv_iload_n hx hb dL_law_1059 rfl (lv_at hl 3 rfl) ?_
  refine lv_iconst (v := 1) hx hb dL_law_1060 (by decide) ?_
  refine lv_iadd hx hb dL_law_1061 ?_
  refine va_sld hx hb hX hbl hbA hS (lw_ix 1 h6 hL (by decide)) dL_law_1062 ?_
  refine lv_topi (nm_r (e' := xs (nI ii + 1).toNatClampNeg) rfl ?_)
  refine lv_aload_n hx hb dL_law_1063 rfl (lv_at hl 0 rfl) ?_
  refine lv_iload_n hx hb dL_law_1064 rfl (lv_at hl 3 rfl) ?_
  refine lv_iconst (v := 2) hx hb dL_law_1065 (by decide) ?_
  refine lv_iadd hx hb dL_law_1066 ?_
  refine va_sld hx hb hX hbl hbA hS (lw_ix 2 h6 hL (by decide)) dL_law_1067 ?_
  refine lv_topi (nm_r (e' := xs (nI ii + 2).toNatClampNeg) rfl ?_)
  have hP := pm_Pp List.perm_append_comm hP
  have hD := pm_Dp List.perm_append_comm hD
  refine lc_i (X := M) (Rr := W1) (va_runV (As := [.int (xs (nI ii + 1).toNatClampNeg), .int (xs (nI ii + 2).toNatClampNeg)]) (rest := []) ⟨hx, hb, hml, hown, hts⟩ (cm_X12_goes_ l g cI cJ cB cZ cL kA vA y M H.size hM (xs (nI ii + 1).toNatClampNeg) (xs (nI ii + 2).toNatClampNeg)) (cwV 2 hts (goodIn_app (g_4 (List.mem_cons_of_mem _ (List.mem_append_left _ (List.mem_of_getElem? (i := 149) rfl))) (List.mem_cons_of_mem _ (List.mem_append_left _ (List.mem_of_getElem? (i := 150) rfl))) (List.mem_cons_of_mem _ (List.mem_append_left _ (List.mem_of_getElem? (i := 151) rfl))) (List.mem_cons_of_mem _ (List.mem_append_left _ (List.mem_of_getElem? (i := 7) rfl))) (by decide +kernel)) (goodIn_sub ml_v_X12_goes_ good_v_X12_goes_)) rfl rfl rfl (by decide +kernel) ⟨Nat.le_of_ble_eq_true rfl, Nat.le_of_ble_eq_true rfl⟩) (lc_pre (ci := 11) (q := (RX12, TX12, 56)) hK hE hS hA hP hD rfl (mt_mem hM)) rfl rfl hl.1 rfl (lv_room (Nat.le_of_ble_eq_true rfl)) dL_law_1068 ⟨(by show (1000 + 2 * ii) + 0 + 0 ≤ 600000; omega), (by show (100000 + 25 * ii) + 0 + 0 ≤ 7302250; omega)⟩) hS hA hP hD (fun r1068 W2 H locs hz1068 hP hD hS => ?_)
  obtain ⟨hr1068, hW2⟩ := hz1068
  have hP := pm_Pp List.perm_append_comm hP
  have hD := pm_Dp List.perm_append_comm hD
  refine lv_pop hx hb dL_law_1071 rfl ?_
  refine lv_goto (tgt := 2459) hx hb dL_law_1072 (by decide) ?_
  refine W.widen (k := 1009 + 2 * ii) (n := 100145 + 25 * ii) (by omega) (by omega) ?_
  exact hend _ _ _ W1 W2 _ _ _ _ _ _ hW1 hW2 hJ hP hD hS hl
set_option maxHeartbeats 4000000 in
set_option maxRecDepth 100000 in
theorem lw_c25 {p : Program} {e : Env} {s : State} {m : MethodId} {below : List Frame} {meth : Method} {c : Code} (l : Launch) {sb L : Nat} {xs : Nat → Int32} (hL : L ≤ 3072) (C0 : lw_At p s m meth c sb L xs) {g : va_G} {cI cJ cB cZ cL : ClassId} (hK : va_K g vwCl (tyT cI cJ cB cZ cL) s) {kA vA : Nat → Nat} (hE : ENV kA vA (fun q : Nat => s.heap.size ≤ q) s) {x y : Nat} {ii : Nat} (h6 : ii + 6 ≤ L) (hend : ∀ (H : Heap) (locs : List Loc) (ls : Array Slot) (XT M : va_W) (sw sn ki mw mn kp : Nat → Int32) (hXT : XTSt cI cJ cB cZ cL x sw sn ki XT) (hM : MSt cI cJ cB cZ cL y mw mn kp M) (hJ : JJ sw sn ki mw mn kp) (hP : va_P g vwCl (XT ++ M) H) (hD : va_D (fun q : Nat => s.heap.size ≤ q) (XT ++ M)) (hS : va_S (fun q : Nat => s.heap.size ≤ q) s.heap H locs) (hl : lv_has ls 4 [(0, .ref sb), (1, .ref x), (2, .ref y), (3, .int (nI ii))]), W p l e room_1 s m #[Value.ref sb] below meth c H locs (1009 + 2 * ii) (100145 + 25 * ii) (lw_Z below #[Value.ref sb] s) (F0 m 2459 ls [])) (H : Heap) (locs : List Loc) (ls : Array Slot) (XT M : va_W) (sw sn ki mw mn kp : Nat → Int32) (hXT : XTSt cI cJ cB cZ cL x sw sn ki XT) (hM : MSt cI cJ cB cZ cL y mw mn kp M) (hJ : JJ sw sn ki mw mn kp) (hP : va_P g vwCl (XT ++ M) H) (hD : va_D (fun q : Nat => s.heap.size ≤ q) (XT ++ M)) (hS : va_S (fun q : Nat => s.heap.size ≤ q) s.heap H locs) (hl : lv_has ls 4 [(0, .ref sb), (1, .ref x), (2, .ref y), (3, .int (nI ii))]) : W p l e room_1 s m #[Value.ref sb] below meth c H locs (1000 + 2 * ii) (100000 + 25 * ii) (lw_Z below #[Value.ref sb] s) (F0 m 1075 ls []) := by
  obtain ⟨hx, hb, hr, hml, hown, hts0, hX, hbl, hlocks, hgv⟩ := id C0
  have hts : ∀ w ∈ v_L_law, w.before #[Value.ref sb] s = true := fun w h => hts0 w (in_v_L_law w h)
  have hown : s.vm.findClass RL = some m.cls := hown
  have hA : ∀ q : Nat, s.heap.size ≤ q → (fun q : Nat => s.heap.size ≤ q) q := fun _ h => h
  have hbA : ¬ (fun q : Nat => s.heap.size ≤ q) sb := Nat.not_le.mpr hbl
  refine lv_aload_n hx hb dL_law_1075 rfl (lv_at hl 1 rfl) ?_
  refine lv_aload_n hx hb dL_law_1076 rfl (lv_at hl 0 rfl) ?_
  refine lv_iload_n hx hb dL_law_1077 rfl (lv_at hl 3 rfl) ?_
  refine lv_iconst (v := 1) hx hb dL_law_1078 (by decide) ?_
  refine lv_iadd hx hb dL_law_1079 ?_
  refine va_sld hx hb hX hbl hbA hS (lw_ix 1 h6 hL (by decide)) dL_law_1080 ?_
  refine lv_topi (nm_r (e' := xs (nI ii + 1).toNatClampNeg) rfl ?_)
  refine lv_aload_n hx hb dL_law_1081 rfl (lv_at hl 0 rfl) ?_
  refine lv_iload_n hx hb dL_law_1082 rfl (lv_at hl 3 rfl) ?_
  refine lv_iconst (v := 2) hx hb dL_law_1083 (by decide) ?_
  refine lv_iadd hx hb dL_law_1084 ?_
  refine va_sld hx hb hX hbl hbA hS (lw_ix 2 h6 hL (by decide)) dL_law_1085 ?_
  refine lv_topi (nm_r (e' := xs (nI ii + 2).toNatClampNeg) rfl ?_)
  refine lv_aload_n hx hb dL_law_1086 rfl (lv_at hl 0 rfl) ?_
  refine lv_iload_n hx hb dL_law_1087 rfl (lv_at hl 3 rfl) ?_
  refine lv_iconst (v := 3) hx hb dL_law_1088 (by decide) ?_
  refine lv_iadd hx hb dL_law_1089 ?_
  refine va_sld hx hb hX hbl hbA hS (lw_ix 3 h6 hL (by decide)) dL_law_1090 ?_
  refine lv_topi (nm_r (e' := xs (nI ii + 3).toNatClampNeg) rfl ?_)
  refine lc_i (X := XT) (Rr := M) (va_runV (As := [.int (xs (nI ii + 1).toNatClampNeg), .int (xs (nI ii + 2).toNatClampNeg), .int (xs (nI ii + 3).toNatClampNeg)]) (rest := []) ⟨hx, hb, hml, hown, hts⟩ (lift_i (fun im X hX => cx_basin l g cI cJ cB cZ cL kA vA x im X H.size hX (xs (nI ii + 1).toNatClampNeg) (xs (nI ii + 2).toNatClampNeg) (xs (nI ii + 3).toNatClampNeg)) hXT) (cwV 3 hts (goodIn_app (g_4 (List.mem_cons_of_mem _ (List.mem_append_left _ (List.mem_of_getElem? (i := 152) rfl))) (List.mem_cons_of_mem _ (List.mem_append_left _ (List.mem_of_getElem? (i := 153) rfl))) (List.mem_cons_of_mem _ (List.mem_append_left _ (List.mem_of_getElem? (i := 154) rfl))) (List.mem_cons_of_mem _ (List.mem_append_left _ (List.mem_of_getElem? (i := 3) rfl))) (by decide +kernel)) (goodIn_sub ml_v_fX11_basin good_v_fX11_basin)) rfl rfl rfl (by decide +kernel) ⟨Nat.le_of_ble_eq_true rfl, Nat.le_of_ble_eq_true rfl⟩) (lc_pre (ci := 10) (q := (RX11, TX11, 11)) hK hE hS hA hP hD rfl (xt_mem hXT)) rfl rfl hl.1 rfl (lv_room (Nat.le_of_ble_eq_true rfl)) dL_law_1091 ⟨(by show (1000 + 2 * ii) + 0 ≤ 600000; omega), (by show (100000 + 25 * ii) + 0 ≤ 7302250; omega)⟩) hS hA hP hD (fun r1091 W1 H locs hz1091 hP hD hS => ?_)
  obtain ⟨hr1091, hW1⟩ := hz1091
  refine lv_pop hx hb dL_law_1094 rfl ?_
  refine lv_aload_n hx hb dL_law_1095 rfl (lv_at hl 2 rfl) ?_
  refine lv_aload_n hx hb dL_law_1096 rfl (lv_at hl 0 rfl) ?_
  refine lv_iload_n hx hb dL_law_1097 rfl (lv_at hl 3 rfl) ?_
  refine lv_iconst (v := 1) hx hb dL_law_1098 (by decide) ?_
  refine lv_iadd hx hb dL_law_1099 ?_
  refine va_sld hx hb hX hbl hbA hS (lw_ix 1 h6 hL (by decide)) dL_law_1100 ?_
  refine lv_topi (nm_r (e' := xs (nI ii + 1).toNatClampNeg) rfl ?_)
  refine lv_aload_n hx hb dL_law_1101 rfl (lv_at hl 0 rfl) ?_
  refine lv_iload_n hx hb dL_law_1102 rfl (lv_at hl 3 rfl) ?_
  refine lv_iconst (v := 2) hx hb dL_law_1103 (by decide) ?_
  refine lv_iadd hx hb dL_law_1104 ?_
  refine va_sld hx hb hX hbl hbA hS (lw_ix 2 h6 hL (by decide)) dL_law_1105 ?_
  refine lv_topi (nm_r (e' := xs (nI ii + 2).toNatClampNeg) rfl ?_)
  refine lv_aload_n hx hb dL_law_1106 rfl (lv_at hl 0 rfl) ?_
  refine lv_iload_n hx hb dL_law_1107 rfl (lv_at hl 3 rfl) ?_
  refine lv_iconst (v := 3) hx hb dL_law_1108 (by decide) ?_
  refine lv_iadd hx hb dL_law_1109 ?_
  refine va_sld hx hb hX hbl hbA hS (lw_ix 3 h6 hL (by decide)) dL_law_1110 ?_
  refine lv_topi (nm_r (e' := xs (nI ii + 3).toNatClampNeg) rfl ?_)
  have hP := pm_Pp List.perm_append_comm hP
  have hD := pm_Dp List.perm_append_comm hD
  refine lc_i (X := M) (Rr := W1) (va_runV (As := [.int (xs (nI ii + 1).toNatClampNeg), .int (xs (nI ii + 2).toNatClampNeg), .int (xs (nI ii + 3).toNatClampNeg)]) (rest := []) ⟨hx, hb, hml, hown, hts⟩ (cm_basin l g cI cJ cB cZ cL kA vA y M H.size hM (xs (nI ii + 1).toNatClampNeg) (xs (nI ii + 2).toNatClampNeg) (xs (nI ii + 3).toNatClampNeg)) (cwV 3 hts (goodIn_app (g_4 (List.mem_cons_of_mem _ (List.mem_append_left _ (List.mem_of_getElem? (i := 155) rfl))) (List.mem_cons_of_mem _ (List.mem_append_left _ (List.mem_of_getElem? (i := 156) rfl))) (List.mem_cons_of_mem _ (List.mem_append_left _ (List.mem_of_getElem? (i := 157) rfl))) (List.mem_cons_of_mem _ (List.mem_append_left _ (List.mem_of_getElem? (i := 7) rfl))) (by decide +kernel)) (goodIn_sub ml_v_fX12_basin good_v_fX12_basin)) rfl rfl rfl (by decide +kernel) ⟨Nat.le_of_ble_eq_true rfl, Nat.le_of_ble_eq_true rfl⟩) (lc_pre (ci := 11) (q := (RX12, TX12, 56)) hK hE hS hA hP hD rfl (mt_mem hM)) rfl rfl hl.1 rfl (lv_room (Nat.le_of_ble_eq_true rfl)) dL_law_1111 ⟨(by show (1000 + 2 * ii) + 0 + 0 ≤ 600000; omega), (by show (100000 + 25 * ii) + 0 + 0 ≤ 7302250; omega)⟩) hS hA hP hD (fun r1111 W2 H locs hz1111 hP hD hS => ?_)
  obtain ⟨hr1111, hW2⟩ := hz1111
  have hP := pm_Pp List.perm_append_comm hP
  have hD := pm_Dp List.perm_append_comm hD
  refine lv_pop hx hb dL_law_1114 rfl ?_
  refine lv_goto (tgt := 2459) hx hb dL_law_1115 (by decide) ?_
  refine W.widen (k := 1009 + 2 * ii) (n := 100145 + 25 * ii) (by omega) (by omega) ?_
  exact hend _ _ _ W1 W2 _ _ _ _ _ _ hW1 hW2 hJ hP hD hS hl
set_option maxHeartbeats 4000000 in
set_option maxRecDepth 100000 in
theorem lw_c26 {p : Program} {e : Env} {s : State} {m : MethodId} {below : List Frame} {meth : Method} {c : Code} (l : Launch) {sb L : Nat} {xs : Nat → Int32} (hL : L ≤ 3072) (C0 : lw_At p s m meth c sb L xs) {g : va_G} {cI cJ cB cZ cL : ClassId} (hK : va_K g vwCl (tyT cI cJ cB cZ cL) s) {kA vA : Nat → Nat} (hE : ENV kA vA (fun q : Nat => s.heap.size ≤ q) s) {x y : Nat} {ii : Nat} (h6 : ii + 6 ≤ L) (hend : ∀ (H : Heap) (locs : List Loc) (ls : Array Slot) (XT M : va_W) (sw sn ki mw mn kp : Nat → Int32) (hXT : XTSt cI cJ cB cZ cL x sw sn ki XT) (hM : MSt cI cJ cB cZ cL y mw mn kp M) (hJ : JJ sw sn ki mw mn kp) (hP : va_P g vwCl (XT ++ M) H) (hD : va_D (fun q : Nat => s.heap.size ≤ q) (XT ++ M)) (hS : va_S (fun q : Nat => s.heap.size ≤ q) s.heap H locs) (hl : lv_has ls 4 [(0, .ref sb), (1, .ref x), (2, .ref y), (3, .int (nI ii))]), W p l e room_1 s m #[Value.ref sb] below meth c H locs (1009 + 2 * ii) (100145 + 25 * ii) (lw_Z below #[Value.ref sb] s) (F0 m 2459 ls [])) (H : Heap) (locs : List Loc) (ls : Array Slot) (XT M : va_W) (sw sn ki mw mn kp : Nat → Int32) (hXT : XTSt cI cJ cB cZ cL x sw sn ki XT) (hM : MSt cI cJ cB cZ cL y mw mn kp M) (hJ : JJ sw sn ki mw mn kp) (hP : va_P g vwCl (XT ++ M) H) (hD : va_D (fun q : Nat => s.heap.size ≤ q) (XT ++ M)) (hS : va_S (fun q : Nat => s.heap.size ≤ q) s.heap H locs) (hl : lv_has ls 4 [(0, .ref sb), (1, .ref x), (2, .ref y), (3, .int (nI ii))]) : W p l e room_1 s m #[Value.ref sb] below meth c H locs (1000 + 2 * ii) (100000 + 25 * ii) (lw_Z below #[Value.ref sb] s) (F0 m 1118 ls []) := by
  obtain ⟨hx, hb, hr, hml, hown, hts0, hX, hbl, hlocks, hgv⟩ := id C0
  have hts : ∀ w ∈ v_L_law, w.before #[Value.ref sb] s = true := fun w h => hts0 w (in_v_L_law w h)
  have hown : s.vm.findClass RL = some m.cls := hown
  have hA : ∀ q : Nat, s.heap.size ≤ q → (fun q : Nat => s.heap.size ≤ q) q := fun _ h => h
  have hbA : ¬ (fun q : Nat => s.heap.size ≤ q) sb := Nat.not_le.mpr hbl
  refine lv_aload_n hx hb dL_law_1118 rfl (lv_at hl 1 rfl) ?_
  refine lv_aload_n hx hb dL_law_1119 rfl (lv_at hl 0 rfl) ?_
  refine lv_iload_n hx hb dL_law_1120 rfl (lv_at hl 3 rfl) ?_
  refine lv_iconst (v := 1) hx hb dL_law_1121 (by decide) ?_
  refine lv_iadd hx hb dL_law_1122 ?_
  refine va_sld hx hb hX hbl hbA hS (lw_ix 1 h6 hL (by decide)) dL_law_1123 ?_
  refine lv_topi (nm_r (e' := xs (nI ii + 1).toNatClampNeg) rfl ?_)
  refine lv_aload_n hx hb dL_law_1124 rfl (lv_at hl 0 rfl) ?_
  refine lv_iload_n hx hb dL_law_1125 rfl (lv_at hl 3 rfl) ?_
  refine lv_iconst (v := 2) hx hb dL_law_1126 (by decide) ?_
  refine lv_iadd hx hb dL_law_1127 ?_
  refine va_sld hx hb hX hbl hbA hS (lw_ix 2 h6 hL (by decide)) dL_law_1128 ?_
  refine lv_topi (nm_r (e' := xs (nI ii + 2).toNatClampNeg) rfl ?_)
  refine lc_i (X := XT) (Rr := M) (va_runV (As := [.int (xs (nI ii + 1).toNatClampNeg), .int (xs (nI ii + 2).toNatClampNeg)]) (rest := []) ⟨hx, hb, hml, hown, hts⟩ (lift_i (fun im X hX => cx_longest l g cI cJ cB cZ cL kA vA x im X H.size hX (xs (nI ii + 1).toNatClampNeg) (xs (nI ii + 2).toNatClampNeg)) hXT) (cwV 2 hts (goodIn_app (g_4 (List.mem_cons_of_mem _ (List.mem_append_left _ (List.mem_of_getElem? (i := 158) rfl))) (List.mem_cons_of_mem _ (List.mem_append_left _ (List.mem_of_getElem? (i := 159) rfl))) (List.mem_cons_of_mem _ (List.mem_append_left _ (List.mem_of_getElem? (i := 160) rfl))) (List.mem_cons_of_mem _ (List.mem_append_left _ (List.mem_of_getElem? (i := 3) rfl))) (by decide +kernel)) (goodIn_sub ml_v_fX11_longest good_v_fX11_longest)) rfl rfl rfl (by decide +kernel) ⟨Nat.le_of_ble_eq_true rfl, Nat.le_of_ble_eq_true rfl⟩) (lc_pre (ci := 10) (q := (RX11, TX11, 11)) hK hE hS hA hP hD rfl (xt_mem hXT)) rfl rfl hl.1 rfl (lv_room (Nat.le_of_ble_eq_true rfl)) dL_law_1129 ⟨(by show (1000 + 2 * ii) + 0 ≤ 600000; omega), (by show (100000 + 25 * ii) + 0 ≤ 7302250; omega)⟩) hS hA hP hD (fun r1129 W1 H locs hz1129 hP hD hS => ?_)
  obtain ⟨hr1129, hW1⟩ := hz1129
  refine lv_pop hx hb dL_law_1132 rfl ?_
  refine lv_aload_n hx hb dL_law_1133 rfl (lv_at hl 2 rfl) ?_
  refine lv_aload_n hx hb dL_law_1134 rfl (lv_at hl 0 rfl) ?_
  refine lv_iload_n hx hb dL_law_1135 rfl (lv_at hl 3 rfl) ?_
  refine lv_iconst (v := 1) hx hb dL_law_1136 (by decide) ?_
  refine lv_iadd hx hb dL_law_1137 ?_
  refine va_sld hx hb hX hbl hbA hS (lw_ix 1 h6 hL (by decide)) dL_law_1138 ?_
  refine lv_topi (nm_r (e' := xs (nI ii + 1).toNatClampNeg) rfl ?_)
  refine lv_aload_n hx hb dL_law_1139 rfl (lv_at hl 0 rfl) ?_
  refine lv_iload_n hx hb dL_law_1140 rfl (lv_at hl 3 rfl) ?_
  refine lv_iconst (v := 2) hx hb dL_law_1141 (by decide) ?_
  refine lv_iadd hx hb dL_law_1142 ?_
  refine va_sld hx hb hX hbl hbA hS (lw_ix 2 h6 hL (by decide)) dL_law_1143 ?_
  refine lv_topi (nm_r (e' := xs (nI ii + 2).toNatClampNeg) rfl ?_)
  have hP := pm_Pp List.perm_append_comm hP
  have hD := pm_Dp List.perm_append_comm hD
  refine lc_i (X := M) (Rr := W1) (va_runV (As := [.int (xs (nI ii + 1).toNatClampNeg), .int (xs (nI ii + 2).toNatClampNeg)]) (rest := []) ⟨hx, hb, hml, hown, hts⟩ (cm_longest l g cI cJ cB cZ cL kA vA y M H.size hM (xs (nI ii + 1).toNatClampNeg) (xs (nI ii + 2).toNatClampNeg)) (cwV 2 hts (goodIn_app (g_4 (List.mem_cons_of_mem _ (List.mem_append_left _ (List.mem_of_getElem? (i := 161) rfl))) (List.mem_cons_of_mem _ (List.mem_append_left _ (List.mem_of_getElem? (i := 162) rfl))) (List.mem_cons_of_mem _ (List.mem_append_left _ (List.mem_of_getElem? (i := 163) rfl))) (List.mem_cons_of_mem _ (List.mem_append_left _ (List.mem_of_getElem? (i := 7) rfl))) (by decide +kernel)) (goodIn_sub ml_v_fX12_longest good_v_fX12_longest)) rfl rfl rfl (by decide +kernel) ⟨Nat.le_of_ble_eq_true rfl, Nat.le_of_ble_eq_true rfl⟩) (lc_pre (ci := 11) (q := (RX12, TX12, 56)) hK hE hS hA hP hD rfl (mt_mem hM)) rfl rfl hl.1 rfl (lv_room (Nat.le_of_ble_eq_true rfl)) dL_law_1144 ⟨(by show (1000 + 2 * ii) + 0 + 0 ≤ 600000; omega), (by show (100000 + 25 * ii) + 0 + 0 ≤ 7302250; omega)⟩) hS hA hP hD (fun r1144 W2 H locs hz1144 hP hD hS => ?_)
  obtain ⟨hr1144, hW2⟩ := hz1144
  have hP := pm_Pp List.perm_append_comm hP
  have hD := pm_Dp List.perm_append_comm hD
  refine lv_pop hx hb dL_law_1147 rfl ?_
  refine lv_goto (tgt := 2459) hx hb dL_law_1148 (by decide) ?_
  refine W.widen (k := 1009 + 2 * ii) (n := 100145 + 25 * ii) (by omega) (by omega) ?_
  exact hend _ _ _ W1 W2 _ _ _ _ _ _ hW1 hW2 hJ hP hD hS hl
